/-! the reference's tokens, as a whole (the signs' cases printed by wip/whole/gen_sign.py) -/
theorem hx_sg_c (c : Nat) : (c = 60 ∧ hx_sg c = 30) ∨ (c = 62 ∧ hx_sg c = 31) ∨ (c = 61 ∧ hx_sg c = 32) ∨ (c = 35 ∧ hx_sg c = 33) ∨ (c = 43 ∧ hx_sg c = 34) ∨ (c = 45 ∧ hx_sg c = 35) ∨ (c = 42 ∧ hx_sg c = 36) ∨ (c = 47 ∧ hx_sg c = 37) ∨ (c = 40 ∧ hx_sg c = 38) ∨ (c = 41 ∧ hx_sg c = 39) ∨ (c = 59 ∧ hx_sg c = 40) ∨ (c = 63 ∧ hx_sg c = 41) ∨ (c = 58 ∧ hx_sg c = 42) ∨ (¬ c = 60 ∧ ¬ c = 62 ∧ ¬ c = 61 ∧ ¬ c = 35 ∧ ¬ c = 43 ∧ ¬ c = 45 ∧ ¬ c = 42 ∧ ¬ c = 47 ∧ ¬ c = 40 ∧ ¬ c = 41 ∧ ¬ c = 59 ∧ ¬ c = 63 ∧ ¬ c = 58 ∧ hx_sg c = 22) := by
  by_cases h : c = 60 ∨ c = 62 ∨ c = 61 ∨ c = 35 ∨ c = 43 ∨ c = 45 ∨ c = 42 ∨ c = 47 ∨ c = 40 ∨ c = 41 ∨ c = 59 ∨ c = 63 ∨ c = 58
  · rcases h with rfl | rfl | rfl | rfl | rfl | rfl | rfl | rfl | rfl | rfl | rfl | rfl | rfl <;> simp (config := { decide := true }) [hx_sg]
  · have n : ¬ c = 60 ∧ ¬ c = 62 ∧ ¬ c = 61 ∧ ¬ c = 35 ∧ ¬ c = 43 ∧ ¬ c = 45 ∧ ¬ c = 42 ∧ ¬ c = 47 ∧ ¬ c = 40 ∧ ¬ c = 41 ∧ ¬ c = 59 ∧ ¬ c = 63 ∧ ¬ c = 58 := by omega
    have e : hx_sg c = 22 := by
      unfold hx_sg
      obtain ⟨n60, n62, n61, n35, n43, n45, n42, n47, n40, n41, n59, n63, n58⟩ := n
      rw [if_neg n60, if_neg n62, if_neg n61, if_neg n35, if_neg n43, if_neg n45, if_neg n42, if_neg n47, if_neg n40, if_neg n41, if_neg n59, if_neg n63, if_neg n58]
    simp only [n, e, not_false_eq_true, and_self, or_true]
section HXRLEX2
variable {d N L : Nat} {I I' : Nat → Nat → Int32} {J J' : Nat → Nat → Int64} {t : Nat → Nat}
theorem hx_l171s {c2 : Value} {s : Nat} (T : hx_TQ t L I) (h : I 85 10 = nI s) (hs : s < L) : ∃ I', hl_Run 171 (hl_call (d + 2)) 245 [.ref 85, .int (nI (t s)), c2] [] (hl_g N I J) = some (none, hl_g N I' J) ∧ I' 85 10 = nI (if (hx_sg (t s) = 30 ∨ hx_sg (t s) = 31) ∧ s + 1 < L ∧ t (s + 1) = 61 then s + 2 else s + 1) ∧ I' 85 12 = hx_ch (if (hx_sg (t s) = 30 ∨ hx_sg (t s) = 31) ∧ s + 1 < L ∧ t (s + 1) = 61 then (if hx_sg (t s) = 30 then 43 else 44) else hx_sg (t s)) ∧ hx_f85 I I' ∧ I' 85 11 = I 85 11 := by
  have L3 := T.1
  have t2 := (T.2.2 s (by omega)).2
  have en : nI s + 1 = nI (s + 1) := (nI_succ s).symm
  have en2 : nI (s + 1) + 1 = nI (s + 2) := (nI_succ (s + 1)).symm
  have hsg := hx_sg_c (t s)
  have f10 : ∀ v, hx_f85 I (hl_up (hl_up I 85 10 (nI (s + 1))) 85 12 v) := fun v => hx_f85_tr (hx_f85_up (by omega)) (hx_f85_up (by omega))
  have u10 : ∀ v, hl_up (hl_up I 85 10 (nI (s + 1))) 85 12 v 85 10 = nI (s + 1) := fun v => by rw [hx_vp_j (by omega)]; exact hl_up_at
  have u11 : ∀ v, hl_up (hl_up I 85 10 (nI (s + 1))) 85 12 v 85 11 = I 85 11 := fun v => by rw [hx_vp_j (by omega), hx_vp_j (by omega)]
  have s168 := fun v => hx_s168 (d := d + 1) (N := N) (I := hl_up (hl_up I 85 10 (nI (s + 1))) 85 12 v) (J := J) (k := s + 1) ((f10 v).tq T) (by omega)
  have e61 : (hx_ba t L (s + 1) = 61) = (s + 1 < L ∧ t (s + 1) = 61) := hx_ba_eq (a := 61) (fun z => (T.2.2 (s + 1) (by omega)).2) (by omega)
  generalize t s = c at hsg t2
  rcases hsg with ⟨h1, h2⟩ | ⟨h1, h2⟩ | ⟨h1, h2⟩ | ⟨h1, h2⟩ | ⟨h1, h2⟩ | ⟨h1, h2⟩ | ⟨h1, h2⟩ | ⟨h1, h2⟩ | ⟨h1, h2⟩ | ⟨h1, h2⟩ | ⟨h1, h2⟩ | ⟨h1, h2⟩ | ⟨h1, h2⟩ | ⟨n60, n62, n61, n35, n43, n45, n42, n47, n40, n41, n59, n63, n58, h2⟩
  · subst h1
    rw [h2]
    have ec : nI 60 = 60 := rfl
    rw [ec]
    by_cases z : s + 1 < L ∧ t (s + 1) = 61
    · have zb : hx_ba t L (s + 1) = 61 := by rw [e61]; exact z
      rw [if_pos ⟨by decide, z⟩, if_pos ⟨by decide, z⟩]
      refine ⟨hl_up (hl_up (hl_up (hl_up I 85 10 (nI (s + 1))) 85 12 60) 85 10 (nI (s + 2))) 85 12 4, ?_, by rw [hx_vp_j (by omega)]; exact hl_up_at, hl_up_at, hx_f85_tr (f10 60) (hx_f85_tr (hx_f85_up (by omega)) (hx_f85_up (by omega))), by rw [hx_vp_j (by omega), hx_vp_j (by omega)]; exact u11 60⟩
      simp only [hl_r171_245, hl_r171_246, hl_r171_247, hl_r171_250, hl_r171_251, hl_r171_252, hl_r171_255, hl_r171_256, hl_r171_258, hl_r171_261, hl_r171_262, hl_r171_264, hl_r171_267, hl_r171_268, hl_r171_270, hl_r171_273, hl_r171_274, hl_r171_276, hl_r171_279, hl_r171_280, hl_r171_282, hl_r171_285, hl_r171_286, hl_r171_288, hl_r171_291, hl_r171_292, hl_r171_294, hl_r171_297, hl_r171_298, hl_r171_300, hl_r171_303, hl_r171_304, hl_r171_306, hl_r171_309, hl_r171_310, hl_r171_312, hl_r171_315, hl_r171_316, hl_r171_318, hl_r171_321, hl_r171_322, hl_r171_324, hl_r171_327, hl_r171_328, hl_r171_330, hl_r171_333, hl_r171_334, hl_r171_337, hl_r171_338, hl_r171_339, hl_r171_340, hl_r171_341, hl_r171_344, hl_r171_345, hl_r171_348, hl_r171_349, hl_r171_352, hl_r171_353, hl_r171_355, hl_r171_358, hl_r171_359, hl_r171_361, hl_r171_364, hl_r171_365, hl_r171_366, hl_r171_369, hl_r171_372, hl_r171_374, hl_r171_377, hl_r171_378, hl_r171_379, hl_r171_382, hl_r171_383, hl_r171_384, hl_r171_387, hl_r171_388, hl_r171_389, hl_r171_391, hl_r171_394, hl_r171_395, hl_r171_398, hl_r171_399, hl_r171_402, hl_o_85, hl_p_85_3, hl_p_85_4, hl_p_85_5, hl_p_85_6, hl_p_85_19, hl_p_85_23, hl_p_85_24, hl_p_85_25, hl_p_85_26, hl_p_85_27, hl_p_85_28, hl_p_85_29, hl_p_85_30, hl_p_85_31, hl_p_85_33, hl_p_85_34, hl_p_85_35, hl_p_85_36, hl_p_85_37, h, en, u10, s168, zb, en2, en, hl_kill_i, hl_kill_r, hl_kill_n, hl_kill_l, hl_tl_s, hl_tl_n, hl_cal_some, hl_gI, hl_gJ, hl_gsI, hl_gsJ, hl_tv01, if_true, if_false, hl_up_a, hl_row_a, not_true, not_false_eq_true, hl_10]
    · have zb : ¬ hx_ba t L (s + 1) = 61 := by rw [e61]; exact z
      rw [if_neg (fun w => z w.2), if_neg (fun w => z w.2)]
      refine ⟨hl_up (hl_up I 85 10 (nI (s + 1))) 85 12 60, ?_, u10 60, hl_up_at, f10 60, u11 60⟩
      simp only [hl_r171_245, hl_r171_246, hl_r171_247, hl_r171_250, hl_r171_251, hl_r171_252, hl_r171_255, hl_r171_256, hl_r171_258, hl_r171_261, hl_r171_262, hl_r171_264, hl_r171_267, hl_r171_268, hl_r171_270, hl_r171_273, hl_r171_274, hl_r171_276, hl_r171_279, hl_r171_280, hl_r171_282, hl_r171_285, hl_r171_286, hl_r171_288, hl_r171_291, hl_r171_292, hl_r171_294, hl_r171_297, hl_r171_298, hl_r171_300, hl_r171_303, hl_r171_304, hl_r171_306, hl_r171_309, hl_r171_310, hl_r171_312, hl_r171_315, hl_r171_316, hl_r171_318, hl_r171_321, hl_r171_322, hl_r171_324, hl_r171_327, hl_r171_328, hl_r171_330, hl_r171_333, hl_r171_334, hl_r171_337, hl_r171_338, hl_r171_339, hl_r171_340, hl_r171_341, hl_r171_344, hl_r171_345, hl_r171_348, hl_r171_349, hl_r171_352, hl_r171_353, hl_r171_355, hl_r171_358, hl_r171_359, hl_r171_361, hl_r171_364, hl_r171_365, hl_r171_366, hl_r171_369, hl_r171_372, hl_r171_374, hl_r171_377, hl_r171_378, hl_r171_379, hl_r171_382, hl_r171_383, hl_r171_384, hl_r171_387, hl_r171_388, hl_r171_389, hl_r171_391, hl_r171_394, hl_r171_395, hl_r171_398, hl_r171_399, hl_r171_402, hl_o_85, hl_p_85_3, hl_p_85_4, hl_p_85_5, hl_p_85_6, hl_p_85_19, hl_p_85_23, hl_p_85_24, hl_p_85_25, hl_p_85_26, hl_p_85_27, hl_p_85_28, hl_p_85_29, hl_p_85_30, hl_p_85_31, hl_p_85_33, hl_p_85_34, hl_p_85_35, hl_p_85_36, hl_p_85_37, h, en, u10, s168, zb, en, hl_kill_i, hl_kill_r, hl_kill_n, hl_kill_l, hl_tl_s, hl_tl_n, hl_cal_some, hl_gI, hl_gJ, hl_gsI, hl_gsJ, hl_tv01, if_true, if_false, hl_up_a, hl_row_a, not_true, not_false_eq_true, hl_10]
  · subst h1
    rw [h2]
    have ec : nI 62 = 62 := rfl
    rw [ec]
    by_cases z : s + 1 < L ∧ t (s + 1) = 61
    · have zb : hx_ba t L (s + 1) = 61 := by rw [e61]; exact z
      rw [if_pos ⟨by decide, z⟩, if_pos ⟨by decide, z⟩]
      refine ⟨hl_up (hl_up (hl_up (hl_up I 85 10 (nI (s + 1))) 85 12 62) 85 10 (nI (s + 2))) 85 12 5, ?_, by rw [hx_vp_j (by omega)]; exact hl_up_at, hl_up_at, hx_f85_tr (f10 62) (hx_f85_tr (hx_f85_up (by omega)) (hx_f85_up (by omega))), by rw [hx_vp_j (by omega), hx_vp_j (by omega)]; exact u11 62⟩
      simp only [hl_r171_245, hl_r171_246, hl_r171_247, hl_r171_250, hl_r171_251, hl_r171_252, hl_r171_255, hl_r171_256, hl_r171_258, hl_r171_261, hl_r171_262, hl_r171_264, hl_r171_267, hl_r171_268, hl_r171_270, hl_r171_273, hl_r171_274, hl_r171_276, hl_r171_279, hl_r171_280, hl_r171_282, hl_r171_285, hl_r171_286, hl_r171_288, hl_r171_291, hl_r171_292, hl_r171_294, hl_r171_297, hl_r171_298, hl_r171_300, hl_r171_303, hl_r171_304, hl_r171_306, hl_r171_309, hl_r171_310, hl_r171_312, hl_r171_315, hl_r171_316, hl_r171_318, hl_r171_321, hl_r171_322, hl_r171_324, hl_r171_327, hl_r171_328, hl_r171_330, hl_r171_333, hl_r171_334, hl_r171_337, hl_r171_338, hl_r171_339, hl_r171_340, hl_r171_341, hl_r171_344, hl_r171_345, hl_r171_348, hl_r171_349, hl_r171_352, hl_r171_353, hl_r171_355, hl_r171_358, hl_r171_359, hl_r171_361, hl_r171_364, hl_r171_365, hl_r171_366, hl_r171_369, hl_r171_372, hl_r171_374, hl_r171_377, hl_r171_378, hl_r171_379, hl_r171_382, hl_r171_383, hl_r171_384, hl_r171_387, hl_r171_388, hl_r171_389, hl_r171_391, hl_r171_394, hl_r171_395, hl_r171_398, hl_r171_399, hl_r171_402, hl_o_85, hl_p_85_3, hl_p_85_4, hl_p_85_5, hl_p_85_6, hl_p_85_19, hl_p_85_23, hl_p_85_24, hl_p_85_25, hl_p_85_26, hl_p_85_27, hl_p_85_28, hl_p_85_29, hl_p_85_30, hl_p_85_31, hl_p_85_33, hl_p_85_34, hl_p_85_35, hl_p_85_36, hl_p_85_37, h, en, u10, s168, zb, en2, show ((62 : Int32) = 60) = False by decide, hl_kill_i, hl_kill_r, hl_kill_n, hl_kill_l, hl_tl_s, hl_tl_n, hl_cal_some, hl_gI, hl_gJ, hl_gsI, hl_gsJ, hl_tv01, if_true, if_false, hl_up_a, hl_row_a, not_true, not_false_eq_true, hl_10]
    · have zb : ¬ hx_ba t L (s + 1) = 61 := by rw [e61]; exact z
      rw [if_neg (fun w => z w.2), if_neg (fun w => z w.2)]
      refine ⟨hl_up (hl_up I 85 10 (nI (s + 1))) 85 12 62, ?_, u10 62, hl_up_at, f10 62, u11 62⟩
      simp only [hl_r171_245, hl_r171_246, hl_r171_247, hl_r171_250, hl_r171_251, hl_r171_252, hl_r171_255, hl_r171_256, hl_r171_258, hl_r171_261, hl_r171_262, hl_r171_264, hl_r171_267, hl_r171_268, hl_r171_270, hl_r171_273, hl_r171_274, hl_r171_276, hl_r171_279, hl_r171_280, hl_r171_282, hl_r171_285, hl_r171_286, hl_r171_288, hl_r171_291, hl_r171_292, hl_r171_294, hl_r171_297, hl_r171_298, hl_r171_300, hl_r171_303, hl_r171_304, hl_r171_306, hl_r171_309, hl_r171_310, hl_r171_312, hl_r171_315, hl_r171_316, hl_r171_318, hl_r171_321, hl_r171_322, hl_r171_324, hl_r171_327, hl_r171_328, hl_r171_330, hl_r171_333, hl_r171_334, hl_r171_337, hl_r171_338, hl_r171_339, hl_r171_340, hl_r171_341, hl_r171_344, hl_r171_345, hl_r171_348, hl_r171_349, hl_r171_352, hl_r171_353, hl_r171_355, hl_r171_358, hl_r171_359, hl_r171_361, hl_r171_364, hl_r171_365, hl_r171_366, hl_r171_369, hl_r171_372, hl_r171_374, hl_r171_377, hl_r171_378, hl_r171_379, hl_r171_382, hl_r171_383, hl_r171_384, hl_r171_387, hl_r171_388, hl_r171_389, hl_r171_391, hl_r171_394, hl_r171_395, hl_r171_398, hl_r171_399, hl_r171_402, hl_o_85, hl_p_85_3, hl_p_85_4, hl_p_85_5, hl_p_85_6, hl_p_85_19, hl_p_85_23, hl_p_85_24, hl_p_85_25, hl_p_85_26, hl_p_85_27, hl_p_85_28, hl_p_85_29, hl_p_85_30, hl_p_85_31, hl_p_85_33, hl_p_85_34, hl_p_85_35, hl_p_85_36, hl_p_85_37, h, en, u10, s168, zb, show ((62 : Int32) = 60) = False by decide, hl_kill_i, hl_kill_r, hl_kill_n, hl_kill_l, hl_tl_s, hl_tl_n, hl_cal_some, hl_gI, hl_gJ, hl_gsI, hl_gsJ, hl_tv01, if_true, if_false, hl_up_a, hl_row_a, not_true, not_false_eq_true, hl_10]
  · subst h1
    rw [h2]
    have ec : nI 61 = 61 := rfl
    rw [ec, if_neg (by omega), if_neg (by omega)]
    refine ⟨hl_up (hl_up I 85 10 (nI (s + 1))) 85 12 61, ?_, u10 61, hl_up_at, f10 61, u11 61⟩
    simp only [hl_r171_245, hl_r171_246, hl_r171_247, hl_r171_250, hl_r171_251, hl_r171_252, hl_r171_255, hl_r171_256, hl_r171_258, hl_r171_261, hl_r171_262, hl_r171_264, hl_r171_267, hl_r171_268, hl_r171_270, hl_r171_273, hl_r171_274, hl_r171_276, hl_r171_279, hl_r171_280, hl_r171_282, hl_r171_285, hl_r171_286, hl_r171_288, hl_r171_291, hl_r171_292, hl_r171_294, hl_r171_297, hl_r171_298, hl_r171_300, hl_r171_303, hl_r171_304, hl_r171_306, hl_r171_309, hl_r171_310, hl_r171_312, hl_r171_315, hl_r171_316, hl_r171_318, hl_r171_321, hl_r171_322, hl_r171_324, hl_r171_327, hl_r171_328, hl_r171_330, hl_r171_333, hl_r171_334, hl_r171_337, hl_r171_338, hl_r171_339, hl_r171_340, hl_r171_341, hl_r171_344, hl_r171_345, hl_r171_348, hl_r171_349, hl_r171_352, hl_r171_353, hl_r171_355, hl_r171_358, hl_r171_359, hl_r171_361, hl_r171_364, hl_r171_365, hl_r171_366, hl_r171_369, hl_r171_372, hl_r171_374, hl_r171_377, hl_r171_378, hl_r171_379, hl_r171_382, hl_r171_383, hl_r171_384, hl_r171_387, hl_r171_388, hl_r171_389, hl_r171_391, hl_r171_394, hl_r171_395, hl_r171_398, hl_r171_399, hl_r171_402, hl_o_85, hl_p_85_3, hl_p_85_4, hl_p_85_5, hl_p_85_6, hl_p_85_19, hl_p_85_23, hl_p_85_24, hl_p_85_25, hl_p_85_26, hl_p_85_27, hl_p_85_28, hl_p_85_29, hl_p_85_30, hl_p_85_31, hl_p_85_33, hl_p_85_34, hl_p_85_35, hl_p_85_36, hl_p_85_37, h, en, show ((61 : Int32) = 60) = False by decide, show ((61 : Int32) = 62) = False by decide, hl_kill_i, hl_kill_r, hl_kill_n, hl_kill_l, hl_tl_s, hl_tl_n, hl_cal_some, hl_gI, hl_gJ, hl_gsI, hl_gsJ, hl_tv01, if_true, if_false, hl_up_a, hl_row_a, not_true, not_false_eq_true, hl_10]
  · subst h1
    rw [h2]
    have ec : nI 35 = 35 := rfl
    rw [ec, if_neg (by omega), if_neg (by omega)]
    refine ⟨hl_up (hl_up I 85 10 (nI (s + 1))) 85 12 35, ?_, u10 35, hl_up_at, f10 35, u11 35⟩
    simp only [hl_r171_245, hl_r171_246, hl_r171_247, hl_r171_250, hl_r171_251, hl_r171_252, hl_r171_255, hl_r171_256, hl_r171_258, hl_r171_261, hl_r171_262, hl_r171_264, hl_r171_267, hl_r171_268, hl_r171_270, hl_r171_273, hl_r171_274, hl_r171_276, hl_r171_279, hl_r171_280, hl_r171_282, hl_r171_285, hl_r171_286, hl_r171_288, hl_r171_291, hl_r171_292, hl_r171_294, hl_r171_297, hl_r171_298, hl_r171_300, hl_r171_303, hl_r171_304, hl_r171_306, hl_r171_309, hl_r171_310, hl_r171_312, hl_r171_315, hl_r171_316, hl_r171_318, hl_r171_321, hl_r171_322, hl_r171_324, hl_r171_327, hl_r171_328, hl_r171_330, hl_r171_333, hl_r171_334, hl_r171_337, hl_r171_338, hl_r171_339, hl_r171_340, hl_r171_341, hl_r171_344, hl_r171_345, hl_r171_348, hl_r171_349, hl_r171_352, hl_r171_353, hl_r171_355, hl_r171_358, hl_r171_359, hl_r171_361, hl_r171_364, hl_r171_365, hl_r171_366, hl_r171_369, hl_r171_372, hl_r171_374, hl_r171_377, hl_r171_378, hl_r171_379, hl_r171_382, hl_r171_383, hl_r171_384, hl_r171_387, hl_r171_388, hl_r171_389, hl_r171_391, hl_r171_394, hl_r171_395, hl_r171_398, hl_r171_399, hl_r171_402, hl_o_85, hl_p_85_3, hl_p_85_4, hl_p_85_5, hl_p_85_6, hl_p_85_19, hl_p_85_23, hl_p_85_24, hl_p_85_25, hl_p_85_26, hl_p_85_27, hl_p_85_28, hl_p_85_29, hl_p_85_30, hl_p_85_31, hl_p_85_33, hl_p_85_34, hl_p_85_35, hl_p_85_36, hl_p_85_37, h, en, show ((35 : Int32) = 60) = False by decide, show ((35 : Int32) = 62) = False by decide, show ((35 : Int32) = 61) = False by decide, hl_kill_i, hl_kill_r, hl_kill_n, hl_kill_l, hl_tl_s, hl_tl_n, hl_cal_some, hl_gI, hl_gJ, hl_gsI, hl_gsJ, hl_tv01, if_true, if_false, hl_up_a, hl_row_a, not_true, not_false_eq_true, hl_10]
  · subst h1
    rw [h2]
    have ec : nI 43 = 43 := rfl
    rw [ec, if_neg (by omega), if_neg (by omega)]
    refine ⟨hl_up (hl_up I 85 10 (nI (s + 1))) 85 12 43, ?_, u10 43, hl_up_at, f10 43, u11 43⟩
    simp only [hl_r171_245, hl_r171_246, hl_r171_247, hl_r171_250, hl_r171_251, hl_r171_252, hl_r171_255, hl_r171_256, hl_r171_258, hl_r171_261, hl_r171_262, hl_r171_264, hl_r171_267, hl_r171_268, hl_r171_270, hl_r171_273, hl_r171_274, hl_r171_276, hl_r171_279, hl_r171_280, hl_r171_282, hl_r171_285, hl_r171_286, hl_r171_288, hl_r171_291, hl_r171_292, hl_r171_294, hl_r171_297, hl_r171_298, hl_r171_300, hl_r171_303, hl_r171_304, hl_r171_306, hl_r171_309, hl_r171_310, hl_r171_312, hl_r171_315, hl_r171_316, hl_r171_318, hl_r171_321, hl_r171_322, hl_r171_324, hl_r171_327, hl_r171_328, hl_r171_330, hl_r171_333, hl_r171_334, hl_r171_337, hl_r171_338, hl_r171_339, hl_r171_340, hl_r171_341, hl_r171_344, hl_r171_345, hl_r171_348, hl_r171_349, hl_r171_352, hl_r171_353, hl_r171_355, hl_r171_358, hl_r171_359, hl_r171_361, hl_r171_364, hl_r171_365, hl_r171_366, hl_r171_369, hl_r171_372, hl_r171_374, hl_r171_377, hl_r171_378, hl_r171_379, hl_r171_382, hl_r171_383, hl_r171_384, hl_r171_387, hl_r171_388, hl_r171_389, hl_r171_391, hl_r171_394, hl_r171_395, hl_r171_398, hl_r171_399, hl_r171_402, hl_o_85, hl_p_85_3, hl_p_85_4, hl_p_85_5, hl_p_85_6, hl_p_85_19, hl_p_85_23, hl_p_85_24, hl_p_85_25, hl_p_85_26, hl_p_85_27, hl_p_85_28, hl_p_85_29, hl_p_85_30, hl_p_85_31, hl_p_85_33, hl_p_85_34, hl_p_85_35, hl_p_85_36, hl_p_85_37, h, en, show ((43 : Int32) = 60) = False by decide, show ((43 : Int32) = 62) = False by decide, show ((43 : Int32) = 61) = False by decide, show ((43 : Int32) = 35) = False by decide, hl_kill_i, hl_kill_r, hl_kill_n, hl_kill_l, hl_tl_s, hl_tl_n, hl_cal_some, hl_gI, hl_gJ, hl_gsI, hl_gsJ, hl_tv01, if_true, if_false, hl_up_a, hl_row_a, not_true, not_false_eq_true, hl_10]
  · subst h1
    rw [h2]
    have ec : nI 45 = 45 := rfl
    rw [ec, if_neg (by omega), if_neg (by omega)]
    refine ⟨hl_up (hl_up I 85 10 (nI (s + 1))) 85 12 45, ?_, u10 45, hl_up_at, f10 45, u11 45⟩
    simp only [hl_r171_245, hl_r171_246, hl_r171_247, hl_r171_250, hl_r171_251, hl_r171_252, hl_r171_255, hl_r171_256, hl_r171_258, hl_r171_261, hl_r171_262, hl_r171_264, hl_r171_267, hl_r171_268, hl_r171_270, hl_r171_273, hl_r171_274, hl_r171_276, hl_r171_279, hl_r171_280, hl_r171_282, hl_r171_285, hl_r171_286, hl_r171_288, hl_r171_291, hl_r171_292, hl_r171_294, hl_r171_297, hl_r171_298, hl_r171_300, hl_r171_303, hl_r171_304, hl_r171_306, hl_r171_309, hl_r171_310, hl_r171_312, hl_r171_315, hl_r171_316, hl_r171_318, hl_r171_321, hl_r171_322, hl_r171_324, hl_r171_327, hl_r171_328, hl_r171_330, hl_r171_333, hl_r171_334, hl_r171_337, hl_r171_338, hl_r171_339, hl_r171_340, hl_r171_341, hl_r171_344, hl_r171_345, hl_r171_348, hl_r171_349, hl_r171_352, hl_r171_353, hl_r171_355, hl_r171_358, hl_r171_359, hl_r171_361, hl_r171_364, hl_r171_365, hl_r171_366, hl_r171_369, hl_r171_372, hl_r171_374, hl_r171_377, hl_r171_378, hl_r171_379, hl_r171_382, hl_r171_383, hl_r171_384, hl_r171_387, hl_r171_388, hl_r171_389, hl_r171_391, hl_r171_394, hl_r171_395, hl_r171_398, hl_r171_399, hl_r171_402, hl_o_85, hl_p_85_3, hl_p_85_4, hl_p_85_5, hl_p_85_6, hl_p_85_19, hl_p_85_23, hl_p_85_24, hl_p_85_25, hl_p_85_26, hl_p_85_27, hl_p_85_28, hl_p_85_29, hl_p_85_30, hl_p_85_31, hl_p_85_33, hl_p_85_34, hl_p_85_35, hl_p_85_36, hl_p_85_37, h, en, show ((45 : Int32) = 60) = False by decide, show ((45 : Int32) = 62) = False by decide, show ((45 : Int32) = 61) = False by decide, show ((45 : Int32) = 35) = False by decide, show ((45 : Int32) = 43) = False by decide, hl_kill_i, hl_kill_r, hl_kill_n, hl_kill_l, hl_tl_s, hl_tl_n, hl_cal_some, hl_gI, hl_gJ, hl_gsI, hl_gsJ, hl_tv01, if_true, if_false, hl_up_a, hl_row_a, not_true, not_false_eq_true, hl_10]
  · subst h1
    rw [h2]
    have ec : nI 42 = 42 := rfl
    rw [ec, if_neg (by omega), if_neg (by omega)]
    refine ⟨hl_up (hl_up I 85 10 (nI (s + 1))) 85 12 42, ?_, u10 42, hl_up_at, f10 42, u11 42⟩
    simp only [hl_r171_245, hl_r171_246, hl_r171_247, hl_r171_250, hl_r171_251, hl_r171_252, hl_r171_255, hl_r171_256, hl_r171_258, hl_r171_261, hl_r171_262, hl_r171_264, hl_r171_267, hl_r171_268, hl_r171_270, hl_r171_273, hl_r171_274, hl_r171_276, hl_r171_279, hl_r171_280, hl_r171_282, hl_r171_285, hl_r171_286, hl_r171_288, hl_r171_291, hl_r171_292, hl_r171_294, hl_r171_297, hl_r171_298, hl_r171_300, hl_r171_303, hl_r171_304, hl_r171_306, hl_r171_309, hl_r171_310, hl_r171_312, hl_r171_315, hl_r171_316, hl_r171_318, hl_r171_321, hl_r171_322, hl_r171_324, hl_r171_327, hl_r171_328, hl_r171_330, hl_r171_333, hl_r171_334, hl_r171_337, hl_r171_338, hl_r171_339, hl_r171_340, hl_r171_341, hl_r171_344, hl_r171_345, hl_r171_348, hl_r171_349, hl_r171_352, hl_r171_353, hl_r171_355, hl_r171_358, hl_r171_359, hl_r171_361, hl_r171_364, hl_r171_365, hl_r171_366, hl_r171_369, hl_r171_372, hl_r171_374, hl_r171_377, hl_r171_378, hl_r171_379, hl_r171_382, hl_r171_383, hl_r171_384, hl_r171_387, hl_r171_388, hl_r171_389, hl_r171_391, hl_r171_394, hl_r171_395, hl_r171_398, hl_r171_399, hl_r171_402, hl_o_85, hl_p_85_3, hl_p_85_4, hl_p_85_5, hl_p_85_6, hl_p_85_19, hl_p_85_23, hl_p_85_24, hl_p_85_25, hl_p_85_26, hl_p_85_27, hl_p_85_28, hl_p_85_29, hl_p_85_30, hl_p_85_31, hl_p_85_33, hl_p_85_34, hl_p_85_35, hl_p_85_36, hl_p_85_37, h, en, show ((42 : Int32) = 60) = False by decide, show ((42 : Int32) = 62) = False by decide, show ((42 : Int32) = 61) = False by decide, show ((42 : Int32) = 35) = False by decide, show ((42 : Int32) = 43) = False by decide, show ((42 : Int32) = 45) = False by decide, hl_kill_i, hl_kill_r, hl_kill_n, hl_kill_l, hl_tl_s, hl_tl_n, hl_cal_some, hl_gI, hl_gJ, hl_gsI, hl_gsJ, hl_tv01, if_true, if_false, hl_up_a, hl_row_a, not_true, not_false_eq_true, hl_10]
  · subst h1
    rw [h2]
    have ec : nI 47 = 47 := rfl
    rw [ec, if_neg (by omega), if_neg (by omega)]
    refine ⟨hl_up (hl_up I 85 10 (nI (s + 1))) 85 12 47, ?_, u10 47, hl_up_at, f10 47, u11 47⟩
    simp only [hl_r171_245, hl_r171_246, hl_r171_247, hl_r171_250, hl_r171_251, hl_r171_252, hl_r171_255, hl_r171_256, hl_r171_258, hl_r171_261, hl_r171_262, hl_r171_264, hl_r171_267, hl_r171_268, hl_r171_270, hl_r171_273, hl_r171_274, hl_r171_276, hl_r171_279, hl_r171_280, hl_r171_282, hl_r171_285, hl_r171_286, hl_r171_288, hl_r171_291, hl_r171_292, hl_r171_294, hl_r171_297, hl_r171_298, hl_r171_300, hl_r171_303, hl_r171_304, hl_r171_306, hl_r171_309, hl_r171_310, hl_r171_312, hl_r171_315, hl_r171_316, hl_r171_318, hl_r171_321, hl_r171_322, hl_r171_324, hl_r171_327, hl_r171_328, hl_r171_330, hl_r171_333, hl_r171_334, hl_r171_337, hl_r171_338, hl_r171_339, hl_r171_340, hl_r171_341, hl_r171_344, hl_r171_345, hl_r171_348, hl_r171_349, hl_r171_352, hl_r171_353, hl_r171_355, hl_r171_358, hl_r171_359, hl_r171_361, hl_r171_364, hl_r171_365, hl_r171_366, hl_r171_369, hl_r171_372, hl_r171_374, hl_r171_377, hl_r171_378, hl_r171_379, hl_r171_382, hl_r171_383, hl_r171_384, hl_r171_387, hl_r171_388, hl_r171_389, hl_r171_391, hl_r171_394, hl_r171_395, hl_r171_398, hl_r171_399, hl_r171_402, hl_o_85, hl_p_85_3, hl_p_85_4, hl_p_85_5, hl_p_85_6, hl_p_85_19, hl_p_85_23, hl_p_85_24, hl_p_85_25, hl_p_85_26, hl_p_85_27, hl_p_85_28, hl_p_85_29, hl_p_85_30, hl_p_85_31, hl_p_85_33, hl_p_85_34, hl_p_85_35, hl_p_85_36, hl_p_85_37, h, en, show ((47 : Int32) = 60) = False by decide, show ((47 : Int32) = 62) = False by decide, show ((47 : Int32) = 61) = False by decide, show ((47 : Int32) = 35) = False by decide, show ((47 : Int32) = 43) = False by decide, show ((47 : Int32) = 45) = False by decide, show ((47 : Int32) = 42) = False by decide, hl_kill_i, hl_kill_r, hl_kill_n, hl_kill_l, hl_tl_s, hl_tl_n, hl_cal_some, hl_gI, hl_gJ, hl_gsI, hl_gsJ, hl_tv01, if_true, if_false, hl_up_a, hl_row_a, not_true, not_false_eq_true, hl_10]
  · subst h1
    rw [h2]
    have ec : nI 40 = 40 := rfl
    rw [ec, if_neg (by omega), if_neg (by omega)]
    refine ⟨hl_up (hl_up I 85 10 (nI (s + 1))) 85 12 40, ?_, u10 40, hl_up_at, f10 40, u11 40⟩
    simp only [hl_r171_245, hl_r171_246, hl_r171_247, hl_r171_250, hl_r171_251, hl_r171_252, hl_r171_255, hl_r171_256, hl_r171_258, hl_r171_261, hl_r171_262, hl_r171_264, hl_r171_267, hl_r171_268, hl_r171_270, hl_r171_273, hl_r171_274, hl_r171_276, hl_r171_279, hl_r171_280, hl_r171_282, hl_r171_285, hl_r171_286, hl_r171_288, hl_r171_291, hl_r171_292, hl_r171_294, hl_r171_297, hl_r171_298, hl_r171_300, hl_r171_303, hl_r171_304, hl_r171_306, hl_r171_309, hl_r171_310, hl_r171_312, hl_r171_315, hl_r171_316, hl_r171_318, hl_r171_321, hl_r171_322, hl_r171_324, hl_r171_327, hl_r171_328, hl_r171_330, hl_r171_333, hl_r171_334, hl_r171_337, hl_r171_338, hl_r171_339, hl_r171_340, hl_r171_341, hl_r171_344, hl_r171_345, hl_r171_348, hl_r171_349, hl_r171_352, hl_r171_353, hl_r171_355, hl_r171_358, hl_r171_359, hl_r171_361, hl_r171_364, hl_r171_365, hl_r171_366, hl_r171_369, hl_r171_372, hl_r171_374, hl_r171_377, hl_r171_378, hl_r171_379, hl_r171_382, hl_r171_383, hl_r171_384, hl_r171_387, hl_r171_388, hl_r171_389, hl_r171_391, hl_r171_394, hl_r171_395, hl_r171_398, hl_r171_399, hl_r171_402, hl_o_85, hl_p_85_3, hl_p_85_4, hl_p_85_5, hl_p_85_6, hl_p_85_19, hl_p_85_23, hl_p_85_24, hl_p_85_25, hl_p_85_26, hl_p_85_27, hl_p_85_28, hl_p_85_29, hl_p_85_30, hl_p_85_31, hl_p_85_33, hl_p_85_34, hl_p_85_35, hl_p_85_36, hl_p_85_37, h, en, show ((40 : Int32) = 60) = False by decide, show ((40 : Int32) = 62) = False by decide, show ((40 : Int32) = 61) = False by decide, show ((40 : Int32) = 35) = False by decide, show ((40 : Int32) = 43) = False by decide, show ((40 : Int32) = 45) = False by decide, show ((40 : Int32) = 42) = False by decide, show ((40 : Int32) = 47) = False by decide, hl_kill_i, hl_kill_r, hl_kill_n, hl_kill_l, hl_tl_s, hl_tl_n, hl_cal_some, hl_gI, hl_gJ, hl_gsI, hl_gsJ, hl_tv01, if_true, if_false, hl_up_a, hl_row_a, not_true, not_false_eq_true, hl_10]
  · subst h1
    rw [h2]
    have ec : nI 41 = 41 := rfl
    rw [ec, if_neg (by omega), if_neg (by omega)]
    refine ⟨hl_up (hl_up I 85 10 (nI (s + 1))) 85 12 41, ?_, u10 41, hl_up_at, f10 41, u11 41⟩
    simp only [hl_r171_245, hl_r171_246, hl_r171_247, hl_r171_250, hl_r171_251, hl_r171_252, hl_r171_255, hl_r171_256, hl_r171_258, hl_r171_261, hl_r171_262, hl_r171_264, hl_r171_267, hl_r171_268, hl_r171_270, hl_r171_273, hl_r171_274, hl_r171_276, hl_r171_279, hl_r171_280, hl_r171_282, hl_r171_285, hl_r171_286, hl_r171_288, hl_r171_291, hl_r171_292, hl_r171_294, hl_r171_297, hl_r171_298, hl_r171_300, hl_r171_303, hl_r171_304, hl_r171_306, hl_r171_309, hl_r171_310, hl_r171_312, hl_r171_315, hl_r171_316, hl_r171_318, hl_r171_321, hl_r171_322, hl_r171_324, hl_r171_327, hl_r171_328, hl_r171_330, hl_r171_333, hl_r171_334, hl_r171_337, hl_r171_338, hl_r171_339, hl_r171_340, hl_r171_341, hl_r171_344, hl_r171_345, hl_r171_348, hl_r171_349, hl_r171_352, hl_r171_353, hl_r171_355, hl_r171_358, hl_r171_359, hl_r171_361, hl_r171_364, hl_r171_365, hl_r171_366, hl_r171_369, hl_r171_372, hl_r171_374, hl_r171_377, hl_r171_378, hl_r171_379, hl_r171_382, hl_r171_383, hl_r171_384, hl_r171_387, hl_r171_388, hl_r171_389, hl_r171_391, hl_r171_394, hl_r171_395, hl_r171_398, hl_r171_399, hl_r171_402, hl_o_85, hl_p_85_3, hl_p_85_4, hl_p_85_5, hl_p_85_6, hl_p_85_19, hl_p_85_23, hl_p_85_24, hl_p_85_25, hl_p_85_26, hl_p_85_27, hl_p_85_28, hl_p_85_29, hl_p_85_30, hl_p_85_31, hl_p_85_33, hl_p_85_34, hl_p_85_35, hl_p_85_36, hl_p_85_37, h, en, show ((41 : Int32) = 60) = False by decide, show ((41 : Int32) = 62) = False by decide, show ((41 : Int32) = 61) = False by decide, show ((41 : Int32) = 35) = False by decide, show ((41 : Int32) = 43) = False by decide, show ((41 : Int32) = 45) = False by decide, show ((41 : Int32) = 42) = False by decide, show ((41 : Int32) = 47) = False by decide, show ((41 : Int32) = 40) = False by decide, hl_kill_i, hl_kill_r, hl_kill_n, hl_kill_l, hl_tl_s, hl_tl_n, hl_cal_some, hl_gI, hl_gJ, hl_gsI, hl_gsJ, hl_tv01, if_true, if_false, hl_up_a, hl_row_a, not_true, not_false_eq_true, hl_10]
  · subst h1
    rw [h2]
    have ec : nI 59 = 59 := rfl
    rw [ec, if_neg (by omega), if_neg (by omega)]
    refine ⟨hl_up (hl_up I 85 10 (nI (s + 1))) 85 12 59, ?_, u10 59, hl_up_at, f10 59, u11 59⟩
    simp only [hl_r171_245, hl_r171_246, hl_r171_247, hl_r171_250, hl_r171_251, hl_r171_252, hl_r171_255, hl_r171_256, hl_r171_258, hl_r171_261, hl_r171_262, hl_r171_264, hl_r171_267, hl_r171_268, hl_r171_270, hl_r171_273, hl_r171_274, hl_r171_276, hl_r171_279, hl_r171_280, hl_r171_282, hl_r171_285, hl_r171_286, hl_r171_288, hl_r171_291, hl_r171_292, hl_r171_294, hl_r171_297, hl_r171_298, hl_r171_300, hl_r171_303, hl_r171_304, hl_r171_306, hl_r171_309, hl_r171_310, hl_r171_312, hl_r171_315, hl_r171_316, hl_r171_318, hl_r171_321, hl_r171_322, hl_r171_324, hl_r171_327, hl_r171_328, hl_r171_330, hl_r171_333, hl_r171_334, hl_r171_337, hl_r171_338, hl_r171_339, hl_r171_340, hl_r171_341, hl_r171_344, hl_r171_345, hl_r171_348, hl_r171_349, hl_r171_352, hl_r171_353, hl_r171_355, hl_r171_358, hl_r171_359, hl_r171_361, hl_r171_364, hl_r171_365, hl_r171_366, hl_r171_369, hl_r171_372, hl_r171_374, hl_r171_377, hl_r171_378, hl_r171_379, hl_r171_382, hl_r171_383, hl_r171_384, hl_r171_387, hl_r171_388, hl_r171_389, hl_r171_391, hl_r171_394, hl_r171_395, hl_r171_398, hl_r171_399, hl_r171_402, hl_o_85, hl_p_85_3, hl_p_85_4, hl_p_85_5, hl_p_85_6, hl_p_85_19, hl_p_85_23, hl_p_85_24, hl_p_85_25, hl_p_85_26, hl_p_85_27, hl_p_85_28, hl_p_85_29, hl_p_85_30, hl_p_85_31, hl_p_85_33, hl_p_85_34, hl_p_85_35, hl_p_85_36, hl_p_85_37, h, en, show ((59 : Int32) = 60) = False by decide, show ((59 : Int32) = 62) = False by decide, show ((59 : Int32) = 61) = False by decide, show ((59 : Int32) = 35) = False by decide, show ((59 : Int32) = 43) = False by decide, show ((59 : Int32) = 45) = False by decide, show ((59 : Int32) = 42) = False by decide, show ((59 : Int32) = 47) = False by decide, show ((59 : Int32) = 40) = False by decide, show ((59 : Int32) = 41) = False by decide, hl_kill_i, hl_kill_r, hl_kill_n, hl_kill_l, hl_tl_s, hl_tl_n, hl_cal_some, hl_gI, hl_gJ, hl_gsI, hl_gsJ, hl_tv01, if_true, if_false, hl_up_a, hl_row_a, not_true, not_false_eq_true, hl_10]
  · subst h1
    rw [h2]
    have ec : nI 63 = 63 := rfl
    rw [ec, if_neg (by omega), if_neg (by omega)]
    refine ⟨hl_up (hl_up I 85 10 (nI (s + 1))) 85 12 63, ?_, u10 63, hl_up_at, f10 63, u11 63⟩
    simp only [hl_r171_245, hl_r171_246, hl_r171_247, hl_r171_250, hl_r171_251, hl_r171_252, hl_r171_255, hl_r171_256, hl_r171_258, hl_r171_261, hl_r171_262, hl_r171_264, hl_r171_267, hl_r171_268, hl_r171_270, hl_r171_273, hl_r171_274, hl_r171_276, hl_r171_279, hl_r171_280, hl_r171_282, hl_r171_285, hl_r171_286, hl_r171_288, hl_r171_291, hl_r171_292, hl_r171_294, hl_r171_297, hl_r171_298, hl_r171_300, hl_r171_303, hl_r171_304, hl_r171_306, hl_r171_309, hl_r171_310, hl_r171_312, hl_r171_315, hl_r171_316, hl_r171_318, hl_r171_321, hl_r171_322, hl_r171_324, hl_r171_327, hl_r171_328, hl_r171_330, hl_r171_333, hl_r171_334, hl_r171_337, hl_r171_338, hl_r171_339, hl_r171_340, hl_r171_341, hl_r171_344, hl_r171_345, hl_r171_348, hl_r171_349, hl_r171_352, hl_r171_353, hl_r171_355, hl_r171_358, hl_r171_359, hl_r171_361, hl_r171_364, hl_r171_365, hl_r171_366, hl_r171_369, hl_r171_372, hl_r171_374, hl_r171_377, hl_r171_378, hl_r171_379, hl_r171_382, hl_r171_383, hl_r171_384, hl_r171_387, hl_r171_388, hl_r171_389, hl_r171_391, hl_r171_394, hl_r171_395, hl_r171_398, hl_r171_399, hl_r171_402, hl_o_85, hl_p_85_3, hl_p_85_4, hl_p_85_5, hl_p_85_6, hl_p_85_19, hl_p_85_23, hl_p_85_24, hl_p_85_25, hl_p_85_26, hl_p_85_27, hl_p_85_28, hl_p_85_29, hl_p_85_30, hl_p_85_31, hl_p_85_33, hl_p_85_34, hl_p_85_35, hl_p_85_36, hl_p_85_37, h, en, show ((63 : Int32) = 60) = False by decide, show ((63 : Int32) = 62) = False by decide, show ((63 : Int32) = 61) = False by decide, show ((63 : Int32) = 35) = False by decide, show ((63 : Int32) = 43) = False by decide, show ((63 : Int32) = 45) = False by decide, show ((63 : Int32) = 42) = False by decide, show ((63 : Int32) = 47) = False by decide, show ((63 : Int32) = 40) = False by decide, show ((63 : Int32) = 41) = False by decide, show ((63 : Int32) = 59) = False by decide, hl_kill_i, hl_kill_r, hl_kill_n, hl_kill_l, hl_tl_s, hl_tl_n, hl_cal_some, hl_gI, hl_gJ, hl_gsI, hl_gsJ, hl_tv01, if_true, if_false, hl_up_a, hl_row_a, not_true, not_false_eq_true, hl_10]
  · subst h1
    rw [h2]
    have ec : nI 58 = 58 := rfl
    rw [ec, if_neg (by omega), if_neg (by omega)]
    refine ⟨hl_up (hl_up I 85 10 (nI (s + 1))) 85 12 58, ?_, u10 58, hl_up_at, f10 58, u11 58⟩
    simp only [hl_r171_245, hl_r171_246, hl_r171_247, hl_r171_250, hl_r171_251, hl_r171_252, hl_r171_255, hl_r171_256, hl_r171_258, hl_r171_261, hl_r171_262, hl_r171_264, hl_r171_267, hl_r171_268, hl_r171_270, hl_r171_273, hl_r171_274, hl_r171_276, hl_r171_279, hl_r171_280, hl_r171_282, hl_r171_285, hl_r171_286, hl_r171_288, hl_r171_291, hl_r171_292, hl_r171_294, hl_r171_297, hl_r171_298, hl_r171_300, hl_r171_303, hl_r171_304, hl_r171_306, hl_r171_309, hl_r171_310, hl_r171_312, hl_r171_315, hl_r171_316, hl_r171_318, hl_r171_321, hl_r171_322, hl_r171_324, hl_r171_327, hl_r171_328, hl_r171_330, hl_r171_333, hl_r171_334, hl_r171_337, hl_r171_338, hl_r171_339, hl_r171_340, hl_r171_341, hl_r171_344, hl_r171_345, hl_r171_348, hl_r171_349, hl_r171_352, hl_r171_353, hl_r171_355, hl_r171_358, hl_r171_359, hl_r171_361, hl_r171_364, hl_r171_365, hl_r171_366, hl_r171_369, hl_r171_372, hl_r171_374, hl_r171_377, hl_r171_378, hl_r171_379, hl_r171_382, hl_r171_383, hl_r171_384, hl_r171_387, hl_r171_388, hl_r171_389, hl_r171_391, hl_r171_394, hl_r171_395, hl_r171_398, hl_r171_399, hl_r171_402, hl_o_85, hl_p_85_3, hl_p_85_4, hl_p_85_5, hl_p_85_6, hl_p_85_19, hl_p_85_23, hl_p_85_24, hl_p_85_25, hl_p_85_26, hl_p_85_27, hl_p_85_28, hl_p_85_29, hl_p_85_30, hl_p_85_31, hl_p_85_33, hl_p_85_34, hl_p_85_35, hl_p_85_36, hl_p_85_37, h, en, show ((58 : Int32) = 60) = False by decide, show ((58 : Int32) = 62) = False by decide, show ((58 : Int32) = 61) = False by decide, show ((58 : Int32) = 35) = False by decide, show ((58 : Int32) = 43) = False by decide, show ((58 : Int32) = 45) = False by decide, show ((58 : Int32) = 42) = False by decide, show ((58 : Int32) = 47) = False by decide, show ((58 : Int32) = 40) = False by decide, show ((58 : Int32) = 41) = False by decide, show ((58 : Int32) = 59) = False by decide, show ((58 : Int32) = 63) = False by decide, hl_kill_i, hl_kill_r, hl_kill_n, hl_kill_l, hl_tl_s, hl_tl_n, hl_cal_some, hl_gI, hl_gJ, hl_gsI, hl_gsJ, hl_tv01, if_true, if_false, hl_up_a, hl_row_a, not_true, not_false_eq_true, hl_10]
  · rw [h2, if_neg (by omega), if_neg (by omega)]
    have m60 : (nI c = 60) = False := eq_false (fun x => n60 ((nI_eq (a := c) (b := 60) (by omega) (by omega)).mp x))
    have m62 : (nI c = 62) = False := eq_false (fun x => n62 ((nI_eq (a := c) (b := 62) (by omega) (by omega)).mp x))
    have m61 : (nI c = 61) = False := eq_false (fun x => n61 ((nI_eq (a := c) (b := 61) (by omega) (by omega)).mp x))
    have m35 : (nI c = 35) = False := eq_false (fun x => n35 ((nI_eq (a := c) (b := 35) (by omega) (by omega)).mp x))
    have m43 : (nI c = 43) = False := eq_false (fun x => n43 ((nI_eq (a := c) (b := 43) (by omega) (by omega)).mp x))
    have m45 : (nI c = 45) = False := eq_false (fun x => n45 ((nI_eq (a := c) (b := 45) (by omega) (by omega)).mp x))
    have m42 : (nI c = 42) = False := eq_false (fun x => n42 ((nI_eq (a := c) (b := 42) (by omega) (by omega)).mp x))
    have m47 : (nI c = 47) = False := eq_false (fun x => n47 ((nI_eq (a := c) (b := 47) (by omega) (by omega)).mp x))
    have m40 : (nI c = 40) = False := eq_false (fun x => n40 ((nI_eq (a := c) (b := 40) (by omega) (by omega)).mp x))
    have m41 : (nI c = 41) = False := eq_false (fun x => n41 ((nI_eq (a := c) (b := 41) (by omega) (by omega)).mp x))
    have m59 : (nI c = 59) = False := eq_false (fun x => n59 ((nI_eq (a := c) (b := 59) (by omega) (by omega)).mp x))
    have m63 : (nI c = 63) = False := eq_false (fun x => n63 ((nI_eq (a := c) (b := 63) (by omega) (by omega)).mp x))
    have m58 : (nI c = 58) = False := eq_false (fun x => n58 ((nI_eq (a := c) (b := 58) (by omega) (by omega)).mp x))
    refine ⟨hl_up (hl_up I 85 10 (nI (s + 1))) 85 12 3, ?_, u10 3, hl_up_at, f10 3, u11 3⟩
    simp only [hl_r171_245, hl_r171_246, hl_r171_247, hl_r171_250, hl_r171_251, hl_r171_252, hl_r171_255, hl_r171_256, hl_r171_258, hl_r171_261, hl_r171_262, hl_r171_264, hl_r171_267, hl_r171_268, hl_r171_270, hl_r171_273, hl_r171_274, hl_r171_276, hl_r171_279, hl_r171_280, hl_r171_282, hl_r171_285, hl_r171_286, hl_r171_288, hl_r171_291, hl_r171_292, hl_r171_294, hl_r171_297, hl_r171_298, hl_r171_300, hl_r171_303, hl_r171_304, hl_r171_306, hl_r171_309, hl_r171_310, hl_r171_312, hl_r171_315, hl_r171_316, hl_r171_318, hl_r171_321, hl_r171_322, hl_r171_324, hl_r171_327, hl_r171_328, hl_r171_330, hl_r171_333, hl_r171_334, hl_r171_337, hl_r171_338, hl_r171_339, hl_r171_340, hl_r171_341, hl_r171_344, hl_r171_345, hl_r171_348, hl_r171_349, hl_r171_352, hl_r171_353, hl_r171_355, hl_r171_358, hl_r171_359, hl_r171_361, hl_r171_364, hl_r171_365, hl_r171_366, hl_r171_369, hl_r171_372, hl_r171_374, hl_r171_377, hl_r171_378, hl_r171_379, hl_r171_382, hl_r171_383, hl_r171_384, hl_r171_387, hl_r171_388, hl_r171_389, hl_r171_391, hl_r171_394, hl_r171_395, hl_r171_398, hl_r171_399, hl_r171_402, hl_o_85, hl_p_85_3, hl_p_85_4, hl_p_85_5, hl_p_85_6, hl_p_85_19, hl_p_85_23, hl_p_85_24, hl_p_85_25, hl_p_85_26, hl_p_85_27, hl_p_85_28, hl_p_85_29, hl_p_85_30, hl_p_85_31, hl_p_85_33, hl_p_85_34, hl_p_85_35, hl_p_85_36, hl_p_85_37, h, en, m60, m62, m61, m35, m43, m45, m42, m47, m40, m41, m59, m63, m58, hl_kill_i, hl_kill_r, hl_kill_n, hl_kill_l, hl_tl_s, hl_tl_n, hl_cal_some, hl_gI, hl_gJ, hl_gsI, hl_gsJ, hl_tv01, if_true, if_false, hl_up_a, hl_row_a, not_true, not_false_eq_true, hl_10]
theorem hx_lt_dg {c : Nat} (h : hx_lt c = true) : hx_dg c = false := by
  unfold hx_lt at h
  unfold hx_dg
  rw [Bool.or_eq_true, Bool.and_eq_true, Bool.and_eq_true, decide_eq_true_eq, decide_eq_true_eq, decide_eq_true_eq, decide_eq_true_eq] at h
  rw [decide_eq_false (show ¬ c ≤ 57 by omega), Bool.and_false]
/-- the token that stands, as the reference has it -/
def hx_TT (t : Nat → Nat) (L p : Nat) (I : Nat → Nat → Int32) (J : Nat → Nat → Int64) : Prop := I 85 10 = nI (hx_tk t L p).2.2.2 ∧ I 85 11 = nI (hx_tk t L p).2.2.1 ∧ hx_TR (hx_tk t L p).1 (hx_tk t L p).2.1 (I 85 12) (I 85 13) (J 85 14)
theorem hx_s171 {p : Nat} (T : hx_TQ t L I) (h : I 85 10 = nI p) (hp : p ≤ L) : ∃ I' J', hl_call (d + 3) 171 [.ref 85] (hl_g N I J) = some (none, hl_g N I' J') ∧ hx_TT t L p I' J' ∧ hx_f85 I I' ∧ hx_g85 J J' := by
  have L3 := T.1
  obtain ⟨sa, sb, -, se⟩ := hx_E_in (g := hx_sp) (t := t) (L := L) _ p rfl
  have sb' := sb hp
  obtain ⟨I1, e1, g1, f1⟩ := hx_l171a (d := d) (N := N) (J := J) (c1 := .null) (c2 := .null) _ I p rfl hp T h
  have T1 := f1.tq T
  unfold hx_TT hx_tk
  generalize hx_E hx_sp t L p = s at sa sb' se g1
  have f2 : hx_f85 I (hl_up I1 85 11 (nI s)) := hx_f85_tr f1 (hx_f85_up (by omega))
  have T2 := f2.tq T
  have u10 : hl_up I1 85 11 (nI s) 85 10 = nI s := by rw [hx_vp_j (by omega)]; exact g1
  have u11 : hl_up I1 85 11 (nI s) 85 11 = nI s := hl_up_at
  have s168 := hx_s168 (d := d + 1) (N := N) (I := hl_up I1 85 11 (nI s)) (J := J) (k := s) T2 (by omega)
  have st : hl_call (d + 3) 171 [.ref 85] (hl_g N I J) = hl_Run 171 (hl_call (d + 2)) 56 [.ref 85, .int (hx_ba t L s), .null] [] (hl_g N (hl_up I1 85 11 (nI s)) J) := by
    rw [hl_e171, e1]
    simp only [hl_r171_39, hl_r171_40, hl_r171_41, hl_r171_44, hl_r171_47, hl_r171_48, hl_r171_49, hl_r171_52, hl_r171_55, hl_o_85, hl_p_85_3, hl_p_85_4, hl_p_85_5, hl_p_85_6, hl_p_85_19, hl_p_85_23, hl_p_85_24, hl_p_85_25, hl_p_85_26, hl_p_85_27, hl_p_85_28, hl_p_85_29, hl_p_85_30, hl_p_85_31, hl_p_85_33, hl_p_85_34, hl_p_85_35, hl_p_85_36, hl_p_85_37, g1, u10, s168, hl_kill_i, hl_kill_r, hl_kill_n, hl_kill_l, hl_tl_s, hl_tl_n, hl_cal_some, hl_gI, hl_gJ, hl_gsI, hl_gsJ, hl_tv01, if_true, if_false, hl_up_a, hl_row_a, not_true, not_false_eq_true, hl_10]
  rw [st]
  generalize hl_up I1 85 11 (nI s) = I2 at f2 T2 u10 u11
  by_cases h1 : s < L
  · rw [if_pos h1]
    have t2 := (T2.2.2 s (by omega)).2
    have eb : hx_ba t L s = nI (t s) := if_pos h1
    have c0 : (0 : Int32) ≤ nI (t s) := show nI 0 ≤ nI (t s) from nI_le (by omega) (by omega)
    have s170 := hx_s170 (d := d) (t := t) (L := L) (k := s) (w := hl_g N I2 J) (fun _ => t2)
    have s169 := hx_s169 (d := d) (t := t) (L := L) (k := s) (w := hl_g N I2 J) (fun _ => t2)
    have eg1 : hx_gb hx_dg t L s = hx_dg (t s) := by unfold hx_gb; rw [decide_eq_true h1]; rfl
    have eg2 : hx_gb hx_lt t L s = hx_lt (t s) := by unfold hx_gb; rw [decide_eq_true h1]; rfl
    rw [eb, eg1] at s170
    rw [eb, eg2] at s169
    rw [eb]
    by_cases h2 : hx_lt (t s) = true
    · rw [if_pos h2]
      have h3 := hx_lt_dg h2
      rw [h3] at s170
      rw [h2] at s169
      have f3 : hx_f85 I2 (hl_up I2 85 12 2) := hx_f85_up (by omega)
      obtain ⟨I3, J3, e3, k1, k2, k3, k4, k5, k6⟩ := hx_l171w (d := d) (N := N) (c1 := .int (nI (t s))) (c2 := .null) (s := s) _ (hl_up I2 85 12 2) (hl_up J 85 14 0) s rfl (Nat.le_refl s) (by omega) (f3.tq T2) (by rw [hx_vp_j (by omega)]; exact u10) (by rw [hx_vp_j (by omega)]; exact u11) (by rw [Nat.sub_self, hl_up_a, if_pos rfl, if_pos rfl]; rfl)
      obtain ⟨ea, eb2, ec, -⟩ := hx_E_in (g := hx_lt) (t := t) (L := L) _ s rfl
      have eb3 := eb2 (by omega)
      have ego := hx_E_go (g := hx_lt) (t := t) h1 h2
      obtain ⟨ea', -, -, -⟩ := hx_E_in (g := hx_lt) (t := t) (L := L) _ (s + 1) rfl
      rw [← ego] at ea'
      generalize hx_E hx_lt t L s = e at k1 k2 ea eb3 ec ea'
      have tok : I3 85 12 = 2 := by rw [k6]; exact hl_up_at
      have k11 : I3 85 11 = nI s := by rw [k5, hx_vp_j (by omega)]; exact u11
      have esub : nI e - nI s = nI (e - s) := by
        rw [show e = (e - s) + s by omega, ← nI_add, Int32.add_sub_cancel, show (e - s) + s - s = e - s by omega]
      have stA : hl_Run 171 (hl_call (d + 2)) 56 [.ref 85, .int (nI (t s)), .null] [] (hl_g N I2 J) = hl_Run 171 (hl_call (d + 2)) 223 [.ref 85, .int (nI (t s)), .null] [] (hl_g N I3 J3) := by
        rw [← e3]
        simp only [hl_r171_56, hl_r171_57, hl_r171_60, hl_r171_61, hl_r171_62, hl_r171_65, hl_r171_68, hl_r171_69, hl_r171_72, hl_r171_75, hl_r171_76, hl_r171_77, hl_r171_80, hl_r171_81, hl_r171_82, hl_r171_85, hl_r171_86, hl_r171_87, hl_r171_90, hl_r171_93, hl_r171_96, hl_r171_99, hl_r171_100, hl_r171_103, hl_r171_105, hl_r171_108, hl_r171_109, hl_r171_111, hl_r171_112, hl_r171_115, hl_r171_116, hl_r171_117, hl_r171_118, hl_r171_121, hl_r171_124, hl_r171_125, hl_r171_127, hl_r171_128, hl_r171_131, hl_r171_132, hl_r171_133, hl_r171_136, hl_r171_137, hl_r171_138, hl_r171_141, hl_r171_144, hl_r171_145, hl_r171_148, hl_r171_151, hl_r171_152, hl_r171_153, hl_r171_156, hl_r171_157, hl_r171_158, hl_o_85, hl_p_85_3, hl_p_85_4, hl_p_85_5, hl_p_85_6, hl_p_85_19, hl_p_85_23, hl_p_85_24, hl_p_85_25, hl_p_85_26, hl_p_85_27, hl_p_85_28, hl_p_85_29, hl_p_85_30, hl_p_85_31, hl_p_85_33, hl_p_85_34, hl_p_85_35, hl_p_85_36, hl_p_85_37, c0, s170, s169, hl_tv_t, hl_tv_f, hl_kill_i, hl_kill_r, hl_kill_n, hl_kill_l, hl_tl_s, hl_tl_n, hl_cal_some, hl_gI, hl_gJ, hl_gsI, hl_gsJ, hl_tv01, if_true, if_false, hl_up_a, hl_row_a, not_true, not_false_eq_true, hl_10]
      have letters : ∀ j, s ≤ j → j < s + (e - s) → 1 ≤ t j ∧ t j < 256 := fun j j1 j2 => by
        have := ec j j1 (by omega)
        unfold hx_lt at this
        rw [Bool.or_eq_true, Bool.and_eq_true, Bool.and_eq_true, decide_eq_true_eq, decide_eq_true_eq, decide_eq_true_eq, decide_eq_true_eq] at this
        omega
      -- what the word is
      have word : ∀ wo : Int64, wo = (if e - s ≤ 7 then Int64.ofNat (hx_pkn t s (e - s)) else 0) → hx_TR (hx_wk (hx_by t s (e - s)) hx_W 0) 0 2 (I3 85 13) wo := fun wo hwo => by
        have inj : ∀ x y : Nat, x < 2 ^ 62 → y < 2 ^ 62 → Int64.ofNat x = Int64.ofNat y → x = y := fun x y hx hy q => by
          have := congrArg Int64.toInt q
          rw [Int64.toInt_ofNat_of_lt (by omega), Int64.toInt_ofNat_of_lt (by omega)] at this
          omega
        rcases hx_wk_in (B := hx_by t s (e - s)) hx_W 0 (by decide) with q | q
        · rw [q]
          refine .inr (.inl ⟨rfl, rfl, fun i hi x => ?_⟩)
          obtain ⟨wa, wb, wc, wd⟩ := hx_W_b i hi
          have no := hx_wk_no hx_W 0 q (by decide) i hi
          by_cases y : e - s ≤ 7
          · rw [if_pos y] at hwo
            have lt := hx_pkn_lt (t := t) (s := s) (e - s) y (fun j j1 j2 => (letters j j1 j2).2)
            have lt2 : (256 : Nat) ^ (e - s) ≤ 256 ^ 7 := Nat.pow_le_pow_right (by omega) y
            rw [hwo] at x
            have := inj _ _ (by omega) (by omega) x
            exact no ((hx_pkn_w hi letters).mp this)
          · rw [if_neg y] at hwo
            rw [hwo] at x
            have := inj 0 _ (by omega) (by omega) x
            omega
        · obtain ⟨a1, a2, a3⟩ := hx_wk_at hx_W 0 (hx_wk (hx_by t s (e - s)) hx_W 0) rfl (by omega)
          rw [Nat.sub_zero] at a3
          refine .inl ⟨q.2, rfl, ?_⟩
          generalize hx_wk (hx_by t s (e - s)) hx_W 0 = i at q a3
          obtain ⟨wa, wb, wc, wd⟩ := hx_W_b i q.2
          have ln : e - s = (hx_W.getD i []).length := by rw [← a3, hx_by_len]
          rw [hwo, if_pos (by omega), (hx_pkn_w q.2 letters).mpr a3]
      by_cases y : e - s ≤ 7
      · have c7 : nI (e - s) ≤ 7 := (nI_le y (by omega) : nI (e - s) ≤ nI 7)
        refine ⟨I3, J3, ?_, ⟨k1, k11, ?_⟩, hx_f85_tr f2 (hx_f85_tr f3 k3), fun b hb => by rw [k4 b hb, hl_up_ne _ _ _ hb]⟩
        · rw [stA]
          simp only [hl_r171_223, hl_r171_224, hl_r171_227, hl_r171_228, hl_r171_231, hl_r171_232, hl_r171_234, hl_r171_237, hl_r171_238, hl_r171_239, hl_r171_242, hl_r171_402, hl_o_85, hl_p_85_3, hl_p_85_4, hl_p_85_5, hl_p_85_6, hl_p_85_19, hl_p_85_23, hl_p_85_24, hl_p_85_25, hl_p_85_26, hl_p_85_27, hl_p_85_28, hl_p_85_29, hl_p_85_30, hl_p_85_31, hl_p_85_33, hl_p_85_34, hl_p_85_35, hl_p_85_36, hl_p_85_37, k1, k11, esub, c7, hl_kill_i, hl_kill_r, hl_kill_n, hl_kill_l, hl_tl_s, hl_tl_n, hl_cal_some, hl_gI, hl_gJ, hl_gsI, hl_gsJ, hl_tv01, if_true, if_false, hl_up_a, hl_row_a, not_true, not_false_eq_true, hl_10]
        · rw [tok]
          exact word _ (by rw [k2, Nat.min_eq_left y, if_pos y])
      · have c7 : ¬ nI (e - s) ≤ 7 := (nI_ge (by omega) (by omega) : ¬ nI (e - s) ≤ nI 7)
        refine ⟨I3, hl_up J3 85 14 0, ?_, ⟨k1, k11, ?_⟩, hx_f85_tr f2 (hx_f85_tr f3 k3), fun b hb => by rw [hl_up_ne _ _ _ hb, k4 b hb, hl_up_ne _ _ _ hb]⟩
        · rw [stA]
          simp only [hl_r171_223, hl_r171_224, hl_r171_227, hl_r171_228, hl_r171_231, hl_r171_232, hl_r171_234, hl_r171_237, hl_r171_238, hl_r171_239, hl_r171_242, hl_r171_402, hl_o_85, hl_p_85_3, hl_p_85_4, hl_p_85_5, hl_p_85_6, hl_p_85_19, hl_p_85_23, hl_p_85_24, hl_p_85_25, hl_p_85_26, hl_p_85_27, hl_p_85_28, hl_p_85_29, hl_p_85_30, hl_p_85_31, hl_p_85_33, hl_p_85_34, hl_p_85_35, hl_p_85_36, hl_p_85_37, k1, k11, esub, c7, hl_kill_i, hl_kill_r, hl_kill_n, hl_kill_l, hl_tl_s, hl_tl_n, hl_cal_some, hl_gI, hl_gJ, hl_gsI, hl_gsJ, hl_tv01, if_true, if_false, hl_up_a, hl_row_a, not_true, not_false_eq_true, hl_10]
        · rw [tok]
          exact word _ (by rw [hl_up_a, if_pos rfl, if_pos rfl, if_neg y])
    · rw [if_neg h2]
      rw [Bool.not_eq_true] at h2
      rw [h2] at s169
      by_cases h3 : hx_dg (t s) = true
      · rw [if_pos h3]
        rw [h3] at s170
        have f3 : hx_f85 I2 (hl_up (hl_up I2 85 12 1) 85 13 0) := hx_f85_tr (hx_f85_up (by omega)) (hx_f85_up (by omega))
        obtain ⟨I3, e3, k1, k2, k3, k4, k5⟩ := hx_l171d (d := d) (N := N) (J := J) (c1 := .int (nI (t s))) (c2 := .null) _ (hl_up (hl_up I2 85 12 1) 85 13 0) s 0 rfl (by omega) (by omega) (f3.tq T2) (by rw [hx_vp_j (by omega), hx_vp_j (by omega)]; exact u10) hl_up_at
        obtain ⟨ea, eb2, ec, -⟩ := hx_E_in (g := hx_dg) (t := t) (L := L) _ s rfl
        obtain ⟨vv1, vv2⟩ := hx_vv (t := t) (hx_E hx_dg t L s - s) s 0 0 (.inl ⟨rfl, by omega⟩) (by omega) (fun j j1 j2 => by
          have := ec j j1 (by omega)
          unfold hx_dg at this
          rw [Bool.and_eq_true, decide_eq_true_eq, decide_eq_true_eq] at this
          exact this)
        refine ⟨I3, J, ?_, ⟨k1, by rw [k4, hx_vp_j (by omega), hx_vp_j (by omega)]; exact u11, ?_⟩, hx_f85_tr f2 (hx_f85_tr f3 k3), fun _ _ => rfl⟩
        · rw [← e3]
          simp only [hl_r171_56, hl_r171_57, hl_r171_60, hl_r171_61, hl_r171_62, hl_r171_65, hl_r171_68, hl_r171_69, hl_r171_72, hl_r171_75, hl_r171_76, hl_r171_77, hl_r171_80, hl_r171_81, hl_r171_82, hl_o_85, hl_p_85_3, hl_p_85_4, hl_p_85_5, hl_p_85_6, hl_p_85_19, hl_p_85_23, hl_p_85_24, hl_p_85_25, hl_p_85_26, hl_p_85_27, hl_p_85_28, hl_p_85_29, hl_p_85_30, hl_p_85_31, hl_p_85_33, hl_p_85_34, hl_p_85_35, hl_p_85_36, hl_p_85_37, c0, s170, hl_tv_t, hl_kill_i, hl_kill_r, hl_kill_n, hl_kill_l, hl_tl_s, hl_tl_n, hl_cal_some, hl_gI, hl_gJ, hl_gsI, hl_gsJ, hl_tv01, if_true, if_false, hl_up_a, hl_row_a, not_true, not_false_eq_true, hl_10]
        · rw [k5, hx_vp_j (by omega)]
          exact .inr (.inr (.inl ⟨rfl, hl_up_at, _, k2, vv2, vv1⟩))
      · rw [if_neg h3]
        rw [Bool.not_eq_true] at h3
        rw [h3] at s170
        obtain ⟨I3, e3, k1, k2, k3, k4⟩ := hx_l171s (d := d) (N := N) (J := J) (c2 := .null) T2 u10 h1
        have go : hl_Run 171 (hl_call (d + 2)) 56 [.ref 85, .int (nI (t s)), .null] [] (hl_g N I2 J) = some (none, hl_g N I3 J) := by
          rw [← e3]
          simp only [hl_r171_56, hl_r171_57, hl_r171_60, hl_r171_61, hl_r171_62, hl_r171_65, hl_r171_68, hl_r171_69, hl_r171_72, hl_r171_144, hl_r171_145, hl_r171_148, hl_o_85, hl_p_85_3, hl_p_85_4, hl_p_85_5, hl_p_85_6, hl_p_85_19, hl_p_85_23, hl_p_85_24, hl_p_85_25, hl_p_85_26, hl_p_85_27, hl_p_85_28, hl_p_85_29, hl_p_85_30, hl_p_85_31, hl_p_85_33, hl_p_85_34, hl_p_85_35, hl_p_85_36, hl_p_85_37, c0, s170, s169, hl_tv_f, hl_kill_i, hl_kill_r, hl_kill_n, hl_kill_l, hl_tl_s, hl_tl_n, hl_cal_some, hl_gI, hl_gJ, hl_gsI, hl_gsJ, hl_tv01, if_true, if_false, hl_up_a, hl_row_a, not_true, not_false_eq_true, hl_10]
        have sgi := hx_sg_in (t s)
        by_cases h4 : (hx_sg (t s) = 30 ∨ hx_sg (t s) = 31) ∧ s + 1 < L ∧ t (s + 1) = 61
        · rw [if_pos h4] at k1 k2 ⊢
          refine ⟨I3, J, go, ⟨k1, by rw [k4]; exact u11, .inr (.inr (.inr ⟨?_, k2⟩))⟩, hx_f85_tr f2 k3, fun _ _ => rfl⟩
          show (if hx_sg (t s) = 30 then 43 else 44) = 21 ∨ (if hx_sg (t s) = 30 then 43 else 44) = 22 ∨ (30 ≤ (if hx_sg (t s) = 30 then 43 else 44) ∧ (if hx_sg (t s) = 30 then 43 else 44) ≤ 44)
          split <;> omega
        · rw [if_neg h4] at k1 k2 ⊢
          refine ⟨I3, J, go, ⟨k1, by rw [k4]; exact u11, .inr (.inr (.inr ⟨?_, k2⟩))⟩, hx_f85_tr f2 k3, fun _ _ => rfl⟩
          show hx_sg (t s) = 21 ∨ hx_sg (t s) = 22 ∨ (30 ≤ hx_sg (t s) ∧ hx_sg (t s) ≤ 44)
          omega
  · rw [if_neg h1]
    have eb : hx_ba t L s = -1 := if_neg h1
    have c0 : ¬ (0 : Int32) ≤ -1 := by decide
    rw [eb]
    refine ⟨hl_up I2 85 12 0, J, ?_, ⟨by rw [hx_vp_j (by omega)]; exact u10, by rw [hx_vp_j (by omega)]; exact u11, .inr (.inr (.inr ⟨.inl rfl, hl_up_at⟩))⟩, hx_f85_tr f2 (hx_f85_up (by omega)), fun _ _ => rfl⟩
    simp only [hl_r171_56, hl_r171_57, hl_r171_60, hl_r171_61, hl_r171_62, hl_r171_65, hl_r171_402, hl_o_85, hl_p_85_3, hl_p_85_4, hl_p_85_5, hl_p_85_6, hl_p_85_19, hl_p_85_23, hl_p_85_24, hl_p_85_25, hl_p_85_26, hl_p_85_27, hl_p_85_28, hl_p_85_29, hl_p_85_30, hl_p_85_31, hl_p_85_33, hl_p_85_34, hl_p_85_35, hl_p_85_36, hl_p_85_37, c0, hl_kill_i, hl_kill_r, hl_kill_n, hl_kill_l, hl_tl_s, hl_tl_n, hl_cal_some, hl_gI, hl_gJ, hl_gsI, hl_gsJ, hl_tv01, if_true, if_false, hl_up_a, hl_row_a, not_true, not_false_eq_true, hl_10]
end HXRLEX2
