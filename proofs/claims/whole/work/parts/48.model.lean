/-! what the reference's constructor makes (printed by wip/whole/gen_model.py) -/
section HLM0
variable {d N : Nat} {c : hl_C} {w : hl_W} {P : Nat → Nat → Option Nat} {I : Nat → Nat → Int32}
theorem hl_rI0 {b : Nat} {g : Nat → Int32} (h : hl_I w b = g) : hl_rI w b g = w := by
  unfold hl_rI
  rw [hl_row_id h]
  rfl
theorem hl_l150 {a b : Nat} (hab : a ≠ b) (ha : hl_ar w a 0 = true) (hb : hl_ar w b 0 = true) (sa : (hl_k w a).2 = 490) (sb : (hl_k w b).2 = 490) (f : Nat) : ∀ i, i + f = 490 → hl_Run 150 c 2 [.ref a, .ref b, .int (nI i)] [] (hl_rI w b (fun j => if j < i then hl_I w a j else hl_I w b j)) = some (none, hl_rI w b (fun j => if j < 490 then hl_I w a j else hl_I w b j)) := by
  induction f with
  | zero =>
    intro i hi
    obtain rfl : i = 490 := by omega
    have c1 : (490 : Int32) ≤ nI 490 := Int32.le_refl _
    simp only [hl_r150_2, hl_r150_3, hl_r150_6, c1, if_true, hl_r150_21]
  | succ f ih =>
    intro i hi
    have c1 : ¬ (490 : Int32) ≤ nI i := show ¬ nI 490 ≤ nI i from nI_ge (by omega) (by decide)
    have b1 : hl_inb (nI i) 490 = true := hl_inb_nI (by omega) (by decide)
    have key : hl_sI (hl_rI w b (fun j => if j < i then hl_I w a j else hl_I w b j)) b i (hl_I w a i) = hl_rI w b (fun j => if j < i + 1 then hl_I w a j else hl_I w b j) := by
      unfold hl_sI hl_rI
      refine congrArg (fun z => (hl_n w, hl_k w, hl_P w, z, hl_J w)) ?_
      funext x k
      show hl_up (hl_row (hl_I w) b _) b i (hl_I w a i) x k = hl_row (hl_I w) b _ x k
      simp only [hl_up, hl_row]
      by_cases e : x = b
      · simp only [e, if_true]
        by_cases q : k = i
        · subst q
          rw [if_pos rfl, if_pos (Nat.lt_succ_self _)]
        · rw [if_neg q]
          by_cases z : k < i
          · rw [if_pos z, if_pos (by omega)]
          · rw [if_neg z, if_neg (by omega)]
      · simp only [e, if_false]
    have ka : ∀ g, hl_ar (hl_rI w b g) a 0 = true := fun g => ha
    have kb : ∀ g, hl_ar (hl_rI w b g) b 0 = true := fun g => hb
    have la : ∀ g, (hl_k (hl_rI w b g) a).2 = 490 := fun g => sa
    have lb : ∀ g, (hl_k (hl_rI w b g) b).2 = 490 := fun g => sb
    have rd : ∀ g k, hl_I (hl_rI w b g) a k = hl_I w a k := fun g k => by
      show hl_row (hl_I w) b g a k = _
      rw [hl_row_ne _ _ hab]
    rw [← ih (i + 1) (by omega), ← key, hl_r150_2, hl_r150_3, hl_r150_6, if_neg c1]
    simp only [hl_r150_0, hl_r150_1, hl_r150_3, hl_r150_6, hl_r150_9, hl_r150_10, hl_r150_11, hl_r150_12, hl_r150_13, hl_r150_14, hl_r150_15, hl_r150_18, hl_r150_21, ka, kb, la, lb, b1, rd, nIc (show i < 2 ^ 31 by omega), nI_succ i, hl_kill_i, hl_kill_r]
theorem hl_s150 {a b : Nat} (hab : a ≠ b) (ha : hl_ar w a 0 = true) (hb : hl_ar w b 0 = true) (sa : (hl_k w a).2 = 490) (sb : (hl_k w b).2 = 490) : hl_call (d + 1) 150 [.ref a, .ref b] w = some (none, hl_rI w b (fun j => if j < 490 then hl_I w a j else hl_I w b j)) := by
  have h := hl_l150 (c := hl_call d) hab ha hb sa sb 490 0 rfl
  rw [hl_rI0 (by funext j; rw [if_neg (Nat.not_lt_zero j)])] at h
  rw [hl_e150, hl_r150_0, hl_r150_1]
  exact h
theorem hl_q_rI {n b : Nat} {g : Nat → Int32} : hl_rI (hl_q N n P I) b g = hl_q N n P (hl_row I b g) := id rfl
theorem hl_w149 {x : Int32} {a b : Nat} {l2 l3 : Value} : hl_Run 149 c 174 [.ref a, .int x, l2, l3] [.ref b] w = hl_Run 149 c 195 [.ref a, .int x, l2, l3] [.int (hl_bnd x 2 6), .ref b] w := by
  unfold hl_bnd
  rw [hl_r149_174, hl_r149_175, hl_r149_176]
  by_cases h1 : (2 : Int32) ≤ x
  · rw [if_pos h1, if_neg (Int32.not_lt.mpr h1), hl_r149_183, hl_r149_184, hl_r149_186]
    by_cases h2 : x ≤ 6
    · rw [if_pos h2, if_neg (Int32.not_lt.mpr h2), hl_r149_194]
    · rw [if_neg h2, if_pos (Int32.not_le.mp h2), hl_r149_189, hl_r149_191]
  · rw [if_neg h1, if_pos (Int32.not_le.mp h1), hl_r149_179, hl_r149_180]
theorem hl_h149 {x : Int32} {a b : Nat} {l1 l3 : Value} : hl_Run 149 c 199 [.ref a, l1, .int x, l3] [.ref b] w = hl_Run 149 c 218 [.ref a, l1, .int x, l3] [.int (hl_bnd x 2 4), .ref b] w := by
  unfold hl_bnd
  rw [hl_r149_199, hl_r149_200, hl_r149_201]
  by_cases h1 : (2 : Int32) ≤ x
  · rw [if_pos h1, if_neg (Int32.not_lt.mpr h1), hl_r149_208, hl_r149_209, hl_r149_210]
    by_cases h2 : x ≤ 4
    · rw [if_pos h2, if_neg (Int32.not_lt.mpr h2), hl_r149_217]
    · rw [if_neg h2, if_pos (Int32.not_le.mp h2), hl_r149_213, hl_r149_214]
  · rw [if_neg h1, if_pos (Int32.not_le.mp h1), hl_r149_204, hl_r149_205]
/-- the reference's row as it stands while its cells are filled -/
def hl_A0 (r i : Nat) (j : Nat) : Int32 := if j = 3 ∨ j = 4 ∨ j = 5 then -1 else if 15 ≤ j ∧ j < 15 + r then 360 else if 30 ≤ j ∧ j < 30 + 7 * i ∧ (j - 30) % 7 = 3 then 480 else if 30 ≤ j ∧ j < 30 + 7 * i ∧ (j - 30) % 7 = 5 then -1 else 0
theorem hl_A0r {r : Nat} (hr : r < 12) : hl_up (hl_row I 86 (hl_A0 r 0)) 86 (15 + r) 360 = hl_row I 86 (hl_A0 (r + 1) 0) := by
  funext a k
  simp only [hl_up, hl_row, hl_A0]
  by_cases e : a = 86
  · simp only [e, if_true]
    repeat' split
    all_goals first | rfl | omega
  · simp only [e, if_false]
theorem hl_A0c {i : Nat} (hi : i < 24) : hl_up (hl_up (hl_row I 86 (hl_A0 12 i)) 86 (30 + 7 * i + 3) 480) 86 (30 + 7 * i + 5) (-1) = hl_row I 86 (hl_A0 12 (i + 1)) := by
  funext a k
  simp only [hl_up, hl_row, hl_A0]
  by_cases e : a = 86
  · simp only [e, if_true]
    repeat' split
    all_goals first | rfl | omega
  · simp only [e, if_false]
theorem hl_jR {l1 l2 : Int32} (h3 : P 85 3 = some 86) (f : Nat) : ∀ i, i + f = 12 → hl_Run 149 c 257 [.ref 85, .int l1, .int l2, .int (nI i)] [] (hl_q N 105 P (hl_row I 86 (hl_A0 i 0))) = hl_Run 149 c 281 [.ref 85, .int l1, .int l2, .int (nI 12)] [] (hl_q N 105 P (hl_row I 86 (hl_A0 12 0))) := by
  induction f with
  | zero =>
    intro i hi
    obtain rfl : i = 12 := by omega
    have c1 : (12 : Int32) ≤ nI 12 := Int32.le_refl _
    simp only [hl_r149_257, hl_r149_258, hl_r149_260, c1, if_true]
  | succ f ih =>
    intro i hi
    have c1 : ¬ (12 : Int32) ≤ nI i := show ¬ nI 12 ≤ nI i from nI_ge (by omega) (by decide)
    have e1 : (15 : Int32) + nI i = nI (15 + i) := show nI 15 + nI i = _ from nI_add 15 i
    have b1 : hl_inb (nI (15 + i)) 490 = true := hl_inb_nI (by omega) (by omega)
    rw [← ih (i + 1) (by omega), ← hl_A0r (by omega), hl_r149_257, hl_r149_258, hl_r149_260, if_neg c1]
    simp only [hl_r149_0, hl_r149_4, hl_r149_5, hl_r149_13, hl_r149_14, hl_r149_22, hl_r149_23, hl_r149_31, hl_r149_32, hl_r149_40, hl_r149_41, hl_r149_42, hl_r149_45, hl_r149_46, hl_r149_47, hl_r149_50, hl_r149_51, hl_r149_59, hl_r149_60, hl_r149_67, hl_r149_68, hl_r149_76, hl_r149_77, hl_r149_85, hl_r149_86, hl_r149_93, hl_r149_94, hl_r149_101, hl_r149_102, hl_r149_110, hl_r149_111, hl_r149_118, hl_r149_119, hl_r149_126, hl_r149_127, hl_r149_133, hl_r149_134, hl_r149_141, hl_r149_142, hl_r149_149, hl_r149_150, hl_r149_157, hl_r149_158, hl_r149_165, hl_r149_166, hl_r149_173, hl_r149_174, hl_r149_175, hl_r149_176, hl_r149_179, hl_r149_180, hl_r149_183, hl_r149_184, hl_r149_186, hl_r149_189, hl_r149_191, hl_r149_194, hl_r149_198, hl_r149_199, hl_r149_200, hl_r149_201, hl_r149_204, hl_r149_205, hl_r149_208, hl_r149_209, hl_r149_210, hl_r149_213, hl_r149_214, hl_r149_217, hl_r149_221, hl_r149_222, hl_r149_223, hl_r149_226, hl_r149_227, hl_r149_230, hl_r149_234, hl_r149_235, hl_r149_238, hl_r149_239, hl_r149_240, hl_r149_241, hl_r149_242, hl_r149_245, hl_r149_246, hl_r149_247, hl_r149_248, hl_r149_249, hl_r149_252, hl_r149_253, hl_r149_254, hl_r149_255, hl_r149_256, hl_r149_258, hl_r149_260, hl_r149_263, hl_r149_264, hl_r149_267, hl_r149_269, hl_r149_270, hl_r149_271, hl_r149_274, hl_r149_275, hl_r149_278, hl_r149_281, hl_r149_282, hl_r149_283, hl_r149_284, hl_r149_286, hl_r149_289, hl_r149_290, hl_r149_293, hl_r149_295, hl_r149_297, hl_r149_298, hl_r149_299, hl_r149_300, hl_r149_301, hl_r149_302, hl_r149_305, hl_r149_306, hl_r149_307, hl_r149_310, hl_r149_312, hl_r149_314, hl_r149_315, hl_r149_316, hl_r149_317, hl_r149_318, hl_r149_319, hl_r149_320, hl_r149_321, hl_r149_324, hl_r149_327, hl_r149_328, hl_r149_331, hl_r149_332, hl_r149_335, hl_r149_338, hl_r149_1, hl_r149_8, hl_r149_10, hl_r149_17, hl_r149_19, hl_r149_26, hl_r149_28, hl_r149_35, hl_r149_37, hl_r149_54, hl_r149_56, hl_r149_62, hl_r149_64, hl_r149_71, hl_r149_73, hl_r149_80, hl_r149_82, hl_r149_88, hl_r149_90, hl_r149_96, hl_r149_98, hl_r149_105, hl_r149_107, hl_r149_113, hl_r149_115, hl_r149_121, hl_r149_123, hl_r149_128, hl_r149_130, hl_r149_136, hl_r149_138, hl_r149_144, hl_r149_146, hl_r149_152, hl_r149_154, hl_r149_160, hl_r149_162, hl_r149_168, hl_r149_170, hl_r149_195, hl_r149_218, hl_r149_231, e1, b1, h3, va_rf, nIc (show 15 + i < 2 ^ 31 by omega), nI_succ i, hl_gk_85, hl_gk_86, if_true, if_false, hl_q_n, hl_q_P, hl_q_I, hl_q_new, hl_q_sP, hl_q_sI, hl_q_ob, hl_q_ar, hl_q_k, hl_up_ne, hl_up_a, hl_row_ne, hl_lz2, hl_lv2, hl_lz3, hl_lv3, hl_lz4, hl_lv4, hl_lz6, hl_lv6, hl_lz9, hl_lv9, hl_lz12, hl_lv12, hl_lz40, hl_lv40, hl_lz64, hl_lv64, hl_lz72, hl_lv72, hl_lz74, hl_lv74, hl_lz160, hl_lv160, hl_lz300, hl_lv300, hl_lz330, hl_lv330, hl_lz432, hl_lv432, hl_lz490, hl_lv490, hl_lz800, hl_lv800, hl_lz3200, hl_lv3200, hl_lz5476, hl_lv5476, hl_lz24, hl_lv24, hl_lz96, hl_lv96, hl_N_0, hl_N_1, hl_N_2, hl_N_3, hl_N_4, hl_N_5, hl_N_6, hl_N_7, hl_N_8, hl_N_9, hl_N_10, hl_N_11, hl_N_12, not_false_eq_true, and_self, and_true, true_and, hl_tl_s, hl_tl_n, hl_cal_some, hl_kill_i, hl_kill_r, hl_kill_n, Nat.reduceAdd, Nat.reduceEqDiff, ne_eq, Nat.reduceLT, Nat.reduceLeDiff, Nat.lt_add_one]
theorem hl_jC {l1 l2 : Int32} (h3 : P 85 3 = some 86) (f : Nat) : ∀ i, i + f = 24 → hl_Run 149 c 283 [.ref 85, .int l1, .int l2, .int (nI i)] [] (hl_q N 105 P (hl_row I 86 (hl_A0 12 i))) = hl_Run 149 c 327 [.ref 85, .int l1, .int l2, .int (nI 24)] [] (hl_q N 105 P (hl_row I 86 (hl_A0 12 24))) := by
  induction f with
  | zero =>
    intro i hi
    obtain rfl : i = 24 := by omega
    have c1 : (24 : Int32) ≤ nI 24 := Int32.le_refl _
    simp only [hl_r149_283, hl_r149_284, hl_r149_286, c1, if_true]
  | succ f ih =>
    intro i hi
    have c1 : ¬ (24 : Int32) ≤ nI i := show ¬ nI 24 ≤ nI i from nI_ge (by omega) (by decide)
    have e1 : (30 : Int32) + 7 * nI i = nI (30 + 7 * i) := show nI 30 + nI 7 * nI i = _ from by rw [nI_mul, nI_add]
    have e3 : nI (30 + 7 * i) + 3 = nI (30 + 7 * i + 3) := show nI (30 + 7 * i) + nI 3 = _ from nI_add _ 3
    have e5 : nI (30 + 7 * i) + 5 = nI (30 + 7 * i + 5) := show nI (30 + 7 * i) + nI 5 = _ from nI_add _ 5
    have b3 : hl_inb (nI (30 + 7 * i + 3)) 490 = true := hl_inb_nI (by omega) (by omega)
    have b5 : hl_inb (nI (30 + 7 * i + 5)) 490 = true := hl_inb_nI (by omega) (by omega)
    rw [← ih (i + 1) (by omega), ← hl_A0c (by omega), hl_r149_283, hl_r149_284, hl_r149_286, if_neg c1]
    simp only [hl_r149_0, hl_r149_4, hl_r149_5, hl_r149_13, hl_r149_14, hl_r149_22, hl_r149_23, hl_r149_31, hl_r149_32, hl_r149_40, hl_r149_41, hl_r149_42, hl_r149_45, hl_r149_46, hl_r149_47, hl_r149_50, hl_r149_51, hl_r149_59, hl_r149_60, hl_r149_67, hl_r149_68, hl_r149_76, hl_r149_77, hl_r149_85, hl_r149_86, hl_r149_93, hl_r149_94, hl_r149_101, hl_r149_102, hl_r149_110, hl_r149_111, hl_r149_118, hl_r149_119, hl_r149_126, hl_r149_127, hl_r149_133, hl_r149_134, hl_r149_141, hl_r149_142, hl_r149_149, hl_r149_150, hl_r149_157, hl_r149_158, hl_r149_165, hl_r149_166, hl_r149_173, hl_r149_174, hl_r149_175, hl_r149_176, hl_r149_179, hl_r149_180, hl_r149_183, hl_r149_184, hl_r149_186, hl_r149_189, hl_r149_191, hl_r149_194, hl_r149_198, hl_r149_199, hl_r149_200, hl_r149_201, hl_r149_204, hl_r149_205, hl_r149_208, hl_r149_209, hl_r149_210, hl_r149_213, hl_r149_214, hl_r149_217, hl_r149_221, hl_r149_222, hl_r149_223, hl_r149_226, hl_r149_227, hl_r149_230, hl_r149_234, hl_r149_235, hl_r149_238, hl_r149_239, hl_r149_240, hl_r149_241, hl_r149_242, hl_r149_245, hl_r149_246, hl_r149_247, hl_r149_248, hl_r149_249, hl_r149_252, hl_r149_253, hl_r149_254, hl_r149_255, hl_r149_256, hl_r149_257, hl_r149_258, hl_r149_260, hl_r149_263, hl_r149_264, hl_r149_267, hl_r149_269, hl_r149_270, hl_r149_271, hl_r149_274, hl_r149_275, hl_r149_278, hl_r149_281, hl_r149_282, hl_r149_284, hl_r149_286, hl_r149_289, hl_r149_290, hl_r149_293, hl_r149_295, hl_r149_297, hl_r149_298, hl_r149_299, hl_r149_300, hl_r149_301, hl_r149_302, hl_r149_305, hl_r149_306, hl_r149_307, hl_r149_310, hl_r149_312, hl_r149_314, hl_r149_315, hl_r149_316, hl_r149_317, hl_r149_318, hl_r149_319, hl_r149_320, hl_r149_321, hl_r149_324, hl_r149_327, hl_r149_328, hl_r149_331, hl_r149_332, hl_r149_335, hl_r149_338, hl_r149_1, hl_r149_8, hl_r149_10, hl_r149_17, hl_r149_19, hl_r149_26, hl_r149_28, hl_r149_35, hl_r149_37, hl_r149_54, hl_r149_56, hl_r149_62, hl_r149_64, hl_r149_71, hl_r149_73, hl_r149_80, hl_r149_82, hl_r149_88, hl_r149_90, hl_r149_96, hl_r149_98, hl_r149_105, hl_r149_107, hl_r149_113, hl_r149_115, hl_r149_121, hl_r149_123, hl_r149_128, hl_r149_130, hl_r149_136, hl_r149_138, hl_r149_144, hl_r149_146, hl_r149_152, hl_r149_154, hl_r149_160, hl_r149_162, hl_r149_168, hl_r149_170, hl_r149_195, hl_r149_218, hl_r149_231, e1, e3, e5, b3, b5, h3, va_rf, nIc (show 30 + 7 * i + 3 < 2 ^ 31 by omega), nIc (show 30 + 7 * i + 5 < 2 ^ 31 by omega), nI_succ i, hl_gk_85, hl_gk_86, if_true, if_false, hl_q_n, hl_q_P, hl_q_I, hl_q_new, hl_q_sP, hl_q_sI, hl_q_ob, hl_q_ar, hl_q_k, hl_up_ne, hl_up_a, hl_row_ne, hl_lz2, hl_lv2, hl_lz3, hl_lv3, hl_lz4, hl_lv4, hl_lz6, hl_lv6, hl_lz9, hl_lv9, hl_lz12, hl_lv12, hl_lz40, hl_lv40, hl_lz64, hl_lv64, hl_lz72, hl_lv72, hl_lz74, hl_lv74, hl_lz160, hl_lv160, hl_lz300, hl_lv300, hl_lz330, hl_lv330, hl_lz432, hl_lv432, hl_lz490, hl_lv490, hl_lz800, hl_lv800, hl_lz3200, hl_lv3200, hl_lz5476, hl_lv5476, hl_lz24, hl_lv24, hl_lz96, hl_lv96, hl_N_0, hl_N_1, hl_N_2, hl_N_3, hl_N_4, hl_N_5, hl_N_6, hl_N_7, hl_N_8, hl_N_9, hl_N_10, hl_N_11, hl_N_12, not_false_eq_true, and_self, and_true, true_and, hl_tl_s, hl_tl_n, hl_cal_some, hl_kill_i, hl_kill_r, hl_kill_n, Nat.reduceAdd, Nat.reduceEqDiff, ne_eq, Nat.reduceLT, Nat.reduceLeDiff, Nat.lt_add_one]
set_option maxHeartbeats 4000000 in
set_option maxRecDepth 100000 in
theorem hl_mk149 {W H : Nat} {x y : Int32} (ex : hl_bnd x 2 6 = nI W) (ey : hl_bnd y 2 4 = nI H) (hNe : nI W * nI H = nI N) (hP : ∀ a, 85 ≤ a → P a = fun _ => none) (hI : ∀ a, 85 ≤ a → I a = fun _ => 0) : hl_call (d + 2) 149 [.ref 85, .int x, .int y] (hl_q N 86 P I) = some (none, hl_q N 105 (hl_up (hl_up (hl_up (hl_up (hl_up (hl_up (hl_up (hl_up (hl_up (hl_up (hl_up (hl_up (hl_up (hl_up (hl_up (hl_up (hl_up (hl_up (hl_up P 85 3 (some 86)) 85 4 (some 87)) 85 5 (some 88)) 85 6 (some 89)) 85 19 (some 90)) 85 23 (some 91)) 85 24 (some 92)) 85 25 (some 93)) 85 26 (some 94)) 85 27 (some 95)) 85 28 (some 96)) 85 29 (some 97)) 85 30 (some 98)) 85 31 (some 99)) 85 33 (some 100)) 85 34 (some 101)) 85 35 (some 102)) 85 36 (some 103)) 85 37 (some 104)) (hl_row (hl_row (hl_up (hl_up (hl_up (hl_up (hl_up I 85 8 (-1)) 85 9 (-1)) 85 0 (nI W)) 85 1 (nI H)) 85 2 (nI N)) 86 (hl_A0 12 24)) 87 (fun j => if j < 490 then hl_A0 12 24 j else 0))) := by
  have p85 := hP 85 (by omega)
  have i85 := hI 85 (by omega)
  have p86 := hP 86 (by omega)
  have i86 := hI 86 (by omega)
  have p87 := hP 87 (by omega)
  have i87 := hI 87 (by omega)
  have p88 := hP 88 (by omega)
  have i88 := hI 88 (by omega)
  have p89 := hP 89 (by omega)
  have i89 := hI 89 (by omega)
  have p90 := hP 90 (by omega)
  have i90 := hI 90 (by omega)
  have p91 := hP 91 (by omega)
  have i91 := hI 91 (by omega)
  have p92 := hP 92 (by omega)
  have i92 := hI 92 (by omega)
  have p93 := hP 93 (by omega)
  have i93 := hI 93 (by omega)
  have p94 := hP 94 (by omega)
  have i94 := hI 94 (by omega)
  have p95 := hP 95 (by omega)
  have i95 := hI 95 (by omega)
  have p96 := hP 96 (by omega)
  have i96 := hI 96 (by omega)
  have p97 := hP 97 (by omega)
  have i97 := hI 97 (by omega)
  have p98 := hP 98 (by omega)
  have i98 := hI 98 (by omega)
  have p99 := hP 99 (by omega)
  have i99 := hI 99 (by omega)
  have p100 := hP 100 (by omega)
  have i100 := hI 100 (by omega)
  have p101 := hP 101 (by omega)
  have i101 := hI 101 (by omega)
  have p102 := hP 102 (by omega)
  have i102 := hI 102 (by omega)
  have p103 := hP 103 (by omega)
  have i103 := hI 103 (by omega)
  have p104 := hP 104 (by omega)
  have i104 := hI 104 (by omega)
  generalize hI1 : (hl_up (hl_up (hl_up (hl_up (hl_up I 85 8 (-1)) 85 9 (-1)) 85 0 (nI W)) 85 1 (nI H)) 85 2 (nI N)) = I1
  have i86b : I1 86 = fun _ => 0 := by rw [← hI1]; simp only [hl_up_ne _ _ _ (show (86 : Nat) ≠ 85 by decide), i86]
  have i87b : I1 87 = fun _ => 0 := by rw [← hI1]; simp only [hl_up_ne _ _ _ (show (87 : Nat) ≠ 85 by decide), i87]
  have h3 : (hl_up (hl_up (hl_up (hl_up (hl_up (hl_up (hl_up (hl_up (hl_up (hl_up (hl_up (hl_up (hl_up (hl_up (hl_up (hl_up (hl_up (hl_up (hl_up P 85 3 (some 86)) 85 4 (some 87)) 85 5 (some 88)) 85 6 (some 89)) 85 19 (some 90)) 85 23 (some 91)) 85 24 (some 92)) 85 25 (some 93)) 85 26 (some 94)) 85 27 (some 95)) 85 28 (some 96)) 85 29 (some 97)) 85 30 (some 98)) 85 31 (some 99)) 85 33 (some 100)) 85 34 (some 101)) 85 35 (some 102)) 85 36 (some 103)) 85 37 (some 104)) 85 3 = some 86 := by simp only [hl_up_a, Nat.reduceEqDiff, if_true, if_false]
  have h4 : (hl_up (hl_up (hl_up (hl_up (hl_up (hl_up (hl_up (hl_up (hl_up (hl_up (hl_up (hl_up (hl_up (hl_up (hl_up (hl_up (hl_up (hl_up (hl_up P 85 3 (some 86)) 85 4 (some 87)) 85 5 (some 88)) 85 6 (some 89)) 85 19 (some 90)) 85 23 (some 91)) 85 24 (some 92)) 85 25 (some 93)) 85 26 (some 94)) 85 27 (some 95)) 85 28 (some 96)) 85 29 (some 97)) 85 30 (some 98)) 85 31 (some 99)) 85 33 (some 100)) 85 34 (some 101)) 85 35 (some 102)) 85 36 (some 103)) 85 37 (some 104)) 85 4 = some 87 := by simp only [hl_up_a, Nat.reduceEqDiff, if_true, if_false]
  have s3 : hl_up (hl_up (hl_up I1 86 3 (-1)) 86 4 (-1)) 86 5 (-1) = hl_row I1 86 (hl_A0 0 0) := by
    funext a k
    simp only [hl_up, hl_row, hl_A0]
    by_cases e : a = 86
    · simp only [e, if_true, i86b]
      repeat' split
      all_goals first | rfl | omega
    · simp only [e, if_false]
  have stage : hl_Run 149 (hl_call (d + 1)) 0 [.ref 85, .int x, .int y, .null] [] (hl_q N 86 P I) = hl_Run 149 (hl_call (d + 1)) 257 [.ref 85, .int x, .int y, .int 0] [] (hl_q N 105 (hl_up (hl_up (hl_up (hl_up (hl_up (hl_up (hl_up (hl_up (hl_up (hl_up (hl_up (hl_up (hl_up (hl_up (hl_up (hl_up (hl_up (hl_up (hl_up P 85 3 (some 86)) 85 4 (some 87)) 85 5 (some 88)) 85 6 (some 89)) 85 19 (some 90)) 85 23 (some 91)) 85 24 (some 92)) 85 25 (some 93)) 85 26 (some 94)) 85 27 (some 95)) 85 28 (some 96)) 85 29 (some 97)) 85 30 (some 98)) 85 31 (some 99)) 85 33 (some 100)) 85 34 (some 101)) 85 35 (some 102)) 85 36 (some 103)) 85 37 (some 104)) (hl_row I1 86 (hl_A0 0 0))) := by
    rw [← s3, ← hI1]
    simp only [hl_r149_0, hl_r149_4, hl_r149_5, hl_r149_13, hl_r149_14, hl_r149_22, hl_r149_23, hl_r149_31, hl_r149_32, hl_r149_40, hl_r149_41, hl_r149_42, hl_r149_45, hl_r149_46, hl_r149_47, hl_r149_50, hl_r149_51, hl_r149_59, hl_r149_60, hl_r149_67, hl_r149_68, hl_r149_76, hl_r149_77, hl_r149_85, hl_r149_86, hl_r149_93, hl_r149_94, hl_r149_101, hl_r149_102, hl_r149_110, hl_r149_111, hl_r149_118, hl_r149_119, hl_r149_126, hl_r149_127, hl_r149_133, hl_r149_134, hl_r149_141, hl_r149_142, hl_r149_149, hl_r149_150, hl_r149_157, hl_r149_158, hl_r149_165, hl_r149_166, hl_r149_173, hl_r149_175, hl_r149_176, hl_r149_179, hl_r149_180, hl_r149_183, hl_r149_184, hl_r149_186, hl_r149_189, hl_r149_191, hl_r149_194, hl_r149_198, hl_r149_200, hl_r149_201, hl_r149_204, hl_r149_205, hl_r149_208, hl_r149_209, hl_r149_210, hl_r149_213, hl_r149_214, hl_r149_217, hl_r149_221, hl_r149_222, hl_r149_223, hl_r149_226, hl_r149_227, hl_r149_230, hl_r149_234, hl_r149_235, hl_r149_238, hl_r149_239, hl_r149_240, hl_r149_241, hl_r149_242, hl_r149_245, hl_r149_246, hl_r149_247, hl_r149_248, hl_r149_249, hl_r149_252, hl_r149_253, hl_r149_254, hl_r149_255, hl_r149_256, hl_r149_258, hl_r149_260, hl_r149_263, hl_r149_264, hl_r149_267, hl_r149_269, hl_r149_270, hl_r149_271, hl_r149_274, hl_r149_275, hl_r149_278, hl_r149_281, hl_r149_282, hl_r149_283, hl_r149_284, hl_r149_286, hl_r149_289, hl_r149_290, hl_r149_293, hl_r149_295, hl_r149_297, hl_r149_298, hl_r149_299, hl_r149_300, hl_r149_301, hl_r149_302, hl_r149_305, hl_r149_306, hl_r149_307, hl_r149_310, hl_r149_312, hl_r149_314, hl_r149_315, hl_r149_316, hl_r149_317, hl_r149_318, hl_r149_319, hl_r149_320, hl_r149_321, hl_r149_324, hl_r149_327, hl_r149_328, hl_r149_331, hl_r149_332, hl_r149_335, hl_r149_338, hl_r149_1, hl_r149_8, hl_r149_10, hl_r149_17, hl_r149_19, hl_r149_26, hl_r149_28, hl_r149_35, hl_r149_37, hl_r149_54, hl_r149_56, hl_r149_62, hl_r149_64, hl_r149_71, hl_r149_73, hl_r149_80, hl_r149_82, hl_r149_88, hl_r149_90, hl_r149_96, hl_r149_98, hl_r149_105, hl_r149_107, hl_r149_113, hl_r149_115, hl_r149_121, hl_r149_123, hl_r149_128, hl_r149_130, hl_r149_136, hl_r149_138, hl_r149_144, hl_r149_146, hl_r149_152, hl_r149_154, hl_r149_160, hl_r149_162, hl_r149_168, hl_r149_170, hl_r149_195, hl_r149_218, hl_r149_231, hl_w149, hl_h149, ex, ey, hNe, va_rf, hl_k3, hl_k4, hl_k5, hl_v3, hl_v4, hl_v5, p85, i85, p86, i86, p87, i87, p88, i88, p89, i89, p90, i90, p91, i91, p92, i92, p93, i93, p94, i94, p95, i95, p96, i96, p97, i97, p98, i98, p99, i99, p100, i100, p101, i101, p102, i102, p103, i103, p104, i104, hl_gk_85, hl_gk_86, hl_gk_87, hl_gk_88, hl_gk_89, hl_gk_90, hl_gk_91, hl_gk_92, hl_gk_93, hl_gk_94, hl_gk_95, hl_gk_96, hl_gk_97, hl_gk_98, hl_gk_99, hl_gk_100, hl_gk_101, hl_gk_102, hl_gk_103, hl_gk_104, if_true, if_false, hl_q_n, hl_q_P, hl_q_I, hl_q_new, hl_q_sP, hl_q_sI, hl_q_ob, hl_q_ar, hl_q_k, hl_up_ne, hl_up_a, hl_row_ne, hl_lz2, hl_lv2, hl_lz3, hl_lv3, hl_lz4, hl_lv4, hl_lz6, hl_lv6, hl_lz9, hl_lv9, hl_lz12, hl_lv12, hl_lz40, hl_lv40, hl_lz64, hl_lv64, hl_lz72, hl_lv72, hl_lz74, hl_lv74, hl_lz160, hl_lv160, hl_lz300, hl_lv300, hl_lz330, hl_lv330, hl_lz432, hl_lv432, hl_lz490, hl_lv490, hl_lz800, hl_lv800, hl_lz3200, hl_lv3200, hl_lz5476, hl_lv5476, hl_lz24, hl_lv24, hl_lz96, hl_lv96, hl_N_0, hl_N_1, hl_N_2, hl_N_3, hl_N_4, hl_N_5, hl_N_6, hl_N_7, hl_N_8, hl_N_9, hl_N_10, hl_N_11, hl_N_12, not_false_eq_true, and_self, and_true, true_and, hl_tl_s, hl_tl_n, hl_cal_some, hl_kill_i, hl_kill_r, hl_kill_n, Nat.reduceAdd, Nat.reduceEqDiff, ne_eq, Nat.reduceLT, Nat.reduceLeDiff, Nat.lt_add_one]
  have y1 := hl_jR (c := hl_call (d + 1)) (N := N) (P := (hl_up (hl_up (hl_up (hl_up (hl_up (hl_up (hl_up (hl_up (hl_up (hl_up (hl_up (hl_up (hl_up (hl_up (hl_up (hl_up (hl_up (hl_up (hl_up P 85 3 (some 86)) 85 4 (some 87)) 85 5 (some 88)) 85 6 (some 89)) 85 19 (some 90)) 85 23 (some 91)) 85 24 (some 92)) 85 25 (some 93)) 85 26 (some 94)) 85 27 (some 95)) 85 28 (some 96)) 85 29 (some 97)) 85 30 (some 98)) 85 31 (some 99)) 85 33 (some 100)) 85 34 (some 101)) 85 35 (some 102)) 85 36 (some 103)) 85 37 (some 104))) (I := I1) (l1 := x) (l2 := y) h3 12 0 rfl
  rw [show (nI 0) = (0 : Int32) from rfl] at y1
  have y2 := hl_jC (c := hl_call (d + 1)) (N := N) (P := (hl_up (hl_up (hl_up (hl_up (hl_up (hl_up (hl_up (hl_up (hl_up (hl_up (hl_up (hl_up (hl_up (hl_up (hl_up (hl_up (hl_up (hl_up (hl_up P 85 3 (some 86)) 85 4 (some 87)) 85 5 (some 88)) 85 6 (some 89)) 85 19 (some 90)) 85 23 (some 91)) 85 24 (some 92)) 85 25 (some 93)) 85 26 (some 94)) 85 27 (some 95)) 85 28 (some 96)) 85 29 (some 97)) 85 30 (some 98)) 85 31 (some 99)) 85 33 (some 100)) 85 34 (some 101)) 85 35 (some 102)) 85 36 (some 103)) 85 37 (some 104))) (I := I1) (l1 := x) (l2 := y) h3 24 0 rfl
  rw [show (nI 0) = (0 : Int32) from rfl] at y2
  have sc := hl_s150 (d := d) (w := hl_q N 105 (hl_up (hl_up (hl_up (hl_up (hl_up (hl_up (hl_up (hl_up (hl_up (hl_up (hl_up (hl_up (hl_up (hl_up (hl_up (hl_up (hl_up (hl_up (hl_up P 85 3 (some 86)) 85 4 (some 87)) 85 5 (some 88)) 85 6 (some 89)) 85 19 (some 90)) 85 23 (some 91)) 85 24 (some 92)) 85 25 (some 93)) 85 26 (some 94)) 85 27 (some 95)) 85 28 (some 96)) 85 29 (some 97)) 85 30 (some 98)) 85 31 (some 99)) 85 33 (some 100)) 85 34 (some 101)) 85 35 (some 102)) 85 36 (some 103)) 85 37 (some 104)) (hl_row I1 86 (hl_A0 12 24))) (a := 86) (b := 87) (by decide) (hl_q_ar (by decide) rfl) (hl_q_ar (by decide) rfl) (by rw [hl_q_k (by decide)]; rfl) (by rw [hl_q_k (by decide)]; rfl)
  rw [hl_q_rI, hl_q_I] at sc
  have e9 : (fun j => if j < 490 then hl_row I1 86 (hl_A0 12 24) 86 j else hl_row I1 86 (hl_A0 12 24) 87 j) = fun j => if j < 490 then hl_A0 12 24 j else 0 := by
    funext j
    simp only [hl_row, i87b, if_true, Nat.reduceEqDiff, if_false]
  rw [e9] at sc
  rw [hl_e149, stage, y1, hl_r149_281, hl_r149_282]
  simp only [hl_kill_i, hl_kill_r]
  rw [y2]
  simp only [hl_r149_327, hl_r149_328, hl_r149_331, hl_r149_332, hl_r149_335, hl_r149_338, h3, h4, va_rf, sc, hl_gk_85, hl_gk_86, hl_gk_87, if_true, if_false, hl_q_n, hl_q_P, hl_q_I, hl_q_new, hl_q_sP, hl_q_sI, hl_q_ob, hl_q_ar, hl_q_k, hl_up_ne, hl_up_a, hl_row_ne, hl_lz2, hl_lv2, hl_lz3, hl_lv3, hl_lz4, hl_lv4, hl_lz6, hl_lv6, hl_lz9, hl_lv9, hl_lz12, hl_lv12, hl_lz40, hl_lv40, hl_lz64, hl_lv64, hl_lz72, hl_lv72, hl_lz74, hl_lv74, hl_lz160, hl_lv160, hl_lz300, hl_lv300, hl_lz330, hl_lv330, hl_lz432, hl_lv432, hl_lz490, hl_lv490, hl_lz800, hl_lv800, hl_lz3200, hl_lv3200, hl_lz5476, hl_lv5476, hl_lz24, hl_lv24, hl_lz96, hl_lv96, hl_N_0, hl_N_1, hl_N_2, hl_N_3, hl_N_4, hl_N_5, hl_N_6, hl_N_7, hl_N_8, hl_N_9, hl_N_10, hl_N_11, hl_N_12, not_false_eq_true, and_self, and_true, true_and, hl_tl_s, hl_tl_n, hl_cal_some, hl_kill_i, hl_kill_r, hl_kill_n, Nat.reduceAdd, Nat.reduceEqDiff, ne_eq, Nat.reduceLT, Nat.reduceLeDiff, Nat.lt_add_one]
end HLM0
