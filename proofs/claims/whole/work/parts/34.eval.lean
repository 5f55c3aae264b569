/-! the class's evaluator -/
def hl_lim (v : Int64) : Int32 := if 1000000 < v then 1000000 else if v < -1000000 then -1000000 else v.toInt32
def hl_jn (k l r : Int32) : Int64 := if k = 12 then (l ||| r).toInt64 else if k = 13 then (l &&& r).toInt64 else if k = 30 then (if l < r then 1 else 0) else if k = 31 then (if r < l then 1 else 0) else if k = 32 then (if l = r then 1 else 0) else if k = 33 then (if l = r then 0 else 1) else if k = 34 then l.toInt64 + r.toInt64 else if k = 35 then l.toInt64 - r.toInt64 else if k = 36 then l.toInt64 * r.toInt64 else if k = 43 then (if l ≤ r then 1 else 0) else if k = 44 then (if r ≤ l then 1 else 0) else if r = 0 then 0 else (l / r).toInt64
theorem hl_lcmp_le0 (x y : Int64) : (lg_cmp x y ≤ 0) = (x ≤ y) := by
  apply propext
  unfold lg_cmp
  by_cases h1 : x > y
  · have h2 : ¬ x ≤ y := Int64.not_le.mpr h1
    simp only [h1, h2, if_true, iff_false]
    decide
  · have h2 : x ≤ y := Int64.not_lt.mp h1
    by_cases h3 : x = y
    · simp only [h1, h3, if_true, if_false, Int64.le_refl, iff_true]
      subst h3
      simp only [Int64.lt_irrefl, gt_iff_lt, if_false, if_true]
      decide
    · simp only [h1, h3, h2, if_false, iff_true]
      decide
theorem hl_lcmp_ge0 (x y : Int64) : (0 ≤ lg_cmp x y) = (y ≤ x) := propext (lg_cmp_ge x y)
/-- a stack of the worker -/
def hl_psh (v : Int32) (K : List Int32) : List Int32 := if K.length < 64 then v :: K else K
def hl_SK (I : Nat → Nat → Int32) (K : List Int32) : Prop := I 60 4 = nI K.length ∧ K.length ≤ 64 ∧ ∀ (i : Nat) (v : Int32), K.reverse[i]? = some v → I 62 i = v
/-- all rows but the worker's own are as they were -/
def hl_f6 (I I' : Nat → Nat → Int32) : Prop := ∀ b, b ≠ 60 → b ≠ 61 → b ≠ 62 → I' b = I b
theorem hl_f6_rf (I : Nat → Nat → Int32) : hl_f6 I I := fun _ _ _ _ => rfl
theorem hl_f6_tr {I1 I2 I3 : Nat → Nat → Int32} (h : hl_f6 I1 I2) (g : hl_f6 I2 I3) : hl_f6 I1 I3 := fun b h1 h2 h3 => (g b h1 h2 h3).trans (h b h1 h2 h3)
theorem hl_f6_up {I : Nat → Nat → Int32} {a i : Nat} {v : Int32} (h : a = 60 ∨ a = 61 ∨ a = 62) : hl_f6 I (hl_up I a i v) := fun b h1 h2 h3 => hl_up_ne I i v (by omega)
section HLV
variable {d N : Nat} {w : hl_W} {I : Nat → Nat → Int32} {J : Nat → Nat → Int64}
theorem hl_s103 {v : Int64} : hl_call (d + 1) 103 [.long v] w = some (some (.int (hl_lim v)), w) := by
  rw [hl_e103]
  unfold hl_lim
  by_cases h1 : v ≤ 1000000
  · have h1' : ¬ 1000000 < v := Int64.not_lt.mpr h1
    by_cases h2 : -1000000 ≤ v
    · have h2' : ¬ v < -1000000 := Int64.not_lt.mpr h2
      simp only [hl_r103_0, hl_r103_1, hl_r103_4, hl_r103_5, hl_r103_8, hl_r103_10, hl_r103_11, hl_r103_12, hl_r103_15, hl_r103_16, hl_r103_19, hl_r103_21, hl_r103_24, hl_r103_25, hl_r103_26, hl_lcmp_le0, hl_lcmp_ge0, h1, h1', h2, h2', hl_kill_i, hl_kill_r, hl_kill_n, hl_kill_l, hl_tl_s, hl_tl_n, hl_cal_some, hl_gI, hl_gJ, hl_gsI, hl_gsJ, hl_tv01, if_true, if_false, hl_up_a, hl_row_a]
    · have h2' : v < -1000000 := Int64.not_le.mp h2
      simp only [hl_r103_0, hl_r103_1, hl_r103_4, hl_r103_5, hl_r103_8, hl_r103_10, hl_r103_11, hl_r103_12, hl_r103_15, hl_r103_16, hl_r103_19, hl_r103_21, hl_r103_24, hl_r103_25, hl_r103_26, hl_lcmp_le0, hl_lcmp_ge0, h1, h1', h2, h2', hl_kill_i, hl_kill_r, hl_kill_n, hl_kill_l, hl_tl_s, hl_tl_n, hl_cal_some, hl_gI, hl_gJ, hl_gsI, hl_gsJ, hl_tv01, if_true, if_false, hl_up_a, hl_row_a]
  · have h1' : 1000000 < v := Int64.not_le.mp h1
    simp only [hl_r103_0, hl_r103_1, hl_r103_4, hl_r103_5, hl_r103_8, hl_r103_10, hl_r103_11, hl_r103_12, hl_r103_15, hl_r103_16, hl_r103_19, hl_r103_21, hl_r103_24, hl_r103_25, hl_r103_26, hl_lcmp_le0, h1, h1', hl_kill_i, hl_kill_r, hl_kill_n, hl_kill_l, hl_tl_s, hl_tl_n, hl_cal_some, hl_gI, hl_gJ, hl_gsI, hl_gsJ, hl_tv01, if_true, if_false, hl_up_a, hl_row_a]
theorem hl_sw102 {c : hl_C} {w : hl_W} {L st : List Value} {k : Int32} (n0 : ¬ k = 12) (n1 : ¬ k = 13) (n2 : ¬ k = 30) (n3 : ¬ k = 31) (n4 : ¬ k = 32) (n5 : ¬ k = 33) (n6 : ¬ k = 34) (n7 : ¬ k = 35) (n8 : ¬ k = 36) (n9 : ¬ k = 43) (na : ¬ k = 44) : hl_Run 102 c 1 L (.int k :: st) w = hl_Run 102 c 242 L st w := by
  by_cases h : k.toInt < 12 ∨ 44 < k.toInt
  · exact hl_r102_1_d h
  · obtain ⟨q, hq, hk⟩ : ∃ q : Nat, q < 45 ∧ k = nI q := by
      refine ⟨k.toInt.toNat, by omega, Int32.toInt_inj.mp ?_⟩
      rw [nI_toInt (by omega)]
      omega
    have h12 : 12 ≤ q := by
      rw [hk, nI_toInt (by omega)] at h
      omega
    subst hk
    match q, hq, h12, n0, n1, n2, n3, n4, n5, n6, n7, n8, n9, na with
    | 12, _, _, z, _, _, _, _, _, _, _, _, _, _ => exact absurd rfl z
    | 13, _, _, _, z, _, _, _, _, _, _, _, _, _ => exact absurd rfl z
    | 14, _, _, _, _, _, _, _, _, _, _, _, _, _ => exact hl_r102_1_2
    | 15, _, _, _, _, _, _, _, _, _, _, _, _, _ => exact hl_r102_1_3
    | 16, _, _, _, _, _, _, _, _, _, _, _, _, _ => exact hl_r102_1_4
    | 17, _, _, _, _, _, _, _, _, _, _, _, _, _ => exact hl_r102_1_5
    | 18, _, _, _, _, _, _, _, _, _, _, _, _, _ => exact hl_r102_1_6
    | 19, _, _, _, _, _, _, _, _, _, _, _, _, _ => exact hl_r102_1_7
    | 20, _, _, _, _, _, _, _, _, _, _, _, _, _ => exact hl_r102_1_8
    | 21, _, _, _, _, _, _, _, _, _, _, _, _, _ => exact hl_r102_1_9
    | 22, _, _, _, _, _, _, _, _, _, _, _, _, _ => exact hl_r102_1_10
    | 23, _, _, _, _, _, _, _, _, _, _, _, _, _ => exact hl_r102_1_11
    | 24, _, _, _, _, _, _, _, _, _, _, _, _, _ => exact hl_r102_1_12
    | 25, _, _, _, _, _, _, _, _, _, _, _, _, _ => exact hl_r102_1_13
    | 26, _, _, _, _, _, _, _, _, _, _, _, _, _ => exact hl_r102_1_14
    | 27, _, _, _, _, _, _, _, _, _, _, _, _, _ => exact hl_r102_1_15
    | 28, _, _, _, _, _, _, _, _, _, _, _, _, _ => exact hl_r102_1_16
    | 29, _, _, _, _, _, _, _, _, _, _, _, _, _ => exact hl_r102_1_17
    | 30, _, _, _, _, z, _, _, _, _, _, _, _, _ => exact absurd rfl z
    | 31, _, _, _, _, _, z, _, _, _, _, _, _, _ => exact absurd rfl z
    | 32, _, _, _, _, _, _, z, _, _, _, _, _, _ => exact absurd rfl z
    | 33, _, _, _, _, _, _, _, z, _, _, _, _, _ => exact absurd rfl z
    | 34, _, _, _, _, _, _, _, _, z, _, _, _, _ => exact absurd rfl z
    | 35, _, _, _, _, _, _, _, _, _, z, _, _, _ => exact absurd rfl z
    | 36, _, _, _, _, _, _, _, _, _, _, z, _, _ => exact absurd rfl z
    | 37, _, _, _, _, _, _, _, _, _, _, _, _, _ => exact hl_r102_1_25
    | 38, _, _, _, _, _, _, _, _, _, _, _, _, _ => exact hl_r102_1_26
    | 39, _, _, _, _, _, _, _, _, _, _, _, _, _ => exact hl_r102_1_27
    | 40, _, _, _, _, _, _, _, _, _, _, _, _, _ => exact hl_r102_1_28
    | 41, _, _, _, _, _, _, _, _, _, _, _, _, _ => exact hl_r102_1_29
    | 42, _, _, _, _, _, _, _, _, _, _, _, _, _ => exact hl_r102_1_30
    | 43, _, _, _, _, _, _, _, _, _, _, _, z, _ => exact absurd rfl z
    | 44, _, _, _, _, _, _, _, _, _, _, _, _, z => exact absurd rfl z
    | q + 45, h, _, _, _, _, _, _, _, _, _, _, _, _ => omega
theorem hl_s102 {k l r : Int32} : hl_call (d + 1) 102 [.int k, .int l, .int r] w = some (some (.long (hl_jn k l r)), w) := by
  rw [hl_e102, hl_r102_0]
  unfold hl_jn
  by_cases n0 : k = 12
  · subst n0; rw [hl_r102_1_0]; simp only [hl_r102_0, hl_r102_1_0, hl_r102_1_1, hl_r102_1_2, hl_r102_1_3, hl_r102_1_4, hl_r102_1_5, hl_r102_1_6, hl_r102_1_7, hl_r102_1_8, hl_r102_1_9, hl_r102_1_10, hl_r102_1_11, hl_r102_1_12, hl_r102_1_13, hl_r102_1_14, hl_r102_1_15, hl_r102_1_16, hl_r102_1_17, hl_r102_1_18, hl_r102_1_19, hl_r102_1_20, hl_r102_1_21, hl_r102_1_22, hl_r102_1_23, hl_r102_1_24, hl_r102_1_25, hl_r102_1_26, hl_r102_1_27, hl_r102_1_28, hl_r102_1_29, hl_r102_1_30, hl_r102_1_31, hl_r102_1_32, hl_r102_1_d, hl_r102_148, hl_r102_149, hl_r102_150, hl_r102_151, hl_r102_152, hl_r102_153, hl_r102_154, hl_r102_155, hl_r102_156, hl_r102_157, hl_r102_158, hl_r102_159, hl_r102_160, hl_r102_163, hl_r102_164, hl_r102_167, hl_r102_168, hl_r102_169, hl_r102_170, hl_r102_171, hl_r102_174, hl_r102_175, hl_r102_178, hl_r102_179, hl_r102_180, hl_r102_181, hl_r102_182, hl_r102_185, hl_r102_186, hl_r102_189, hl_r102_190, hl_r102_191, hl_r102_192, hl_r102_193, hl_r102_196, hl_r102_197, hl_r102_200, hl_r102_201, hl_r102_202, hl_r102_203, hl_r102_204, hl_r102_207, hl_r102_208, hl_r102_211, hl_r102_212, hl_r102_213, hl_r102_214, hl_r102_215, hl_r102_218, hl_r102_219, hl_r102_222, hl_r102_223, hl_r102_224, hl_r102_225, hl_r102_226, hl_r102_227, hl_r102_228, hl_r102_229, hl_r102_230, hl_r102_231, hl_r102_232, hl_r102_233, hl_r102_234, hl_r102_235, hl_r102_236, hl_r102_237, hl_r102_238, hl_r102_239, hl_r102_240, hl_r102_241, hl_r102_242, hl_r102_243, hl_r102_246, hl_r102_247, hl_r102_250, hl_r102_251, hl_r102_252, hl_r102_253, hl_r102_254, hl_kill_i, hl_kill_r, hl_kill_n, hl_kill_l, hl_tl_s, hl_tl_n, hl_cal_some, hl_gI, hl_gJ, hl_gsI, hl_gsJ, hl_tv01, if_true, if_false, hl_up_a, hl_row_a]
  by_cases n1 : k = 13
  · subst n1; rw [hl_r102_1_1]; simp only [hl_r102_0, hl_r102_1_0, hl_r102_1_1, hl_r102_1_2, hl_r102_1_3, hl_r102_1_4, hl_r102_1_5, hl_r102_1_6, hl_r102_1_7, hl_r102_1_8, hl_r102_1_9, hl_r102_1_10, hl_r102_1_11, hl_r102_1_12, hl_r102_1_13, hl_r102_1_14, hl_r102_1_15, hl_r102_1_16, hl_r102_1_17, hl_r102_1_18, hl_r102_1_19, hl_r102_1_20, hl_r102_1_21, hl_r102_1_22, hl_r102_1_23, hl_r102_1_24, hl_r102_1_25, hl_r102_1_26, hl_r102_1_27, hl_r102_1_28, hl_r102_1_29, hl_r102_1_30, hl_r102_1_31, hl_r102_1_32, hl_r102_1_d, hl_r102_148, hl_r102_149, hl_r102_150, hl_r102_151, hl_r102_152, hl_r102_153, hl_r102_154, hl_r102_155, hl_r102_156, hl_r102_157, hl_r102_158, hl_r102_159, hl_r102_160, hl_r102_163, hl_r102_164, hl_r102_167, hl_r102_168, hl_r102_169, hl_r102_170, hl_r102_171, hl_r102_174, hl_r102_175, hl_r102_178, hl_r102_179, hl_r102_180, hl_r102_181, hl_r102_182, hl_r102_185, hl_r102_186, hl_r102_189, hl_r102_190, hl_r102_191, hl_r102_192, hl_r102_193, hl_r102_196, hl_r102_197, hl_r102_200, hl_r102_201, hl_r102_202, hl_r102_203, hl_r102_204, hl_r102_207, hl_r102_208, hl_r102_211, hl_r102_212, hl_r102_213, hl_r102_214, hl_r102_215, hl_r102_218, hl_r102_219, hl_r102_222, hl_r102_223, hl_r102_224, hl_r102_225, hl_r102_226, hl_r102_227, hl_r102_228, hl_r102_229, hl_r102_230, hl_r102_231, hl_r102_232, hl_r102_233, hl_r102_234, hl_r102_235, hl_r102_236, hl_r102_237, hl_r102_238, hl_r102_239, hl_r102_240, hl_r102_241, hl_r102_242, hl_r102_243, hl_r102_246, hl_r102_247, hl_r102_250, hl_r102_251, hl_r102_252, hl_r102_253, hl_r102_254, n0, hl_kill_i, hl_kill_r, hl_kill_n, hl_kill_l, hl_tl_s, hl_tl_n, hl_cal_some, hl_gI, hl_gJ, hl_gsI, hl_gsJ, hl_tv01, if_true, if_false, hl_up_a, hl_row_a]
  by_cases n2 : k = 30
  · subst n2; rw [hl_r102_1_18]
    by_cases h : l < r
    · simp only [hl_r102_0, hl_r102_1_0, hl_r102_1_1, hl_r102_1_2, hl_r102_1_3, hl_r102_1_4, hl_r102_1_5, hl_r102_1_6, hl_r102_1_7, hl_r102_1_8, hl_r102_1_9, hl_r102_1_10, hl_r102_1_11, hl_r102_1_12, hl_r102_1_13, hl_r102_1_14, hl_r102_1_15, hl_r102_1_16, hl_r102_1_17, hl_r102_1_18, hl_r102_1_19, hl_r102_1_20, hl_r102_1_21, hl_r102_1_22, hl_r102_1_23, hl_r102_1_24, hl_r102_1_25, hl_r102_1_26, hl_r102_1_27, hl_r102_1_28, hl_r102_1_29, hl_r102_1_30, hl_r102_1_31, hl_r102_1_32, hl_r102_1_d, hl_r102_148, hl_r102_149, hl_r102_150, hl_r102_151, hl_r102_152, hl_r102_153, hl_r102_154, hl_r102_155, hl_r102_156, hl_r102_157, hl_r102_158, hl_r102_159, hl_r102_160, hl_r102_163, hl_r102_164, hl_r102_167, hl_r102_168, hl_r102_169, hl_r102_170, hl_r102_171, hl_r102_174, hl_r102_175, hl_r102_178, hl_r102_179, hl_r102_180, hl_r102_181, hl_r102_182, hl_r102_185, hl_r102_186, hl_r102_189, hl_r102_190, hl_r102_191, hl_r102_192, hl_r102_193, hl_r102_196, hl_r102_197, hl_r102_200, hl_r102_201, hl_r102_202, hl_r102_203, hl_r102_204, hl_r102_207, hl_r102_208, hl_r102_211, hl_r102_212, hl_r102_213, hl_r102_214, hl_r102_215, hl_r102_218, hl_r102_219, hl_r102_222, hl_r102_223, hl_r102_224, hl_r102_225, hl_r102_226, hl_r102_227, hl_r102_228, hl_r102_229, hl_r102_230, hl_r102_231, hl_r102_232, hl_r102_233, hl_r102_234, hl_r102_235, hl_r102_236, hl_r102_237, hl_r102_238, hl_r102_239, hl_r102_240, hl_r102_241, hl_r102_242, hl_r102_243, hl_r102_246, hl_r102_247, hl_r102_250, hl_r102_251, hl_r102_252, hl_r102_253, hl_r102_254, h, Int32.not_le.mpr h, n0, n1, hl_kill_i, hl_kill_r, hl_kill_n, hl_kill_l, hl_tl_s, hl_tl_n, hl_cal_some, hl_gI, hl_gJ, hl_gsI, hl_gsJ, hl_tv01, if_true, if_false, hl_up_a, hl_row_a]
    · simp only [hl_r102_0, hl_r102_1_0, hl_r102_1_1, hl_r102_1_2, hl_r102_1_3, hl_r102_1_4, hl_r102_1_5, hl_r102_1_6, hl_r102_1_7, hl_r102_1_8, hl_r102_1_9, hl_r102_1_10, hl_r102_1_11, hl_r102_1_12, hl_r102_1_13, hl_r102_1_14, hl_r102_1_15, hl_r102_1_16, hl_r102_1_17, hl_r102_1_18, hl_r102_1_19, hl_r102_1_20, hl_r102_1_21, hl_r102_1_22, hl_r102_1_23, hl_r102_1_24, hl_r102_1_25, hl_r102_1_26, hl_r102_1_27, hl_r102_1_28, hl_r102_1_29, hl_r102_1_30, hl_r102_1_31, hl_r102_1_32, hl_r102_1_d, hl_r102_148, hl_r102_149, hl_r102_150, hl_r102_151, hl_r102_152, hl_r102_153, hl_r102_154, hl_r102_155, hl_r102_156, hl_r102_157, hl_r102_158, hl_r102_159, hl_r102_160, hl_r102_163, hl_r102_164, hl_r102_167, hl_r102_168, hl_r102_169, hl_r102_170, hl_r102_171, hl_r102_174, hl_r102_175, hl_r102_178, hl_r102_179, hl_r102_180, hl_r102_181, hl_r102_182, hl_r102_185, hl_r102_186, hl_r102_189, hl_r102_190, hl_r102_191, hl_r102_192, hl_r102_193, hl_r102_196, hl_r102_197, hl_r102_200, hl_r102_201, hl_r102_202, hl_r102_203, hl_r102_204, hl_r102_207, hl_r102_208, hl_r102_211, hl_r102_212, hl_r102_213, hl_r102_214, hl_r102_215, hl_r102_218, hl_r102_219, hl_r102_222, hl_r102_223, hl_r102_224, hl_r102_225, hl_r102_226, hl_r102_227, hl_r102_228, hl_r102_229, hl_r102_230, hl_r102_231, hl_r102_232, hl_r102_233, hl_r102_234, hl_r102_235, hl_r102_236, hl_r102_237, hl_r102_238, hl_r102_239, hl_r102_240, hl_r102_241, hl_r102_242, hl_r102_243, hl_r102_246, hl_r102_247, hl_r102_250, hl_r102_251, hl_r102_252, hl_r102_253, hl_r102_254, h, Int32.not_lt.mp h, n0, n1, hl_kill_i, hl_kill_r, hl_kill_n, hl_kill_l, hl_tl_s, hl_tl_n, hl_cal_some, hl_gI, hl_gJ, hl_gsI, hl_gsJ, hl_tv01, if_true, if_false, hl_up_a, hl_row_a]
  by_cases n3 : k = 31
  · subst n3; rw [hl_r102_1_19]
    by_cases h : r < l
    · simp only [hl_r102_0, hl_r102_1_0, hl_r102_1_1, hl_r102_1_2, hl_r102_1_3, hl_r102_1_4, hl_r102_1_5, hl_r102_1_6, hl_r102_1_7, hl_r102_1_8, hl_r102_1_9, hl_r102_1_10, hl_r102_1_11, hl_r102_1_12, hl_r102_1_13, hl_r102_1_14, hl_r102_1_15, hl_r102_1_16, hl_r102_1_17, hl_r102_1_18, hl_r102_1_19, hl_r102_1_20, hl_r102_1_21, hl_r102_1_22, hl_r102_1_23, hl_r102_1_24, hl_r102_1_25, hl_r102_1_26, hl_r102_1_27, hl_r102_1_28, hl_r102_1_29, hl_r102_1_30, hl_r102_1_31, hl_r102_1_32, hl_r102_1_d, hl_r102_148, hl_r102_149, hl_r102_150, hl_r102_151, hl_r102_152, hl_r102_153, hl_r102_154, hl_r102_155, hl_r102_156, hl_r102_157, hl_r102_158, hl_r102_159, hl_r102_160, hl_r102_163, hl_r102_164, hl_r102_167, hl_r102_168, hl_r102_169, hl_r102_170, hl_r102_171, hl_r102_174, hl_r102_175, hl_r102_178, hl_r102_179, hl_r102_180, hl_r102_181, hl_r102_182, hl_r102_185, hl_r102_186, hl_r102_189, hl_r102_190, hl_r102_191, hl_r102_192, hl_r102_193, hl_r102_196, hl_r102_197, hl_r102_200, hl_r102_201, hl_r102_202, hl_r102_203, hl_r102_204, hl_r102_207, hl_r102_208, hl_r102_211, hl_r102_212, hl_r102_213, hl_r102_214, hl_r102_215, hl_r102_218, hl_r102_219, hl_r102_222, hl_r102_223, hl_r102_224, hl_r102_225, hl_r102_226, hl_r102_227, hl_r102_228, hl_r102_229, hl_r102_230, hl_r102_231, hl_r102_232, hl_r102_233, hl_r102_234, hl_r102_235, hl_r102_236, hl_r102_237, hl_r102_238, hl_r102_239, hl_r102_240, hl_r102_241, hl_r102_242, hl_r102_243, hl_r102_246, hl_r102_247, hl_r102_250, hl_r102_251, hl_r102_252, hl_r102_253, hl_r102_254, h, Int32.not_le.mpr h, n0, n1, n2, hl_kill_i, hl_kill_r, hl_kill_n, hl_kill_l, hl_tl_s, hl_tl_n, hl_cal_some, hl_gI, hl_gJ, hl_gsI, hl_gsJ, hl_tv01, if_true, if_false, hl_up_a, hl_row_a]
    · simp only [hl_r102_0, hl_r102_1_0, hl_r102_1_1, hl_r102_1_2, hl_r102_1_3, hl_r102_1_4, hl_r102_1_5, hl_r102_1_6, hl_r102_1_7, hl_r102_1_8, hl_r102_1_9, hl_r102_1_10, hl_r102_1_11, hl_r102_1_12, hl_r102_1_13, hl_r102_1_14, hl_r102_1_15, hl_r102_1_16, hl_r102_1_17, hl_r102_1_18, hl_r102_1_19, hl_r102_1_20, hl_r102_1_21, hl_r102_1_22, hl_r102_1_23, hl_r102_1_24, hl_r102_1_25, hl_r102_1_26, hl_r102_1_27, hl_r102_1_28, hl_r102_1_29, hl_r102_1_30, hl_r102_1_31, hl_r102_1_32, hl_r102_1_d, hl_r102_148, hl_r102_149, hl_r102_150, hl_r102_151, hl_r102_152, hl_r102_153, hl_r102_154, hl_r102_155, hl_r102_156, hl_r102_157, hl_r102_158, hl_r102_159, hl_r102_160, hl_r102_163, hl_r102_164, hl_r102_167, hl_r102_168, hl_r102_169, hl_r102_170, hl_r102_171, hl_r102_174, hl_r102_175, hl_r102_178, hl_r102_179, hl_r102_180, hl_r102_181, hl_r102_182, hl_r102_185, hl_r102_186, hl_r102_189, hl_r102_190, hl_r102_191, hl_r102_192, hl_r102_193, hl_r102_196, hl_r102_197, hl_r102_200, hl_r102_201, hl_r102_202, hl_r102_203, hl_r102_204, hl_r102_207, hl_r102_208, hl_r102_211, hl_r102_212, hl_r102_213, hl_r102_214, hl_r102_215, hl_r102_218, hl_r102_219, hl_r102_222, hl_r102_223, hl_r102_224, hl_r102_225, hl_r102_226, hl_r102_227, hl_r102_228, hl_r102_229, hl_r102_230, hl_r102_231, hl_r102_232, hl_r102_233, hl_r102_234, hl_r102_235, hl_r102_236, hl_r102_237, hl_r102_238, hl_r102_239, hl_r102_240, hl_r102_241, hl_r102_242, hl_r102_243, hl_r102_246, hl_r102_247, hl_r102_250, hl_r102_251, hl_r102_252, hl_r102_253, hl_r102_254, h, Int32.not_lt.mp h, n0, n1, n2, hl_kill_i, hl_kill_r, hl_kill_n, hl_kill_l, hl_tl_s, hl_tl_n, hl_cal_some, hl_gI, hl_gJ, hl_gsI, hl_gsJ, hl_tv01, if_true, if_false, hl_up_a, hl_row_a]
  by_cases n4 : k = 32
  · subst n4; rw [hl_r102_1_20]
    by_cases h : l = r
    · simp only [hl_r102_0, hl_r102_1_0, hl_r102_1_1, hl_r102_1_2, hl_r102_1_3, hl_r102_1_4, hl_r102_1_5, hl_r102_1_6, hl_r102_1_7, hl_r102_1_8, hl_r102_1_9, hl_r102_1_10, hl_r102_1_11, hl_r102_1_12, hl_r102_1_13, hl_r102_1_14, hl_r102_1_15, hl_r102_1_16, hl_r102_1_17, hl_r102_1_18, hl_r102_1_19, hl_r102_1_20, hl_r102_1_21, hl_r102_1_22, hl_r102_1_23, hl_r102_1_24, hl_r102_1_25, hl_r102_1_26, hl_r102_1_27, hl_r102_1_28, hl_r102_1_29, hl_r102_1_30, hl_r102_1_31, hl_r102_1_32, hl_r102_1_d, hl_r102_148, hl_r102_149, hl_r102_150, hl_r102_151, hl_r102_152, hl_r102_153, hl_r102_154, hl_r102_155, hl_r102_156, hl_r102_157, hl_r102_158, hl_r102_159, hl_r102_160, hl_r102_163, hl_r102_164, hl_r102_167, hl_r102_168, hl_r102_169, hl_r102_170, hl_r102_171, hl_r102_174, hl_r102_175, hl_r102_178, hl_r102_179, hl_r102_180, hl_r102_181, hl_r102_182, hl_r102_185, hl_r102_186, hl_r102_189, hl_r102_190, hl_r102_191, hl_r102_192, hl_r102_193, hl_r102_196, hl_r102_197, hl_r102_200, hl_r102_201, hl_r102_202, hl_r102_203, hl_r102_204, hl_r102_207, hl_r102_208, hl_r102_211, hl_r102_212, hl_r102_213, hl_r102_214, hl_r102_215, hl_r102_218, hl_r102_219, hl_r102_222, hl_r102_223, hl_r102_224, hl_r102_225, hl_r102_226, hl_r102_227, hl_r102_228, hl_r102_229, hl_r102_230, hl_r102_231, hl_r102_232, hl_r102_233, hl_r102_234, hl_r102_235, hl_r102_236, hl_r102_237, hl_r102_238, hl_r102_239, hl_r102_240, hl_r102_241, hl_r102_242, hl_r102_243, hl_r102_246, hl_r102_247, hl_r102_250, hl_r102_251, hl_r102_252, hl_r102_253, hl_r102_254, h, not_true, n0, n1, n2, n3, hl_kill_i, hl_kill_r, hl_kill_n, hl_kill_l, hl_tl_s, hl_tl_n, hl_cal_some, hl_gI, hl_gJ, hl_gsI, hl_gsJ, hl_tv01, if_true, if_false, hl_up_a, hl_row_a]
    · simp only [hl_r102_0, hl_r102_1_0, hl_r102_1_1, hl_r102_1_2, hl_r102_1_3, hl_r102_1_4, hl_r102_1_5, hl_r102_1_6, hl_r102_1_7, hl_r102_1_8, hl_r102_1_9, hl_r102_1_10, hl_r102_1_11, hl_r102_1_12, hl_r102_1_13, hl_r102_1_14, hl_r102_1_15, hl_r102_1_16, hl_r102_1_17, hl_r102_1_18, hl_r102_1_19, hl_r102_1_20, hl_r102_1_21, hl_r102_1_22, hl_r102_1_23, hl_r102_1_24, hl_r102_1_25, hl_r102_1_26, hl_r102_1_27, hl_r102_1_28, hl_r102_1_29, hl_r102_1_30, hl_r102_1_31, hl_r102_1_32, hl_r102_1_d, hl_r102_148, hl_r102_149, hl_r102_150, hl_r102_151, hl_r102_152, hl_r102_153, hl_r102_154, hl_r102_155, hl_r102_156, hl_r102_157, hl_r102_158, hl_r102_159, hl_r102_160, hl_r102_163, hl_r102_164, hl_r102_167, hl_r102_168, hl_r102_169, hl_r102_170, hl_r102_171, hl_r102_174, hl_r102_175, hl_r102_178, hl_r102_179, hl_r102_180, hl_r102_181, hl_r102_182, hl_r102_185, hl_r102_186, hl_r102_189, hl_r102_190, hl_r102_191, hl_r102_192, hl_r102_193, hl_r102_196, hl_r102_197, hl_r102_200, hl_r102_201, hl_r102_202, hl_r102_203, hl_r102_204, hl_r102_207, hl_r102_208, hl_r102_211, hl_r102_212, hl_r102_213, hl_r102_214, hl_r102_215, hl_r102_218, hl_r102_219, hl_r102_222, hl_r102_223, hl_r102_224, hl_r102_225, hl_r102_226, hl_r102_227, hl_r102_228, hl_r102_229, hl_r102_230, hl_r102_231, hl_r102_232, hl_r102_233, hl_r102_234, hl_r102_235, hl_r102_236, hl_r102_237, hl_r102_238, hl_r102_239, hl_r102_240, hl_r102_241, hl_r102_242, hl_r102_243, hl_r102_246, hl_r102_247, hl_r102_250, hl_r102_251, hl_r102_252, hl_r102_253, hl_r102_254, h, not_false_eq_true, n0, n1, n2, n3, hl_kill_i, hl_kill_r, hl_kill_n, hl_kill_l, hl_tl_s, hl_tl_n, hl_cal_some, hl_gI, hl_gJ, hl_gsI, hl_gsJ, hl_tv01, if_true, if_false, hl_up_a, hl_row_a]
  by_cases n5 : k = 33
  · subst n5; rw [hl_r102_1_21]
    by_cases h : l = r
    · simp only [hl_r102_0, hl_r102_1_0, hl_r102_1_1, hl_r102_1_2, hl_r102_1_3, hl_r102_1_4, hl_r102_1_5, hl_r102_1_6, hl_r102_1_7, hl_r102_1_8, hl_r102_1_9, hl_r102_1_10, hl_r102_1_11, hl_r102_1_12, hl_r102_1_13, hl_r102_1_14, hl_r102_1_15, hl_r102_1_16, hl_r102_1_17, hl_r102_1_18, hl_r102_1_19, hl_r102_1_20, hl_r102_1_21, hl_r102_1_22, hl_r102_1_23, hl_r102_1_24, hl_r102_1_25, hl_r102_1_26, hl_r102_1_27, hl_r102_1_28, hl_r102_1_29, hl_r102_1_30, hl_r102_1_31, hl_r102_1_32, hl_r102_1_d, hl_r102_148, hl_r102_149, hl_r102_150, hl_r102_151, hl_r102_152, hl_r102_153, hl_r102_154, hl_r102_155, hl_r102_156, hl_r102_157, hl_r102_158, hl_r102_159, hl_r102_160, hl_r102_163, hl_r102_164, hl_r102_167, hl_r102_168, hl_r102_169, hl_r102_170, hl_r102_171, hl_r102_174, hl_r102_175, hl_r102_178, hl_r102_179, hl_r102_180, hl_r102_181, hl_r102_182, hl_r102_185, hl_r102_186, hl_r102_189, hl_r102_190, hl_r102_191, hl_r102_192, hl_r102_193, hl_r102_196, hl_r102_197, hl_r102_200, hl_r102_201, hl_r102_202, hl_r102_203, hl_r102_204, hl_r102_207, hl_r102_208, hl_r102_211, hl_r102_212, hl_r102_213, hl_r102_214, hl_r102_215, hl_r102_218, hl_r102_219, hl_r102_222, hl_r102_223, hl_r102_224, hl_r102_225, hl_r102_226, hl_r102_227, hl_r102_228, hl_r102_229, hl_r102_230, hl_r102_231, hl_r102_232, hl_r102_233, hl_r102_234, hl_r102_235, hl_r102_236, hl_r102_237, hl_r102_238, hl_r102_239, hl_r102_240, hl_r102_241, hl_r102_242, hl_r102_243, hl_r102_246, hl_r102_247, hl_r102_250, hl_r102_251, hl_r102_252, hl_r102_253, hl_r102_254, h, n0, n1, n2, n3, n4, hl_kill_i, hl_kill_r, hl_kill_n, hl_kill_l, hl_tl_s, hl_tl_n, hl_cal_some, hl_gI, hl_gJ, hl_gsI, hl_gsJ, hl_tv01, if_true, if_false, hl_up_a, hl_row_a]
    · simp only [hl_r102_0, hl_r102_1_0, hl_r102_1_1, hl_r102_1_2, hl_r102_1_3, hl_r102_1_4, hl_r102_1_5, hl_r102_1_6, hl_r102_1_7, hl_r102_1_8, hl_r102_1_9, hl_r102_1_10, hl_r102_1_11, hl_r102_1_12, hl_r102_1_13, hl_r102_1_14, hl_r102_1_15, hl_r102_1_16, hl_r102_1_17, hl_r102_1_18, hl_r102_1_19, hl_r102_1_20, hl_r102_1_21, hl_r102_1_22, hl_r102_1_23, hl_r102_1_24, hl_r102_1_25, hl_r102_1_26, hl_r102_1_27, hl_r102_1_28, hl_r102_1_29, hl_r102_1_30, hl_r102_1_31, hl_r102_1_32, hl_r102_1_d, hl_r102_148, hl_r102_149, hl_r102_150, hl_r102_151, hl_r102_152, hl_r102_153, hl_r102_154, hl_r102_155, hl_r102_156, hl_r102_157, hl_r102_158, hl_r102_159, hl_r102_160, hl_r102_163, hl_r102_164, hl_r102_167, hl_r102_168, hl_r102_169, hl_r102_170, hl_r102_171, hl_r102_174, hl_r102_175, hl_r102_178, hl_r102_179, hl_r102_180, hl_r102_181, hl_r102_182, hl_r102_185, hl_r102_186, hl_r102_189, hl_r102_190, hl_r102_191, hl_r102_192, hl_r102_193, hl_r102_196, hl_r102_197, hl_r102_200, hl_r102_201, hl_r102_202, hl_r102_203, hl_r102_204, hl_r102_207, hl_r102_208, hl_r102_211, hl_r102_212, hl_r102_213, hl_r102_214, hl_r102_215, hl_r102_218, hl_r102_219, hl_r102_222, hl_r102_223, hl_r102_224, hl_r102_225, hl_r102_226, hl_r102_227, hl_r102_228, hl_r102_229, hl_r102_230, hl_r102_231, hl_r102_232, hl_r102_233, hl_r102_234, hl_r102_235, hl_r102_236, hl_r102_237, hl_r102_238, hl_r102_239, hl_r102_240, hl_r102_241, hl_r102_242, hl_r102_243, hl_r102_246, hl_r102_247, hl_r102_250, hl_r102_251, hl_r102_252, hl_r102_253, hl_r102_254, h, n0, n1, n2, n3, n4, hl_kill_i, hl_kill_r, hl_kill_n, hl_kill_l, hl_tl_s, hl_tl_n, hl_cal_some, hl_gI, hl_gJ, hl_gsI, hl_gsJ, hl_tv01, if_true, if_false, hl_up_a, hl_row_a]
  by_cases n6 : k = 34
  · subst n6; rw [hl_r102_1_22]; simp only [hl_r102_0, hl_r102_1_0, hl_r102_1_1, hl_r102_1_2, hl_r102_1_3, hl_r102_1_4, hl_r102_1_5, hl_r102_1_6, hl_r102_1_7, hl_r102_1_8, hl_r102_1_9, hl_r102_1_10, hl_r102_1_11, hl_r102_1_12, hl_r102_1_13, hl_r102_1_14, hl_r102_1_15, hl_r102_1_16, hl_r102_1_17, hl_r102_1_18, hl_r102_1_19, hl_r102_1_20, hl_r102_1_21, hl_r102_1_22, hl_r102_1_23, hl_r102_1_24, hl_r102_1_25, hl_r102_1_26, hl_r102_1_27, hl_r102_1_28, hl_r102_1_29, hl_r102_1_30, hl_r102_1_31, hl_r102_1_32, hl_r102_1_d, hl_r102_148, hl_r102_149, hl_r102_150, hl_r102_151, hl_r102_152, hl_r102_153, hl_r102_154, hl_r102_155, hl_r102_156, hl_r102_157, hl_r102_158, hl_r102_159, hl_r102_160, hl_r102_163, hl_r102_164, hl_r102_167, hl_r102_168, hl_r102_169, hl_r102_170, hl_r102_171, hl_r102_174, hl_r102_175, hl_r102_178, hl_r102_179, hl_r102_180, hl_r102_181, hl_r102_182, hl_r102_185, hl_r102_186, hl_r102_189, hl_r102_190, hl_r102_191, hl_r102_192, hl_r102_193, hl_r102_196, hl_r102_197, hl_r102_200, hl_r102_201, hl_r102_202, hl_r102_203, hl_r102_204, hl_r102_207, hl_r102_208, hl_r102_211, hl_r102_212, hl_r102_213, hl_r102_214, hl_r102_215, hl_r102_218, hl_r102_219, hl_r102_222, hl_r102_223, hl_r102_224, hl_r102_225, hl_r102_226, hl_r102_227, hl_r102_228, hl_r102_229, hl_r102_230, hl_r102_231, hl_r102_232, hl_r102_233, hl_r102_234, hl_r102_235, hl_r102_236, hl_r102_237, hl_r102_238, hl_r102_239, hl_r102_240, hl_r102_241, hl_r102_242, hl_r102_243, hl_r102_246, hl_r102_247, hl_r102_250, hl_r102_251, hl_r102_252, hl_r102_253, hl_r102_254, n0, n1, n2, n3, n4, n5, hl_kill_i, hl_kill_r, hl_kill_n, hl_kill_l, hl_tl_s, hl_tl_n, hl_cal_some, hl_gI, hl_gJ, hl_gsI, hl_gsJ, hl_tv01, if_true, if_false, hl_up_a, hl_row_a]
  by_cases n7 : k = 35
  · subst n7; rw [hl_r102_1_23]; simp only [hl_r102_0, hl_r102_1_0, hl_r102_1_1, hl_r102_1_2, hl_r102_1_3, hl_r102_1_4, hl_r102_1_5, hl_r102_1_6, hl_r102_1_7, hl_r102_1_8, hl_r102_1_9, hl_r102_1_10, hl_r102_1_11, hl_r102_1_12, hl_r102_1_13, hl_r102_1_14, hl_r102_1_15, hl_r102_1_16, hl_r102_1_17, hl_r102_1_18, hl_r102_1_19, hl_r102_1_20, hl_r102_1_21, hl_r102_1_22, hl_r102_1_23, hl_r102_1_24, hl_r102_1_25, hl_r102_1_26, hl_r102_1_27, hl_r102_1_28, hl_r102_1_29, hl_r102_1_30, hl_r102_1_31, hl_r102_1_32, hl_r102_1_d, hl_r102_148, hl_r102_149, hl_r102_150, hl_r102_151, hl_r102_152, hl_r102_153, hl_r102_154, hl_r102_155, hl_r102_156, hl_r102_157, hl_r102_158, hl_r102_159, hl_r102_160, hl_r102_163, hl_r102_164, hl_r102_167, hl_r102_168, hl_r102_169, hl_r102_170, hl_r102_171, hl_r102_174, hl_r102_175, hl_r102_178, hl_r102_179, hl_r102_180, hl_r102_181, hl_r102_182, hl_r102_185, hl_r102_186, hl_r102_189, hl_r102_190, hl_r102_191, hl_r102_192, hl_r102_193, hl_r102_196, hl_r102_197, hl_r102_200, hl_r102_201, hl_r102_202, hl_r102_203, hl_r102_204, hl_r102_207, hl_r102_208, hl_r102_211, hl_r102_212, hl_r102_213, hl_r102_214, hl_r102_215, hl_r102_218, hl_r102_219, hl_r102_222, hl_r102_223, hl_r102_224, hl_r102_225, hl_r102_226, hl_r102_227, hl_r102_228, hl_r102_229, hl_r102_230, hl_r102_231, hl_r102_232, hl_r102_233, hl_r102_234, hl_r102_235, hl_r102_236, hl_r102_237, hl_r102_238, hl_r102_239, hl_r102_240, hl_r102_241, hl_r102_242, hl_r102_243, hl_r102_246, hl_r102_247, hl_r102_250, hl_r102_251, hl_r102_252, hl_r102_253, hl_r102_254, n0, n1, n2, n3, n4, n5, n6, hl_kill_i, hl_kill_r, hl_kill_n, hl_kill_l, hl_tl_s, hl_tl_n, hl_cal_some, hl_gI, hl_gJ, hl_gsI, hl_gsJ, hl_tv01, if_true, if_false, hl_up_a, hl_row_a]
  by_cases n8 : k = 36
  · subst n8; rw [hl_r102_1_24]; simp only [hl_r102_0, hl_r102_1_0, hl_r102_1_1, hl_r102_1_2, hl_r102_1_3, hl_r102_1_4, hl_r102_1_5, hl_r102_1_6, hl_r102_1_7, hl_r102_1_8, hl_r102_1_9, hl_r102_1_10, hl_r102_1_11, hl_r102_1_12, hl_r102_1_13, hl_r102_1_14, hl_r102_1_15, hl_r102_1_16, hl_r102_1_17, hl_r102_1_18, hl_r102_1_19, hl_r102_1_20, hl_r102_1_21, hl_r102_1_22, hl_r102_1_23, hl_r102_1_24, hl_r102_1_25, hl_r102_1_26, hl_r102_1_27, hl_r102_1_28, hl_r102_1_29, hl_r102_1_30, hl_r102_1_31, hl_r102_1_32, hl_r102_1_d, hl_r102_148, hl_r102_149, hl_r102_150, hl_r102_151, hl_r102_152, hl_r102_153, hl_r102_154, hl_r102_155, hl_r102_156, hl_r102_157, hl_r102_158, hl_r102_159, hl_r102_160, hl_r102_163, hl_r102_164, hl_r102_167, hl_r102_168, hl_r102_169, hl_r102_170, hl_r102_171, hl_r102_174, hl_r102_175, hl_r102_178, hl_r102_179, hl_r102_180, hl_r102_181, hl_r102_182, hl_r102_185, hl_r102_186, hl_r102_189, hl_r102_190, hl_r102_191, hl_r102_192, hl_r102_193, hl_r102_196, hl_r102_197, hl_r102_200, hl_r102_201, hl_r102_202, hl_r102_203, hl_r102_204, hl_r102_207, hl_r102_208, hl_r102_211, hl_r102_212, hl_r102_213, hl_r102_214, hl_r102_215, hl_r102_218, hl_r102_219, hl_r102_222, hl_r102_223, hl_r102_224, hl_r102_225, hl_r102_226, hl_r102_227, hl_r102_228, hl_r102_229, hl_r102_230, hl_r102_231, hl_r102_232, hl_r102_233, hl_r102_234, hl_r102_235, hl_r102_236, hl_r102_237, hl_r102_238, hl_r102_239, hl_r102_240, hl_r102_241, hl_r102_242, hl_r102_243, hl_r102_246, hl_r102_247, hl_r102_250, hl_r102_251, hl_r102_252, hl_r102_253, hl_r102_254, n0, n1, n2, n3, n4, n5, n6, n7, hl_kill_i, hl_kill_r, hl_kill_n, hl_kill_l, hl_tl_s, hl_tl_n, hl_cal_some, hl_gI, hl_gJ, hl_gsI, hl_gsJ, hl_tv01, if_true, if_false, hl_up_a, hl_row_a]
  by_cases n9 : k = 43
  · subst n9; rw [hl_r102_1_31]
    by_cases h : l ≤ r
    · simp only [hl_r102_0, hl_r102_1_0, hl_r102_1_1, hl_r102_1_2, hl_r102_1_3, hl_r102_1_4, hl_r102_1_5, hl_r102_1_6, hl_r102_1_7, hl_r102_1_8, hl_r102_1_9, hl_r102_1_10, hl_r102_1_11, hl_r102_1_12, hl_r102_1_13, hl_r102_1_14, hl_r102_1_15, hl_r102_1_16, hl_r102_1_17, hl_r102_1_18, hl_r102_1_19, hl_r102_1_20, hl_r102_1_21, hl_r102_1_22, hl_r102_1_23, hl_r102_1_24, hl_r102_1_25, hl_r102_1_26, hl_r102_1_27, hl_r102_1_28, hl_r102_1_29, hl_r102_1_30, hl_r102_1_31, hl_r102_1_32, hl_r102_1_d, hl_r102_148, hl_r102_149, hl_r102_150, hl_r102_151, hl_r102_152, hl_r102_153, hl_r102_154, hl_r102_155, hl_r102_156, hl_r102_157, hl_r102_158, hl_r102_159, hl_r102_160, hl_r102_163, hl_r102_164, hl_r102_167, hl_r102_168, hl_r102_169, hl_r102_170, hl_r102_171, hl_r102_174, hl_r102_175, hl_r102_178, hl_r102_179, hl_r102_180, hl_r102_181, hl_r102_182, hl_r102_185, hl_r102_186, hl_r102_189, hl_r102_190, hl_r102_191, hl_r102_192, hl_r102_193, hl_r102_196, hl_r102_197, hl_r102_200, hl_r102_201, hl_r102_202, hl_r102_203, hl_r102_204, hl_r102_207, hl_r102_208, hl_r102_211, hl_r102_212, hl_r102_213, hl_r102_214, hl_r102_215, hl_r102_218, hl_r102_219, hl_r102_222, hl_r102_223, hl_r102_224, hl_r102_225, hl_r102_226, hl_r102_227, hl_r102_228, hl_r102_229, hl_r102_230, hl_r102_231, hl_r102_232, hl_r102_233, hl_r102_234, hl_r102_235, hl_r102_236, hl_r102_237, hl_r102_238, hl_r102_239, hl_r102_240, hl_r102_241, hl_r102_242, hl_r102_243, hl_r102_246, hl_r102_247, hl_r102_250, hl_r102_251, hl_r102_252, hl_r102_253, hl_r102_254, h, Int32.not_lt.mpr h, n0, n1, n2, n3, n4, n5, n6, n7, n8, hl_kill_i, hl_kill_r, hl_kill_n, hl_kill_l, hl_tl_s, hl_tl_n, hl_cal_some, hl_gI, hl_gJ, hl_gsI, hl_gsJ, hl_tv01, if_true, if_false, hl_up_a, hl_row_a]
    · simp only [hl_r102_0, hl_r102_1_0, hl_r102_1_1, hl_r102_1_2, hl_r102_1_3, hl_r102_1_4, hl_r102_1_5, hl_r102_1_6, hl_r102_1_7, hl_r102_1_8, hl_r102_1_9, hl_r102_1_10, hl_r102_1_11, hl_r102_1_12, hl_r102_1_13, hl_r102_1_14, hl_r102_1_15, hl_r102_1_16, hl_r102_1_17, hl_r102_1_18, hl_r102_1_19, hl_r102_1_20, hl_r102_1_21, hl_r102_1_22, hl_r102_1_23, hl_r102_1_24, hl_r102_1_25, hl_r102_1_26, hl_r102_1_27, hl_r102_1_28, hl_r102_1_29, hl_r102_1_30, hl_r102_1_31, hl_r102_1_32, hl_r102_1_d, hl_r102_148, hl_r102_149, hl_r102_150, hl_r102_151, hl_r102_152, hl_r102_153, hl_r102_154, hl_r102_155, hl_r102_156, hl_r102_157, hl_r102_158, hl_r102_159, hl_r102_160, hl_r102_163, hl_r102_164, hl_r102_167, hl_r102_168, hl_r102_169, hl_r102_170, hl_r102_171, hl_r102_174, hl_r102_175, hl_r102_178, hl_r102_179, hl_r102_180, hl_r102_181, hl_r102_182, hl_r102_185, hl_r102_186, hl_r102_189, hl_r102_190, hl_r102_191, hl_r102_192, hl_r102_193, hl_r102_196, hl_r102_197, hl_r102_200, hl_r102_201, hl_r102_202, hl_r102_203, hl_r102_204, hl_r102_207, hl_r102_208, hl_r102_211, hl_r102_212, hl_r102_213, hl_r102_214, hl_r102_215, hl_r102_218, hl_r102_219, hl_r102_222, hl_r102_223, hl_r102_224, hl_r102_225, hl_r102_226, hl_r102_227, hl_r102_228, hl_r102_229, hl_r102_230, hl_r102_231, hl_r102_232, hl_r102_233, hl_r102_234, hl_r102_235, hl_r102_236, hl_r102_237, hl_r102_238, hl_r102_239, hl_r102_240, hl_r102_241, hl_r102_242, hl_r102_243, hl_r102_246, hl_r102_247, hl_r102_250, hl_r102_251, hl_r102_252, hl_r102_253, hl_r102_254, h, Int32.not_le.mp h, n0, n1, n2, n3, n4, n5, n6, n7, n8, hl_kill_i, hl_kill_r, hl_kill_n, hl_kill_l, hl_tl_s, hl_tl_n, hl_cal_some, hl_gI, hl_gJ, hl_gsI, hl_gsJ, hl_tv01, if_true, if_false, hl_up_a, hl_row_a]
  by_cases na : k = 44
  · subst na; rw [hl_r102_1_32]
    by_cases h : r ≤ l
    · simp only [hl_r102_0, hl_r102_1_0, hl_r102_1_1, hl_r102_1_2, hl_r102_1_3, hl_r102_1_4, hl_r102_1_5, hl_r102_1_6, hl_r102_1_7, hl_r102_1_8, hl_r102_1_9, hl_r102_1_10, hl_r102_1_11, hl_r102_1_12, hl_r102_1_13, hl_r102_1_14, hl_r102_1_15, hl_r102_1_16, hl_r102_1_17, hl_r102_1_18, hl_r102_1_19, hl_r102_1_20, hl_r102_1_21, hl_r102_1_22, hl_r102_1_23, hl_r102_1_24, hl_r102_1_25, hl_r102_1_26, hl_r102_1_27, hl_r102_1_28, hl_r102_1_29, hl_r102_1_30, hl_r102_1_31, hl_r102_1_32, hl_r102_1_d, hl_r102_148, hl_r102_149, hl_r102_150, hl_r102_151, hl_r102_152, hl_r102_153, hl_r102_154, hl_r102_155, hl_r102_156, hl_r102_157, hl_r102_158, hl_r102_159, hl_r102_160, hl_r102_163, hl_r102_164, hl_r102_167, hl_r102_168, hl_r102_169, hl_r102_170, hl_r102_171, hl_r102_174, hl_r102_175, hl_r102_178, hl_r102_179, hl_r102_180, hl_r102_181, hl_r102_182, hl_r102_185, hl_r102_186, hl_r102_189, hl_r102_190, hl_r102_191, hl_r102_192, hl_r102_193, hl_r102_196, hl_r102_197, hl_r102_200, hl_r102_201, hl_r102_202, hl_r102_203, hl_r102_204, hl_r102_207, hl_r102_208, hl_r102_211, hl_r102_212, hl_r102_213, hl_r102_214, hl_r102_215, hl_r102_218, hl_r102_219, hl_r102_222, hl_r102_223, hl_r102_224, hl_r102_225, hl_r102_226, hl_r102_227, hl_r102_228, hl_r102_229, hl_r102_230, hl_r102_231, hl_r102_232, hl_r102_233, hl_r102_234, hl_r102_235, hl_r102_236, hl_r102_237, hl_r102_238, hl_r102_239, hl_r102_240, hl_r102_241, hl_r102_242, hl_r102_243, hl_r102_246, hl_r102_247, hl_r102_250, hl_r102_251, hl_r102_252, hl_r102_253, hl_r102_254, h, Int32.not_lt.mpr h, n0, n1, n2, n3, n4, n5, n6, n7, n8, n9, hl_kill_i, hl_kill_r, hl_kill_n, hl_kill_l, hl_tl_s, hl_tl_n, hl_cal_some, hl_gI, hl_gJ, hl_gsI, hl_gsJ, hl_tv01, if_true, if_false, hl_up_a, hl_row_a]
    · simp only [hl_r102_0, hl_r102_1_0, hl_r102_1_1, hl_r102_1_2, hl_r102_1_3, hl_r102_1_4, hl_r102_1_5, hl_r102_1_6, hl_r102_1_7, hl_r102_1_8, hl_r102_1_9, hl_r102_1_10, hl_r102_1_11, hl_r102_1_12, hl_r102_1_13, hl_r102_1_14, hl_r102_1_15, hl_r102_1_16, hl_r102_1_17, hl_r102_1_18, hl_r102_1_19, hl_r102_1_20, hl_r102_1_21, hl_r102_1_22, hl_r102_1_23, hl_r102_1_24, hl_r102_1_25, hl_r102_1_26, hl_r102_1_27, hl_r102_1_28, hl_r102_1_29, hl_r102_1_30, hl_r102_1_31, hl_r102_1_32, hl_r102_1_d, hl_r102_148, hl_r102_149, hl_r102_150, hl_r102_151, hl_r102_152, hl_r102_153, hl_r102_154, hl_r102_155, hl_r102_156, hl_r102_157, hl_r102_158, hl_r102_159, hl_r102_160, hl_r102_163, hl_r102_164, hl_r102_167, hl_r102_168, hl_r102_169, hl_r102_170, hl_r102_171, hl_r102_174, hl_r102_175, hl_r102_178, hl_r102_179, hl_r102_180, hl_r102_181, hl_r102_182, hl_r102_185, hl_r102_186, hl_r102_189, hl_r102_190, hl_r102_191, hl_r102_192, hl_r102_193, hl_r102_196, hl_r102_197, hl_r102_200, hl_r102_201, hl_r102_202, hl_r102_203, hl_r102_204, hl_r102_207, hl_r102_208, hl_r102_211, hl_r102_212, hl_r102_213, hl_r102_214, hl_r102_215, hl_r102_218, hl_r102_219, hl_r102_222, hl_r102_223, hl_r102_224, hl_r102_225, hl_r102_226, hl_r102_227, hl_r102_228, hl_r102_229, hl_r102_230, hl_r102_231, hl_r102_232, hl_r102_233, hl_r102_234, hl_r102_235, hl_r102_236, hl_r102_237, hl_r102_238, hl_r102_239, hl_r102_240, hl_r102_241, hl_r102_242, hl_r102_243, hl_r102_246, hl_r102_247, hl_r102_250, hl_r102_251, hl_r102_252, hl_r102_253, hl_r102_254, h, Int32.not_le.mp h, n0, n1, n2, n3, n4, n5, n6, n7, n8, n9, hl_kill_i, hl_kill_r, hl_kill_n, hl_kill_l, hl_tl_s, hl_tl_n, hl_cal_some, hl_gI, hl_gJ, hl_gsI, hl_gsJ, hl_tv01, if_true, if_false, hl_up_a, hl_row_a]
  rw [hl_sw102 n0 n1 n2 n3 n4 n5 n6 n7 n8 n9 na]
  by_cases h : r = 0
  · simp only [hl_r102_0, hl_r102_1_0, hl_r102_1_1, hl_r102_1_2, hl_r102_1_3, hl_r102_1_4, hl_r102_1_5, hl_r102_1_6, hl_r102_1_7, hl_r102_1_8, hl_r102_1_9, hl_r102_1_10, hl_r102_1_11, hl_r102_1_12, hl_r102_1_13, hl_r102_1_14, hl_r102_1_15, hl_r102_1_16, hl_r102_1_17, hl_r102_1_18, hl_r102_1_19, hl_r102_1_20, hl_r102_1_21, hl_r102_1_22, hl_r102_1_23, hl_r102_1_24, hl_r102_1_25, hl_r102_1_26, hl_r102_1_27, hl_r102_1_28, hl_r102_1_29, hl_r102_1_30, hl_r102_1_31, hl_r102_1_32, hl_r102_1_d, hl_r102_148, hl_r102_149, hl_r102_150, hl_r102_151, hl_r102_152, hl_r102_153, hl_r102_154, hl_r102_155, hl_r102_156, hl_r102_157, hl_r102_158, hl_r102_159, hl_r102_160, hl_r102_163, hl_r102_164, hl_r102_167, hl_r102_168, hl_r102_169, hl_r102_170, hl_r102_171, hl_r102_174, hl_r102_175, hl_r102_178, hl_r102_179, hl_r102_180, hl_r102_181, hl_r102_182, hl_r102_185, hl_r102_186, hl_r102_189, hl_r102_190, hl_r102_191, hl_r102_192, hl_r102_193, hl_r102_196, hl_r102_197, hl_r102_200, hl_r102_201, hl_r102_202, hl_r102_203, hl_r102_204, hl_r102_207, hl_r102_208, hl_r102_211, hl_r102_212, hl_r102_213, hl_r102_214, hl_r102_215, hl_r102_218, hl_r102_219, hl_r102_222, hl_r102_223, hl_r102_224, hl_r102_225, hl_r102_226, hl_r102_227, hl_r102_228, hl_r102_229, hl_r102_230, hl_r102_231, hl_r102_232, hl_r102_233, hl_r102_234, hl_r102_235, hl_r102_236, hl_r102_237, hl_r102_238, hl_r102_239, hl_r102_240, hl_r102_241, hl_r102_242, hl_r102_243, hl_r102_246, hl_r102_247, hl_r102_250, hl_r102_251, hl_r102_252, hl_r102_253, hl_r102_254, h, not_true, n0, n1, n2, n3, n4, n5, n6, n7, n8, n9, na, hl_kill_i, hl_kill_r, hl_kill_n, hl_kill_l, hl_tl_s, hl_tl_n, hl_cal_some, hl_gI, hl_gJ, hl_gsI, hl_gsJ, hl_tv01, if_true, if_false, hl_up_a, hl_row_a]
  · simp only [hl_r102_0, hl_r102_1_0, hl_r102_1_1, hl_r102_1_2, hl_r102_1_3, hl_r102_1_4, hl_r102_1_5, hl_r102_1_6, hl_r102_1_7, hl_r102_1_8, hl_r102_1_9, hl_r102_1_10, hl_r102_1_11, hl_r102_1_12, hl_r102_1_13, hl_r102_1_14, hl_r102_1_15, hl_r102_1_16, hl_r102_1_17, hl_r102_1_18, hl_r102_1_19, hl_r102_1_20, hl_r102_1_21, hl_r102_1_22, hl_r102_1_23, hl_r102_1_24, hl_r102_1_25, hl_r102_1_26, hl_r102_1_27, hl_r102_1_28, hl_r102_1_29, hl_r102_1_30, hl_r102_1_31, hl_r102_1_32, hl_r102_1_d, hl_r102_148, hl_r102_149, hl_r102_150, hl_r102_151, hl_r102_152, hl_r102_153, hl_r102_154, hl_r102_155, hl_r102_156, hl_r102_157, hl_r102_158, hl_r102_159, hl_r102_160, hl_r102_163, hl_r102_164, hl_r102_167, hl_r102_168, hl_r102_169, hl_r102_170, hl_r102_171, hl_r102_174, hl_r102_175, hl_r102_178, hl_r102_179, hl_r102_180, hl_r102_181, hl_r102_182, hl_r102_185, hl_r102_186, hl_r102_189, hl_r102_190, hl_r102_191, hl_r102_192, hl_r102_193, hl_r102_196, hl_r102_197, hl_r102_200, hl_r102_201, hl_r102_202, hl_r102_203, hl_r102_204, hl_r102_207, hl_r102_208, hl_r102_211, hl_r102_212, hl_r102_213, hl_r102_214, hl_r102_215, hl_r102_218, hl_r102_219, hl_r102_222, hl_r102_223, hl_r102_224, hl_r102_225, hl_r102_226, hl_r102_227, hl_r102_228, hl_r102_229, hl_r102_230, hl_r102_231, hl_r102_232, hl_r102_233, hl_r102_234, hl_r102_235, hl_r102_236, hl_r102_237, hl_r102_238, hl_r102_239, hl_r102_240, hl_r102_241, hl_r102_242, hl_r102_243, hl_r102_246, hl_r102_247, hl_r102_250, hl_r102_251, hl_r102_252, hl_r102_253, hl_r102_254, h, not_false_eq_true, n0, n1, n2, n3, n4, n5, n6, n7, n8, n9, na, hl_kill_i, hl_kill_r, hl_kill_n, hl_kill_l, hl_tl_s, hl_tl_n, hl_cal_some, hl_gI, hl_gJ, hl_gsI, hl_gsJ, hl_tv01, if_true, if_false, hl_up_a, hl_row_a]
theorem hl_s100 {K : List Int32} {v : Int32} (h : hl_SK I K) : ∃ I', hl_call (d + 1) 100 [.ref 60, .int v] (hl_g N I J) = some (none, hl_g N I' J) ∧ hl_SK I' (hl_psh v K) ∧ hl_f6 I I' ∧ I' 61 = I 61 := by
  obtain ⟨h1, h2, h3⟩ := h
  by_cases hl : K.length < 64
  · refine ⟨hl_up (hl_up I 62 K.length v) 60 4 (nI (K.length + 1)), ?_, ⟨?_, ?_, ?_⟩, hl_f6_tr (hl_f6_up (by omega)) (hl_f6_up (by omega)), rfl⟩
    · rw [hl_e100]
      have b : hl_inb (nI K.length) 64 = true := hl_inb_nI hl (by decide)
      have l64 : ¬ 64 ≤ nI K.length := nI_ge hl (by decide)
      have e : nI K.length + 1 = nI (K.length + 1) := (nI_succ _).symm
      simp only [hl_r100_0, hl_r100_1, hl_r100_4, hl_r100_6, hl_r100_9, hl_r100_10, hl_r100_13, hl_r100_14, hl_r100_17, hl_r100_18, hl_r100_19, hl_r100_20, hl_r100_21, hl_r100_24, hl_r100_25, hl_r100_26, hl_r100_29, hl_o_60, hl_p_60_0, hl_p_60_1, hl_p_60_2, hl_p_60_3, hl_a_62, hl_z_62, h1, b, l64, e, nIc (show K.length < 2 ^ 31 by omega), Nat.reduceEqDiff, hl_kill_i, hl_kill_r, hl_kill_n, hl_kill_l, hl_tl_s, hl_tl_n, hl_cal_some, hl_gI, hl_gJ, hl_gsI, hl_gsJ, hl_tv01, if_true, if_false, hl_up_a, hl_row_a]
    · unfold hl_psh; rw [if_pos hl]; rfl
    · unfold hl_psh; rw [if_pos hl]; exact hl
    · unfold hl_psh
      rw [if_pos hl]
      intro i u hu
      rw [List.reverse_cons, List.getElem?_append] at hu
      show (if (62 : Nat) = 60 then _ else hl_up I 62 K.length v 62 i) = u
      rw [if_neg (by decide), hl_up_a, if_pos rfl]
      simp only [List.length_reverse] at hu
      by_cases hi : i < K.length
      · rw [if_pos hi] at hu
        rw [if_neg (by omega)]
        exact h3 i u hu
      · rw [if_neg hi] at hu
        have : i - K.length < 1 := (List.getElem?_eq_some_iff.mp hu).1
        have hi' : i = K.length := by omega
        subst hi'
        rw [if_pos rfl]
        rw [Nat.sub_self] at hu
        simpa using hu
  · refine ⟨I, ?_, ?_, hl_f6_rf I, rfl⟩
    · rw [hl_e100]
      have l64 : 64 ≤ nI K.length := nI_le (a := 64) (by omega) (by omega)
      simp only [hl_r100_0, hl_r100_1, hl_r100_4, hl_r100_6, hl_r100_9, hl_r100_10, hl_r100_13, hl_r100_14, hl_r100_17, hl_r100_18, hl_r100_19, hl_r100_20, hl_r100_21, hl_r100_24, hl_r100_25, hl_r100_26, hl_r100_29, hl_o_60, hl_p_60_0, hl_p_60_1, hl_p_60_2, hl_p_60_3, h1, l64, hl_kill_i, hl_kill_r, hl_kill_n, hl_kill_l, hl_tl_s, hl_tl_n, hl_cal_some, hl_gI, hl_gJ, hl_gsI, hl_gsJ, hl_tv01, if_true, if_false, hl_up_a, hl_row_a]
    · unfold hl_psh
      rw [if_neg hl]
      exact ⟨h1, h2, h3⟩
theorem hl_s101 {K : List Int32} (h : hl_SK I K) : ∃ I', hl_call (d + 1) 101 [.ref 60] (hl_g N I J) = some (some (.int (K.headD 0)), hl_g N I' J) ∧ hl_SK I' K.tail ∧ hl_f6 I I' ∧ I' 61 = I 61 := by
  obtain ⟨h1, h2, h3⟩ := h
  cases K with
  | nil =>
    refine ⟨I, ?_, ⟨h1, h2, h3⟩, hl_f6_rf I, rfl⟩
    rw [hl_e101]
    have z : ¬ (0 : Int32) < nI 0 := by decide
    simp only [hl_r101_0, hl_r101_1, hl_r101_4, hl_r101_7, hl_r101_8, hl_r101_9, hl_r101_10, hl_r101_11, hl_r101_14, hl_r101_15, hl_r101_16, hl_r101_19, hl_r101_20, hl_r101_23, hl_r101_24, hl_r101_27, hl_r101_28, hl_o_60, hl_p_60_0, hl_p_60_1, hl_p_60_2, hl_p_60_3, h1, List.length_nil, z, List.headD_nil, hl_kill_i, hl_kill_r, hl_kill_n, hl_kill_l, hl_tl_s, hl_tl_n, hl_cal_some, hl_gI, hl_gJ, hl_gsI, hl_gsJ, hl_tv01, if_true, if_false, hl_up_a, hl_row_a]
  | cons v K =>
    have hl : K.length < 64 := h2
    have hl' : K.length ≤ 64 := Nat.le_of_lt hl
    refine ⟨hl_up I 60 4 (nI K.length), ?_, ⟨rfl, hl', ?_⟩, hl_f6_up (by omega), rfl⟩
    · rw [hl_e101]
      have p : (0 : Int32) < nI (K.length + 1) := nI_lt (a := 0) (by omega) (by omega)
      have e : nI (K.length + 1) - 1 = nI K.length := nI_pred _
      have b : hl_inb (nI K.length) 64 = true := hl_inb_nI hl (by decide)
      have t : I 62 K.length = v := h3 K.length v (by simp)
      simp only [hl_r101_0, hl_r101_1, hl_r101_4, hl_r101_7, hl_r101_8, hl_r101_9, hl_r101_10, hl_r101_11, hl_r101_14, hl_r101_15, hl_r101_16, hl_r101_19, hl_r101_20, hl_r101_23, hl_r101_24, hl_r101_27, hl_r101_28, hl_o_60, hl_p_60_0, hl_p_60_1, hl_p_60_2, hl_p_60_3, hl_a_62, hl_z_62, h1, List.length_cons, p, e, b, t, List.headD_cons, nIc (show K.length < 2 ^ 31 by omega), Nat.reduceEqDiff, hl_kill_i, hl_kill_r, hl_kill_n, hl_kill_l, hl_tl_s, hl_tl_n, hl_cal_some, hl_gI, hl_gJ, hl_gsI, hl_gsJ, hl_tv01, if_true, if_false, hl_up_a, hl_row_a]
    · intro i u hu
      show I 62 i = u
      refine h3 i u ?_
      rw [List.reverse_cons, List.getElem?_append_left]
      · exact hu
      · exact (List.getElem?_eq_some_iff.mp hu).1
/-- the four texts: object t, its rows -/
def hl_tid (T : Nat) : Nat := 44 + 4 * T
theorem hl_txo {T : Nat} (h : T < 4) : hl_ob (hl_g N I J) (44 + 4 * T) 7 = true ∧ va_rf (hl_P (hl_g N I J) (44 + 4 * T) 0) = .ref (45 + 4 * T) ∧ va_rf (hl_P (hl_g N I J) (44 + 4 * T) 1) = .ref (46 + 4 * T) ∧ va_rf (hl_P (hl_g N I J) (44 + 4 * T) 2) = .ref (47 + 4 * T) ∧ hl_ar (hl_g N I J) (45 + 4 * T) 0 = true ∧ (hl_k (hl_g N I J) (45 + 4 * T)).2 = 300 ∧ hl_ar (hl_g N I J) (46 + 4 * T) 0 = true ∧ (hl_k (hl_g N I J) (46 + 4 * T)).2 = 3 ∧ hl_ar (hl_g N I J) (47 + 4 * T) 0 = true ∧ (hl_k (hl_g N I J) (47 + 4 * T)).2 = 3 ∧ va_rf (hl_P (hl_g N I J) 43 T) = .ref (44 + 4 * T) := by
  match T, h with
  | 0, _ => exact ⟨rfl, rfl, rfl, rfl, rfl, rfl, rfl, rfl, rfl, rfl, rfl⟩
  | 1, _ => exact ⟨rfl, rfl, rfl, rfl, rfl, rfl, rfl, rfl, rfl, rfl, rfl⟩
  | 2, _ => exact ⟨rfl, rfl, rfl, rfl, rfl, rfl, rfl, rfl, rfl, rfl, rfl⟩
  | 3, _ => exact ⟨rfl, rfl, rfl, rfl, rfl, rfl, rfl, rfl, rfl, rfl, rfl⟩
  | T + 4, h => omega
theorem hl_s76 {T : Nat} {x : Int32} (hT : T < 4) (hx : hl_inb x 300 = true) : hl_call (d + 1) 76 [.ref (44 + 4 * T), .int x] (hl_g N I J) = some (some (.int (I (45 + 4 * T) x.toNatClampNeg &&& 63)), hl_g N I J) := by
  obtain ⟨o1, p0, p1, p2, a5, z5, -⟩ := hl_txo (N := N) (I := I) (J := J) hT
  rw [hl_e76]
  simp only [hl_r76_0, hl_r76_1, hl_r76_4, hl_r76_5, hl_r76_6, hl_r76_8, hl_r76_9, o1, p0, a5, z5, hx, hl_kill_i, hl_kill_r, hl_kill_n, hl_kill_l, hl_tl_s, hl_tl_n, hl_cal_some, hl_gI, hl_gJ, hl_gsI, hl_gsJ, hl_tv01, if_true, if_false, hl_up_a, hl_row_a]
theorem hl_s77 {T : Nat} {x : Int32} (hT : T < 4) (hx : hl_inb x 300 = true) : hl_call (d + 1) 77 [.ref (44 + 4 * T), .int x] (hl_g N I J) = some (some (.int (I (45 + 4 * T) x.toNatClampNeg >>> (6 &&& 31))), hl_g N I J) := by
  obtain ⟨o1, p0, p1, p2, a5, z5, -⟩ := hl_txo (N := N) (I := I) (J := J) hT
  rw [hl_e77]
  simp only [hl_r77_0, hl_r77_1, hl_r77_4, hl_r77_5, hl_r77_6, hl_r77_8, hl_r77_9, o1, p0, a5, z5, hx, hl_kill_i, hl_kill_r, hl_kill_n, hl_kill_l, hl_tl_s, hl_tl_n, hl_cal_some, hl_gI, hl_gJ, hl_gsI, hl_gsJ, hl_tv01, if_true, if_false, hl_up_a, hl_row_a]
theorem hl_s75 {T : Nat} {x : Int32} (hT : T < 4) (hx : hl_inb x 3 = true) : hl_call (d + 1) 75 [.ref (44 + 4 * T), .int x] (hl_g N I J) = some (some (.int (hl_tv (!decide (I (46 + 4 * T) x.toNatClampNeg = -1)))), hl_g N I J) := by
  obtain ⟨o1, p0, p1, p2, a5, z5, a6, z6, -⟩ := hl_txo (N := N) (I := I) (J := J) hT
  rw [hl_e75]
  by_cases h : I (46 + 4 * T) x.toNatClampNeg = -1
  · simp only [hl_r75_0, hl_r75_1, hl_r75_4, hl_r75_5, hl_r75_6, hl_r75_7, hl_r75_10, hl_r75_11, hl_r75_14, hl_r75_15, o1, p1, a6, z6, hx, h, decide_true, Bool.not_true, hl_tv_f, true_or, hl_kill_i, hl_kill_r, hl_kill_n, hl_kill_l, hl_tl_s, hl_tl_n, hl_cal_some, hl_gI, hl_gJ, hl_gsI, hl_gsJ, hl_tv01, if_true, if_false, hl_up_a, hl_row_a]
  · simp only [hl_r75_0, hl_r75_1, hl_r75_4, hl_r75_5, hl_r75_6, hl_r75_7, hl_r75_10, hl_r75_11, hl_r75_14, hl_r75_15, o1, p1, a6, z6, hx, h, decide_false, Bool.not_false, hl_tv_t, or_true, hl_kill_i, hl_kill_r, hl_kill_n, hl_kill_l, hl_tl_s, hl_tl_n, hl_cal_some, hl_gI, hl_gJ, hl_gsI, hl_gsJ, hl_tv01, if_true, if_false, hl_up_a, hl_row_a]
/-- one step of the worker: where it goes on, with what stack -/
def hl_wst (S nm : Nat → Int32) (p : Int32) (K : List Int32) : Int32 × List Int32 :=
  let k := S p.toNatClampNeg &&& 63
  let v := S p.toNatClampNeg >>> (6 &&& 31)
  if k = 51 then (v, K)
  else if k = 52 then (if K.headD 0 = 0 then (v, K.tail) else (p + 1, K.tail))
  else if k = 20 then (p + 1, hl_psh v K)
  else if hl_in k 3 11 = true then (p + 1, hl_psh (nm (k - 3).toNatClampNeg) K)
  else if k = 50 then (p + 1, hl_psh (-(K.headD 0)) K.tail)
  else if k = 14 then (p + 1, hl_psh (if K.headD 0 = 0 then 1 else 0) K.tail)
  else (p + 1, hl_psh (hl_lim (hl_jn k (K.tail.headD 0) (K.headD 0))) K.tail.tail)
def hl_wk (S nm : Nat → Int32) (bh : Int32) : Nat → Int32 → List Int32 → Int32
  | 0, _, K => K.headD 0
  | f + 1, p, K => if hl_in p 0 (bh - 1) = true then hl_wk S nm bh f (hl_wst S nm p K).1 (hl_wst S nm p K).2 else K.headD 0
theorem hl_wst_go {T : Nat} {b q i : Nat} {K : List Int32} {a l6 l7 l8 : Value} (hT : T < 4) (hq : q < b) (hb : b ≤ 300) (hi : i < 300) (h : hl_SK I K) : ∃ I' m6 m7 m8, hl_Run 99 (hl_call (d + 1)) 11 [.ref 60, .ref (44 + 4 * T), a, .int (nI b), .int (nI q), .int (nI i), l6, l7, l8] [] (hl_g N I J) = hl_Run 99 (hl_call (d + 1)) 11 [.ref 60, .ref (44 + 4 * T), a, .int (nI b), .int (hl_wst (I (45 + 4 * T)) (I 61) (nI q) K).1, .int (nI (i + 1)), m6, m7, m8] [] (hl_g N I' J) ∧ hl_SK I' (hl_wst (I (45 + 4 * T)) (I 61) (nI q) K).2 ∧ hl_f6 I I' ∧ I' 61 = I 61 := by
  have c1 : ¬ (300 : Int32) ≤ nI i := show ¬ nI 300 ≤ nI i from nI_ge hi (by decide)
  have c2 : hl_in (nI q) 0 (nI b - 1) = true := by rw [hl_in_inb (by omega)]; exact hl_inb_nI hq (by omega)
  have bq : hl_inb (nI q) 300 = true := hl_inb_nI (by omega) (by decide)
  have ei : nI i + 1 = nI (i + 1) := (nI_succ i).symm
  have eq : nI q + 1 = nI (q + 1) := (nI_succ q).symm
  obtain ⟨o1, -⟩ := hl_txo (N := N) (I := I) (J := J) hT
  -- to the kind and the value
  generalize hk : I (45 + 4 * T) q &&& 63 = k
  generalize hv : I (45 + 4 * T) q >>> (6 &&& 31) = v
  have hw : hl_wst (I (45 + 4 * T)) (I 61) (nI q) K = (if k = 51 then (v, K)
  else if k = 52 then (if K.headD 0 = 0 then (v, K.tail) else (nI q + 1, K.tail))
  else if k = 20 then (nI q + 1, hl_psh v K)
  else if hl_in k 3 11 = true then (nI q + 1, hl_psh (I 61 (k - 3).toNatClampNeg) K)
  else if k = 50 then (nI q + 1, hl_psh (-(K.headD 0)) K.tail)
  else if k = 14 then (nI q + 1, hl_psh (if K.headD 0 = 0 then 1 else 0) K.tail)
  else (nI q + 1, hl_psh (hl_lim (hl_jn k (K.tail.headD 0) (K.headD 0))) K.tail.tail)) := by
    unfold hl_wst
    rw [nIc (show q < 2 ^ 31 by omega), hk, hv]
  rw [hw]
  have s6 := hl_s76 (d := d) (N := N) (I := I) (J := J) hT bq
  have s7 := hl_s77 (d := d) (N := N) (I := I) (J := J) hT bq
  rw [nIc (show q < 2 ^ 31 by omega)] at s6 s7
  rw [hk] at s6
  rw [hv] at s7
  have start : hl_Run 99 (hl_call (d + 1)) 11 [.ref 60, .ref (44 + 4 * T), a, .int (nI b), .int (nI q), .int (nI i), l6, l7, l8] [] (hl_g N I J) = hl_Run 99 (hl_call (d + 1)) 50 [.ref 60, .ref (44 + 4 * T), a, .int (nI b), .int (nI (q + 1)), .int (nI i), .int k, .int v, l8] [] (hl_g N I J) := by
    rw [hl_r99_11, hl_r99_13, hl_r99_16, if_neg c1]
    simp only [hl_r99_19, hl_r99_21, hl_r99_22, hl_r99_23, hl_r99_24, hl_r99_25, hl_r99_28, hl_r99_31, hl_r99_32, hl_r99_34, hl_r99_37, hl_r99_39, hl_r99_40, hl_r99_42, hl_r99_45, hl_r99_47, hl_s147, c2, s6, s7, o1, eq, hl_tv0, Bool.true_eq_false, hl_kill_i, hl_kill_r, hl_kill_n, hl_kill_l, hl_tl_s, hl_tl_n, hl_cal_some, hl_gI, hl_gJ, hl_gsI, hl_gsJ, hl_tv01, if_true, if_false, hl_up_a, hl_row_a]
  rw [start]
  by_cases k51 : k = 51
  · rw [if_pos k51]
    refine ⟨I, .int k, .int v, l8, ?_, h, hl_f6_rf I, rfl⟩
    simp only [hl_r99_50, hl_r99_52, hl_r99_54, hl_r99_71, hl_r99_73, hl_r99_75, hl_r99_197, hl_r99_200, k51, ei, hl_kill_i, hl_kill_r, hl_kill_n, hl_kill_l, hl_tl_s, hl_tl_n, hl_cal_some, hl_gI, hl_gJ, hl_gsI, hl_gsJ, hl_tv01, if_true, if_false, hl_up_a, hl_row_a]
  rw [if_neg k51]
  by_cases k52 : k = 52
  · rw [if_pos k52]
    subst k52
    obtain ⟨I1, e1, h1, f1, g1⟩ := hl_s101 (d := d) (N := N) (J := J) h
    by_cases hh : K.headD 0 = 0
    · rw [if_pos hh]
      refine ⟨I1, .int 52, .int v, l8, ?_, h1, f1, g1⟩
      simp only [hl_r99_50, hl_r99_52, hl_r99_54, hl_r99_57, hl_r99_59, hl_r99_61, hl_r99_64, hl_r99_65, hl_r99_68, hl_r99_71, hl_r99_73, hl_r99_75, hl_r99_197, hl_r99_200, k51, hh, e1, ei, not_true, hl_o_60, hl_p_60_0, hl_p_60_1, hl_p_60_2, hl_p_60_3, hl_kill_i, hl_kill_r, hl_kill_n, hl_kill_l, hl_tl_s, hl_tl_n, hl_cal_some, hl_gI, hl_gJ, hl_gsI, hl_gsJ, hl_tv01, if_true, if_false, hl_up_a, hl_row_a]
    · rw [if_neg hh]
      refine ⟨I1, .int 52, .int v, l8, ?_, h1, f1, g1⟩
      have z20 : ((52 : Int32) = 20) = False := by decide
      have z3 : hl_in (52 : Int32) 3 11 = false := by decide
      have z50 : ((52 : Int32) = 50) = False := by decide
      have z14 : ((52 : Int32) = 14) = False := by decide
      simp only [hl_r99_50, hl_r99_52, hl_r99_54, hl_r99_57, hl_r99_59, hl_r99_61, hl_r99_64, hl_r99_65, hl_r99_68, hl_r99_78, hl_r99_80, hl_r99_82, hl_r99_94, hl_r99_96, hl_r99_97, hl_r99_99, hl_r99_102, hl_r99_121, hl_r99_123, hl_r99_125, hl_r99_140, hl_r99_142, hl_r99_144, hl_r99_166, hl_r99_168, hl_r99_170, hl_r99_197, hl_r99_200, hl_s147, k51, hh, e1, ei, eq, z20, z3, z50, z14, hl_tv0, not_true, not_false_eq_true, hl_o_60, hl_p_60_0, hl_p_60_1, hl_p_60_2, hl_p_60_3, hl_kill_i, hl_kill_r, hl_kill_n, hl_kill_l, hl_tl_s, hl_tl_n, hl_cal_some, hl_gI, hl_gJ, hl_gsI, hl_gsJ, hl_tv01, if_true, if_false, hl_up_a, hl_row_a]
  rw [if_neg k52]
  by_cases k20 : k = 20
  · rw [if_pos k20]
    subst k20
    obtain ⟨I1, e1, h1, f1, g1⟩ := hl_s100 (d := d) (N := N) (J := J) (v := v) h
    refine ⟨I1, .int 20, .int v, l8, ?_, h1, f1, g1⟩
    simp only [hl_r99_50, hl_r99_52, hl_r99_54, hl_r99_57, hl_r99_59, hl_r99_61, hl_r99_78, hl_r99_80, hl_r99_82, hl_r99_85, hl_r99_86, hl_r99_88, hl_r99_91, hl_r99_197, hl_r99_200, k51, k52, e1, ei, eq, not_true, not_false_eq_true, hl_o_60, hl_p_60_0, hl_p_60_1, hl_p_60_2, hl_p_60_3, hl_kill_i, hl_kill_r, hl_kill_n, hl_kill_l, hl_tl_s, hl_tl_n, hl_cal_some, hl_gI, hl_gJ, hl_gsI, hl_gsJ, hl_tv01, if_true, if_false, hl_up_a, hl_row_a]
  rw [if_neg k20]
  by_cases k3 : hl_in k 3 11 = true
  · rw [if_pos k3]
    obtain ⟨I1, e1, h1, f1, g1⟩ := hl_s100 (d := d) (N := N) (J := J) (v := I 61 (k - 3).toNatClampNeg) h
    refine ⟨I1, .int k, .int v, l8, ?_, h1, f1, g1⟩
    have b9 : hl_inb (k - 3) 9 = true := by
      have h9 : hl_inb (k - 3) 9 = hl_in (k - 3) 0 (nI 9 - 1) := (hl_in_inb (by decide)).symm
      rw [h9]
      simp only [hl_in, Bool.and_eq_true, decide_eq_true_eq] at k3 ⊢
      obtain ⟨u1, u2⟩ := k3
      have e3 : (3 : Int32).toInt = 3 := rfl
      have e11 : (11 : Int32).toInt = 11 := rfl
      have u1' := Int32.le_iff_toInt_le.mp u1
      have u2' := Int32.le_iff_toInt_le.mp u2
      have es : (k - 3).toInt = k.toInt - 3 := by
        rw [Int32.toInt_sub, e3, Int.bmod_eq_of_le] <;> omega
      constructor
      · rw [Int32.le_iff_toInt_le, es]; show (0 : Int) ≤ _; omega
      · rw [Int32.le_iff_toInt_le, es]; show _ ≤ (8 : Int); omega
    simp only [hl_r99_50, hl_r99_52, hl_r99_54, hl_r99_57, hl_r99_59, hl_r99_61, hl_r99_78, hl_r99_80, hl_r99_82, hl_r99_94, hl_r99_96, hl_r99_97, hl_r99_99, hl_r99_102, hl_r99_105, hl_r99_106, hl_r99_107, hl_r99_110, hl_r99_112, hl_r99_113, hl_r99_114, hl_r99_115, hl_r99_118, hl_r99_197, hl_r99_200, hl_s147, k51, k52, k20, k3, b9, e1, ei, eq, hl_tv0, Bool.true_eq_false, not_false_eq_true, hl_o_60, hl_p_60_0, hl_p_60_1, hl_p_60_2, hl_p_60_3, hl_a_61, hl_z_61, hl_kill_i, hl_kill_r, hl_kill_n, hl_kill_l, hl_tl_s, hl_tl_n, hl_cal_some, hl_gI, hl_gJ, hl_gsI, hl_gsJ, hl_tv01, if_true, if_false, hl_up_a, hl_row_a]
  rw [if_neg k3]
  have k3' : hl_in k 3 11 = false := by simpa using k3
  by_cases k50 : k = 50
  · rw [if_pos k50]
    subst k50
    obtain ⟨I1, e1, h1, f1, g1⟩ := hl_s101 (d := d) (N := N) (J := J) h
    obtain ⟨I2, e2, h2, f2, g2⟩ := hl_s100 (d := d) (N := N) (J := J) (v := -(K.headD 0)) h1
    refine ⟨I2, .int 50, .int v, l8, ?_, h2, hl_f6_tr f1 f2, g2.trans g1⟩
    simp only [hl_r99_50, hl_r99_52, hl_r99_54, hl_r99_57, hl_r99_59, hl_r99_61, hl_r99_78, hl_r99_80, hl_r99_82, hl_r99_94, hl_r99_96, hl_r99_97, hl_r99_99, hl_r99_102, hl_r99_121, hl_r99_123, hl_r99_125, hl_r99_128, hl_r99_129, hl_r99_130, hl_r99_133, hl_r99_134, hl_r99_137, hl_r99_197, hl_r99_200, hl_s147, k51, k52, k20, k3', e1, e2, ei, eq, hl_tv0, not_true, not_false_eq_true, hl_o_60, hl_p_60_0, hl_p_60_1, hl_p_60_2, hl_p_60_3, hl_kill_i, hl_kill_r, hl_kill_n, hl_kill_l, hl_tl_s, hl_tl_n, hl_cal_some, hl_gI, hl_gJ, hl_gsI, hl_gsJ, hl_tv01, if_true, if_false, hl_up_a, hl_row_a]
  rw [if_neg k50]
  by_cases k14 : k = 14
  · rw [if_pos k14]
    subst k14
    obtain ⟨I1, e1, h1, f1, g1⟩ := hl_s101 (d := d) (N := N) (J := J) h
    obtain ⟨I2, e2, h2, f2, g2⟩ := hl_s100 (d := d) (N := N) (J := J) (v := if K.headD 0 = 0 then 1 else 0) h1
    refine ⟨I2, .int 14, .int v, l8, ?_, h2, hl_f6_tr f1 f2, g2.trans g1⟩
    by_cases hh : K.headD 0 = 0
    · rw [if_pos hh] at e2
      simp only [hl_r99_50, hl_r99_52, hl_r99_54, hl_r99_57, hl_r99_59, hl_r99_61, hl_r99_78, hl_r99_80, hl_r99_82, hl_r99_94, hl_r99_96, hl_r99_97, hl_r99_99, hl_r99_102, hl_r99_121, hl_r99_123, hl_r99_125, hl_r99_140, hl_r99_142, hl_r99_144, hl_r99_147, hl_r99_148, hl_r99_149, hl_r99_152, hl_r99_155, hl_r99_156, hl_r99_160, hl_r99_163, hl_r99_197, hl_r99_200, hl_s147, k51, k52, k20, k3', k50, hh, e1, e2, ei, eq, hl_tv0, not_true, not_false_eq_true, hl_o_60, hl_p_60_0, hl_p_60_1, hl_p_60_2, hl_p_60_3, hl_kill_i, hl_kill_r, hl_kill_n, hl_kill_l, hl_tl_s, hl_tl_n, hl_cal_some, hl_gI, hl_gJ, hl_gsI, hl_gsJ, hl_tv01, if_true, if_false, hl_up_a, hl_row_a]
    · rw [if_neg hh] at e2
      simp only [hl_r99_50, hl_r99_52, hl_r99_54, hl_r99_57, hl_r99_59, hl_r99_61, hl_r99_78, hl_r99_80, hl_r99_82, hl_r99_94, hl_r99_96, hl_r99_97, hl_r99_99, hl_r99_102, hl_r99_121, hl_r99_123, hl_r99_125, hl_r99_140, hl_r99_142, hl_r99_144, hl_r99_147, hl_r99_148, hl_r99_149, hl_r99_152, hl_r99_159, hl_r99_160, hl_r99_163, hl_r99_197, hl_r99_200, hl_s147, k51, k52, k20, k3', k50, hh, e1, e2, ei, eq, hl_tv0, not_true, not_false_eq_true, hl_o_60, hl_p_60_0, hl_p_60_1, hl_p_60_2, hl_p_60_3, hl_kill_i, hl_kill_r, hl_kill_n, hl_kill_l, hl_tl_s, hl_tl_n, hl_cal_some, hl_gI, hl_gJ, hl_gsI, hl_gsJ, hl_tv01, if_true, if_false, hl_up_a, hl_row_a]
  rw [if_neg k14]
  obtain ⟨I1, e1, h1, f1, g1⟩ := hl_s101 (d := d) (N := N) (J := J) h
  obtain ⟨I2, e2, h2, f2, g2⟩ := hl_s101 (d := d) (N := N) (J := J) h1
  obtain ⟨I3, e3, h3, f3, g3⟩ := hl_s100 (d := d) (N := N) (J := J) (v := hl_lim (hl_jn k (K.tail.headD 0) (K.headD 0))) h2
  refine ⟨I3, .int k, .int v, .int (K.headD 0), ?_, h3, hl_f6_tr f1 (hl_f6_tr f2 f3), g3.trans (g2.trans g1)⟩
  simp only [hl_r99_50, hl_r99_52, hl_r99_54, hl_r99_57, hl_r99_59, hl_r99_61, hl_r99_78, hl_r99_80, hl_r99_82, hl_r99_94, hl_r99_96, hl_r99_97, hl_r99_99, hl_r99_102, hl_r99_121, hl_r99_123, hl_r99_125, hl_r99_140, hl_r99_142, hl_r99_144, hl_r99_166, hl_r99_168, hl_r99_170, hl_r99_173, hl_r99_174, hl_r99_177, hl_r99_179, hl_r99_180, hl_r99_182, hl_r99_183, hl_r99_186, hl_r99_188, hl_r99_191, hl_r99_194, hl_r99_197, hl_r99_200, hl_s147, hl_s102, hl_s103, k51, k52, k20, k3', k50, k14, e1, e2, e3, ei, eq, hl_tv0, not_true, not_false_eq_true, hl_o_60, hl_p_60_0, hl_p_60_1, hl_p_60_2, hl_p_60_3, hl_kill_i, hl_kill_r, hl_kill_n, hl_kill_l, hl_tl_s, hl_tl_n, hl_cal_some, hl_gI, hl_gJ, hl_gsI, hl_gsJ, hl_tv01, if_true, if_false, hl_up_a, hl_row_a]
theorem hl_wk_end {S nm : Nat → Int32} {bh p : Int32} {f : Nat} {K : List Int32} (h : hl_in p 0 (bh - 1) = false) : hl_wk S nm bh f p K = K.headD 0 := by
  cases f with
  | zero => rfl
  | succ f => simp only [hl_wk, h, Bool.false_eq_true, if_false]
theorem hl_l99 {T : Nat} {b : Nat} {a : Value} (hT : T < 4) (hb : b ≤ 300) (f : Nat) : ∀ (I : Nat → Nat → Int32) (i : Nat) (p : Int32) (K : List Int32) (l6 l7 l8 : Value), i + f = 300 → hl_SK I K → ∃ I', hl_Run 99 (hl_call (d + 1)) 11 [.ref 60, .ref (44 + 4 * T), a, .int (nI b), .int p, .int (nI i), l6, l7, l8] [] (hl_g N I J) = some (some (.int (hl_wk (I (45 + 4 * T)) (I 61) (nI b) f p K)), hl_g N I' J) ∧ hl_f6 I I' := by
  induction f with
  | zero =>
    intro I i p K l6 l7 l8 hi h
    obtain rfl : i = 300 := by omega
    obtain ⟨I1, e1, h1, f1, g1⟩ := hl_s101 (d := d) (N := N) (J := J) h
    refine ⟨I1, ?_, f1⟩
    have c1 : (300 : Int32) ≤ nI 300 := Int32.le_refl _
    simp only [hl_r99_11, hl_r99_13, hl_r99_16, c1, hl_r99_203, hl_r99_204, hl_r99_207, e1, hl_wk, hl_o_60, hl_p_60_0, hl_p_60_1, hl_p_60_2, hl_p_60_3, hl_kill_i, hl_kill_r, hl_kill_n, hl_kill_l, hl_tl_s, hl_tl_n, hl_cal_some, hl_gI, hl_gJ, hl_gsI, hl_gsJ, hl_tv01, if_true, if_false, hl_up_a, hl_row_a]
  | succ f ih =>
    intro I i p K l6 l7 l8 hi h
    cases hp : hl_in p 0 (nI b - 1) with
    | false =>
      obtain ⟨I1, e1, h1, f1, g1⟩ := hl_s101 (d := d) (N := N) (J := J) h
      refine ⟨I1, ?_, f1⟩
      have c1 : ¬ (300 : Int32) ≤ nI i := show ¬ nI 300 ≤ nI i from nI_ge (by omega) (by decide)
      rw [hl_wk_end hp]
      simp only [hl_r99_11, hl_r99_13, hl_r99_16, c1, hl_r99_19, hl_r99_21, hl_r99_22, hl_r99_23, hl_r99_24, hl_r99_25, hl_r99_28, hl_r99_203, hl_r99_204, hl_r99_207, hl_s147, hp, hl_tv0, e1, hl_o_60, hl_p_60_0, hl_p_60_1, hl_p_60_2, hl_p_60_3, hl_kill_i, hl_kill_r, hl_kill_n, hl_kill_l, hl_tl_s, hl_tl_n, hl_cal_some, hl_gI, hl_gJ, hl_gsI, hl_gsJ, hl_tv01, if_true, if_false, hl_up_a, hl_row_a]
    | true =>
      obtain ⟨q, hq, rfl⟩ : ∃ q, q < b ∧ p = nI q := hl_inb_of (by rw [← hl_in_inb (by omega)]; exact hp) (by omega)
      obtain ⟨I1, m6, m7, m8, e1, h1, f1, g1⟩ := hl_wst_go (d := d) (N := N) (J := J) (i := i) (a := a) (l6 := l6) (l7 := l7) (l8 := l8) hT hq hb (by omega) h
      obtain ⟨I2, e2, f2⟩ := ih I1 (i + 1) _ _ m6 m7 m8 (by omega) h1
      refine ⟨I2, ?_, hl_f6_tr f1 f2⟩
      rw [e1, e2, f1 (45 + 4 * T) (by omega) (by omega) (by omega), g1]
      simp only [hl_wk, hp, if_true]
theorem hl_s99 {T b : Nat} {p : Int32} (hT : T < 4) (hb : b ≤ 300) : ∃ I', hl_call (d + 2) 99 [.ref 60, .ref (44 + 4 * T), .int p, .int (nI b)] (hl_g N I J) = some (some (.int (hl_wk (I (45 + 4 * T)) (I 61) (nI b) 300 p [])), hl_g N I' J) ∧ hl_f6 I I' := by
  obtain ⟨I', e, f⟩ := hl_l99 (d := d) (N := N) (J := J) (T := T) (b := b) (a := .int p) hT hb 300 (hl_up I 60 4 0) 0 p [] .null .null .null rfl ⟨rfl, by decide, fun i v h => by simp at h⟩
  refine ⟨I', ?_, hl_f6_tr (hl_f6_up (by omega)) f⟩
  rw [hl_up_ne I 4 0 (show 45 + 4 * T ≠ 60 by omega), hl_up_ne I 4 0 (show 61 ≠ 60 by decide)] at e
  rw [hl_e99]
  have z : nI 0 = 0 := rfl
  rw [z] at e
  simp only [hl_r99_0, hl_r99_1, hl_r99_2, hl_r99_5, hl_r99_6, hl_r99_8, hl_r99_9, hl_o_60, hl_p_60_0, hl_p_60_1, hl_p_60_2, hl_p_60_3, hl_kill_i, hl_kill_r, hl_kill_n, hl_kill_l, hl_tl_s, hl_tl_n, hl_cal_some, hl_gI, hl_gJ, hl_gsI, hl_gsJ, hl_tv01, if_true, if_false, hl_up_a, hl_row_a]
  exact e
end HLV
