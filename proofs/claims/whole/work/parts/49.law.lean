/-! the law's loop, out of a pair of contracts for each of its 32 cases (printed by wip/whole/gen_loop.py) -/
def hl_jc (o : Nat) : Nat := match o with
  | 0 => 105
  | 1 => 106
  | 2 => 107
  | 3 => 108
  | 4 => 109
  | 5 => 110
  | 6 => 111
  | 7 => 112
  | 8 => 113
  | 9 => 114
  | 10 => 115
  | 11 => 116
  | 12 => 117
  | 13 => 118
  | 14 => 119
  | 15 => 120
  | 16 => 121
  | 17 => 122
  | 18 => 123
  | 19 => 124
  | 20 => 125
  | 21 => 126
  | 22 => 127
  | 23 => 128
  | 24 => 129
  | 25 => 130
  | 26 => 131
  | 27 => 132
  | 28 => 133
  | 29 => 134
  | 30 => 135
  | 31 => 136
  | _ => 0
def hl_jm (o : Nat) : Nat := match o with
  | 0 => 157
  | 1 => 158
  | 2 => 159
  | 3 => 161
  | 4 => 162
  | 5 => 163
  | 6 => 164
  | 7 => 166
  | 8 => 167
  | 9 => 196
  | 10 => 197
  | 11 => 198
  | 12 => 207
  | 13 => 210
  | 14 => 222
  | 15 => 232
  | 16 => 233
  | 17 => 234
  | 18 => 237
  | 19 => 239
  | 20 => 240
  | 21 => 245
  | 22 => 246
  | 23 => 247
  | 24 => 249
  | 25 => 251
  | 26 => 252
  | 27 => 254
  | 28 => 255
  | 29 => 256
  | 30 => 257
  | 31 => 258
  | _ => 0
def hl_bz (x : Int32) : Int32 := if x = 0 then 0 else 1
def hl_args (o : Nat) (f : Nat → Int32) : List Value := match o with
  | 0 => [.int (f 1), .int (f 2), .int (f 3), .int (f 4), .int (f 5), .int (hl_bz (f 6))]
  | 1 => [.int (f 1), .int (f 2), .int (f 3)]
  | 2 => [.int (f 1)]
  | 3 => [.int (f 1), .int (f 2)]
  | 4 => [.int (f 1), .int (f 2)]
  | 5 => [.int (f 1), .int (f 2)]
  | 6 => [.int (f 1), .int (f 2)]
  | 7 => [.int (f 1), .int (f 2), .int (f 3), .int (f 4), .int (f 5)]
  | 8 => [.int (f 1)]
  | 9 => []
  | 10 => [.int (f 1)]
  | 11 => [.int (f 1)]
  | 12 => [.int (f 1), .int (f 2), .int (f 3), .int (f 4)]
  | 13 => [.int (f 1), .int (f 2)]
  | 14 => [.int (f 1)]
  | 15 => [.int (f 1), .int (hl_bz (f 2)), .int (f 3)]
  | 16 => [.int (f 1), .int (hl_bz (f 2))]
  | 17 => [.int (hl_bz (f 1)), .int (f 2)]
  | 18 => [.int (f 1), .int (hl_bz (f 2)), .int (f 3)]
  | 19 => [.int (f 1)]
  | 20 => [.int (f 1), .int (f 2)]
  | 21 => [.int (f 1)]
  | 22 => [.int (f 1), .int (f 2), .int (f 3)]
  | 23 => [.int (f 1)]
  | 24 => [.int (f 1), .int (f 2), .int (f 3)]
  | 25 => [.int (f 1), .int (f 2)]
  | 26 => [.int (f 1)]
  | 27 => [.int (f 1), .int (hl_bz (f 2))]
  | 28 => [.int (f 1)]
  | 29 => []
  | 30 => []
  | 31 => [.int (f 1)]
  | _ => []
def hl_PairQ (cc : hl_C) (N : Nat) (A B : (Nat → Nat → Int32) → (Nat → Nat → Int64) → Prop) (jc jm : Nat) (as : List Value) : Prop := ∀ I J, A I J → ∃ (v : Int32) (I1 : Nat → Nat → Int32) (J1 : Nat → Nat → Int64) (I2 : Nat → Nat → Int32) (J2 : Nat → Nat → Int64), cc jc (.ref 0 :: as) (hl_g N I J) = some (some (.int v), hl_g N I1 J1) ∧ cc jm (.ref 85 :: as) (hl_g N I1 J1) = some (some (.int v), hl_g N I2 J2) ∧ B I2 J2
section HLLAW
variable {xs : Nat → Int32} {Ln N k : Nat} {cc : hl_C} {I I1 I2 : Nat → Nat → Int32} {J J1 J2 : Nat → Nat → Int64} {v : Int32}
theorem hl_bt {k j Ln : Nat} (h : k + j < Ln) (hL : Ln ≤ 3586) : hl_inb (nI (k + j)) Ln = true ∧ (nI (k + j)).toNatClampNeg = k + j := ⟨hl_inb_nI h (by omega), nIc (by omega)⟩
theorem hl_kp1 {k : Nat} : nI k + 1 = nI (k + 1) := show nI k + nI 1 = _ from nI_add k 1
theorem hl_kp2 {k : Nat} : nI k + 2 = nI (k + 2) := show nI k + nI 2 = _ from nI_add k 2
theorem hl_kp3 {k : Nat} : nI k + 3 = nI (k + 3) := show nI k + nI 3 = _ from nI_add k 3
theorem hl_kp4 {k : Nat} : nI k + 4 = nI (k + 4) := show nI k + nI 4 = _ from nI_add k 4
theorem hl_kp5 {k : Nat} : nI k + 5 = nI (k + 5) := show nI k + nI 5 = _ from nI_add k 5
theorem hl_kp6 {k : Nat} : nI k + 6 = nI (k + 6) := show nI k + nI 6 = _ from nI_add k 6
theorem hl_kc0 (hk : k + 7 ≤ Ln) (hL : Ln ≤ 3586) (h1 : cc 105 [.ref 0, .int (xs (k + 1)), .int (xs (k + 2)), .int (xs (k + 3)), .int (xs (k + 4)), .int (xs (k + 5)), .int (hl_bz (xs (k + 6)))] (hl_g N I J) = some (some (.int v), hl_g N I1 J1)) (h2 : cc 157 [.ref 85, .int (xs (k + 1)), .int (xs (k + 2)), .int (xs (k + 3)), .int (xs (k + 4)), .int (xs (k + 5)), .int (hl_bz (xs (k + 6)))] (hl_g N I1 J1) = some (some (.int v), hl_g N I2 J2)) : hl_LRun xs Ln 268 cc 196 [.ref 1000003, .ref 0, .ref 85, .int (nI k)] [] (hl_g N I J) = hl_LRun xs Ln 268 cc 1320 [.ref 1000003, .ref 0, .ref 85, .int (nI k)] [] (hl_g N I2 J2) := by
  obtain ⟨b1, c1⟩ := hl_bt (k := k) (j := 1) (Ln := Ln) (by omega) hL
  obtain ⟨b2, c2⟩ := hl_bt (k := k) (j := 2) (Ln := Ln) (by omega) hL
  obtain ⟨b3, c3⟩ := hl_bt (k := k) (j := 3) (Ln := Ln) (by omega) hL
  obtain ⟨b4, c4⟩ := hl_bt (k := k) (j := 4) (Ln := Ln) (by omega) hL
  obtain ⟨b5, c5⟩ := hl_bt (k := k) (j := 5) (Ln := Ln) (by omega) hL
  obtain ⟨b6, c6⟩ := hl_bt (k := k) (j := 6) (Ln := Ln) (by omega) hL
  unfold hl_bz at h1 h2
  by_cases hz : xs (k + 6) = 0
  · rw [if_pos hz] at h1 h2
    simp only [hl_r268_196, hl_r268_197, hl_r268_198, hl_r268_199, hl_r268_200, hl_r268_201, hl_r268_202, hl_r268_203, hl_r268_204, hl_r268_205, hl_r268_206, hl_r268_207, hl_r268_208, hl_r268_209, hl_r268_210, hl_r268_211, hl_r268_212, hl_r268_213, hl_r268_214, hl_r268_215, hl_r268_216, hl_r268_217, hl_r268_218, hl_r268_219, hl_r268_220, hl_r268_221, hl_r268_222, hl_r268_223, hl_r268_224, hl_r268_226, hl_r268_227, hl_r268_228, hl_r268_231, hl_r268_232, hl_r268_235, hl_r268_236, hl_r268_239, hl_r268_240, hl_r268_241, hl_r268_242, hl_r268_243, hl_r268_244, hl_r268_245, hl_r268_246, hl_r268_247, hl_r268_248, hl_r268_249, hl_r268_250, hl_r268_251, hl_r268_252, hl_r268_253, hl_r268_254, hl_r268_255, hl_r268_256, hl_r268_257, hl_r268_258, hl_r268_259, hl_r268_260, hl_r268_261, hl_r268_262, hl_r268_263, hl_r268_264, hl_r268_265, hl_r268_266, hl_r268_267, hl_r268_269, hl_r268_270, hl_r268_271, hl_r268_274, hl_r268_275, hl_r268_278, hl_r268_279, hl_r268_282, hl_r268_285, hl_r268_286, hl_kp1, hl_kp2, hl_kp3, hl_kp4, hl_kp5, hl_kp6, b1, b2, b3, b4, b5, b6, c1, c2, c3, c4, c5, c6, hl_o_0, hl_o_85, hl_tl_s, hl_tl_n, hl_cal_some, if_true, if_false, hz, h1, h2]
  · rw [if_neg hz] at h1 h2
    simp only [hl_r268_196, hl_r268_197, hl_r268_198, hl_r268_199, hl_r268_200, hl_r268_201, hl_r268_202, hl_r268_203, hl_r268_204, hl_r268_205, hl_r268_206, hl_r268_207, hl_r268_208, hl_r268_209, hl_r268_210, hl_r268_211, hl_r268_212, hl_r268_213, hl_r268_214, hl_r268_215, hl_r268_216, hl_r268_217, hl_r268_218, hl_r268_219, hl_r268_220, hl_r268_221, hl_r268_222, hl_r268_223, hl_r268_224, hl_r268_226, hl_r268_227, hl_r268_228, hl_r268_231, hl_r268_232, hl_r268_235, hl_r268_236, hl_r268_239, hl_r268_240, hl_r268_241, hl_r268_242, hl_r268_243, hl_r268_244, hl_r268_245, hl_r268_246, hl_r268_247, hl_r268_248, hl_r268_249, hl_r268_250, hl_r268_251, hl_r268_252, hl_r268_253, hl_r268_254, hl_r268_255, hl_r268_256, hl_r268_257, hl_r268_258, hl_r268_259, hl_r268_260, hl_r268_261, hl_r268_262, hl_r268_263, hl_r268_264, hl_r268_265, hl_r268_266, hl_r268_267, hl_r268_269, hl_r268_270, hl_r268_271, hl_r268_274, hl_r268_275, hl_r268_278, hl_r268_279, hl_r268_282, hl_r268_285, hl_r268_286, hl_kp1, hl_kp2, hl_kp3, hl_kp4, hl_kp5, hl_kp6, b1, b2, b3, b4, b5, b6, c1, c2, c3, c4, c5, c6, hl_o_0, hl_o_85, hl_tl_s, hl_tl_n, hl_cal_some, if_true, if_false, hz, h1, h2]
theorem hl_kc1 (hk : k + 7 ≤ Ln) (hL : Ln ≤ 3586) (h1 : cc 106 [.ref 0, .int (xs (k + 1)), .int (xs (k + 2)), .int (xs (k + 3))] (hl_g N I J) = some (some (.int v), hl_g N I1 J1)) (h2 : cc 158 [.ref 85, .int (xs (k + 1)), .int (xs (k + 2)), .int (xs (k + 3))] (hl_g N I1 J1) = some (some (.int v), hl_g N I2 J2)) : hl_LRun xs Ln 268 cc 287 [.ref 1000003, .ref 0, .ref 85, .int (nI k)] [] (hl_g N I J) = hl_LRun xs Ln 268 cc 1320 [.ref 1000003, .ref 0, .ref 85, .int (nI k)] [] (hl_g N I2 J2) := by
  obtain ⟨b1, c1⟩ := hl_bt (k := k) (j := 1) (Ln := Ln) (by omega) hL
  obtain ⟨b2, c2⟩ := hl_bt (k := k) (j := 2) (Ln := Ln) (by omega) hL
  obtain ⟨b3, c3⟩ := hl_bt (k := k) (j := 3) (Ln := Ln) (by omega) hL
  obtain ⟨b4, c4⟩ := hl_bt (k := k) (j := 4) (Ln := Ln) (by omega) hL
  obtain ⟨b5, c5⟩ := hl_bt (k := k) (j := 5) (Ln := Ln) (by omega) hL
  obtain ⟨b6, c6⟩ := hl_bt (k := k) (j := 6) (Ln := Ln) (by omega) hL
  simp only [hl_r268_287, hl_r268_288, hl_r268_289, hl_r268_290, hl_r268_291, hl_r268_292, hl_r268_293, hl_r268_294, hl_r268_295, hl_r268_296, hl_r268_297, hl_r268_298, hl_r268_299, hl_r268_300, hl_r268_301, hl_r268_302, hl_r268_303, hl_r268_306, hl_r268_307, hl_r268_308, hl_r268_309, hl_r268_310, hl_r268_311, hl_r268_312, hl_r268_313, hl_r268_314, hl_r268_315, hl_r268_316, hl_r268_317, hl_r268_318, hl_r268_319, hl_r268_320, hl_r268_321, hl_r268_322, hl_r268_325, hl_r268_328, hl_r268_329, hl_kp1, hl_kp2, hl_kp3, hl_kp4, hl_kp5, hl_kp6, b1, b2, b3, b4, b5, b6, c1, c2, c3, c4, c5, c6, hl_o_0, hl_o_85, hl_tl_s, hl_tl_n, hl_cal_some, if_true, if_false, h1, h2]
theorem hl_kc2 (hk : k + 7 ≤ Ln) (hL : Ln ≤ 3586) (h1 : cc 107 [.ref 0, .int (xs (k + 1))] (hl_g N I J) = some (some (.int v), hl_g N I1 J1)) (h2 : cc 159 [.ref 85, .int (xs (k + 1))] (hl_g N I1 J1) = some (some (.int v), hl_g N I2 J2)) : hl_LRun xs Ln 268 cc 330 [.ref 1000003, .ref 0, .ref 85, .int (nI k)] [] (hl_g N I J) = hl_LRun xs Ln 268 cc 1320 [.ref 1000003, .ref 0, .ref 85, .int (nI k)] [] (hl_g N I2 J2) := by
  obtain ⟨b1, c1⟩ := hl_bt (k := k) (j := 1) (Ln := Ln) (by omega) hL
  obtain ⟨b2, c2⟩ := hl_bt (k := k) (j := 2) (Ln := Ln) (by omega) hL
  obtain ⟨b3, c3⟩ := hl_bt (k := k) (j := 3) (Ln := Ln) (by omega) hL
  obtain ⟨b4, c4⟩ := hl_bt (k := k) (j := 4) (Ln := Ln) (by omega) hL
  obtain ⟨b5, c5⟩ := hl_bt (k := k) (j := 5) (Ln := Ln) (by omega) hL
  obtain ⟨b6, c6⟩ := hl_bt (k := k) (j := 6) (Ln := Ln) (by omega) hL
  simp only [hl_r268_330, hl_r268_331, hl_r268_332, hl_r268_333, hl_r268_334, hl_r268_335, hl_r268_336, hl_r268_339, hl_r268_340, hl_r268_341, hl_r268_342, hl_r268_343, hl_r268_344, hl_r268_345, hl_r268_348, hl_r268_351, hl_r268_352, hl_kp1, hl_kp2, hl_kp3, hl_kp4, hl_kp5, hl_kp6, b1, b2, b3, b4, b5, b6, c1, c2, c3, c4, c5, c6, hl_o_0, hl_o_85, hl_tl_s, hl_tl_n, hl_cal_some, if_true, if_false, h1, h2]
theorem hl_kc3 (hk : k + 7 ≤ Ln) (hL : Ln ≤ 3586) (h1 : cc 108 [.ref 0, .int (xs (k + 1)), .int (xs (k + 2))] (hl_g N I J) = some (some (.int v), hl_g N I1 J1)) (h2 : cc 161 [.ref 85, .int (xs (k + 1)), .int (xs (k + 2))] (hl_g N I1 J1) = some (some (.int v), hl_g N I2 J2)) : hl_LRun xs Ln 268 cc 353 [.ref 1000003, .ref 0, .ref 85, .int (nI k)] [] (hl_g N I J) = hl_LRun xs Ln 268 cc 1320 [.ref 1000003, .ref 0, .ref 85, .int (nI k)] [] (hl_g N I2 J2) := by
  obtain ⟨b1, c1⟩ := hl_bt (k := k) (j := 1) (Ln := Ln) (by omega) hL
  obtain ⟨b2, c2⟩ := hl_bt (k := k) (j := 2) (Ln := Ln) (by omega) hL
  obtain ⟨b3, c3⟩ := hl_bt (k := k) (j := 3) (Ln := Ln) (by omega) hL
  obtain ⟨b4, c4⟩ := hl_bt (k := k) (j := 4) (Ln := Ln) (by omega) hL
  obtain ⟨b5, c5⟩ := hl_bt (k := k) (j := 5) (Ln := Ln) (by omega) hL
  obtain ⟨b6, c6⟩ := hl_bt (k := k) (j := 6) (Ln := Ln) (by omega) hL
  simp only [hl_r268_353, hl_r268_354, hl_r268_355, hl_r268_356, hl_r268_357, hl_r268_358, hl_r268_359, hl_r268_360, hl_r268_361, hl_r268_362, hl_r268_363, hl_r268_364, hl_r268_367, hl_r268_368, hl_r268_369, hl_r268_370, hl_r268_371, hl_r268_372, hl_r268_373, hl_r268_374, hl_r268_375, hl_r268_376, hl_r268_377, hl_r268_378, hl_r268_381, hl_r268_384, hl_r268_385, hl_kp1, hl_kp2, hl_kp3, hl_kp4, hl_kp5, hl_kp6, b1, b2, b3, b4, b5, b6, c1, c2, c3, c4, c5, c6, hl_o_0, hl_o_85, hl_tl_s, hl_tl_n, hl_cal_some, if_true, if_false, h1, h2]
theorem hl_kc4 (hk : k + 7 ≤ Ln) (hL : Ln ≤ 3586) (h1 : cc 109 [.ref 0, .int (xs (k + 1)), .int (xs (k + 2))] (hl_g N I J) = some (some (.int v), hl_g N I1 J1)) (h2 : cc 162 [.ref 85, .int (xs (k + 1)), .int (xs (k + 2))] (hl_g N I1 J1) = some (some (.int v), hl_g N I2 J2)) : hl_LRun xs Ln 268 cc 386 [.ref 1000003, .ref 0, .ref 85, .int (nI k)] [] (hl_g N I J) = hl_LRun xs Ln 268 cc 1320 [.ref 1000003, .ref 0, .ref 85, .int (nI k)] [] (hl_g N I2 J2) := by
  obtain ⟨b1, c1⟩ := hl_bt (k := k) (j := 1) (Ln := Ln) (by omega) hL
  obtain ⟨b2, c2⟩ := hl_bt (k := k) (j := 2) (Ln := Ln) (by omega) hL
  obtain ⟨b3, c3⟩ := hl_bt (k := k) (j := 3) (Ln := Ln) (by omega) hL
  obtain ⟨b4, c4⟩ := hl_bt (k := k) (j := 4) (Ln := Ln) (by omega) hL
  obtain ⟨b5, c5⟩ := hl_bt (k := k) (j := 5) (Ln := Ln) (by omega) hL
  obtain ⟨b6, c6⟩ := hl_bt (k := k) (j := 6) (Ln := Ln) (by omega) hL
  simp only [hl_r268_386, hl_r268_387, hl_r268_388, hl_r268_389, hl_r268_390, hl_r268_391, hl_r268_392, hl_r268_393, hl_r268_394, hl_r268_395, hl_r268_396, hl_r268_397, hl_r268_400, hl_r268_401, hl_r268_402, hl_r268_403, hl_r268_404, hl_r268_405, hl_r268_406, hl_r268_407, hl_r268_408, hl_r268_409, hl_r268_410, hl_r268_411, hl_r268_414, hl_r268_417, hl_r268_418, hl_kp1, hl_kp2, hl_kp3, hl_kp4, hl_kp5, hl_kp6, b1, b2, b3, b4, b5, b6, c1, c2, c3, c4, c5, c6, hl_o_0, hl_o_85, hl_tl_s, hl_tl_n, hl_cal_some, if_true, if_false, h1, h2]
theorem hl_kc5 (hk : k + 7 ≤ Ln) (hL : Ln ≤ 3586) (h1 : cc 110 [.ref 0, .int (xs (k + 1)), .int (xs (k + 2))] (hl_g N I J) = some (some (.int v), hl_g N I1 J1)) (h2 : cc 163 [.ref 85, .int (xs (k + 1)), .int (xs (k + 2))] (hl_g N I1 J1) = some (some (.int v), hl_g N I2 J2)) : hl_LRun xs Ln 268 cc 419 [.ref 1000003, .ref 0, .ref 85, .int (nI k)] [] (hl_g N I J) = hl_LRun xs Ln 268 cc 1320 [.ref 1000003, .ref 0, .ref 85, .int (nI k)] [] (hl_g N I2 J2) := by
  obtain ⟨b1, c1⟩ := hl_bt (k := k) (j := 1) (Ln := Ln) (by omega) hL
  obtain ⟨b2, c2⟩ := hl_bt (k := k) (j := 2) (Ln := Ln) (by omega) hL
  obtain ⟨b3, c3⟩ := hl_bt (k := k) (j := 3) (Ln := Ln) (by omega) hL
  obtain ⟨b4, c4⟩ := hl_bt (k := k) (j := 4) (Ln := Ln) (by omega) hL
  obtain ⟨b5, c5⟩ := hl_bt (k := k) (j := 5) (Ln := Ln) (by omega) hL
  obtain ⟨b6, c6⟩ := hl_bt (k := k) (j := 6) (Ln := Ln) (by omega) hL
  simp only [hl_r268_419, hl_r268_420, hl_r268_421, hl_r268_422, hl_r268_423, hl_r268_424, hl_r268_425, hl_r268_426, hl_r268_427, hl_r268_428, hl_r268_429, hl_r268_430, hl_r268_433, hl_r268_434, hl_r268_435, hl_r268_436, hl_r268_437, hl_r268_438, hl_r268_439, hl_r268_440, hl_r268_441, hl_r268_442, hl_r268_443, hl_r268_444, hl_r268_447, hl_r268_450, hl_r268_451, hl_kp1, hl_kp2, hl_kp3, hl_kp4, hl_kp5, hl_kp6, b1, b2, b3, b4, b5, b6, c1, c2, c3, c4, c5, c6, hl_o_0, hl_o_85, hl_tl_s, hl_tl_n, hl_cal_some, if_true, if_false, h1, h2]
theorem hl_kc6 (hk : k + 7 ≤ Ln) (hL : Ln ≤ 3586) (h1 : cc 111 [.ref 0, .int (xs (k + 1)), .int (xs (k + 2))] (hl_g N I J) = some (some (.int v), hl_g N I1 J1)) (h2 : cc 164 [.ref 85, .int (xs (k + 1)), .int (xs (k + 2))] (hl_g N I1 J1) = some (some (.int v), hl_g N I2 J2)) : hl_LRun xs Ln 268 cc 452 [.ref 1000003, .ref 0, .ref 85, .int (nI k)] [] (hl_g N I J) = hl_LRun xs Ln 268 cc 1320 [.ref 1000003, .ref 0, .ref 85, .int (nI k)] [] (hl_g N I2 J2) := by
  obtain ⟨b1, c1⟩ := hl_bt (k := k) (j := 1) (Ln := Ln) (by omega) hL
  obtain ⟨b2, c2⟩ := hl_bt (k := k) (j := 2) (Ln := Ln) (by omega) hL
  obtain ⟨b3, c3⟩ := hl_bt (k := k) (j := 3) (Ln := Ln) (by omega) hL
  obtain ⟨b4, c4⟩ := hl_bt (k := k) (j := 4) (Ln := Ln) (by omega) hL
  obtain ⟨b5, c5⟩ := hl_bt (k := k) (j := 5) (Ln := Ln) (by omega) hL
  obtain ⟨b6, c6⟩ := hl_bt (k := k) (j := 6) (Ln := Ln) (by omega) hL
  simp only [hl_r268_452, hl_r268_453, hl_r268_454, hl_r268_455, hl_r268_456, hl_r268_457, hl_r268_458, hl_r268_459, hl_r268_460, hl_r268_461, hl_r268_462, hl_r268_463, hl_r268_466, hl_r268_467, hl_r268_468, hl_r268_469, hl_r268_470, hl_r268_471, hl_r268_472, hl_r268_473, hl_r268_474, hl_r268_475, hl_r268_476, hl_r268_477, hl_r268_480, hl_r268_483, hl_r268_484, hl_kp1, hl_kp2, hl_kp3, hl_kp4, hl_kp5, hl_kp6, b1, b2, b3, b4, b5, b6, c1, c2, c3, c4, c5, c6, hl_o_0, hl_o_85, hl_tl_s, hl_tl_n, hl_cal_some, if_true, if_false, h1, h2]
theorem hl_kc7 (hk : k + 7 ≤ Ln) (hL : Ln ≤ 3586) (h1 : cc 112 [.ref 0, .int (xs (k + 1)), .int (xs (k + 2)), .int (xs (k + 3)), .int (xs (k + 4)), .int (xs (k + 5))] (hl_g N I J) = some (some (.int v), hl_g N I1 J1)) (h2 : cc 166 [.ref 85, .int (xs (k + 1)), .int (xs (k + 2)), .int (xs (k + 3)), .int (xs (k + 4)), .int (xs (k + 5))] (hl_g N I1 J1) = some (some (.int v), hl_g N I2 J2)) : hl_LRun xs Ln 268 cc 485 [.ref 1000003, .ref 0, .ref 85, .int (nI k)] [] (hl_g N I J) = hl_LRun xs Ln 268 cc 1320 [.ref 1000003, .ref 0, .ref 85, .int (nI k)] [] (hl_g N I2 J2) := by
  obtain ⟨b1, c1⟩ := hl_bt (k := k) (j := 1) (Ln := Ln) (by omega) hL
  obtain ⟨b2, c2⟩ := hl_bt (k := k) (j := 2) (Ln := Ln) (by omega) hL
  obtain ⟨b3, c3⟩ := hl_bt (k := k) (j := 3) (Ln := Ln) (by omega) hL
  obtain ⟨b4, c4⟩ := hl_bt (k := k) (j := 4) (Ln := Ln) (by omega) hL
  obtain ⟨b5, c5⟩ := hl_bt (k := k) (j := 5) (Ln := Ln) (by omega) hL
  obtain ⟨b6, c6⟩ := hl_bt (k := k) (j := 6) (Ln := Ln) (by omega) hL
  simp only [hl_r268_485, hl_r268_486, hl_r268_487, hl_r268_488, hl_r268_489, hl_r268_490, hl_r268_491, hl_r268_492, hl_r268_493, hl_r268_494, hl_r268_495, hl_r268_496, hl_r268_497, hl_r268_498, hl_r268_499, hl_r268_500, hl_r268_501, hl_r268_502, hl_r268_503, hl_r268_504, hl_r268_505, hl_r268_506, hl_r268_507, hl_r268_508, hl_r268_509, hl_r268_510, hl_r268_511, hl_r268_514, hl_r268_515, hl_r268_516, hl_r268_517, hl_r268_518, hl_r268_519, hl_r268_520, hl_r268_521, hl_r268_522, hl_r268_523, hl_r268_524, hl_r268_525, hl_r268_526, hl_r268_527, hl_r268_528, hl_r268_529, hl_r268_530, hl_r268_531, hl_r268_532, hl_r268_533, hl_r268_534, hl_r268_535, hl_r268_536, hl_r268_537, hl_r268_538, hl_r268_539, hl_r268_540, hl_r268_543, hl_r268_546, hl_r268_547, hl_kp1, hl_kp2, hl_kp3, hl_kp4, hl_kp5, hl_kp6, b1, b2, b3, b4, b5, b6, c1, c2, c3, c4, c5, c6, hl_o_0, hl_o_85, hl_tl_s, hl_tl_n, hl_cal_some, if_true, if_false, h1, h2]
theorem hl_kc8 (hk : k + 7 ≤ Ln) (hL : Ln ≤ 3586) (h1 : cc 113 [.ref 0, .int (xs (k + 1))] (hl_g N I J) = some (some (.int v), hl_g N I1 J1)) (h2 : cc 167 [.ref 85, .int (xs (k + 1))] (hl_g N I1 J1) = some (some (.int v), hl_g N I2 J2)) : hl_LRun xs Ln 268 cc 548 [.ref 1000003, .ref 0, .ref 85, .int (nI k)] [] (hl_g N I J) = hl_LRun xs Ln 268 cc 1320 [.ref 1000003, .ref 0, .ref 85, .int (nI k)] [] (hl_g N I2 J2) := by
  obtain ⟨b1, c1⟩ := hl_bt (k := k) (j := 1) (Ln := Ln) (by omega) hL
  obtain ⟨b2, c2⟩ := hl_bt (k := k) (j := 2) (Ln := Ln) (by omega) hL
  obtain ⟨b3, c3⟩ := hl_bt (k := k) (j := 3) (Ln := Ln) (by omega) hL
  obtain ⟨b4, c4⟩ := hl_bt (k := k) (j := 4) (Ln := Ln) (by omega) hL
  obtain ⟨b5, c5⟩ := hl_bt (k := k) (j := 5) (Ln := Ln) (by omega) hL
  obtain ⟨b6, c6⟩ := hl_bt (k := k) (j := 6) (Ln := Ln) (by omega) hL
  simp only [hl_r268_548, hl_r268_549, hl_r268_550, hl_r268_551, hl_r268_552, hl_r268_553, hl_r268_554, hl_r268_557, hl_r268_558, hl_r268_559, hl_r268_560, hl_r268_561, hl_r268_562, hl_r268_563, hl_r268_566, hl_r268_569, hl_r268_570, hl_kp1, hl_kp2, hl_kp3, hl_kp4, hl_kp5, hl_kp6, b1, b2, b3, b4, b5, b6, c1, c2, c3, c4, c5, c6, hl_o_0, hl_o_85, hl_tl_s, hl_tl_n, hl_cal_some, if_true, if_false, h1, h2]
theorem hl_kc9 (hk : k + 7 ≤ Ln) (hL : Ln ≤ 3586) (h1 : cc 114 [.ref 0] (hl_g N I J) = some (some (.int v), hl_g N I1 J1)) (h2 : cc 196 [.ref 85] (hl_g N I1 J1) = some (some (.int v), hl_g N I2 J2)) : hl_LRun xs Ln 268 cc 571 [.ref 1000003, .ref 0, .ref 85, .int (nI k)] [] (hl_g N I J) = hl_LRun xs Ln 268 cc 1320 [.ref 1000003, .ref 0, .ref 85, .int (nI k)] [] (hl_g N I2 J2) := by
  obtain ⟨b1, c1⟩ := hl_bt (k := k) (j := 1) (Ln := Ln) (by omega) hL
  obtain ⟨b2, c2⟩ := hl_bt (k := k) (j := 2) (Ln := Ln) (by omega) hL
  obtain ⟨b3, c3⟩ := hl_bt (k := k) (j := 3) (Ln := Ln) (by omega) hL
  obtain ⟨b4, c4⟩ := hl_bt (k := k) (j := 4) (Ln := Ln) (by omega) hL
  obtain ⟨b5, c5⟩ := hl_bt (k := k) (j := 5) (Ln := Ln) (by omega) hL
  obtain ⟨b6, c6⟩ := hl_bt (k := k) (j := 6) (Ln := Ln) (by omega) hL
  simp only [hl_r268_571, hl_r268_572, hl_r268_575, hl_r268_576, hl_r268_579, hl_r268_582, hl_r268_583, hl_kp1, hl_kp2, hl_kp3, hl_kp4, hl_kp5, hl_kp6, b1, b2, b3, b4, b5, b6, c1, c2, c3, c4, c5, c6, hl_o_0, hl_o_85, hl_tl_s, hl_tl_n, hl_cal_some, if_true, if_false, h1, h2]
theorem hl_kc10 (hk : k + 7 ≤ Ln) (hL : Ln ≤ 3586) (h1 : cc 115 [.ref 0, .int (xs (k + 1))] (hl_g N I J) = some (some (.int v), hl_g N I1 J1)) (h2 : cc 197 [.ref 85, .int (xs (k + 1))] (hl_g N I1 J1) = some (some (.int v), hl_g N I2 J2)) : hl_LRun xs Ln 268 cc 584 [.ref 1000003, .ref 0, .ref 85, .int (nI k)] [] (hl_g N I J) = hl_LRun xs Ln 268 cc 1320 [.ref 1000003, .ref 0, .ref 85, .int (nI k)] [] (hl_g N I2 J2) := by
  obtain ⟨b1, c1⟩ := hl_bt (k := k) (j := 1) (Ln := Ln) (by omega) hL
  obtain ⟨b2, c2⟩ := hl_bt (k := k) (j := 2) (Ln := Ln) (by omega) hL
  obtain ⟨b3, c3⟩ := hl_bt (k := k) (j := 3) (Ln := Ln) (by omega) hL
  obtain ⟨b4, c4⟩ := hl_bt (k := k) (j := 4) (Ln := Ln) (by omega) hL
  obtain ⟨b5, c5⟩ := hl_bt (k := k) (j := 5) (Ln := Ln) (by omega) hL
  obtain ⟨b6, c6⟩ := hl_bt (k := k) (j := 6) (Ln := Ln) (by omega) hL
  simp only [hl_r268_584, hl_r268_585, hl_r268_586, hl_r268_587, hl_r268_588, hl_r268_589, hl_r268_590, hl_r268_593, hl_r268_594, hl_r268_595, hl_r268_596, hl_r268_597, hl_r268_598, hl_r268_599, hl_r268_602, hl_r268_605, hl_r268_606, hl_kp1, hl_kp2, hl_kp3, hl_kp4, hl_kp5, hl_kp6, b1, b2, b3, b4, b5, b6, c1, c2, c3, c4, c5, c6, hl_o_0, hl_o_85, hl_tl_s, hl_tl_n, hl_cal_some, if_true, if_false, h1, h2]
theorem hl_kc11 (hk : k + 7 ≤ Ln) (hL : Ln ≤ 3586) (h1 : cc 116 [.ref 0, .int (xs (k + 1))] (hl_g N I J) = some (some (.int v), hl_g N I1 J1)) (h2 : cc 198 [.ref 85, .int (xs (k + 1))] (hl_g N I1 J1) = some (some (.int v), hl_g N I2 J2)) : hl_LRun xs Ln 268 cc 607 [.ref 1000003, .ref 0, .ref 85, .int (nI k)] [] (hl_g N I J) = hl_LRun xs Ln 268 cc 1320 [.ref 1000003, .ref 0, .ref 85, .int (nI k)] [] (hl_g N I2 J2) := by
  obtain ⟨b1, c1⟩ := hl_bt (k := k) (j := 1) (Ln := Ln) (by omega) hL
  obtain ⟨b2, c2⟩ := hl_bt (k := k) (j := 2) (Ln := Ln) (by omega) hL
  obtain ⟨b3, c3⟩ := hl_bt (k := k) (j := 3) (Ln := Ln) (by omega) hL
  obtain ⟨b4, c4⟩ := hl_bt (k := k) (j := 4) (Ln := Ln) (by omega) hL
  obtain ⟨b5, c5⟩ := hl_bt (k := k) (j := 5) (Ln := Ln) (by omega) hL
  obtain ⟨b6, c6⟩ := hl_bt (k := k) (j := 6) (Ln := Ln) (by omega) hL
  simp only [hl_r268_607, hl_r268_608, hl_r268_609, hl_r268_610, hl_r268_611, hl_r268_612, hl_r268_613, hl_r268_616, hl_r268_617, hl_r268_618, hl_r268_619, hl_r268_620, hl_r268_621, hl_r268_622, hl_r268_625, hl_r268_628, hl_r268_629, hl_kp1, hl_kp2, hl_kp3, hl_kp4, hl_kp5, hl_kp6, b1, b2, b3, b4, b5, b6, c1, c2, c3, c4, c5, c6, hl_o_0, hl_o_85, hl_tl_s, hl_tl_n, hl_cal_some, if_true, if_false, h1, h2]
theorem hl_kc12 (hk : k + 7 ≤ Ln) (hL : Ln ≤ 3586) (h1 : cc 117 [.ref 0, .int (xs (k + 1)), .int (xs (k + 2)), .int (xs (k + 3)), .int (xs (k + 4))] (hl_g N I J) = some (some (.int v), hl_g N I1 J1)) (h2 : cc 207 [.ref 85, .int (xs (k + 1)), .int (xs (k + 2)), .int (xs (k + 3)), .int (xs (k + 4))] (hl_g N I1 J1) = some (some (.int v), hl_g N I2 J2)) : hl_LRun xs Ln 268 cc 630 [.ref 1000003, .ref 0, .ref 85, .int (nI k)] [] (hl_g N I J) = hl_LRun xs Ln 268 cc 1320 [.ref 1000003, .ref 0, .ref 85, .int (nI k)] [] (hl_g N I2 J2) := by
  obtain ⟨b1, c1⟩ := hl_bt (k := k) (j := 1) (Ln := Ln) (by omega) hL
  obtain ⟨b2, c2⟩ := hl_bt (k := k) (j := 2) (Ln := Ln) (by omega) hL
  obtain ⟨b3, c3⟩ := hl_bt (k := k) (j := 3) (Ln := Ln) (by omega) hL
  obtain ⟨b4, c4⟩ := hl_bt (k := k) (j := 4) (Ln := Ln) (by omega) hL
  obtain ⟨b5, c5⟩ := hl_bt (k := k) (j := 5) (Ln := Ln) (by omega) hL
  obtain ⟨b6, c6⟩ := hl_bt (k := k) (j := 6) (Ln := Ln) (by omega) hL
  simp only [hl_r268_630, hl_r268_631, hl_r268_632, hl_r268_633, hl_r268_634, hl_r268_635, hl_r268_636, hl_r268_637, hl_r268_638, hl_r268_639, hl_r268_640, hl_r268_641, hl_r268_642, hl_r268_643, hl_r268_644, hl_r268_645, hl_r268_646, hl_r268_647, hl_r268_648, hl_r268_649, hl_r268_650, hl_r268_651, hl_r268_654, hl_r268_655, hl_r268_656, hl_r268_657, hl_r268_658, hl_r268_659, hl_r268_660, hl_r268_661, hl_r268_662, hl_r268_663, hl_r268_664, hl_r268_665, hl_r268_666, hl_r268_667, hl_r268_668, hl_r268_669, hl_r268_670, hl_r268_671, hl_r268_672, hl_r268_673, hl_r268_674, hl_r268_675, hl_r268_678, hl_r268_681, hl_r268_682, hl_kp1, hl_kp2, hl_kp3, hl_kp4, hl_kp5, hl_kp6, b1, b2, b3, b4, b5, b6, c1, c2, c3, c4, c5, c6, hl_o_0, hl_o_85, hl_tl_s, hl_tl_n, hl_cal_some, if_true, if_false, h1, h2]
theorem hl_kc13 (hk : k + 7 ≤ Ln) (hL : Ln ≤ 3586) (h1 : cc 118 [.ref 0, .int (xs (k + 1)), .int (xs (k + 2))] (hl_g N I J) = some (some (.int v), hl_g N I1 J1)) (h2 : cc 210 [.ref 85, .int (xs (k + 1)), .int (xs (k + 2))] (hl_g N I1 J1) = some (some (.int v), hl_g N I2 J2)) : hl_LRun xs Ln 268 cc 683 [.ref 1000003, .ref 0, .ref 85, .int (nI k)] [] (hl_g N I J) = hl_LRun xs Ln 268 cc 1320 [.ref 1000003, .ref 0, .ref 85, .int (nI k)] [] (hl_g N I2 J2) := by
  obtain ⟨b1, c1⟩ := hl_bt (k := k) (j := 1) (Ln := Ln) (by omega) hL
  obtain ⟨b2, c2⟩ := hl_bt (k := k) (j := 2) (Ln := Ln) (by omega) hL
  obtain ⟨b3, c3⟩ := hl_bt (k := k) (j := 3) (Ln := Ln) (by omega) hL
  obtain ⟨b4, c4⟩ := hl_bt (k := k) (j := 4) (Ln := Ln) (by omega) hL
  obtain ⟨b5, c5⟩ := hl_bt (k := k) (j := 5) (Ln := Ln) (by omega) hL
  obtain ⟨b6, c6⟩ := hl_bt (k := k) (j := 6) (Ln := Ln) (by omega) hL
  simp only [hl_r268_683, hl_r268_684, hl_r268_685, hl_r268_686, hl_r268_687, hl_r268_688, hl_r268_689, hl_r268_690, hl_r268_691, hl_r268_692, hl_r268_693, hl_r268_694, hl_r268_697, hl_r268_698, hl_r268_699, hl_r268_700, hl_r268_701, hl_r268_702, hl_r268_703, hl_r268_704, hl_r268_705, hl_r268_706, hl_r268_707, hl_r268_708, hl_r268_711, hl_r268_714, hl_r268_715, hl_kp1, hl_kp2, hl_kp3, hl_kp4, hl_kp5, hl_kp6, b1, b2, b3, b4, b5, b6, c1, c2, c3, c4, c5, c6, hl_o_0, hl_o_85, hl_tl_s, hl_tl_n, hl_cal_some, if_true, if_false, h1, h2]
theorem hl_kc14 (hk : k + 7 ≤ Ln) (hL : Ln ≤ 3586) (h1 : cc 119 [.ref 0, .int (xs (k + 1))] (hl_g N I J) = some (some (.int v), hl_g N I1 J1)) (h2 : cc 222 [.ref 85, .int (xs (k + 1))] (hl_g N I1 J1) = some (some (.int v), hl_g N I2 J2)) : hl_LRun xs Ln 268 cc 716 [.ref 1000003, .ref 0, .ref 85, .int (nI k)] [] (hl_g N I J) = hl_LRun xs Ln 268 cc 1320 [.ref 1000003, .ref 0, .ref 85, .int (nI k)] [] (hl_g N I2 J2) := by
  obtain ⟨b1, c1⟩ := hl_bt (k := k) (j := 1) (Ln := Ln) (by omega) hL
  obtain ⟨b2, c2⟩ := hl_bt (k := k) (j := 2) (Ln := Ln) (by omega) hL
  obtain ⟨b3, c3⟩ := hl_bt (k := k) (j := 3) (Ln := Ln) (by omega) hL
  obtain ⟨b4, c4⟩ := hl_bt (k := k) (j := 4) (Ln := Ln) (by omega) hL
  obtain ⟨b5, c5⟩ := hl_bt (k := k) (j := 5) (Ln := Ln) (by omega) hL
  obtain ⟨b6, c6⟩ := hl_bt (k := k) (j := 6) (Ln := Ln) (by omega) hL
  simp only [hl_r268_716, hl_r268_717, hl_r268_718, hl_r268_719, hl_r268_720, hl_r268_721, hl_r268_722, hl_r268_725, hl_r268_726, hl_r268_727, hl_r268_728, hl_r268_729, hl_r268_730, hl_r268_731, hl_r268_734, hl_r268_737, hl_r268_738, hl_kp1, hl_kp2, hl_kp3, hl_kp4, hl_kp5, hl_kp6, b1, b2, b3, b4, b5, b6, c1, c2, c3, c4, c5, c6, hl_o_0, hl_o_85, hl_tl_s, hl_tl_n, hl_cal_some, if_true, if_false, h1, h2]
theorem hl_kc15 (hk : k + 7 ≤ Ln) (hL : Ln ≤ 3586) (h1 : cc 120 [.ref 0, .int (xs (k + 1)), .int (hl_bz (xs (k + 2))), .int (xs (k + 3))] (hl_g N I J) = some (some (.int v), hl_g N I1 J1)) (h2 : cc 232 [.ref 85, .int (xs (k + 1)), .int (hl_bz (xs (k + 2))), .int (xs (k + 3))] (hl_g N I1 J1) = some (some (.int v), hl_g N I2 J2)) : hl_LRun xs Ln 268 cc 739 [.ref 1000003, .ref 0, .ref 85, .int (nI k)] [] (hl_g N I J) = hl_LRun xs Ln 268 cc 1320 [.ref 1000003, .ref 0, .ref 85, .int (nI k)] [] (hl_g N I2 J2) := by
  obtain ⟨b1, c1⟩ := hl_bt (k := k) (j := 1) (Ln := Ln) (by omega) hL
  obtain ⟨b2, c2⟩ := hl_bt (k := k) (j := 2) (Ln := Ln) (by omega) hL
  obtain ⟨b3, c3⟩ := hl_bt (k := k) (j := 3) (Ln := Ln) (by omega) hL
  obtain ⟨b4, c4⟩ := hl_bt (k := k) (j := 4) (Ln := Ln) (by omega) hL
  obtain ⟨b5, c5⟩ := hl_bt (k := k) (j := 5) (Ln := Ln) (by omega) hL
  obtain ⟨b6, c6⟩ := hl_bt (k := k) (j := 6) (Ln := Ln) (by omega) hL
  unfold hl_bz at h1 h2
  by_cases hz : xs (k + 2) = 0
  · rw [if_pos hz] at h1 h2
    simp only [hl_r268_739, hl_r268_740, hl_r268_741, hl_r268_742, hl_r268_743, hl_r268_744, hl_r268_745, hl_r268_746, hl_r268_747, hl_r268_748, hl_r268_749, hl_r268_750, hl_r268_753, hl_r268_754, hl_r268_757, hl_r268_758, hl_r268_759, hl_r268_760, hl_r268_761, hl_r268_762, hl_r268_763, hl_r268_766, hl_r268_767, hl_r268_768, hl_r268_769, hl_r268_770, hl_r268_771, hl_r268_772, hl_r268_773, hl_r268_774, hl_r268_775, hl_r268_776, hl_r268_777, hl_r268_780, hl_r268_781, hl_r268_784, hl_r268_785, hl_r268_786, hl_r268_787, hl_r268_788, hl_r268_789, hl_r268_790, hl_r268_793, hl_r268_796, hl_r268_797, hl_kp1, hl_kp2, hl_kp3, hl_kp4, hl_kp5, hl_kp6, b1, b2, b3, b4, b5, b6, c1, c2, c3, c4, c5, c6, hl_o_0, hl_o_85, hl_tl_s, hl_tl_n, hl_cal_some, if_true, if_false, hz, h1, h2]
  · rw [if_neg hz] at h1 h2
    simp only [hl_r268_739, hl_r268_740, hl_r268_741, hl_r268_742, hl_r268_743, hl_r268_744, hl_r268_745, hl_r268_746, hl_r268_747, hl_r268_748, hl_r268_749, hl_r268_750, hl_r268_753, hl_r268_754, hl_r268_757, hl_r268_758, hl_r268_759, hl_r268_760, hl_r268_761, hl_r268_762, hl_r268_763, hl_r268_766, hl_r268_767, hl_r268_768, hl_r268_769, hl_r268_770, hl_r268_771, hl_r268_772, hl_r268_773, hl_r268_774, hl_r268_775, hl_r268_776, hl_r268_777, hl_r268_780, hl_r268_781, hl_r268_784, hl_r268_785, hl_r268_786, hl_r268_787, hl_r268_788, hl_r268_789, hl_r268_790, hl_r268_793, hl_r268_796, hl_r268_797, hl_kp1, hl_kp2, hl_kp3, hl_kp4, hl_kp5, hl_kp6, b1, b2, b3, b4, b5, b6, c1, c2, c3, c4, c5, c6, hl_o_0, hl_o_85, hl_tl_s, hl_tl_n, hl_cal_some, if_true, if_false, hz, h1, h2]
theorem hl_kc16 (hk : k + 7 ≤ Ln) (hL : Ln ≤ 3586) (h1 : cc 121 [.ref 0, .int (xs (k + 1)), .int (hl_bz (xs (k + 2)))] (hl_g N I J) = some (some (.int v), hl_g N I1 J1)) (h2 : cc 233 [.ref 85, .int (xs (k + 1)), .int (hl_bz (xs (k + 2)))] (hl_g N I1 J1) = some (some (.int v), hl_g N I2 J2)) : hl_LRun xs Ln 268 cc 798 [.ref 1000003, .ref 0, .ref 85, .int (nI k)] [] (hl_g N I J) = hl_LRun xs Ln 268 cc 1320 [.ref 1000003, .ref 0, .ref 85, .int (nI k)] [] (hl_g N I2 J2) := by
  obtain ⟨b1, c1⟩ := hl_bt (k := k) (j := 1) (Ln := Ln) (by omega) hL
  obtain ⟨b2, c2⟩ := hl_bt (k := k) (j := 2) (Ln := Ln) (by omega) hL
  obtain ⟨b3, c3⟩ := hl_bt (k := k) (j := 3) (Ln := Ln) (by omega) hL
  obtain ⟨b4, c4⟩ := hl_bt (k := k) (j := 4) (Ln := Ln) (by omega) hL
  obtain ⟨b5, c5⟩ := hl_bt (k := k) (j := 5) (Ln := Ln) (by omega) hL
  obtain ⟨b6, c6⟩ := hl_bt (k := k) (j := 6) (Ln := Ln) (by omega) hL
  unfold hl_bz at h1 h2
  by_cases hz : xs (k + 2) = 0
  · rw [if_pos hz] at h1 h2
    simp only [hl_r268_798, hl_r268_799, hl_r268_800, hl_r268_801, hl_r268_802, hl_r268_803, hl_r268_804, hl_r268_805, hl_r268_806, hl_r268_807, hl_r268_808, hl_r268_809, hl_r268_812, hl_r268_813, hl_r268_816, hl_r268_817, hl_r268_820, hl_r268_821, hl_r268_822, hl_r268_823, hl_r268_824, hl_r268_825, hl_r268_826, hl_r268_827, hl_r268_828, hl_r268_829, hl_r268_830, hl_r268_831, hl_r268_834, hl_r268_835, hl_r268_838, hl_r268_839, hl_r268_842, hl_r268_845, hl_r268_846, hl_kp1, hl_kp2, hl_kp3, hl_kp4, hl_kp5, hl_kp6, b1, b2, b3, b4, b5, b6, c1, c2, c3, c4, c5, c6, hl_o_0, hl_o_85, hl_tl_s, hl_tl_n, hl_cal_some, if_true, if_false, hz, h1, h2]
  · rw [if_neg hz] at h1 h2
    simp only [hl_r268_798, hl_r268_799, hl_r268_800, hl_r268_801, hl_r268_802, hl_r268_803, hl_r268_804, hl_r268_805, hl_r268_806, hl_r268_807, hl_r268_808, hl_r268_809, hl_r268_812, hl_r268_813, hl_r268_816, hl_r268_817, hl_r268_820, hl_r268_821, hl_r268_822, hl_r268_823, hl_r268_824, hl_r268_825, hl_r268_826, hl_r268_827, hl_r268_828, hl_r268_829, hl_r268_830, hl_r268_831, hl_r268_834, hl_r268_835, hl_r268_838, hl_r268_839, hl_r268_842, hl_r268_845, hl_r268_846, hl_kp1, hl_kp2, hl_kp3, hl_kp4, hl_kp5, hl_kp6, b1, b2, b3, b4, b5, b6, c1, c2, c3, c4, c5, c6, hl_o_0, hl_o_85, hl_tl_s, hl_tl_n, hl_cal_some, if_true, if_false, hz, h1, h2]
theorem hl_kc17 (hk : k + 7 ≤ Ln) (hL : Ln ≤ 3586) (h1 : cc 122 [.ref 0, .int (hl_bz (xs (k + 1))), .int (xs (k + 2))] (hl_g N I J) = some (some (.int v), hl_g N I1 J1)) (h2 : cc 234 [.ref 85, .int (hl_bz (xs (k + 1))), .int (xs (k + 2))] (hl_g N I1 J1) = some (some (.int v), hl_g N I2 J2)) : hl_LRun xs Ln 268 cc 847 [.ref 1000003, .ref 0, .ref 85, .int (nI k)] [] (hl_g N I J) = hl_LRun xs Ln 268 cc 1320 [.ref 1000003, .ref 0, .ref 85, .int (nI k)] [] (hl_g N I2 J2) := by
  obtain ⟨b1, c1⟩ := hl_bt (k := k) (j := 1) (Ln := Ln) (by omega) hL
  obtain ⟨b2, c2⟩ := hl_bt (k := k) (j := 2) (Ln := Ln) (by omega) hL
  obtain ⟨b3, c3⟩ := hl_bt (k := k) (j := 3) (Ln := Ln) (by omega) hL
  obtain ⟨b4, c4⟩ := hl_bt (k := k) (j := 4) (Ln := Ln) (by omega) hL
  obtain ⟨b5, c5⟩ := hl_bt (k := k) (j := 5) (Ln := Ln) (by omega) hL
  obtain ⟨b6, c6⟩ := hl_bt (k := k) (j := 6) (Ln := Ln) (by omega) hL
  unfold hl_bz at h1 h2
  by_cases hz : xs (k + 1) = 0
  · rw [if_pos hz] at h1 h2
    simp only [hl_r268_847, hl_r268_848, hl_r268_849, hl_r268_850, hl_r268_851, hl_r268_852, hl_r268_853, hl_r268_856, hl_r268_857, hl_r268_860, hl_r268_861, hl_r268_862, hl_r268_863, hl_r268_864, hl_r268_865, hl_r268_866, hl_r268_869, hl_r268_870, hl_r268_871, hl_r268_872, hl_r268_873, hl_r268_874, hl_r268_875, hl_r268_878, hl_r268_879, hl_r268_882, hl_r268_883, hl_r268_884, hl_r268_885, hl_r268_886, hl_r268_887, hl_r268_888, hl_r268_891, hl_r268_894, hl_r268_895, hl_kp1, hl_kp2, hl_kp3, hl_kp4, hl_kp5, hl_kp6, b1, b2, b3, b4, b5, b6, c1, c2, c3, c4, c5, c6, hl_o_0, hl_o_85, hl_tl_s, hl_tl_n, hl_cal_some, if_true, if_false, hz, h1, h2]
  · rw [if_neg hz] at h1 h2
    simp only [hl_r268_847, hl_r268_848, hl_r268_849, hl_r268_850, hl_r268_851, hl_r268_852, hl_r268_853, hl_r268_856, hl_r268_857, hl_r268_860, hl_r268_861, hl_r268_862, hl_r268_863, hl_r268_864, hl_r268_865, hl_r268_866, hl_r268_869, hl_r268_870, hl_r268_871, hl_r268_872, hl_r268_873, hl_r268_874, hl_r268_875, hl_r268_878, hl_r268_879, hl_r268_882, hl_r268_883, hl_r268_884, hl_r268_885, hl_r268_886, hl_r268_887, hl_r268_888, hl_r268_891, hl_r268_894, hl_r268_895, hl_kp1, hl_kp2, hl_kp3, hl_kp4, hl_kp5, hl_kp6, b1, b2, b3, b4, b5, b6, c1, c2, c3, c4, c5, c6, hl_o_0, hl_o_85, hl_tl_s, hl_tl_n, hl_cal_some, if_true, if_false, hz, h1, h2]
theorem hl_kc18 (hk : k + 7 ≤ Ln) (hL : Ln ≤ 3586) (h1 : cc 123 [.ref 0, .int (xs (k + 1)), .int (hl_bz (xs (k + 2))), .int (xs (k + 3))] (hl_g N I J) = some (some (.int v), hl_g N I1 J1)) (h2 : cc 237 [.ref 85, .int (xs (k + 1)), .int (hl_bz (xs (k + 2))), .int (xs (k + 3))] (hl_g N I1 J1) = some (some (.int v), hl_g N I2 J2)) : hl_LRun xs Ln 268 cc 896 [.ref 1000003, .ref 0, .ref 85, .int (nI k)] [] (hl_g N I J) = hl_LRun xs Ln 268 cc 1320 [.ref 1000003, .ref 0, .ref 85, .int (nI k)] [] (hl_g N I2 J2) := by
  obtain ⟨b1, c1⟩ := hl_bt (k := k) (j := 1) (Ln := Ln) (by omega) hL
  obtain ⟨b2, c2⟩ := hl_bt (k := k) (j := 2) (Ln := Ln) (by omega) hL
  obtain ⟨b3, c3⟩ := hl_bt (k := k) (j := 3) (Ln := Ln) (by omega) hL
  obtain ⟨b4, c4⟩ := hl_bt (k := k) (j := 4) (Ln := Ln) (by omega) hL
  obtain ⟨b5, c5⟩ := hl_bt (k := k) (j := 5) (Ln := Ln) (by omega) hL
  obtain ⟨b6, c6⟩ := hl_bt (k := k) (j := 6) (Ln := Ln) (by omega) hL
  unfold hl_bz at h1 h2
  by_cases hz : xs (k + 2) = 0
  · rw [if_pos hz] at h1 h2
    simp only [hl_r268_896, hl_r268_897, hl_r268_898, hl_r268_899, hl_r268_900, hl_r268_901, hl_r268_902, hl_r268_903, hl_r268_904, hl_r268_905, hl_r268_906, hl_r268_907, hl_r268_910, hl_r268_911, hl_r268_914, hl_r268_915, hl_r268_916, hl_r268_917, hl_r268_918, hl_r268_919, hl_r268_920, hl_r268_923, hl_r268_924, hl_r268_925, hl_r268_926, hl_r268_927, hl_r268_928, hl_r268_929, hl_r268_930, hl_r268_931, hl_r268_932, hl_r268_933, hl_r268_934, hl_r268_937, hl_r268_938, hl_r268_941, hl_r268_942, hl_r268_943, hl_r268_944, hl_r268_945, hl_r268_946, hl_r268_947, hl_r268_950, hl_r268_953, hl_r268_954, hl_kp1, hl_kp2, hl_kp3, hl_kp4, hl_kp5, hl_kp6, b1, b2, b3, b4, b5, b6, c1, c2, c3, c4, c5, c6, hl_o_0, hl_o_85, hl_tl_s, hl_tl_n, hl_cal_some, if_true, if_false, hz, h1, h2]
  · rw [if_neg hz] at h1 h2
    simp only [hl_r268_896, hl_r268_897, hl_r268_898, hl_r268_899, hl_r268_900, hl_r268_901, hl_r268_902, hl_r268_903, hl_r268_904, hl_r268_905, hl_r268_906, hl_r268_907, hl_r268_910, hl_r268_911, hl_r268_914, hl_r268_915, hl_r268_916, hl_r268_917, hl_r268_918, hl_r268_919, hl_r268_920, hl_r268_923, hl_r268_924, hl_r268_925, hl_r268_926, hl_r268_927, hl_r268_928, hl_r268_929, hl_r268_930, hl_r268_931, hl_r268_932, hl_r268_933, hl_r268_934, hl_r268_937, hl_r268_938, hl_r268_941, hl_r268_942, hl_r268_943, hl_r268_944, hl_r268_945, hl_r268_946, hl_r268_947, hl_r268_950, hl_r268_953, hl_r268_954, hl_kp1, hl_kp2, hl_kp3, hl_kp4, hl_kp5, hl_kp6, b1, b2, b3, b4, b5, b6, c1, c2, c3, c4, c5, c6, hl_o_0, hl_o_85, hl_tl_s, hl_tl_n, hl_cal_some, if_true, if_false, hz, h1, h2]
theorem hl_kc19 (hk : k + 7 ≤ Ln) (hL : Ln ≤ 3586) (h1 : cc 124 [.ref 0, .int (xs (k + 1))] (hl_g N I J) = some (some (.int v), hl_g N I1 J1)) (h2 : cc 239 [.ref 85, .int (xs (k + 1))] (hl_g N I1 J1) = some (some (.int v), hl_g N I2 J2)) : hl_LRun xs Ln 268 cc 955 [.ref 1000003, .ref 0, .ref 85, .int (nI k)] [] (hl_g N I J) = hl_LRun xs Ln 268 cc 1320 [.ref 1000003, .ref 0, .ref 85, .int (nI k)] [] (hl_g N I2 J2) := by
  obtain ⟨b1, c1⟩ := hl_bt (k := k) (j := 1) (Ln := Ln) (by omega) hL
  obtain ⟨b2, c2⟩ := hl_bt (k := k) (j := 2) (Ln := Ln) (by omega) hL
  obtain ⟨b3, c3⟩ := hl_bt (k := k) (j := 3) (Ln := Ln) (by omega) hL
  obtain ⟨b4, c4⟩ := hl_bt (k := k) (j := 4) (Ln := Ln) (by omega) hL
  obtain ⟨b5, c5⟩ := hl_bt (k := k) (j := 5) (Ln := Ln) (by omega) hL
  obtain ⟨b6, c6⟩ := hl_bt (k := k) (j := 6) (Ln := Ln) (by omega) hL
  simp only [hl_r268_955, hl_r268_956, hl_r268_957, hl_r268_958, hl_r268_959, hl_r268_960, hl_r268_961, hl_r268_964, hl_r268_965, hl_r268_966, hl_r268_967, hl_r268_968, hl_r268_969, hl_r268_970, hl_r268_973, hl_r268_976, hl_r268_977, hl_kp1, hl_kp2, hl_kp3, hl_kp4, hl_kp5, hl_kp6, b1, b2, b3, b4, b5, b6, c1, c2, c3, c4, c5, c6, hl_o_0, hl_o_85, hl_tl_s, hl_tl_n, hl_cal_some, if_true, if_false, h1, h2]
theorem hl_kc20 (hk : k + 7 ≤ Ln) (hL : Ln ≤ 3586) (h1 : cc 125 [.ref 0, .int (xs (k + 1)), .int (xs (k + 2))] (hl_g N I J) = some (some (.int v), hl_g N I1 J1)) (h2 : cc 240 [.ref 85, .int (xs (k + 1)), .int (xs (k + 2))] (hl_g N I1 J1) = some (some (.int v), hl_g N I2 J2)) : hl_LRun xs Ln 268 cc 978 [.ref 1000003, .ref 0, .ref 85, .int (nI k)] [] (hl_g N I J) = hl_LRun xs Ln 268 cc 1320 [.ref 1000003, .ref 0, .ref 85, .int (nI k)] [] (hl_g N I2 J2) := by
  obtain ⟨b1, c1⟩ := hl_bt (k := k) (j := 1) (Ln := Ln) (by omega) hL
  obtain ⟨b2, c2⟩ := hl_bt (k := k) (j := 2) (Ln := Ln) (by omega) hL
  obtain ⟨b3, c3⟩ := hl_bt (k := k) (j := 3) (Ln := Ln) (by omega) hL
  obtain ⟨b4, c4⟩ := hl_bt (k := k) (j := 4) (Ln := Ln) (by omega) hL
  obtain ⟨b5, c5⟩ := hl_bt (k := k) (j := 5) (Ln := Ln) (by omega) hL
  obtain ⟨b6, c6⟩ := hl_bt (k := k) (j := 6) (Ln := Ln) (by omega) hL
  simp only [hl_r268_978, hl_r268_979, hl_r268_980, hl_r268_981, hl_r268_982, hl_r268_983, hl_r268_984, hl_r268_985, hl_r268_986, hl_r268_987, hl_r268_988, hl_r268_989, hl_r268_992, hl_r268_993, hl_r268_994, hl_r268_995, hl_r268_996, hl_r268_997, hl_r268_998, hl_r268_999, hl_r268_1000, hl_r268_1001, hl_r268_1002, hl_r268_1003, hl_r268_1006, hl_r268_1009, hl_r268_1010, hl_kp1, hl_kp2, hl_kp3, hl_kp4, hl_kp5, hl_kp6, b1, b2, b3, b4, b5, b6, c1, c2, c3, c4, c5, c6, hl_o_0, hl_o_85, hl_tl_s, hl_tl_n, hl_cal_some, if_true, if_false, h1, h2]
theorem hl_kc21 (hk : k + 7 ≤ Ln) (hL : Ln ≤ 3586) (h1 : cc 126 [.ref 0, .int (xs (k + 1))] (hl_g N I J) = some (some (.int v), hl_g N I1 J1)) (h2 : cc 245 [.ref 85, .int (xs (k + 1))] (hl_g N I1 J1) = some (some (.int v), hl_g N I2 J2)) : hl_LRun xs Ln 268 cc 1011 [.ref 1000003, .ref 0, .ref 85, .int (nI k)] [] (hl_g N I J) = hl_LRun xs Ln 268 cc 1320 [.ref 1000003, .ref 0, .ref 85, .int (nI k)] [] (hl_g N I2 J2) := by
  obtain ⟨b1, c1⟩ := hl_bt (k := k) (j := 1) (Ln := Ln) (by omega) hL
  obtain ⟨b2, c2⟩ := hl_bt (k := k) (j := 2) (Ln := Ln) (by omega) hL
  obtain ⟨b3, c3⟩ := hl_bt (k := k) (j := 3) (Ln := Ln) (by omega) hL
  obtain ⟨b4, c4⟩ := hl_bt (k := k) (j := 4) (Ln := Ln) (by omega) hL
  obtain ⟨b5, c5⟩ := hl_bt (k := k) (j := 5) (Ln := Ln) (by omega) hL
  obtain ⟨b6, c6⟩ := hl_bt (k := k) (j := 6) (Ln := Ln) (by omega) hL
  simp only [hl_r268_1011, hl_r268_1012, hl_r268_1013, hl_r268_1014, hl_r268_1015, hl_r268_1016, hl_r268_1017, hl_r268_1020, hl_r268_1021, hl_r268_1022, hl_r268_1023, hl_r268_1024, hl_r268_1025, hl_r268_1026, hl_r268_1029, hl_r268_1032, hl_r268_1033, hl_kp1, hl_kp2, hl_kp3, hl_kp4, hl_kp5, hl_kp6, b1, b2, b3, b4, b5, b6, c1, c2, c3, c4, c5, c6, hl_o_0, hl_o_85, hl_tl_s, hl_tl_n, hl_cal_some, if_true, if_false, h1, h2]
theorem hl_kc22 (hk : k + 7 ≤ Ln) (hL : Ln ≤ 3586) (h1 : cc 127 [.ref 0, .int (xs (k + 1)), .int (xs (k + 2)), .int (xs (k + 3))] (hl_g N I J) = some (some (.int v), hl_g N I1 J1)) (h2 : cc 246 [.ref 85, .int (xs (k + 1)), .int (xs (k + 2)), .int (xs (k + 3))] (hl_g N I1 J1) = some (some (.int v), hl_g N I2 J2)) : hl_LRun xs Ln 268 cc 1034 [.ref 1000003, .ref 0, .ref 85, .int (nI k)] [] (hl_g N I J) = hl_LRun xs Ln 268 cc 1320 [.ref 1000003, .ref 0, .ref 85, .int (nI k)] [] (hl_g N I2 J2) := by
  obtain ⟨b1, c1⟩ := hl_bt (k := k) (j := 1) (Ln := Ln) (by omega) hL
  obtain ⟨b2, c2⟩ := hl_bt (k := k) (j := 2) (Ln := Ln) (by omega) hL
  obtain ⟨b3, c3⟩ := hl_bt (k := k) (j := 3) (Ln := Ln) (by omega) hL
  obtain ⟨b4, c4⟩ := hl_bt (k := k) (j := 4) (Ln := Ln) (by omega) hL
  obtain ⟨b5, c5⟩ := hl_bt (k := k) (j := 5) (Ln := Ln) (by omega) hL
  obtain ⟨b6, c6⟩ := hl_bt (k := k) (j := 6) (Ln := Ln) (by omega) hL
  simp only [hl_r268_1034, hl_r268_1035, hl_r268_1036, hl_r268_1037, hl_r268_1038, hl_r268_1039, hl_r268_1040, hl_r268_1041, hl_r268_1042, hl_r268_1043, hl_r268_1044, hl_r268_1045, hl_r268_1046, hl_r268_1047, hl_r268_1048, hl_r268_1049, hl_r268_1050, hl_r268_1053, hl_r268_1054, hl_r268_1055, hl_r268_1056, hl_r268_1057, hl_r268_1058, hl_r268_1059, hl_r268_1060, hl_r268_1061, hl_r268_1062, hl_r268_1063, hl_r268_1064, hl_r268_1065, hl_r268_1066, hl_r268_1067, hl_r268_1068, hl_r268_1069, hl_r268_1072, hl_r268_1075, hl_r268_1076, hl_kp1, hl_kp2, hl_kp3, hl_kp4, hl_kp5, hl_kp6, b1, b2, b3, b4, b5, b6, c1, c2, c3, c4, c5, c6, hl_o_0, hl_o_85, hl_tl_s, hl_tl_n, hl_cal_some, if_true, if_false, h1, h2]
theorem hl_kc23 (hk : k + 7 ≤ Ln) (hL : Ln ≤ 3586) (h1 : cc 128 [.ref 0, .int (xs (k + 1))] (hl_g N I J) = some (some (.int v), hl_g N I1 J1)) (h2 : cc 247 [.ref 85, .int (xs (k + 1))] (hl_g N I1 J1) = some (some (.int v), hl_g N I2 J2)) : hl_LRun xs Ln 268 cc 1077 [.ref 1000003, .ref 0, .ref 85, .int (nI k)] [] (hl_g N I J) = hl_LRun xs Ln 268 cc 1320 [.ref 1000003, .ref 0, .ref 85, .int (nI k)] [] (hl_g N I2 J2) := by
  obtain ⟨b1, c1⟩ := hl_bt (k := k) (j := 1) (Ln := Ln) (by omega) hL
  obtain ⟨b2, c2⟩ := hl_bt (k := k) (j := 2) (Ln := Ln) (by omega) hL
  obtain ⟨b3, c3⟩ := hl_bt (k := k) (j := 3) (Ln := Ln) (by omega) hL
  obtain ⟨b4, c4⟩ := hl_bt (k := k) (j := 4) (Ln := Ln) (by omega) hL
  obtain ⟨b5, c5⟩ := hl_bt (k := k) (j := 5) (Ln := Ln) (by omega) hL
  obtain ⟨b6, c6⟩ := hl_bt (k := k) (j := 6) (Ln := Ln) (by omega) hL
  simp only [hl_r268_1077, hl_r268_1078, hl_r268_1079, hl_r268_1080, hl_r268_1081, hl_r268_1082, hl_r268_1083, hl_r268_1086, hl_r268_1087, hl_r268_1088, hl_r268_1089, hl_r268_1090, hl_r268_1091, hl_r268_1092, hl_r268_1095, hl_r268_1098, hl_r268_1099, hl_kp1, hl_kp2, hl_kp3, hl_kp4, hl_kp5, hl_kp6, b1, b2, b3, b4, b5, b6, c1, c2, c3, c4, c5, c6, hl_o_0, hl_o_85, hl_tl_s, hl_tl_n, hl_cal_some, if_true, if_false, h1, h2]
theorem hl_kc24 (hk : k + 7 ≤ Ln) (hL : Ln ≤ 3586) (h1 : cc 129 [.ref 0, .int (xs (k + 1)), .int (xs (k + 2)), .int (xs (k + 3))] (hl_g N I J) = some (some (.int v), hl_g N I1 J1)) (h2 : cc 249 [.ref 85, .int (xs (k + 1)), .int (xs (k + 2)), .int (xs (k + 3))] (hl_g N I1 J1) = some (some (.int v), hl_g N I2 J2)) : hl_LRun xs Ln 268 cc 1100 [.ref 1000003, .ref 0, .ref 85, .int (nI k)] [] (hl_g N I J) = hl_LRun xs Ln 268 cc 1320 [.ref 1000003, .ref 0, .ref 85, .int (nI k)] [] (hl_g N I2 J2) := by
  obtain ⟨b1, c1⟩ := hl_bt (k := k) (j := 1) (Ln := Ln) (by omega) hL
  obtain ⟨b2, c2⟩ := hl_bt (k := k) (j := 2) (Ln := Ln) (by omega) hL
  obtain ⟨b3, c3⟩ := hl_bt (k := k) (j := 3) (Ln := Ln) (by omega) hL
  obtain ⟨b4, c4⟩ := hl_bt (k := k) (j := 4) (Ln := Ln) (by omega) hL
  obtain ⟨b5, c5⟩ := hl_bt (k := k) (j := 5) (Ln := Ln) (by omega) hL
  obtain ⟨b6, c6⟩ := hl_bt (k := k) (j := 6) (Ln := Ln) (by omega) hL
  simp only [hl_r268_1100, hl_r268_1101, hl_r268_1102, hl_r268_1103, hl_r268_1104, hl_r268_1105, hl_r268_1106, hl_r268_1107, hl_r268_1108, hl_r268_1109, hl_r268_1110, hl_r268_1111, hl_r268_1112, hl_r268_1113, hl_r268_1114, hl_r268_1115, hl_r268_1116, hl_r268_1119, hl_r268_1120, hl_r268_1121, hl_r268_1122, hl_r268_1123, hl_r268_1124, hl_r268_1125, hl_r268_1126, hl_r268_1127, hl_r268_1128, hl_r268_1129, hl_r268_1130, hl_r268_1131, hl_r268_1132, hl_r268_1133, hl_r268_1134, hl_r268_1135, hl_r268_1138, hl_r268_1141, hl_r268_1142, hl_kp1, hl_kp2, hl_kp3, hl_kp4, hl_kp5, hl_kp6, b1, b2, b3, b4, b5, b6, c1, c2, c3, c4, c5, c6, hl_o_0, hl_o_85, hl_tl_s, hl_tl_n, hl_cal_some, if_true, if_false, h1, h2]
theorem hl_kc25 (hk : k + 7 ≤ Ln) (hL : Ln ≤ 3586) (h1 : cc 130 [.ref 0, .int (xs (k + 1)), .int (xs (k + 2))] (hl_g N I J) = some (some (.int v), hl_g N I1 J1)) (h2 : cc 251 [.ref 85, .int (xs (k + 1)), .int (xs (k + 2))] (hl_g N I1 J1) = some (some (.int v), hl_g N I2 J2)) : hl_LRun xs Ln 268 cc 1143 [.ref 1000003, .ref 0, .ref 85, .int (nI k)] [] (hl_g N I J) = hl_LRun xs Ln 268 cc 1320 [.ref 1000003, .ref 0, .ref 85, .int (nI k)] [] (hl_g N I2 J2) := by
  obtain ⟨b1, c1⟩ := hl_bt (k := k) (j := 1) (Ln := Ln) (by omega) hL
  obtain ⟨b2, c2⟩ := hl_bt (k := k) (j := 2) (Ln := Ln) (by omega) hL
  obtain ⟨b3, c3⟩ := hl_bt (k := k) (j := 3) (Ln := Ln) (by omega) hL
  obtain ⟨b4, c4⟩ := hl_bt (k := k) (j := 4) (Ln := Ln) (by omega) hL
  obtain ⟨b5, c5⟩ := hl_bt (k := k) (j := 5) (Ln := Ln) (by omega) hL
  obtain ⟨b6, c6⟩ := hl_bt (k := k) (j := 6) (Ln := Ln) (by omega) hL
  simp only [hl_r268_1143, hl_r268_1144, hl_r268_1145, hl_r268_1146, hl_r268_1147, hl_r268_1148, hl_r268_1149, hl_r268_1150, hl_r268_1151, hl_r268_1152, hl_r268_1153, hl_r268_1154, hl_r268_1157, hl_r268_1158, hl_r268_1159, hl_r268_1160, hl_r268_1161, hl_r268_1162, hl_r268_1163, hl_r268_1164, hl_r268_1165, hl_r268_1166, hl_r268_1167, hl_r268_1168, hl_r268_1171, hl_r268_1174, hl_r268_1175, hl_kp1, hl_kp2, hl_kp3, hl_kp4, hl_kp5, hl_kp6, b1, b2, b3, b4, b5, b6, c1, c2, c3, c4, c5, c6, hl_o_0, hl_o_85, hl_tl_s, hl_tl_n, hl_cal_some, if_true, if_false, h1, h2]
theorem hl_kc26 (hk : k + 7 ≤ Ln) (hL : Ln ≤ 3586) (h1 : cc 131 [.ref 0, .int (xs (k + 1))] (hl_g N I J) = some (some (.int v), hl_g N I1 J1)) (h2 : cc 252 [.ref 85, .int (xs (k + 1))] (hl_g N I1 J1) = some (some (.int v), hl_g N I2 J2)) : hl_LRun xs Ln 268 cc 1176 [.ref 1000003, .ref 0, .ref 85, .int (nI k)] [] (hl_g N I J) = hl_LRun xs Ln 268 cc 1320 [.ref 1000003, .ref 0, .ref 85, .int (nI k)] [] (hl_g N I2 J2) := by
  obtain ⟨b1, c1⟩ := hl_bt (k := k) (j := 1) (Ln := Ln) (by omega) hL
  obtain ⟨b2, c2⟩ := hl_bt (k := k) (j := 2) (Ln := Ln) (by omega) hL
  obtain ⟨b3, c3⟩ := hl_bt (k := k) (j := 3) (Ln := Ln) (by omega) hL
  obtain ⟨b4, c4⟩ := hl_bt (k := k) (j := 4) (Ln := Ln) (by omega) hL
  obtain ⟨b5, c5⟩ := hl_bt (k := k) (j := 5) (Ln := Ln) (by omega) hL
  obtain ⟨b6, c6⟩ := hl_bt (k := k) (j := 6) (Ln := Ln) (by omega) hL
  simp only [hl_r268_1176, hl_r268_1177, hl_r268_1178, hl_r268_1179, hl_r268_1180, hl_r268_1181, hl_r268_1182, hl_r268_1185, hl_r268_1186, hl_r268_1187, hl_r268_1188, hl_r268_1189, hl_r268_1190, hl_r268_1191, hl_r268_1194, hl_r268_1197, hl_r268_1198, hl_kp1, hl_kp2, hl_kp3, hl_kp4, hl_kp5, hl_kp6, b1, b2, b3, b4, b5, b6, c1, c2, c3, c4, c5, c6, hl_o_0, hl_o_85, hl_tl_s, hl_tl_n, hl_cal_some, if_true, if_false, h1, h2]
theorem hl_kc27 (hk : k + 7 ≤ Ln) (hL : Ln ≤ 3586) (h1 : cc 132 [.ref 0, .int (xs (k + 1)), .int (hl_bz (xs (k + 2)))] (hl_g N I J) = some (some (.int v), hl_g N I1 J1)) (h2 : cc 254 [.ref 85, .int (xs (k + 1)), .int (hl_bz (xs (k + 2)))] (hl_g N I1 J1) = some (some (.int v), hl_g N I2 J2)) : hl_LRun xs Ln 268 cc 1199 [.ref 1000003, .ref 0, .ref 85, .int (nI k)] [] (hl_g N I J) = hl_LRun xs Ln 268 cc 1320 [.ref 1000003, .ref 0, .ref 85, .int (nI k)] [] (hl_g N I2 J2) := by
  obtain ⟨b1, c1⟩ := hl_bt (k := k) (j := 1) (Ln := Ln) (by omega) hL
  obtain ⟨b2, c2⟩ := hl_bt (k := k) (j := 2) (Ln := Ln) (by omega) hL
  obtain ⟨b3, c3⟩ := hl_bt (k := k) (j := 3) (Ln := Ln) (by omega) hL
  obtain ⟨b4, c4⟩ := hl_bt (k := k) (j := 4) (Ln := Ln) (by omega) hL
  obtain ⟨b5, c5⟩ := hl_bt (k := k) (j := 5) (Ln := Ln) (by omega) hL
  obtain ⟨b6, c6⟩ := hl_bt (k := k) (j := 6) (Ln := Ln) (by omega) hL
  unfold hl_bz at h1 h2
  by_cases hz : xs (k + 2) = 0
  · rw [if_pos hz] at h1 h2
    simp only [hl_r268_1199, hl_r268_1200, hl_r268_1201, hl_r268_1202, hl_r268_1203, hl_r268_1204, hl_r268_1205, hl_r268_1206, hl_r268_1207, hl_r268_1208, hl_r268_1209, hl_r268_1210, hl_r268_1213, hl_r268_1214, hl_r268_1217, hl_r268_1218, hl_r268_1221, hl_r268_1222, hl_r268_1223, hl_r268_1224, hl_r268_1225, hl_r268_1226, hl_r268_1227, hl_r268_1228, hl_r268_1229, hl_r268_1230, hl_r268_1231, hl_r268_1232, hl_r268_1235, hl_r268_1236, hl_r268_1239, hl_r268_1240, hl_r268_1243, hl_r268_1246, hl_r268_1247, hl_kp1, hl_kp2, hl_kp3, hl_kp4, hl_kp5, hl_kp6, b1, b2, b3, b4, b5, b6, c1, c2, c3, c4, c5, c6, hl_o_0, hl_o_85, hl_tl_s, hl_tl_n, hl_cal_some, if_true, if_false, hz, h1, h2]
  · rw [if_neg hz] at h1 h2
    simp only [hl_r268_1199, hl_r268_1200, hl_r268_1201, hl_r268_1202, hl_r268_1203, hl_r268_1204, hl_r268_1205, hl_r268_1206, hl_r268_1207, hl_r268_1208, hl_r268_1209, hl_r268_1210, hl_r268_1213, hl_r268_1214, hl_r268_1217, hl_r268_1218, hl_r268_1221, hl_r268_1222, hl_r268_1223, hl_r268_1224, hl_r268_1225, hl_r268_1226, hl_r268_1227, hl_r268_1228, hl_r268_1229, hl_r268_1230, hl_r268_1231, hl_r268_1232, hl_r268_1235, hl_r268_1236, hl_r268_1239, hl_r268_1240, hl_r268_1243, hl_r268_1246, hl_r268_1247, hl_kp1, hl_kp2, hl_kp3, hl_kp4, hl_kp5, hl_kp6, b1, b2, b3, b4, b5, b6, c1, c2, c3, c4, c5, c6, hl_o_0, hl_o_85, hl_tl_s, hl_tl_n, hl_cal_some, if_true, if_false, hz, h1, h2]
theorem hl_kc28 (hk : k + 7 ≤ Ln) (hL : Ln ≤ 3586) (h1 : cc 133 [.ref 0, .int (xs (k + 1))] (hl_g N I J) = some (some (.int v), hl_g N I1 J1)) (h2 : cc 255 [.ref 85, .int (xs (k + 1))] (hl_g N I1 J1) = some (some (.int v), hl_g N I2 J2)) : hl_LRun xs Ln 268 cc 1248 [.ref 1000003, .ref 0, .ref 85, .int (nI k)] [] (hl_g N I J) = hl_LRun xs Ln 268 cc 1320 [.ref 1000003, .ref 0, .ref 85, .int (nI k)] [] (hl_g N I2 J2) := by
  obtain ⟨b1, c1⟩ := hl_bt (k := k) (j := 1) (Ln := Ln) (by omega) hL
  obtain ⟨b2, c2⟩ := hl_bt (k := k) (j := 2) (Ln := Ln) (by omega) hL
  obtain ⟨b3, c3⟩ := hl_bt (k := k) (j := 3) (Ln := Ln) (by omega) hL
  obtain ⟨b4, c4⟩ := hl_bt (k := k) (j := 4) (Ln := Ln) (by omega) hL
  obtain ⟨b5, c5⟩ := hl_bt (k := k) (j := 5) (Ln := Ln) (by omega) hL
  obtain ⟨b6, c6⟩ := hl_bt (k := k) (j := 6) (Ln := Ln) (by omega) hL
  simp only [hl_r268_1248, hl_r268_1249, hl_r268_1250, hl_r268_1251, hl_r268_1252, hl_r268_1253, hl_r268_1254, hl_r268_1257, hl_r268_1258, hl_r268_1259, hl_r268_1260, hl_r268_1261, hl_r268_1262, hl_r268_1263, hl_r268_1266, hl_r268_1269, hl_r268_1270, hl_kp1, hl_kp2, hl_kp3, hl_kp4, hl_kp5, hl_kp6, b1, b2, b3, b4, b5, b6, c1, c2, c3, c4, c5, c6, hl_o_0, hl_o_85, hl_tl_s, hl_tl_n, hl_cal_some, if_true, if_false, h1, h2]
theorem hl_kc29 (hk : k + 7 ≤ Ln) (hL : Ln ≤ 3586) (h1 : cc 134 [.ref 0] (hl_g N I J) = some (some (.int v), hl_g N I1 J1)) (h2 : cc 256 [.ref 85] (hl_g N I1 J1) = some (some (.int v), hl_g N I2 J2)) : hl_LRun xs Ln 268 cc 1271 [.ref 1000003, .ref 0, .ref 85, .int (nI k)] [] (hl_g N I J) = hl_LRun xs Ln 268 cc 1320 [.ref 1000003, .ref 0, .ref 85, .int (nI k)] [] (hl_g N I2 J2) := by
  obtain ⟨b1, c1⟩ := hl_bt (k := k) (j := 1) (Ln := Ln) (by omega) hL
  obtain ⟨b2, c2⟩ := hl_bt (k := k) (j := 2) (Ln := Ln) (by omega) hL
  obtain ⟨b3, c3⟩ := hl_bt (k := k) (j := 3) (Ln := Ln) (by omega) hL
  obtain ⟨b4, c4⟩ := hl_bt (k := k) (j := 4) (Ln := Ln) (by omega) hL
  obtain ⟨b5, c5⟩ := hl_bt (k := k) (j := 5) (Ln := Ln) (by omega) hL
  obtain ⟨b6, c6⟩ := hl_bt (k := k) (j := 6) (Ln := Ln) (by omega) hL
  simp only [hl_r268_1271, hl_r268_1272, hl_r268_1275, hl_r268_1276, hl_r268_1279, hl_r268_1282, hl_r268_1283, hl_kp1, hl_kp2, hl_kp3, hl_kp4, hl_kp5, hl_kp6, b1, b2, b3, b4, b5, b6, c1, c2, c3, c4, c5, c6, hl_o_0, hl_o_85, hl_tl_s, hl_tl_n, hl_cal_some, if_true, if_false, h1, h2]
theorem hl_kc30 (hk : k + 7 ≤ Ln) (hL : Ln ≤ 3586) (h1 : cc 135 [.ref 0] (hl_g N I J) = some (some (.int v), hl_g N I1 J1)) (h2 : cc 257 [.ref 85] (hl_g N I1 J1) = some (some (.int v), hl_g N I2 J2)) : hl_LRun xs Ln 268 cc 1284 [.ref 1000003, .ref 0, .ref 85, .int (nI k)] [] (hl_g N I J) = hl_LRun xs Ln 268 cc 1320 [.ref 1000003, .ref 0, .ref 85, .int (nI k)] [] (hl_g N I2 J2) := by
  obtain ⟨b1, c1⟩ := hl_bt (k := k) (j := 1) (Ln := Ln) (by omega) hL
  obtain ⟨b2, c2⟩ := hl_bt (k := k) (j := 2) (Ln := Ln) (by omega) hL
  obtain ⟨b3, c3⟩ := hl_bt (k := k) (j := 3) (Ln := Ln) (by omega) hL
  obtain ⟨b4, c4⟩ := hl_bt (k := k) (j := 4) (Ln := Ln) (by omega) hL
  obtain ⟨b5, c5⟩ := hl_bt (k := k) (j := 5) (Ln := Ln) (by omega) hL
  obtain ⟨b6, c6⟩ := hl_bt (k := k) (j := 6) (Ln := Ln) (by omega) hL
  simp only [hl_r268_1284, hl_r268_1285, hl_r268_1288, hl_r268_1289, hl_r268_1292, hl_r268_1295, hl_r268_1296, hl_kp1, hl_kp2, hl_kp3, hl_kp4, hl_kp5, hl_kp6, b1, b2, b3, b4, b5, b6, c1, c2, c3, c4, c5, c6, hl_o_0, hl_o_85, hl_tl_s, hl_tl_n, hl_cal_some, if_true, if_false, h1, h2]
theorem hl_kc31 (hk : k + 7 ≤ Ln) (hL : Ln ≤ 3586) (h1 : cc 136 [.ref 0, .int (xs (k + 1))] (hl_g N I J) = some (some (.int v), hl_g N I1 J1)) (h2 : cc 258 [.ref 85, .int (xs (k + 1))] (hl_g N I1 J1) = some (some (.int v), hl_g N I2 J2)) : hl_LRun xs Ln 268 cc 1297 [.ref 1000003, .ref 0, .ref 85, .int (nI k)] [] (hl_g N I J) = hl_LRun xs Ln 268 cc 1320 [.ref 1000003, .ref 0, .ref 85, .int (nI k)] [] (hl_g N I2 J2) := by
  obtain ⟨b1, c1⟩ := hl_bt (k := k) (j := 1) (Ln := Ln) (by omega) hL
  obtain ⟨b2, c2⟩ := hl_bt (k := k) (j := 2) (Ln := Ln) (by omega) hL
  obtain ⟨b3, c3⟩ := hl_bt (k := k) (j := 3) (Ln := Ln) (by omega) hL
  obtain ⟨b4, c4⟩ := hl_bt (k := k) (j := 4) (Ln := Ln) (by omega) hL
  obtain ⟨b5, c5⟩ := hl_bt (k := k) (j := 5) (Ln := Ln) (by omega) hL
  obtain ⟨b6, c6⟩ := hl_bt (k := k) (j := 6) (Ln := Ln) (by omega) hL
  simp only [hl_r268_1297, hl_r268_1298, hl_r268_1299, hl_r268_1300, hl_r268_1301, hl_r268_1302, hl_r268_1303, hl_r268_1306, hl_r268_1307, hl_r268_1308, hl_r268_1309, hl_r268_1310, hl_r268_1311, hl_r268_1312, hl_r268_1315, hl_r268_1318, hl_r268_1319, hl_kp1, hl_kp2, hl_kp3, hl_kp4, hl_kp5, hl_kp6, b1, b2, b3, b4, b5, b6, c1, c2, c3, c4, c5, c6, hl_o_0, hl_o_85, hl_tl_s, hl_tl_n, hl_cal_some, if_true, if_false, h1, h2]
theorem hl_kcase {o : Nat} (ho : o < 32) (hk : k + 7 ≤ Ln) (hL : Ln ≤ 3586) (h1 : cc (hl_jc o) (.ref 0 :: hl_args o (fun j => xs (k + j))) (hl_g N I J) = some (some (.int v), hl_g N I1 J1)) (h2 : cc (hl_jm o) (.ref 85 :: hl_args o (fun j => xs (k + j))) (hl_g N I1 J1) = some (some (.int v), hl_g N I2 J2)) : hl_LRun xs Ln 268 cc 53 [.ref 1000003, .ref 0, .ref 85, .int (nI k)] [.int (nI o)] (hl_g N I J) = hl_LRun xs Ln 268 cc 1320 [.ref 1000003, .ref 0, .ref 85, .int (nI k)] [] (hl_g N I2 J2) := by
  match o, ho, h1, h2 with
  | 0, _, h1, h2 => exact hl_r268_53_0.trans (hl_kc0 hk hL h1 h2)
  | 1, _, h1, h2 => exact hl_r268_53_1.trans (hl_kc1 hk hL h1 h2)
  | 2, _, h1, h2 => exact hl_r268_53_2.trans (hl_kc2 hk hL h1 h2)
  | 3, _, h1, h2 => exact hl_r268_53_3.trans (hl_kc3 hk hL h1 h2)
  | 4, _, h1, h2 => exact hl_r268_53_4.trans (hl_kc4 hk hL h1 h2)
  | 5, _, h1, h2 => exact hl_r268_53_5.trans (hl_kc5 hk hL h1 h2)
  | 6, _, h1, h2 => exact hl_r268_53_6.trans (hl_kc6 hk hL h1 h2)
  | 7, _, h1, h2 => exact hl_r268_53_7.trans (hl_kc7 hk hL h1 h2)
  | 8, _, h1, h2 => exact hl_r268_53_8.trans (hl_kc8 hk hL h1 h2)
  | 9, _, h1, h2 => exact hl_r268_53_9.trans (hl_kc9 hk hL h1 h2)
  | 10, _, h1, h2 => exact hl_r268_53_10.trans (hl_kc10 hk hL h1 h2)
  | 11, _, h1, h2 => exact hl_r268_53_11.trans (hl_kc11 hk hL h1 h2)
  | 12, _, h1, h2 => exact hl_r268_53_12.trans (hl_kc12 hk hL h1 h2)
  | 13, _, h1, h2 => exact hl_r268_53_13.trans (hl_kc13 hk hL h1 h2)
  | 14, _, h1, h2 => exact hl_r268_53_14.trans (hl_kc14 hk hL h1 h2)
  | 15, _, h1, h2 => exact hl_r268_53_15.trans (hl_kc15 hk hL h1 h2)
  | 16, _, h1, h2 => exact hl_r268_53_16.trans (hl_kc16 hk hL h1 h2)
  | 17, _, h1, h2 => exact hl_r268_53_17.trans (hl_kc17 hk hL h1 h2)
  | 18, _, h1, h2 => exact hl_r268_53_18.trans (hl_kc18 hk hL h1 h2)
  | 19, _, h1, h2 => exact hl_r268_53_19.trans (hl_kc19 hk hL h1 h2)
  | 20, _, h1, h2 => exact hl_r268_53_20.trans (hl_kc20 hk hL h1 h2)
  | 21, _, h1, h2 => exact hl_r268_53_21.trans (hl_kc21 hk hL h1 h2)
  | 22, _, h1, h2 => exact hl_r268_53_22.trans (hl_kc22 hk hL h1 h2)
  | 23, _, h1, h2 => exact hl_r268_53_23.trans (hl_kc23 hk hL h1 h2)
  | 24, _, h1, h2 => exact hl_r268_53_24.trans (hl_kc24 hk hL h1 h2)
  | 25, _, h1, h2 => exact hl_r268_53_25.trans (hl_kc25 hk hL h1 h2)
  | 26, _, h1, h2 => exact hl_r268_53_26.trans (hl_kc26 hk hL h1 h2)
  | 27, _, h1, h2 => exact hl_r268_53_27.trans (hl_kc27 hk hL h1 h2)
  | 28, _, h1, h2 => exact hl_r268_53_28.trans (hl_kc28 hk hL h1 h2)
  | 29, _, h1, h2 => exact hl_r268_53_29.trans (hl_kc29 hk hL h1 h2)
  | 30, _, h1, h2 => exact hl_r268_53_30.trans (hl_kc30 hk hL h1 h2)
  | 31, _, h1, h2 => exact hl_r268_53_31.trans (hl_kc31 hk hL h1 h2)
  | o + 32, ho, _, _ => exact absurd ho (by omega)
theorem hl_m31 (x : Int32) : ∃ o, o < 32 ∧ x &&& 31 = nI o := by
  refine ⟨x.toBitVec.toNat % 32, Nat.mod_lt _ (by omega), ?_⟩
  apply Int32.toBitVec_inj.mp
  apply BitVec.eq_of_toNat_eq
  show (x.toBitVec &&& 31#32).toNat = (BitVec.ofNat 32 (x.toBitVec.toNat % 32)).toNat
  rw [BitVec.toNat_and, BitVec.toNat_ofNat]
  show x.toBitVec.toNat &&& (2 ^ 5 - 1) = _
  rw [Nat.and_two_pow_sub_one_eq_mod]
  have : x.toBitVec.toNat % 2 ^ 5 < 32 := Nat.mod_lt _ (by omega)
  exact (Nat.mod_eq_of_lt (by omega)).symm
theorem hl_lnE {k : Nat} (hL : Ln ≤ 3586) (hk : k ≤ 4000) : (Int32.ofNat Ln - 7 < nI k) ↔ Ln < k + 7 := by
  rw [Int32.lt_iff_toInt_lt]
  have e1 : (Int32.ofNat Ln).toInt = (Ln : Int) := Int32.toInt_ofNat_of_lt (by omega)
  have e2 : (nI k).toInt = (k : Int) := Int32.toInt_ofNat_of_lt (by omega)
  have e7 : (7 : Int32).toInt = 7 := rfl
  rw [Int32.toInt_sub, e1, e2, e7, Int.bmod_eq_of_le (by omega) (by omega)]
  omega
theorem hl_lO_ne {d j : Nat} {as : List Value} {w : hl_W} (h : j ≠ 264) : hl_lO xs Ln d j as w = hl_call d j as w := if_neg h
theorem hl_jc_ne : ∀ o, o < 32 → hl_jc o ≠ 264 ∧ hl_jm o ≠ 264 := by decide
theorem hl_loop {d : Nat} {Inv : Nat → (Nat → Nat → Int32) → (Nat → Nat → Int64) → Prop} (hL : Ln ≤ 3586) (hS : ∀ q, 2 + 7 * q + 7 ≤ Ln → ∀ o, o < 32 → ∀ f, hl_PairQ (hl_call d) N (Inv q) (Inv (q + 1)) (hl_jc o) (hl_jm o) (hl_args o f)) (n : Nat) : ∀ q I J, Ln + 7 ≤ 2 + 7 * q + 7 + 7 * n → q ≤ 520 → Inv q I J → ∃ I' J', hl_LRun xs Ln 268 (hl_lO xs Ln d) 38 [.ref 1000003, .ref 0, .ref 85, .int (nI (2 + 7 * q))] [] (hl_g N I J) = some (some (.int 1), hl_g N I' J') := by
  induction n with
  | zero =>
    intro q I J hn hq hI
    refine ⟨I, J, ?_⟩
    have c1 : Int32.ofNat Ln - 7 < nI (2 + 7 * q) := (hl_lnE hL (by omega)).mpr (by omega)
    simp only [hl_r268_38, hl_r268_39, hl_r268_40, hl_r268_41, hl_r268_43, hl_r268_44, if_pos c1, hl_r268_1326]
    exact hl_r268_1327 (.inr rfl)
  | succ n ih =>
    intro q I J hn hq hI
    by_cases hk : 2 + 7 * q + 7 ≤ Ln
    · have c1 : ¬ Int32.ofNat Ln - 7 < nI (2 + 7 * q) := fun h => by have := (hl_lnE hL (by omega)).mp h; omega
      obtain ⟨o, ho, eo⟩ := hl_m31 (xs (2 + 7 * q))
      obtain ⟨v, I1, J1, I2, J2, h1, h2, h3⟩ := hS q hk o ho (fun j => xs (2 + 7 * q + j)) I J hI
      obtain ⟨n1, n2⟩ := hl_jc_ne o ho
      rw [← hl_lO_ne (xs := xs) (Ln := Ln) n1] at h1
      rw [← hl_lO_ne (xs := xs) (Ln := Ln) n2] at h2
      have g := hl_kcase ho hk hL h1 h2
      obtain ⟨I', J', h⟩ := ih (q + 1) I2 J2 (by omega) (by omega) h3
      refine ⟨I', J', ?_⟩
      have b0 : hl_inb (nI (2 + 7 * q)) Ln = true := hl_inb_nI (by omega) (by omega)
      simp only [hl_r268_38, hl_r268_39, hl_r268_40, hl_r268_41, hl_r268_43, hl_r268_44, if_neg c1, hl_r268_47, hl_r268_48, hl_r268_49 b0, hl_r268_50, hl_r268_52, nIc (show 2 + 7 * q < 2 ^ 31 by omega), eo]
      rw [g, hl_r268_1320, hl_r268_1323]
      have e7 : nI (2 + 7 * q) + 7 = nI (2 + 7 * (q + 1)) := by
        show nI (2 + 7 * q) + nI 7 = _
        rw [nI_add]
        exact congrArg nI (by omega)
      rw [e7]
      exact h
    · refine ⟨I, J, ?_⟩
      have c1 : Int32.ofNat Ln - 7 < nI (2 + 7 * q) := (hl_lnE hL (by omega)).mpr (by omega)
      simp only [hl_r268_38, hl_r268_39, hl_r268_40, hl_r268_41, hl_r268_43, hl_r268_44, if_pos c1, hl_r268_1326]
      exact hl_r268_1327 (.inr rfl)
end HLLAW
