/-! the reference's reader: words and signs (written by gen_words.py) -/
def hx_sh (x : Int64) (b : Int32) : Int64 := x <<< ((8 : Int32).toInt64 &&& 63) ||| b.toInt64
section HXRWRD
variable {d N L : Nat} {I I' : Nat → Nat → Int32} {J : Nat → Nat → Int64} {w : hl_W} {κ v : Nat} {nu tok : Int32} {wo : Int64}
theorem hx_s172 {a b c : Int32} : hl_call (d + 1) 172 [.int a, .int b, .int c] w = some (some (.long (hx_sh (hx_sh a.toInt64 b) c)), w) := by
  rw [hl_e172]
  simp only [hl_r172_0, hl_r172_1, hl_r172_2, hl_r172_4, hl_r172_5, hl_r172_6, hl_r172_7, hl_r172_8, hl_r172_10, hl_r172_11, hl_r172_12, hl_r172_13, hl_r172_14, hl_kill_i, hl_kill_r, hl_kill_n, hl_kill_l, hl_tl_s, hl_tl_n, hl_cal_some, hl_gI, hl_gJ, hl_gsI, hl_gsJ, hl_tv01, if_true, if_false, not_true, not_false_eq_true, hl_10, or_true, true_or]
  rfl
theorem hx_s174 {a b c e : Int32} : hl_call (d + 2) 174 [.int a, .int b, .int c, .int e] w = some (some (.long (hx_sh (hx_sh (hx_sh a.toInt64 b) c) e)), w) := by
  rw [hl_e174]
  simp only [hl_r174_0, hl_r174_1, hl_r174_2, hl_r174_3, hl_r174_6, hl_r174_8, hl_r174_9, hl_r174_10, hl_r174_11, hl_r174_12, hx_s172, hl_kill_i, hl_kill_r, hl_kill_n, hl_kill_l, hl_tl_s, hl_tl_n, hl_cal_some, hl_gI, hl_gJ, hl_gsI, hl_gsJ, hl_tv01, if_true, if_false, not_true, not_false_eq_true, hl_10, or_true, true_or]
  rfl
theorem hx_s173 {a b c e f : Int32} : hl_call (d + 2) 173 [.int a, .int b, .int c, .int e, .int f] w = some (some (.long (hx_sh (hx_sh (hx_sh (hx_sh a.toInt64 b) c) e) f)), w) := by
  rw [hl_e173]
  simp only [hl_r173_0, hl_r173_1, hl_r173_2, hl_r173_3, hl_r173_6, hl_r173_8, hl_r173_9, hl_r173_10, hl_r173_11, hl_r173_12, hl_r173_14, hl_r173_15, hl_r173_17, hl_r173_18, hl_r173_19, hx_s172, hl_kill_i, hl_kill_r, hl_kill_n, hl_kill_l, hl_tl_s, hl_tl_n, hl_cal_some, hl_gI, hl_gJ, hl_gsI, hl_gsJ, hl_tv01, if_true, if_false, not_true, not_false_eq_true, hl_10, or_true, true_or]
  rfl
theorem hx_s175 {a b c e f g : Int32} : hl_call (d + 3) 175 [.int a, .int b, .int c, .int e, .int f, .int g] w = some (some (.long (hx_sh (hx_sh (hx_sh (hx_sh (hx_sh a.toInt64 b) c) e) f) g)), w) := by
  rw [hl_e175]
  simp only [hl_r175_0, hl_r175_1, hl_r175_2, hl_r175_3, hl_r175_4, hl_r175_6, hl_r175_9, hl_r175_11, hl_r175_12, hl_r175_14, hl_r175_15, hl_r175_16, hx_s173, hl_kill_i, hl_kill_r, hl_kill_n, hl_kill_l, hl_tl_s, hl_tl_n, hl_cal_some, hl_gI, hl_gJ, hl_gsI, hl_gsJ, hl_tv01, if_true, if_false, not_true, not_false_eq_true, hl_10, or_true, true_or]
  rfl
theorem hx_v0 : hl_call (d + 2) 174 [.int 99, .int 111, .int 115, .int 116] w = some (some (.long (Int64.ofNat (hx_pw 0))), w) := by
  have e : hx_sh (hx_sh (hx_sh (99 : Int32).toInt64 111) 115) 116 = Int64.ofNat (hx_pw 0) := by decide +kernel
  rw [hx_s174, e]
theorem hx_v1 : hl_call (d + 2) 174 [.int 103, .int 114, .int 111, .int 119] w = some (some (.long (Int64.ofNat (hx_pw 1))), w) := by
  have e : hx_sh (hx_sh (hx_sh (103 : Int32).toInt64 114) 111) 119 = Int64.ofNat (hx_pw 1) := by decide +kernel
  rw [hx_s174, e]
theorem hx_v2 : hl_call (d + 2) 174 [.int 115, .int 116, .int 97, .int 121] w = some (some (.long (Int64.ofNat (hx_pw 2))), w) := by
  have e : hx_sh (hx_sh (hx_sh (115 : Int32).toInt64 116) 97) 121 = Int64.ofNat (hx_pw 2) := by decide +kernel
  rw [hx_s174, e]
theorem hx_v3 : hl_call (d + 1) 172 [.int 111, .int 102, .int 102] w = some (some (.long (Int64.ofNat (hx_pw 3))), w) := by
  have e : hx_sh (hx_sh (111 : Int32).toInt64 102) 102 = Int64.ofNat (hx_pw 3) := by decide +kernel
  rw [hx_s172, e]
theorem hx_v4 : hl_call (d + 2) 174 [.int 97, .int 119, .int 97, .int 121] w = some (some (.long (Int64.ofNat (hx_pw 4))), w) := by
  have e : hx_sh (hx_sh (hx_sh (97 : Int32).toInt64 119) 97) 121 = Int64.ofNat (hx_pw 4) := by decide +kernel
  rw [hx_s174, e]
theorem hx_v5 : hl_call (d + 3) 175 [.int 112, .int 101, .int 111, .int 112, .int 108, .int 101] w = some (some (.long (Int64.ofNat (hx_pw 5))), w) := by
  have e : hx_sh (hx_sh (hx_sh (hx_sh (hx_sh (112 : Int32).toInt64 101) 111) 112) 108) 101 = Int64.ofNat (hx_pw 5) := by decide +kernel
  rw [hx_s175, e]
theorem hx_v6 : hl_call (d + 2) 173 [.int 115, .int 116, .int 97, .int 116, .int 101] w = some (some (.long (Int64.ofNat (hx_pw 6))), w) := by
  have e : hx_sh (hx_sh (hx_sh (hx_sh (115 : Int32).toInt64 116) 97) 116) 101 = Int64.ofNat (hx_pw 6) := by decide +kernel
  rw [hx_s173, e]
theorem hx_v7 : hl_call (d + 2) 174 [.int 116, .int 111, .int 119, .int 110] w = some (some (.long (Int64.ofNat (hx_pw 7))), w) := by
  have e : hx_sh (hx_sh (hx_sh (116 : Int32).toInt64 111) 119) 110 = Int64.ofNat (hx_pw 7) := by decide +kernel
  rw [hx_s174, e]
theorem hx_v8 : hl_call (d + 2) 174 [.int 104, .int 111, .int 117, .int 114] w = some (some (.long (Int64.ofNat (hx_pw 8))), w) := by
  have e : hx_sh (hx_sh (hx_sh (104 : Int32).toInt64 111) 117) 114 = Int64.ofNat (hx_pw 8) := by decide +kernel
  rw [hx_s174, e]
theorem hx_v9 : hl_call (d + 2) 173 [.int 109, .int 111, .int 110, .int 116, .int 104] w = some (some (.long (Int64.ofNat (hx_pw 9))), w) := by
  have e : hx_sh (hx_sh (hx_sh (hx_sh (109 : Int32).toInt64 111) 110) 116) 104 = Int64.ofNat (hx_pw 9) := by decide +kernel
  rw [hx_s173, e]
theorem hx_v10 : hl_call (d + 2) 174 [.int 100, .int 97, .int 114, .int 107] w = some (some (.long (Int64.ofNat (hx_pw 10))), w) := by
  have e : hx_sh (hx_sh (hx_sh (100 : Int32).toInt64 97) 114) 107 = Int64.ofNat (hx_pw 10) := by decide +kernel
  rw [hx_s174, e]
theorem hx_v11 : hl_call (d + 2) 173 [.int 97, .int 108, .int 111, .int 110, .int 101] w = some (some (.long (Int64.ofNat (hx_pw 11))), w) := by
  have e : hx_sh (hx_sh (hx_sh (hx_sh (97 : Int32).toInt64 108) 111) 110) 101 = Int64.ofNat (hx_pw 11) := by decide +kernel
  rw [hx_s173, e]
theorem hx_v13 : hl_call (d + 1) 172 [.int 97, .int 110, .int 100] w = some (some (.long (Int64.ofNat (hx_pw 13))), w) := by
  have e : hx_sh (hx_sh (97 : Int32).toInt64 110) 100 = Int64.ofNat (hx_pw 13) := by decide +kernel
  rw [hx_s172, e]
theorem hx_v14 : hl_call (d + 1) 172 [.int 110, .int 111, .int 116] w = some (some (.long (Int64.ofNat (hx_pw 14))), w) := by
  have e : hx_sh (hx_sh (110 : Int32).toInt64 111) 116 = Int64.ofNat (hx_pw 14) := by decide +kernel
  rw [hx_s172, e]
theorem hx_v16 : hl_call (d + 1) 172 [.int 101, .int 110, .int 100] w = some (some (.long (Int64.ofNat (hx_pw 16))), w) := by
  have e : hx_sh (hx_sh (101 : Int32).toInt64 110) 100 = Int64.ofNat (hx_pw 16) := by decide +kernel
  rw [hx_s172, e]
theorem hx_v12 : (28530 : Int64) = Int64.ofNat (hx_pw 12) := by decide +kernel
theorem hx_v15 : (26982 : Int64) = Int64.ofNat (hx_pw 15) := by decide +kernel
theorem hx_o64 {a b : Nat} (ha : a < 2 ^ 50) (hb : b < 2 ^ 50) : (Int64.ofNat a = Int64.ofNat b) = (a = b) := by
  refine propext ⟨fun h => ?_, fun h => by rw [h]⟩
  have e := congrArg (fun z : Int64 => z.toBitVec.toNat) h
  have ea : (Int64.ofNat a).toBitVec.toNat = a := by
    show (BitVec.ofNat 64 a).toNat = a
    rw [BitVec.toNat_ofNat, Nat.mod_eq_of_lt (by omega)]
  have eb : (Int64.ofNat b).toBitVec.toNat = b := by
    show (BitVec.ofNat 64 b).toNat = b
    rw [BitVec.toNat_ofNat, Nat.mod_eq_of_lt (by omega)]
  exact ea.symm.trans (e.trans eb)
theorem hx_chf1 : ∀ κ, κ < 45 → (κ = 21 ∨ κ = 22 ∨ 30 ≤ κ) → (¬ hx_ch κ = 1 ∧ ¬ hx_ch κ = 2) := by decide +kernel
theorem hx_chf2 : ∀ κ, κ < 45 → (κ = 21 ∨ κ = 22 ∨ 30 ≤ κ) → hx_ch κ = 0 → κ = 21 := by decide +kernel
theorem hx_chf3 : ∀ κ, κ < 45 → (κ = 21 ∨ κ = 22 ∨ 30 ≤ κ) → ∀ c, c < 45 → (30 ≤ c → hx_ch κ = hx_ch c → κ = c) := by decide +kernel
theorem hx_chf (κ : Nat) (h : κ < 45) (g : κ = 21 ∨ κ = 22 ∨ 30 ≤ κ) : (¬ hx_ch κ = 1) ∧ (¬ hx_ch κ = 2) ∧ (hx_ch κ = 0 → κ = 21) ∧ ∀ c, c < 45 → 30 ≤ c → hx_ch κ = hx_ch c → κ = c := ⟨(hx_chf1 κ h g).1, (hx_chf1 κ h g).2, hx_chf2 κ h g, hx_chf3 κ h g⟩
/-- a word -/
theorem hx_TR_w {i : Nat} (h : hx_TR κ v tok nu wo) (hκ : κ ≤ 44) (hi : i < 17) : (tok = 2 ∧ wo = Int64.ofNat (hx_pw i)) = (κ = i) := by
  have lt := (hx_W_b i hi).2.2.2
  refine propext ⟨fun ⟨h1, h2⟩ => ?_, fun h1 => ?_⟩
  · rcases h with ⟨a, b, c⟩ | ⟨a, b, c⟩ | ⟨a, b, c⟩ | ⟨a, b⟩
    · rw [c, hx_o64 (hx_W_b κ a).2.2.2 lt] at h2
      exact hx_W_inj κ a i hi h2
    · exact absurd h2 (c i hi)
    · rw [b] at h1; exact absurd h1 (by decide)
    · rw [b] at h1; exact absurd h1 (hx_chf κ (by omega) (by omega)).2.1
  · rcases h with ⟨a, b, c⟩ | ⟨a, b, c⟩ | ⟨a, b, c⟩ | ⟨a, b⟩
    · exact ⟨b, by rw [c, h1]⟩
    · omega
    · omega
    · omega
/-- a sign -/
theorem hx_TR_c {c : Nat} (h : hx_TR κ v tok nu wo) (hκ : κ ≤ 44) (hc : 30 ≤ c ∧ c ≤ 44) : (tok = hx_ch c) = (κ = c) := by
  have hcc := hx_chf c (by omega) (by omega)
  refine propext ⟨fun h1 => ?_, fun h1 => ?_⟩
  · rcases h with ⟨a, b, e⟩ | ⟨a, b, e⟩ | ⟨a, b, e⟩ | ⟨a, b⟩
    · rw [b] at h1; exact absurd h1.symm hcc.2.1
    · rw [b] at h1; exact absurd h1.symm hcc.2.1
    · rw [b] at h1; exact absurd h1.symm hcc.1
    · rw [b] at h1; exact (hx_chf κ (by omega) (by omega)).2.2.2 c (by omega) hc.1 h1
  · rcases h with ⟨a, b, e⟩ | ⟨a, b, e⟩ | ⟨a, b, e⟩ | ⟨a, b⟩
    · omega
    · omega
    · omega
    · rw [b, h1]
theorem hx_TR_1 (h : hx_TR κ v tok nu wo) (hκ : κ ≤ 44) : (tok = 1) = (κ = 20) := by
  refine propext ⟨fun h1 => ?_, fun h1 => ?_⟩
  · rcases h with ⟨a, b, e⟩ | ⟨a, b, e⟩ | ⟨a, b, e⟩ | ⟨a, b⟩
    · rw [b] at h1; exact absurd h1 (by decide)
    · rw [b] at h1; exact absurd h1 (by decide)
    · exact a
    · rw [b] at h1; exact absurd h1 (hx_chf κ (by omega) (by omega)).1
  · rcases h with ⟨a, b, e⟩ | ⟨a, b, e⟩ | ⟨a, b, e⟩ | ⟨a, b⟩
    · omega
    · omega
    · exact b
    · omega
theorem hx_TR_0 (h : hx_TR κ v tok nu wo) (hκ : κ ≤ 44) : (tok = 0) = (κ = 21) := by
  refine propext ⟨fun h1 => ?_, fun h1 => ?_⟩
  · rcases h with ⟨a, b, e⟩ | ⟨a, b, e⟩ | ⟨a, b, e⟩ | ⟨a, b⟩
    · rw [b] at h1; exact absurd h1 (by decide)
    · rw [b] at h1; exact absurd h1 (by decide)
    · rw [b] at h1; exact absurd h1 (by decide)
    · rw [b] at h1; exact (hx_chf κ (by omega) (by omega)).2.2.1 h1
  · rcases h with ⟨a, b, e⟩ | ⟨a, b, e⟩ | ⟨a, b, e⟩ | ⟨a, b⟩
    · omega
    · omega
    · omega
    · rw [b, h1]; rfl
/-- isWord -/
theorem hx_s176 {i : Nat} (h : hx_TR κ v (I 85 12) nu (J 85 14)) (hκ : κ ≤ 44) (hi : i < 17) : hl_call (d + 1) 176 [.ref 85, .long (Int64.ofNat (hx_pw i))] (hl_g N I J) = some (some (.int (hl_tv (decide (κ = i)))), hl_g N I J) := by
  have q := hx_TR_w h hκ hi
  rw [hl_e176]
  by_cases z1 : I 85 12 = 2
  · by_cases z2 : J 85 14 = Int64.ofNat (hx_pw i)
    · have e : κ = i := by rw [← q]; exact ⟨z1, z2⟩
      have z2' : (J 85 14 = Int64.ofNat (hx_pw i)) = True := eq_true z2
      rw [decide_eq_true e, hl_tv_t]
      simp only [hl_r176_0, hl_r176_1, hl_r176_4, hl_r176_5, hl_r176_8, hl_r176_9, hl_r176_12, hl_r176_13, hl_r176_14, hl_r176_17, hl_r176_18, hl_r176_21, hl_r176_22, hl_o_85, hl_p_85_3, hl_p_85_4, hl_p_85_5, hl_p_85_6, hl_p_85_19, hl_p_85_23, hl_p_85_24, hl_p_85_25, hl_p_85_26, hl_p_85_27, hl_p_85_28, hl_p_85_29, hl_p_85_30, hl_p_85_31, hl_p_85_33, hl_p_85_34, hl_p_85_35, hl_p_85_36, hl_p_85_37, z1, hl_lcmp_eq0, z2', hl_kill_i, hl_kill_r, hl_kill_n, hl_kill_l, hl_tl_s, hl_tl_n, hl_cal_some, hl_gI, hl_gJ, hl_gsI, hl_gsJ, hl_tv01, if_true, if_false, not_true, not_false_eq_true, hl_10, or_true, true_or]
    · have e : ¬ κ = i := by rw [← q]; exact fun y => z2 y.2
      have z2' : (J 85 14 = Int64.ofNat (hx_pw i)) = False := eq_false z2
      rw [decide_eq_false e, hl_tv_f]
      simp only [hl_r176_0, hl_r176_1, hl_r176_4, hl_r176_5, hl_r176_8, hl_r176_9, hl_r176_12, hl_r176_13, hl_r176_14, hl_r176_17, hl_r176_18, hl_r176_21, hl_r176_22, hl_o_85, hl_p_85_3, hl_p_85_4, hl_p_85_5, hl_p_85_6, hl_p_85_19, hl_p_85_23, hl_p_85_24, hl_p_85_25, hl_p_85_26, hl_p_85_27, hl_p_85_28, hl_p_85_29, hl_p_85_30, hl_p_85_31, hl_p_85_33, hl_p_85_34, hl_p_85_35, hl_p_85_36, hl_p_85_37, z1, hl_lcmp_eq0, z2', hl_kill_i, hl_kill_r, hl_kill_n, hl_kill_l, hl_tl_s, hl_tl_n, hl_cal_some, hl_gI, hl_gJ, hl_gsI, hl_gsJ, hl_tv01, if_true, if_false, not_true, not_false_eq_true, hl_10, or_true, true_or]
  · have e : ¬ κ = i := by rw [← q]; exact fun y => z1 y.1
    rw [decide_eq_false e, hl_tv_f]
    simp only [hl_r176_0, hl_r176_1, hl_r176_4, hl_r176_5, hl_r176_8, hl_r176_9, hl_r176_12, hl_r176_13, hl_r176_14, hl_r176_17, hl_r176_18, hl_r176_21, hl_r176_22, hl_o_85, hl_p_85_3, hl_p_85_4, hl_p_85_5, hl_p_85_6, hl_p_85_19, hl_p_85_23, hl_p_85_24, hl_p_85_25, hl_p_85_26, hl_p_85_27, hl_p_85_28, hl_p_85_29, hl_p_85_30, hl_p_85_31, hl_p_85_33, hl_p_85_34, hl_p_85_35, hl_p_85_36, hl_p_85_37, z1, hl_kill_i, hl_kill_r, hl_kill_n, hl_kill_l, hl_tl_s, hl_tl_n, hl_cal_some, hl_gI, hl_gJ, hl_gsI, hl_gsJ, hl_tv01, if_true, if_false, not_true, not_false_eq_true, hl_10, or_true, true_or]
/-- nameOf -/
theorem hx_s192 (h : hx_TR κ v (I 85 12) nu (J 85 14)) (hκ : κ ≤ 44) : hl_call (d + 4) 192 [.ref 85] (hl_g N I J) = some (some (.int (if 3 ≤ κ ∧ κ ≤ 11 then nI (κ - 3) else -1)), hl_g N I J) := by
  have q := fun i hi => hx_TR_w (i := i) h hκ hi
  rw [hl_e192]
  by_cases z1 : I 85 12 = 2
  · have q' : ∀ i, i < 17 → (J 85 14 = Int64.ofNat (hx_pw i)) = (κ = i) := fun i hi => by
      rw [← q i hi]
      exact propext ⟨fun y => ⟨z1, y⟩, fun y => y.2⟩
    have q3 := q' 3 (by omega)
    have q4 := q' 4 (by omega)
    have q5 := q' 5 (by omega)
    have q6 := q' 6 (by omega)
    have q7 := q' 7 (by omega)
    have q8 := q' 8 (by omega)
    have q9 := q' 9 (by omega)
    have q10 := q' 10 (by omega)
    have q11 := q' 11 (by omega)
    have cs : κ = 3 ∨ κ = 4 ∨ κ = 5 ∨ κ = 6 ∨ κ = 7 ∨ κ = 8 ∨ κ = 9 ∨ κ = 10 ∨ κ = 11 ∨ ¬ (3 ≤ κ ∧ κ ≤ 11) := by omega
    rcases cs with z | z | z | z | z | z | z | z | z | z
    · rw [if_pos (by omega)]
      have p3 : (κ = 3) = True := eq_true z
      have ec : nI (κ - 3) = 0 := by rw [z]; rfl
      rw [ec]
      simp only [hl_r192_0, hl_r192_1, hl_r192_4, hl_r192_5, hl_r192_8, hl_r192_9, hl_r192_10, hl_r192_11, hl_r192_14, hl_r192_16, hl_r192_18, hl_r192_20, hl_r192_23, hl_r192_24, hl_r192_27, hl_r192_28, hl_r192_29, hl_r192_30, hl_r192_33, hl_r192_35, hl_r192_37, hl_r192_39, hl_r192_41, hl_r192_44, hl_r192_45, hl_r192_48, hl_r192_49, hl_r192_50, hl_r192_51, hl_r192_54, hl_r192_56, hl_r192_58, hl_r192_60, hl_r192_62, hl_r192_64, hl_r192_66, hl_r192_69, hl_r192_70, hl_r192_73, hl_r192_74, hl_r192_75, hl_r192_76, hl_r192_79, hl_r192_81, hl_r192_83, hl_r192_85, hl_r192_87, hl_r192_89, hl_r192_92, hl_r192_93, hl_r192_96, hl_r192_97, hl_r192_98, hl_r192_99, hl_r192_102, hl_r192_104, hl_r192_106, hl_r192_108, hl_r192_110, hl_r192_113, hl_r192_114, hl_r192_117, hl_r192_118, hl_r192_119, hl_r192_120, hl_r192_123, hl_r192_125, hl_r192_127, hl_r192_129, hl_r192_131, hl_r192_134, hl_r192_135, hl_r192_138, hl_r192_139, hl_r192_140, hl_r192_141, hl_r192_144, hl_r192_146, hl_r192_148, hl_r192_150, hl_r192_152, hl_r192_154, hl_r192_157, hl_r192_158, hl_r192_161, hl_r192_163, hl_r192_164, hl_r192_165, hl_r192_168, hl_r192_170, hl_r192_172, hl_r192_174, hl_r192_176, hl_r192_179, hl_r192_180, hl_r192_183, hl_r192_185, hl_r192_188, hl_r192_189, hl_r192_192, hl_r192_194, hl_r192_196, hl_r192_198, hl_r192_200, hl_r192_202, hl_r192_205, hl_r192_206, hl_r192_209, hl_r192_211, hl_r192_214, hl_r192_215, hl_o_85, hl_p_85_3, hl_p_85_4, hl_p_85_5, hl_p_85_6, hl_p_85_19, hl_p_85_23, hl_p_85_24, hl_p_85_25, hl_p_85_26, hl_p_85_27, hl_p_85_28, hl_p_85_29, hl_p_85_30, hl_p_85_31, hl_p_85_33, hl_p_85_34, hl_p_85_35, hl_p_85_36, hl_p_85_37, z1, hl_lcmp_eq0, hx_v3, hx_v4, hx_v5, hx_v6, hx_v7, hx_v8, hx_v9, hx_v10, hx_v11, q3, q4, q5, q6, q7, q8, q9, q10, q11, p3, hl_tl_s, hl_kill_i, hl_kill_r, hl_kill_n, hl_kill_l, hl_tl_s, hl_tl_n, hl_cal_some, hl_gI, hl_gJ, hl_gsI, hl_gsJ, hl_tv01, if_true, if_false, not_true, not_false_eq_true, hl_10, or_true, true_or]
    · rw [if_pos (by omega)]
      have p3 : (κ = 3) = False := eq_false (by omega)
      have p4 : (κ = 4) = True := eq_true z
      have ec : nI (κ - 3) = 1 := by rw [z]; rfl
      rw [ec]
      simp only [hl_r192_0, hl_r192_1, hl_r192_4, hl_r192_5, hl_r192_8, hl_r192_9, hl_r192_10, hl_r192_11, hl_r192_14, hl_r192_16, hl_r192_18, hl_r192_20, hl_r192_23, hl_r192_24, hl_r192_27, hl_r192_28, hl_r192_29, hl_r192_30, hl_r192_33, hl_r192_35, hl_r192_37, hl_r192_39, hl_r192_41, hl_r192_44, hl_r192_45, hl_r192_48, hl_r192_49, hl_r192_50, hl_r192_51, hl_r192_54, hl_r192_56, hl_r192_58, hl_r192_60, hl_r192_62, hl_r192_64, hl_r192_66, hl_r192_69, hl_r192_70, hl_r192_73, hl_r192_74, hl_r192_75, hl_r192_76, hl_r192_79, hl_r192_81, hl_r192_83, hl_r192_85, hl_r192_87, hl_r192_89, hl_r192_92, hl_r192_93, hl_r192_96, hl_r192_97, hl_r192_98, hl_r192_99, hl_r192_102, hl_r192_104, hl_r192_106, hl_r192_108, hl_r192_110, hl_r192_113, hl_r192_114, hl_r192_117, hl_r192_118, hl_r192_119, hl_r192_120, hl_r192_123, hl_r192_125, hl_r192_127, hl_r192_129, hl_r192_131, hl_r192_134, hl_r192_135, hl_r192_138, hl_r192_139, hl_r192_140, hl_r192_141, hl_r192_144, hl_r192_146, hl_r192_148, hl_r192_150, hl_r192_152, hl_r192_154, hl_r192_157, hl_r192_158, hl_r192_161, hl_r192_163, hl_r192_164, hl_r192_165, hl_r192_168, hl_r192_170, hl_r192_172, hl_r192_174, hl_r192_176, hl_r192_179, hl_r192_180, hl_r192_183, hl_r192_185, hl_r192_188, hl_r192_189, hl_r192_192, hl_r192_194, hl_r192_196, hl_r192_198, hl_r192_200, hl_r192_202, hl_r192_205, hl_r192_206, hl_r192_209, hl_r192_211, hl_r192_214, hl_r192_215, hl_o_85, hl_p_85_3, hl_p_85_4, hl_p_85_5, hl_p_85_6, hl_p_85_19, hl_p_85_23, hl_p_85_24, hl_p_85_25, hl_p_85_26, hl_p_85_27, hl_p_85_28, hl_p_85_29, hl_p_85_30, hl_p_85_31, hl_p_85_33, hl_p_85_34, hl_p_85_35, hl_p_85_36, hl_p_85_37, z1, hl_lcmp_eq0, hx_v3, hx_v4, hx_v5, hx_v6, hx_v7, hx_v8, hx_v9, hx_v10, hx_v11, q3, q4, q5, q6, q7, q8, q9, q10, q11, p3, p4, hl_tl_s, hl_kill_i, hl_kill_r, hl_kill_n, hl_kill_l, hl_tl_s, hl_tl_n, hl_cal_some, hl_gI, hl_gJ, hl_gsI, hl_gsJ, hl_tv01, if_true, if_false, not_true, not_false_eq_true, hl_10, or_true, true_or]
    · rw [if_pos (by omega)]
      have p3 : (κ = 3) = False := eq_false (by omega)
      have p4 : (κ = 4) = False := eq_false (by omega)
      have p5 : (κ = 5) = True := eq_true z
      have ec : nI (κ - 3) = 2 := by rw [z]; rfl
      rw [ec]
      simp only [hl_r192_0, hl_r192_1, hl_r192_4, hl_r192_5, hl_r192_8, hl_r192_9, hl_r192_10, hl_r192_11, hl_r192_14, hl_r192_16, hl_r192_18, hl_r192_20, hl_r192_23, hl_r192_24, hl_r192_27, hl_r192_28, hl_r192_29, hl_r192_30, hl_r192_33, hl_r192_35, hl_r192_37, hl_r192_39, hl_r192_41, hl_r192_44, hl_r192_45, hl_r192_48, hl_r192_49, hl_r192_50, hl_r192_51, hl_r192_54, hl_r192_56, hl_r192_58, hl_r192_60, hl_r192_62, hl_r192_64, hl_r192_66, hl_r192_69, hl_r192_70, hl_r192_73, hl_r192_74, hl_r192_75, hl_r192_76, hl_r192_79, hl_r192_81, hl_r192_83, hl_r192_85, hl_r192_87, hl_r192_89, hl_r192_92, hl_r192_93, hl_r192_96, hl_r192_97, hl_r192_98, hl_r192_99, hl_r192_102, hl_r192_104, hl_r192_106, hl_r192_108, hl_r192_110, hl_r192_113, hl_r192_114, hl_r192_117, hl_r192_118, hl_r192_119, hl_r192_120, hl_r192_123, hl_r192_125, hl_r192_127, hl_r192_129, hl_r192_131, hl_r192_134, hl_r192_135, hl_r192_138, hl_r192_139, hl_r192_140, hl_r192_141, hl_r192_144, hl_r192_146, hl_r192_148, hl_r192_150, hl_r192_152, hl_r192_154, hl_r192_157, hl_r192_158, hl_r192_161, hl_r192_163, hl_r192_164, hl_r192_165, hl_r192_168, hl_r192_170, hl_r192_172, hl_r192_174, hl_r192_176, hl_r192_179, hl_r192_180, hl_r192_183, hl_r192_185, hl_r192_188, hl_r192_189, hl_r192_192, hl_r192_194, hl_r192_196, hl_r192_198, hl_r192_200, hl_r192_202, hl_r192_205, hl_r192_206, hl_r192_209, hl_r192_211, hl_r192_214, hl_r192_215, hl_o_85, hl_p_85_3, hl_p_85_4, hl_p_85_5, hl_p_85_6, hl_p_85_19, hl_p_85_23, hl_p_85_24, hl_p_85_25, hl_p_85_26, hl_p_85_27, hl_p_85_28, hl_p_85_29, hl_p_85_30, hl_p_85_31, hl_p_85_33, hl_p_85_34, hl_p_85_35, hl_p_85_36, hl_p_85_37, z1, hl_lcmp_eq0, hx_v3, hx_v4, hx_v5, hx_v6, hx_v7, hx_v8, hx_v9, hx_v10, hx_v11, q3, q4, q5, q6, q7, q8, q9, q10, q11, p3, p4, p5, hl_tl_s, hl_kill_i, hl_kill_r, hl_kill_n, hl_kill_l, hl_tl_s, hl_tl_n, hl_cal_some, hl_gI, hl_gJ, hl_gsI, hl_gsJ, hl_tv01, if_true, if_false, not_true, not_false_eq_true, hl_10, or_true, true_or]
    · rw [if_pos (by omega)]
      have p3 : (κ = 3) = False := eq_false (by omega)
      have p4 : (κ = 4) = False := eq_false (by omega)
      have p5 : (κ = 5) = False := eq_false (by omega)
      have p6 : (κ = 6) = True := eq_true z
      have ec : nI (κ - 3) = 3 := by rw [z]; rfl
      rw [ec]
      simp only [hl_r192_0, hl_r192_1, hl_r192_4, hl_r192_5, hl_r192_8, hl_r192_9, hl_r192_10, hl_r192_11, hl_r192_14, hl_r192_16, hl_r192_18, hl_r192_20, hl_r192_23, hl_r192_24, hl_r192_27, hl_r192_28, hl_r192_29, hl_r192_30, hl_r192_33, hl_r192_35, hl_r192_37, hl_r192_39, hl_r192_41, hl_r192_44, hl_r192_45, hl_r192_48, hl_r192_49, hl_r192_50, hl_r192_51, hl_r192_54, hl_r192_56, hl_r192_58, hl_r192_60, hl_r192_62, hl_r192_64, hl_r192_66, hl_r192_69, hl_r192_70, hl_r192_73, hl_r192_74, hl_r192_75, hl_r192_76, hl_r192_79, hl_r192_81, hl_r192_83, hl_r192_85, hl_r192_87, hl_r192_89, hl_r192_92, hl_r192_93, hl_r192_96, hl_r192_97, hl_r192_98, hl_r192_99, hl_r192_102, hl_r192_104, hl_r192_106, hl_r192_108, hl_r192_110, hl_r192_113, hl_r192_114, hl_r192_117, hl_r192_118, hl_r192_119, hl_r192_120, hl_r192_123, hl_r192_125, hl_r192_127, hl_r192_129, hl_r192_131, hl_r192_134, hl_r192_135, hl_r192_138, hl_r192_139, hl_r192_140, hl_r192_141, hl_r192_144, hl_r192_146, hl_r192_148, hl_r192_150, hl_r192_152, hl_r192_154, hl_r192_157, hl_r192_158, hl_r192_161, hl_r192_163, hl_r192_164, hl_r192_165, hl_r192_168, hl_r192_170, hl_r192_172, hl_r192_174, hl_r192_176, hl_r192_179, hl_r192_180, hl_r192_183, hl_r192_185, hl_r192_188, hl_r192_189, hl_r192_192, hl_r192_194, hl_r192_196, hl_r192_198, hl_r192_200, hl_r192_202, hl_r192_205, hl_r192_206, hl_r192_209, hl_r192_211, hl_r192_214, hl_r192_215, hl_o_85, hl_p_85_3, hl_p_85_4, hl_p_85_5, hl_p_85_6, hl_p_85_19, hl_p_85_23, hl_p_85_24, hl_p_85_25, hl_p_85_26, hl_p_85_27, hl_p_85_28, hl_p_85_29, hl_p_85_30, hl_p_85_31, hl_p_85_33, hl_p_85_34, hl_p_85_35, hl_p_85_36, hl_p_85_37, z1, hl_lcmp_eq0, hx_v3, hx_v4, hx_v5, hx_v6, hx_v7, hx_v8, hx_v9, hx_v10, hx_v11, q3, q4, q5, q6, q7, q8, q9, q10, q11, p3, p4, p5, p6, hl_tl_s, hl_kill_i, hl_kill_r, hl_kill_n, hl_kill_l, hl_tl_s, hl_tl_n, hl_cal_some, hl_gI, hl_gJ, hl_gsI, hl_gsJ, hl_tv01, if_true, if_false, not_true, not_false_eq_true, hl_10, or_true, true_or]
    · rw [if_pos (by omega)]
      have p3 : (κ = 3) = False := eq_false (by omega)
      have p4 : (κ = 4) = False := eq_false (by omega)
      have p5 : (κ = 5) = False := eq_false (by omega)
      have p6 : (κ = 6) = False := eq_false (by omega)
      have p7 : (κ = 7) = True := eq_true z
      have ec : nI (κ - 3) = 4 := by rw [z]; rfl
      rw [ec]
      simp only [hl_r192_0, hl_r192_1, hl_r192_4, hl_r192_5, hl_r192_8, hl_r192_9, hl_r192_10, hl_r192_11, hl_r192_14, hl_r192_16, hl_r192_18, hl_r192_20, hl_r192_23, hl_r192_24, hl_r192_27, hl_r192_28, hl_r192_29, hl_r192_30, hl_r192_33, hl_r192_35, hl_r192_37, hl_r192_39, hl_r192_41, hl_r192_44, hl_r192_45, hl_r192_48, hl_r192_49, hl_r192_50, hl_r192_51, hl_r192_54, hl_r192_56, hl_r192_58, hl_r192_60, hl_r192_62, hl_r192_64, hl_r192_66, hl_r192_69, hl_r192_70, hl_r192_73, hl_r192_74, hl_r192_75, hl_r192_76, hl_r192_79, hl_r192_81, hl_r192_83, hl_r192_85, hl_r192_87, hl_r192_89, hl_r192_92, hl_r192_93, hl_r192_96, hl_r192_97, hl_r192_98, hl_r192_99, hl_r192_102, hl_r192_104, hl_r192_106, hl_r192_108, hl_r192_110, hl_r192_113, hl_r192_114, hl_r192_117, hl_r192_118, hl_r192_119, hl_r192_120, hl_r192_123, hl_r192_125, hl_r192_127, hl_r192_129, hl_r192_131, hl_r192_134, hl_r192_135, hl_r192_138, hl_r192_139, hl_r192_140, hl_r192_141, hl_r192_144, hl_r192_146, hl_r192_148, hl_r192_150, hl_r192_152, hl_r192_154, hl_r192_157, hl_r192_158, hl_r192_161, hl_r192_163, hl_r192_164, hl_r192_165, hl_r192_168, hl_r192_170, hl_r192_172, hl_r192_174, hl_r192_176, hl_r192_179, hl_r192_180, hl_r192_183, hl_r192_185, hl_r192_188, hl_r192_189, hl_r192_192, hl_r192_194, hl_r192_196, hl_r192_198, hl_r192_200, hl_r192_202, hl_r192_205, hl_r192_206, hl_r192_209, hl_r192_211, hl_r192_214, hl_r192_215, hl_o_85, hl_p_85_3, hl_p_85_4, hl_p_85_5, hl_p_85_6, hl_p_85_19, hl_p_85_23, hl_p_85_24, hl_p_85_25, hl_p_85_26, hl_p_85_27, hl_p_85_28, hl_p_85_29, hl_p_85_30, hl_p_85_31, hl_p_85_33, hl_p_85_34, hl_p_85_35, hl_p_85_36, hl_p_85_37, z1, hl_lcmp_eq0, hx_v3, hx_v4, hx_v5, hx_v6, hx_v7, hx_v8, hx_v9, hx_v10, hx_v11, q3, q4, q5, q6, q7, q8, q9, q10, q11, p3, p4, p5, p6, p7, hl_tl_s, hl_kill_i, hl_kill_r, hl_kill_n, hl_kill_l, hl_tl_s, hl_tl_n, hl_cal_some, hl_gI, hl_gJ, hl_gsI, hl_gsJ, hl_tv01, if_true, if_false, not_true, not_false_eq_true, hl_10, or_true, true_or]
    · rw [if_pos (by omega)]
      have p3 : (κ = 3) = False := eq_false (by omega)
      have p4 : (κ = 4) = False := eq_false (by omega)
      have p5 : (κ = 5) = False := eq_false (by omega)
      have p6 : (κ = 6) = False := eq_false (by omega)
      have p7 : (κ = 7) = False := eq_false (by omega)
      have p8 : (κ = 8) = True := eq_true z
      have ec : nI (κ - 3) = 5 := by rw [z]; rfl
      rw [ec]
      simp only [hl_r192_0, hl_r192_1, hl_r192_4, hl_r192_5, hl_r192_8, hl_r192_9, hl_r192_10, hl_r192_11, hl_r192_14, hl_r192_16, hl_r192_18, hl_r192_20, hl_r192_23, hl_r192_24, hl_r192_27, hl_r192_28, hl_r192_29, hl_r192_30, hl_r192_33, hl_r192_35, hl_r192_37, hl_r192_39, hl_r192_41, hl_r192_44, hl_r192_45, hl_r192_48, hl_r192_49, hl_r192_50, hl_r192_51, hl_r192_54, hl_r192_56, hl_r192_58, hl_r192_60, hl_r192_62, hl_r192_64, hl_r192_66, hl_r192_69, hl_r192_70, hl_r192_73, hl_r192_74, hl_r192_75, hl_r192_76, hl_r192_79, hl_r192_81, hl_r192_83, hl_r192_85, hl_r192_87, hl_r192_89, hl_r192_92, hl_r192_93, hl_r192_96, hl_r192_97, hl_r192_98, hl_r192_99, hl_r192_102, hl_r192_104, hl_r192_106, hl_r192_108, hl_r192_110, hl_r192_113, hl_r192_114, hl_r192_117, hl_r192_118, hl_r192_119, hl_r192_120, hl_r192_123, hl_r192_125, hl_r192_127, hl_r192_129, hl_r192_131, hl_r192_134, hl_r192_135, hl_r192_138, hl_r192_139, hl_r192_140, hl_r192_141, hl_r192_144, hl_r192_146, hl_r192_148, hl_r192_150, hl_r192_152, hl_r192_154, hl_r192_157, hl_r192_158, hl_r192_161, hl_r192_163, hl_r192_164, hl_r192_165, hl_r192_168, hl_r192_170, hl_r192_172, hl_r192_174, hl_r192_176, hl_r192_179, hl_r192_180, hl_r192_183, hl_r192_185, hl_r192_188, hl_r192_189, hl_r192_192, hl_r192_194, hl_r192_196, hl_r192_198, hl_r192_200, hl_r192_202, hl_r192_205, hl_r192_206, hl_r192_209, hl_r192_211, hl_r192_214, hl_r192_215, hl_o_85, hl_p_85_3, hl_p_85_4, hl_p_85_5, hl_p_85_6, hl_p_85_19, hl_p_85_23, hl_p_85_24, hl_p_85_25, hl_p_85_26, hl_p_85_27, hl_p_85_28, hl_p_85_29, hl_p_85_30, hl_p_85_31, hl_p_85_33, hl_p_85_34, hl_p_85_35, hl_p_85_36, hl_p_85_37, z1, hl_lcmp_eq0, hx_v3, hx_v4, hx_v5, hx_v6, hx_v7, hx_v8, hx_v9, hx_v10, hx_v11, q3, q4, q5, q6, q7, q8, q9, q10, q11, p3, p4, p5, p6, p7, p8, hl_tl_s, hl_kill_i, hl_kill_r, hl_kill_n, hl_kill_l, hl_tl_s, hl_tl_n, hl_cal_some, hl_gI, hl_gJ, hl_gsI, hl_gsJ, hl_tv01, if_true, if_false, not_true, not_false_eq_true, hl_10, or_true, true_or]
    · rw [if_pos (by omega)]
      have p3 : (κ = 3) = False := eq_false (by omega)
      have p4 : (κ = 4) = False := eq_false (by omega)
      have p5 : (κ = 5) = False := eq_false (by omega)
      have p6 : (κ = 6) = False := eq_false (by omega)
      have p7 : (κ = 7) = False := eq_false (by omega)
      have p8 : (κ = 8) = False := eq_false (by omega)
      have p9 : (κ = 9) = True := eq_true z
      have ec : nI (κ - 3) = 6 := by rw [z]; rfl
      rw [ec]
      simp only [hl_r192_0, hl_r192_1, hl_r192_4, hl_r192_5, hl_r192_8, hl_r192_9, hl_r192_10, hl_r192_11, hl_r192_14, hl_r192_16, hl_r192_18, hl_r192_20, hl_r192_23, hl_r192_24, hl_r192_27, hl_r192_28, hl_r192_29, hl_r192_30, hl_r192_33, hl_r192_35, hl_r192_37, hl_r192_39, hl_r192_41, hl_r192_44, hl_r192_45, hl_r192_48, hl_r192_49, hl_r192_50, hl_r192_51, hl_r192_54, hl_r192_56, hl_r192_58, hl_r192_60, hl_r192_62, hl_r192_64, hl_r192_66, hl_r192_69, hl_r192_70, hl_r192_73, hl_r192_74, hl_r192_75, hl_r192_76, hl_r192_79, hl_r192_81, hl_r192_83, hl_r192_85, hl_r192_87, hl_r192_89, hl_r192_92, hl_r192_93, hl_r192_96, hl_r192_97, hl_r192_98, hl_r192_99, hl_r192_102, hl_r192_104, hl_r192_106, hl_r192_108, hl_r192_110, hl_r192_113, hl_r192_114, hl_r192_117, hl_r192_118, hl_r192_119, hl_r192_120, hl_r192_123, hl_r192_125, hl_r192_127, hl_r192_129, hl_r192_131, hl_r192_134, hl_r192_135, hl_r192_138, hl_r192_139, hl_r192_140, hl_r192_141, hl_r192_144, hl_r192_146, hl_r192_148, hl_r192_150, hl_r192_152, hl_r192_154, hl_r192_157, hl_r192_158, hl_r192_161, hl_r192_163, hl_r192_164, hl_r192_165, hl_r192_168, hl_r192_170, hl_r192_172, hl_r192_174, hl_r192_176, hl_r192_179, hl_r192_180, hl_r192_183, hl_r192_185, hl_r192_188, hl_r192_189, hl_r192_192, hl_r192_194, hl_r192_196, hl_r192_198, hl_r192_200, hl_r192_202, hl_r192_205, hl_r192_206, hl_r192_209, hl_r192_211, hl_r192_214, hl_r192_215, hl_o_85, hl_p_85_3, hl_p_85_4, hl_p_85_5, hl_p_85_6, hl_p_85_19, hl_p_85_23, hl_p_85_24, hl_p_85_25, hl_p_85_26, hl_p_85_27, hl_p_85_28, hl_p_85_29, hl_p_85_30, hl_p_85_31, hl_p_85_33, hl_p_85_34, hl_p_85_35, hl_p_85_36, hl_p_85_37, z1, hl_lcmp_eq0, hx_v3, hx_v4, hx_v5, hx_v6, hx_v7, hx_v8, hx_v9, hx_v10, hx_v11, q3, q4, q5, q6, q7, q8, q9, q10, q11, p3, p4, p5, p6, p7, p8, p9, hl_tl_s, hl_kill_i, hl_kill_r, hl_kill_n, hl_kill_l, hl_tl_s, hl_tl_n, hl_cal_some, hl_gI, hl_gJ, hl_gsI, hl_gsJ, hl_tv01, if_true, if_false, not_true, not_false_eq_true, hl_10, or_true, true_or]
    · rw [if_pos (by omega)]
      have p3 : (κ = 3) = False := eq_false (by omega)
      have p4 : (κ = 4) = False := eq_false (by omega)
      have p5 : (κ = 5) = False := eq_false (by omega)
      have p6 : (κ = 6) = False := eq_false (by omega)
      have p7 : (κ = 7) = False := eq_false (by omega)
      have p8 : (κ = 8) = False := eq_false (by omega)
      have p9 : (κ = 9) = False := eq_false (by omega)
      have p10 : (κ = 10) = True := eq_true z
      have ec : nI (κ - 3) = 7 := by rw [z]; rfl
      rw [ec]
      simp only [hl_r192_0, hl_r192_1, hl_r192_4, hl_r192_5, hl_r192_8, hl_r192_9, hl_r192_10, hl_r192_11, hl_r192_14, hl_r192_16, hl_r192_18, hl_r192_20, hl_r192_23, hl_r192_24, hl_r192_27, hl_r192_28, hl_r192_29, hl_r192_30, hl_r192_33, hl_r192_35, hl_r192_37, hl_r192_39, hl_r192_41, hl_r192_44, hl_r192_45, hl_r192_48, hl_r192_49, hl_r192_50, hl_r192_51, hl_r192_54, hl_r192_56, hl_r192_58, hl_r192_60, hl_r192_62, hl_r192_64, hl_r192_66, hl_r192_69, hl_r192_70, hl_r192_73, hl_r192_74, hl_r192_75, hl_r192_76, hl_r192_79, hl_r192_81, hl_r192_83, hl_r192_85, hl_r192_87, hl_r192_89, hl_r192_92, hl_r192_93, hl_r192_96, hl_r192_97, hl_r192_98, hl_r192_99, hl_r192_102, hl_r192_104, hl_r192_106, hl_r192_108, hl_r192_110, hl_r192_113, hl_r192_114, hl_r192_117, hl_r192_118, hl_r192_119, hl_r192_120, hl_r192_123, hl_r192_125, hl_r192_127, hl_r192_129, hl_r192_131, hl_r192_134, hl_r192_135, hl_r192_138, hl_r192_139, hl_r192_140, hl_r192_141, hl_r192_144, hl_r192_146, hl_r192_148, hl_r192_150, hl_r192_152, hl_r192_154, hl_r192_157, hl_r192_158, hl_r192_161, hl_r192_163, hl_r192_164, hl_r192_165, hl_r192_168, hl_r192_170, hl_r192_172, hl_r192_174, hl_r192_176, hl_r192_179, hl_r192_180, hl_r192_183, hl_r192_185, hl_r192_188, hl_r192_189, hl_r192_192, hl_r192_194, hl_r192_196, hl_r192_198, hl_r192_200, hl_r192_202, hl_r192_205, hl_r192_206, hl_r192_209, hl_r192_211, hl_r192_214, hl_r192_215, hl_o_85, hl_p_85_3, hl_p_85_4, hl_p_85_5, hl_p_85_6, hl_p_85_19, hl_p_85_23, hl_p_85_24, hl_p_85_25, hl_p_85_26, hl_p_85_27, hl_p_85_28, hl_p_85_29, hl_p_85_30, hl_p_85_31, hl_p_85_33, hl_p_85_34, hl_p_85_35, hl_p_85_36, hl_p_85_37, z1, hl_lcmp_eq0, hx_v3, hx_v4, hx_v5, hx_v6, hx_v7, hx_v8, hx_v9, hx_v10, hx_v11, q3, q4, q5, q6, q7, q8, q9, q10, q11, p3, p4, p5, p6, p7, p8, p9, p10, hl_tl_s, hl_kill_i, hl_kill_r, hl_kill_n, hl_kill_l, hl_tl_s, hl_tl_n, hl_cal_some, hl_gI, hl_gJ, hl_gsI, hl_gsJ, hl_tv01, if_true, if_false, not_true, not_false_eq_true, hl_10, or_true, true_or]
    · rw [if_pos (by omega)]
      have p3 : (κ = 3) = False := eq_false (by omega)
      have p4 : (κ = 4) = False := eq_false (by omega)
      have p5 : (κ = 5) = False := eq_false (by omega)
      have p6 : (κ = 6) = False := eq_false (by omega)
      have p7 : (κ = 7) = False := eq_false (by omega)
      have p8 : (κ = 8) = False := eq_false (by omega)
      have p9 : (κ = 9) = False := eq_false (by omega)
      have p10 : (κ = 10) = False := eq_false (by omega)
      have p11 : (κ = 11) = True := eq_true z
      have ec : nI (κ - 3) = 8 := by rw [z]; rfl
      rw [ec]
      simp only [hl_r192_0, hl_r192_1, hl_r192_4, hl_r192_5, hl_r192_8, hl_r192_9, hl_r192_10, hl_r192_11, hl_r192_14, hl_r192_16, hl_r192_18, hl_r192_20, hl_r192_23, hl_r192_24, hl_r192_27, hl_r192_28, hl_r192_29, hl_r192_30, hl_r192_33, hl_r192_35, hl_r192_37, hl_r192_39, hl_r192_41, hl_r192_44, hl_r192_45, hl_r192_48, hl_r192_49, hl_r192_50, hl_r192_51, hl_r192_54, hl_r192_56, hl_r192_58, hl_r192_60, hl_r192_62, hl_r192_64, hl_r192_66, hl_r192_69, hl_r192_70, hl_r192_73, hl_r192_74, hl_r192_75, hl_r192_76, hl_r192_79, hl_r192_81, hl_r192_83, hl_r192_85, hl_r192_87, hl_r192_89, hl_r192_92, hl_r192_93, hl_r192_96, hl_r192_97, hl_r192_98, hl_r192_99, hl_r192_102, hl_r192_104, hl_r192_106, hl_r192_108, hl_r192_110, hl_r192_113, hl_r192_114, hl_r192_117, hl_r192_118, hl_r192_119, hl_r192_120, hl_r192_123, hl_r192_125, hl_r192_127, hl_r192_129, hl_r192_131, hl_r192_134, hl_r192_135, hl_r192_138, hl_r192_139, hl_r192_140, hl_r192_141, hl_r192_144, hl_r192_146, hl_r192_148, hl_r192_150, hl_r192_152, hl_r192_154, hl_r192_157, hl_r192_158, hl_r192_161, hl_r192_163, hl_r192_164, hl_r192_165, hl_r192_168, hl_r192_170, hl_r192_172, hl_r192_174, hl_r192_176, hl_r192_179, hl_r192_180, hl_r192_183, hl_r192_185, hl_r192_188, hl_r192_189, hl_r192_192, hl_r192_194, hl_r192_196, hl_r192_198, hl_r192_200, hl_r192_202, hl_r192_205, hl_r192_206, hl_r192_209, hl_r192_211, hl_r192_214, hl_r192_215, hl_o_85, hl_p_85_3, hl_p_85_4, hl_p_85_5, hl_p_85_6, hl_p_85_19, hl_p_85_23, hl_p_85_24, hl_p_85_25, hl_p_85_26, hl_p_85_27, hl_p_85_28, hl_p_85_29, hl_p_85_30, hl_p_85_31, hl_p_85_33, hl_p_85_34, hl_p_85_35, hl_p_85_36, hl_p_85_37, z1, hl_lcmp_eq0, hx_v3, hx_v4, hx_v5, hx_v6, hx_v7, hx_v8, hx_v9, hx_v10, hx_v11, q3, q4, q5, q6, q7, q8, q9, q10, q11, p3, p4, p5, p6, p7, p8, p9, p10, p11, hl_tl_s, hl_kill_i, hl_kill_r, hl_kill_n, hl_kill_l, hl_tl_s, hl_tl_n, hl_cal_some, hl_gI, hl_gJ, hl_gsI, hl_gsJ, hl_tv01, if_true, if_false, not_true, not_false_eq_true, hl_10, or_true, true_or]
    · rw [if_neg z]
      have p3 : (κ = 3) = False := eq_false (by omega)
      have p4 : (κ = 4) = False := eq_false (by omega)
      have p5 : (κ = 5) = False := eq_false (by omega)
      have p6 : (κ = 6) = False := eq_false (by omega)
      have p7 : (κ = 7) = False := eq_false (by omega)
      have p8 : (κ = 8) = False := eq_false (by omega)
      have p9 : (κ = 9) = False := eq_false (by omega)
      have p10 : (κ = 10) = False := eq_false (by omega)
      have p11 : (κ = 11) = False := eq_false (by omega)
      simp only [hl_r192_0, hl_r192_1, hl_r192_4, hl_r192_5, hl_r192_8, hl_r192_9, hl_r192_10, hl_r192_11, hl_r192_14, hl_r192_16, hl_r192_18, hl_r192_20, hl_r192_23, hl_r192_24, hl_r192_27, hl_r192_28, hl_r192_29, hl_r192_30, hl_r192_33, hl_r192_35, hl_r192_37, hl_r192_39, hl_r192_41, hl_r192_44, hl_r192_45, hl_r192_48, hl_r192_49, hl_r192_50, hl_r192_51, hl_r192_54, hl_r192_56, hl_r192_58, hl_r192_60, hl_r192_62, hl_r192_64, hl_r192_66, hl_r192_69, hl_r192_70, hl_r192_73, hl_r192_74, hl_r192_75, hl_r192_76, hl_r192_79, hl_r192_81, hl_r192_83, hl_r192_85, hl_r192_87, hl_r192_89, hl_r192_92, hl_r192_93, hl_r192_96, hl_r192_97, hl_r192_98, hl_r192_99, hl_r192_102, hl_r192_104, hl_r192_106, hl_r192_108, hl_r192_110, hl_r192_113, hl_r192_114, hl_r192_117, hl_r192_118, hl_r192_119, hl_r192_120, hl_r192_123, hl_r192_125, hl_r192_127, hl_r192_129, hl_r192_131, hl_r192_134, hl_r192_135, hl_r192_138, hl_r192_139, hl_r192_140, hl_r192_141, hl_r192_144, hl_r192_146, hl_r192_148, hl_r192_150, hl_r192_152, hl_r192_154, hl_r192_157, hl_r192_158, hl_r192_161, hl_r192_163, hl_r192_164, hl_r192_165, hl_r192_168, hl_r192_170, hl_r192_172, hl_r192_174, hl_r192_176, hl_r192_179, hl_r192_180, hl_r192_183, hl_r192_185, hl_r192_188, hl_r192_189, hl_r192_192, hl_r192_194, hl_r192_196, hl_r192_198, hl_r192_200, hl_r192_202, hl_r192_205, hl_r192_206, hl_r192_209, hl_r192_211, hl_r192_214, hl_r192_215, hl_o_85, hl_p_85_3, hl_p_85_4, hl_p_85_5, hl_p_85_6, hl_p_85_19, hl_p_85_23, hl_p_85_24, hl_p_85_25, hl_p_85_26, hl_p_85_27, hl_p_85_28, hl_p_85_29, hl_p_85_30, hl_p_85_31, hl_p_85_33, hl_p_85_34, hl_p_85_35, hl_p_85_36, hl_p_85_37, z1, hl_lcmp_eq0, hx_v3, hx_v4, hx_v5, hx_v6, hx_v7, hx_v8, hx_v9, hx_v10, hx_v11, q3, q4, q5, q6, q7, q8, q9, q10, q11, p3, p4, p5, p6, p7, p8, p9, p10, p11, hl_tl_s, hl_kill_i, hl_kill_r, hl_kill_n, hl_kill_l, hl_tl_s, hl_tl_n, hl_cal_some, hl_gI, hl_gJ, hl_gsI, hl_gsJ, hl_tv01, if_true, if_false, not_true, not_false_eq_true, hl_10, or_true, true_or]
  · have hn : ¬ (3 ≤ κ ∧ κ ≤ 11) := fun y => z1 (by have := q κ (by omega); exact (this.symm ▸ rfl : I 85 12 = 2 ∧ _).1)
    rw [if_neg hn]
    simp only [hl_r192_0, hl_r192_1, hl_r192_4, hl_r192_5, hl_r192_8, hl_r192_9, hl_r192_10, hl_r192_11, hl_r192_14, hl_r192_16, hl_r192_18, hl_r192_20, hl_r192_23, hl_r192_24, hl_r192_27, hl_r192_28, hl_r192_29, hl_r192_30, hl_r192_33, hl_r192_35, hl_r192_37, hl_r192_39, hl_r192_41, hl_r192_44, hl_r192_45, hl_r192_48, hl_r192_49, hl_r192_50, hl_r192_51, hl_r192_54, hl_r192_56, hl_r192_58, hl_r192_60, hl_r192_62, hl_r192_64, hl_r192_66, hl_r192_69, hl_r192_70, hl_r192_73, hl_r192_74, hl_r192_75, hl_r192_76, hl_r192_79, hl_r192_81, hl_r192_83, hl_r192_85, hl_r192_87, hl_r192_89, hl_r192_92, hl_r192_93, hl_r192_96, hl_r192_97, hl_r192_98, hl_r192_99, hl_r192_102, hl_r192_104, hl_r192_106, hl_r192_108, hl_r192_110, hl_r192_113, hl_r192_114, hl_r192_117, hl_r192_118, hl_r192_119, hl_r192_120, hl_r192_123, hl_r192_125, hl_r192_127, hl_r192_129, hl_r192_131, hl_r192_134, hl_r192_135, hl_r192_138, hl_r192_139, hl_r192_140, hl_r192_141, hl_r192_144, hl_r192_146, hl_r192_148, hl_r192_150, hl_r192_152, hl_r192_154, hl_r192_157, hl_r192_158, hl_r192_161, hl_r192_163, hl_r192_164, hl_r192_165, hl_r192_168, hl_r192_170, hl_r192_172, hl_r192_174, hl_r192_176, hl_r192_179, hl_r192_180, hl_r192_183, hl_r192_185, hl_r192_188, hl_r192_189, hl_r192_192, hl_r192_194, hl_r192_196, hl_r192_198, hl_r192_200, hl_r192_202, hl_r192_205, hl_r192_206, hl_r192_209, hl_r192_211, hl_r192_214, hl_r192_215, hl_o_85, hl_p_85_3, hl_p_85_4, hl_p_85_5, hl_p_85_6, hl_p_85_19, hl_p_85_23, hl_p_85_24, hl_p_85_25, hl_p_85_26, hl_p_85_27, hl_p_85_28, hl_p_85_29, hl_p_85_30, hl_p_85_31, hl_p_85_33, hl_p_85_34, hl_p_85_35, hl_p_85_36, hl_p_85_37, z1, hl_kill_i, hl_kill_r, hl_kill_n, hl_kill_l, hl_tl_s, hl_tl_n, hl_cal_some, hl_gI, hl_gJ, hl_gsI, hl_gsJ, hl_tv01, if_true, if_false, not_true, not_false_eq_true, hl_10, or_true, true_or]
/-- sortOf -/
theorem hx_s193 (h : hx_TR κ v (I 85 12) nu (J 85 14)) (hκ : κ ≤ 44) : hl_call (d + 4) 193 [.ref 85] (hl_g N I J) = some (some (.int (if κ ≤ 2 then nI κ else -1)), hl_g N I J) := by
  have s := fun i hi => hx_s176 (d := d + 2) (N := N) (I := I) (J := J) (i := i) h hκ hi
  have s0 := s 0 (by omega)
  have s1 := s 1 (by omega)
  have s2 := s 2 (by omega)
  rw [hl_e193]
  by_cases z0 : κ = 0
  · rw [if_pos (by omega)]
    have e : nI κ = 0 := by rw [z0]; rfl
    rw [e]
    rw [decide_eq_true z0, hl_tv_t] at s0
    simp only [hl_r193_0, hl_r193_1, hl_r193_3, hl_r193_5, hl_r193_7, hl_r193_9, hl_r193_12, hl_r193_15, hl_r193_18, hl_r193_19, hl_r193_20, hl_r193_21, hl_r193_23, hl_r193_25, hl_r193_27, hl_r193_29, hl_r193_32, hl_r193_35, hl_r193_38, hl_r193_39, hl_r193_42, hl_r193_43, hl_r193_45, hl_r193_47, hl_r193_49, hl_r193_51, hl_r193_54, hl_r193_57, hl_r193_60, hl_r193_61, hl_r193_64, hl_r193_65, hl_o_85, hl_p_85_3, hl_p_85_4, hl_p_85_5, hl_p_85_6, hl_p_85_19, hl_p_85_23, hl_p_85_24, hl_p_85_25, hl_p_85_26, hl_p_85_27, hl_p_85_28, hl_p_85_29, hl_p_85_30, hl_p_85_31, hl_p_85_33, hl_p_85_34, hl_p_85_35, hl_p_85_36, hl_p_85_37, hx_v0, s0, hl_tl_s, hl_kill_i, hl_kill_r, hl_kill_n, hl_kill_l, hl_tl_s, hl_tl_n, hl_cal_some, hl_gI, hl_gJ, hl_gsI, hl_gsJ, hl_tv01, if_true, if_false, not_true, not_false_eq_true, hl_10, or_true, true_or]
  · rw [decide_eq_false z0, hl_tv_f] at s0
    by_cases z1 : κ = 1
    · rw [if_pos (by omega)]
      have e : nI κ = 1 := by rw [z1]; rfl
      rw [e]
      rw [decide_eq_true z1, hl_tv_t] at s1
      simp only [hl_r193_0, hl_r193_1, hl_r193_3, hl_r193_5, hl_r193_7, hl_r193_9, hl_r193_12, hl_r193_15, hl_r193_18, hl_r193_19, hl_r193_20, hl_r193_21, hl_r193_23, hl_r193_25, hl_r193_27, hl_r193_29, hl_r193_32, hl_r193_35, hl_r193_38, hl_r193_39, hl_r193_42, hl_r193_43, hl_r193_45, hl_r193_47, hl_r193_49, hl_r193_51, hl_r193_54, hl_r193_57, hl_r193_60, hl_r193_61, hl_r193_64, hl_r193_65, hl_o_85, hl_p_85_3, hl_p_85_4, hl_p_85_5, hl_p_85_6, hl_p_85_19, hl_p_85_23, hl_p_85_24, hl_p_85_25, hl_p_85_26, hl_p_85_27, hl_p_85_28, hl_p_85_29, hl_p_85_30, hl_p_85_31, hl_p_85_33, hl_p_85_34, hl_p_85_35, hl_p_85_36, hl_p_85_37, hx_v0, hx_v1, s0, s1, hl_tl_s, hl_kill_i, hl_kill_r, hl_kill_n, hl_kill_l, hl_tl_s, hl_tl_n, hl_cal_some, hl_gI, hl_gJ, hl_gsI, hl_gsJ, hl_tv01, if_true, if_false, not_true, not_false_eq_true, hl_10, or_true, true_or]
    · rw [decide_eq_false z1, hl_tv_f] at s1
      by_cases z2 : κ = 2
      · rw [if_pos (by omega)]
        have e : nI κ = 2 := by rw [z2]; rfl
        rw [e]
        rw [decide_eq_true z2, hl_tv_t] at s2
        simp only [hl_r193_0, hl_r193_1, hl_r193_3, hl_r193_5, hl_r193_7, hl_r193_9, hl_r193_12, hl_r193_15, hl_r193_18, hl_r193_19, hl_r193_20, hl_r193_21, hl_r193_23, hl_r193_25, hl_r193_27, hl_r193_29, hl_r193_32, hl_r193_35, hl_r193_38, hl_r193_39, hl_r193_42, hl_r193_43, hl_r193_45, hl_r193_47, hl_r193_49, hl_r193_51, hl_r193_54, hl_r193_57, hl_r193_60, hl_r193_61, hl_r193_64, hl_r193_65, hl_o_85, hl_p_85_3, hl_p_85_4, hl_p_85_5, hl_p_85_6, hl_p_85_19, hl_p_85_23, hl_p_85_24, hl_p_85_25, hl_p_85_26, hl_p_85_27, hl_p_85_28, hl_p_85_29, hl_p_85_30, hl_p_85_31, hl_p_85_33, hl_p_85_34, hl_p_85_35, hl_p_85_36, hl_p_85_37, hx_v0, hx_v1, hx_v2, s0, s1, s2, hl_tl_s, hl_kill_i, hl_kill_r, hl_kill_n, hl_kill_l, hl_tl_s, hl_tl_n, hl_cal_some, hl_gI, hl_gJ, hl_gsI, hl_gsJ, hl_tv01, if_true, if_false, not_true, not_false_eq_true, hl_10, or_true, true_or]
      · rw [if_neg (by omega)]
        rw [decide_eq_false z2, hl_tv_f] at s2
        simp only [hl_r193_0, hl_r193_1, hl_r193_3, hl_r193_5, hl_r193_7, hl_r193_9, hl_r193_12, hl_r193_15, hl_r193_18, hl_r193_19, hl_r193_20, hl_r193_21, hl_r193_23, hl_r193_25, hl_r193_27, hl_r193_29, hl_r193_32, hl_r193_35, hl_r193_38, hl_r193_39, hl_r193_42, hl_r193_43, hl_r193_45, hl_r193_47, hl_r193_49, hl_r193_51, hl_r193_54, hl_r193_57, hl_r193_60, hl_r193_61, hl_r193_64, hl_r193_65, hl_o_85, hl_p_85_3, hl_p_85_4, hl_p_85_5, hl_p_85_6, hl_p_85_19, hl_p_85_23, hl_p_85_24, hl_p_85_25, hl_p_85_26, hl_p_85_27, hl_p_85_28, hl_p_85_29, hl_p_85_30, hl_p_85_31, hl_p_85_33, hl_p_85_34, hl_p_85_35, hl_p_85_36, hl_p_85_37, hx_v0, hx_v1, hx_v2, s0, s1, s2, hl_tl_s, hl_kill_i, hl_kill_r, hl_kill_n, hl_kill_l, hl_tl_s, hl_tl_n, hl_cal_some, hl_gI, hl_gJ, hl_gsI, hl_gsJ, hl_tv01, if_true, if_false, not_true, not_false_eq_true, hl_10, or_true, true_or]
/-- compareOf -/
theorem hx_s188 (h : hx_TR κ v (I 85 12) nu (J 85 14)) (hκ : κ ≤ 44) : hl_call (d + 1) 188 [.ref 85] (hl_g N I J) = some (some (.int (if hx_cm κ = true then nI (hx_op κ) else -1)), hl_g N I J) := by
  have q30 : (I 85 12 = (60 : Int32)) = (κ = 30) := hx_TR_c (c := 30) h hκ (by omega)
  have q43 : (I 85 12 = (4 : Int32)) = (κ = 43) := hx_TR_c (c := 43) h hκ (by omega)
  have q31 : (I 85 12 = (62 : Int32)) = (κ = 31) := hx_TR_c (c := 31) h hκ (by omega)
  have q44 : (I 85 12 = (5 : Int32)) = (κ = 44) := hx_TR_c (c := 44) h hκ (by omega)
  have q32 : (I 85 12 = (61 : Int32)) = (κ = 32) := hx_TR_c (c := 32) h hκ (by omega)
  have q33 : (I 85 12 = (35 : Int32)) = (κ = 33) := hx_TR_c (c := 33) h hκ (by omega)
  rw [hl_e188]
  have cs : κ = 30 ∨ κ = 43 ∨ κ = 31 ∨ κ = 44 ∨ κ = 32 ∨ κ = 33 ∨ ¬ (κ = 30 ∨ κ = 43 ∨ κ = 31 ∨ κ = 44 ∨ κ = 32 ∨ κ = 33) := by omega
  rcases cs with z | z | z | z | z | z | z
  · have ec : (if hx_cm κ = true then nI (hx_op κ) else (-1 : Int32)) = 10 := by rw [z]; rfl
    rw [ec]
    have p30 : (κ = 30) = True := eq_true z
    simp only [hl_r188_0, hl_r188_1, hl_r188_4, hl_r188_6, hl_r188_9, hl_r188_11, hl_r188_14, hl_r188_15, hl_r188_18, hl_r188_19, hl_r188_22, hl_r188_24, hl_r188_27, hl_r188_28, hl_r188_31, hl_r188_33, hl_r188_36, hl_r188_38, hl_r188_41, hl_r188_42, hl_r188_45, hl_r188_46, hl_r188_49, hl_r188_51, hl_r188_54, hl_r188_55, hl_r188_58, hl_r188_60, hl_r188_63, hl_r188_65, hl_r188_68, hl_r188_69, hl_r188_72, hl_r188_74, hl_r188_77, hl_r188_79, hl_r188_82, hl_r188_83, hl_o_85, hl_p_85_3, hl_p_85_4, hl_p_85_5, hl_p_85_6, hl_p_85_19, hl_p_85_23, hl_p_85_24, hl_p_85_25, hl_p_85_26, hl_p_85_27, hl_p_85_28, hl_p_85_29, hl_p_85_30, hl_p_85_31, hl_p_85_33, hl_p_85_34, hl_p_85_35, hl_p_85_36, hl_p_85_37, q30, q43, q31, q44, q32, q33, p30, hl_kill_i, hl_kill_r, hl_kill_n, hl_kill_l, hl_tl_s, hl_tl_n, hl_cal_some, hl_gI, hl_gJ, hl_gsI, hl_gsJ, hl_tv01, if_true, if_false, not_true, not_false_eq_true, hl_10, or_true, true_or]
  · have ec : (if hx_cm κ = true then nI (hx_op κ) else (-1 : Int32)) = 11 := by rw [z]; rfl
    rw [ec]
    have p30 : (κ = 30) = False := eq_false (by omega)
    have p43 : (κ = 43) = True := eq_true z
    simp only [hl_r188_0, hl_r188_1, hl_r188_4, hl_r188_6, hl_r188_9, hl_r188_11, hl_r188_14, hl_r188_15, hl_r188_18, hl_r188_19, hl_r188_22, hl_r188_24, hl_r188_27, hl_r188_28, hl_r188_31, hl_r188_33, hl_r188_36, hl_r188_38, hl_r188_41, hl_r188_42, hl_r188_45, hl_r188_46, hl_r188_49, hl_r188_51, hl_r188_54, hl_r188_55, hl_r188_58, hl_r188_60, hl_r188_63, hl_r188_65, hl_r188_68, hl_r188_69, hl_r188_72, hl_r188_74, hl_r188_77, hl_r188_79, hl_r188_82, hl_r188_83, hl_o_85, hl_p_85_3, hl_p_85_4, hl_p_85_5, hl_p_85_6, hl_p_85_19, hl_p_85_23, hl_p_85_24, hl_p_85_25, hl_p_85_26, hl_p_85_27, hl_p_85_28, hl_p_85_29, hl_p_85_30, hl_p_85_31, hl_p_85_33, hl_p_85_34, hl_p_85_35, hl_p_85_36, hl_p_85_37, q30, q43, q31, q44, q32, q33, p30, p43, hl_kill_i, hl_kill_r, hl_kill_n, hl_kill_l, hl_tl_s, hl_tl_n, hl_cal_some, hl_gI, hl_gJ, hl_gsI, hl_gsJ, hl_tv01, if_true, if_false, not_true, not_false_eq_true, hl_10, or_true, true_or]
  · have ec : (if hx_cm κ = true then nI (hx_op κ) else (-1 : Int32)) = 12 := by rw [z]; rfl
    rw [ec]
    have p30 : (κ = 30) = False := eq_false (by omega)
    have p43 : (κ = 43) = False := eq_false (by omega)
    have p31 : (κ = 31) = True := eq_true z
    simp only [hl_r188_0, hl_r188_1, hl_r188_4, hl_r188_6, hl_r188_9, hl_r188_11, hl_r188_14, hl_r188_15, hl_r188_18, hl_r188_19, hl_r188_22, hl_r188_24, hl_r188_27, hl_r188_28, hl_r188_31, hl_r188_33, hl_r188_36, hl_r188_38, hl_r188_41, hl_r188_42, hl_r188_45, hl_r188_46, hl_r188_49, hl_r188_51, hl_r188_54, hl_r188_55, hl_r188_58, hl_r188_60, hl_r188_63, hl_r188_65, hl_r188_68, hl_r188_69, hl_r188_72, hl_r188_74, hl_r188_77, hl_r188_79, hl_r188_82, hl_r188_83, hl_o_85, hl_p_85_3, hl_p_85_4, hl_p_85_5, hl_p_85_6, hl_p_85_19, hl_p_85_23, hl_p_85_24, hl_p_85_25, hl_p_85_26, hl_p_85_27, hl_p_85_28, hl_p_85_29, hl_p_85_30, hl_p_85_31, hl_p_85_33, hl_p_85_34, hl_p_85_35, hl_p_85_36, hl_p_85_37, q30, q43, q31, q44, q32, q33, p30, p43, p31, hl_kill_i, hl_kill_r, hl_kill_n, hl_kill_l, hl_tl_s, hl_tl_n, hl_cal_some, hl_gI, hl_gJ, hl_gsI, hl_gsJ, hl_tv01, if_true, if_false, not_true, not_false_eq_true, hl_10, or_true, true_or]
  · have ec : (if hx_cm κ = true then nI (hx_op κ) else (-1 : Int32)) = 13 := by rw [z]; rfl
    rw [ec]
    have p30 : (κ = 30) = False := eq_false (by omega)
    have p43 : (κ = 43) = False := eq_false (by omega)
    have p31 : (κ = 31) = False := eq_false (by omega)
    have p44 : (κ = 44) = True := eq_true z
    simp only [hl_r188_0, hl_r188_1, hl_r188_4, hl_r188_6, hl_r188_9, hl_r188_11, hl_r188_14, hl_r188_15, hl_r188_18, hl_r188_19, hl_r188_22, hl_r188_24, hl_r188_27, hl_r188_28, hl_r188_31, hl_r188_33, hl_r188_36, hl_r188_38, hl_r188_41, hl_r188_42, hl_r188_45, hl_r188_46, hl_r188_49, hl_r188_51, hl_r188_54, hl_r188_55, hl_r188_58, hl_r188_60, hl_r188_63, hl_r188_65, hl_r188_68, hl_r188_69, hl_r188_72, hl_r188_74, hl_r188_77, hl_r188_79, hl_r188_82, hl_r188_83, hl_o_85, hl_p_85_3, hl_p_85_4, hl_p_85_5, hl_p_85_6, hl_p_85_19, hl_p_85_23, hl_p_85_24, hl_p_85_25, hl_p_85_26, hl_p_85_27, hl_p_85_28, hl_p_85_29, hl_p_85_30, hl_p_85_31, hl_p_85_33, hl_p_85_34, hl_p_85_35, hl_p_85_36, hl_p_85_37, q30, q43, q31, q44, q32, q33, p30, p43, p31, p44, hl_kill_i, hl_kill_r, hl_kill_n, hl_kill_l, hl_tl_s, hl_tl_n, hl_cal_some, hl_gI, hl_gJ, hl_gsI, hl_gsJ, hl_tv01, if_true, if_false, not_true, not_false_eq_true, hl_10, or_true, true_or]
  · have ec : (if hx_cm κ = true then nI (hx_op κ) else (-1 : Int32)) = 14 := by rw [z]; rfl
    rw [ec]
    have p30 : (κ = 30) = False := eq_false (by omega)
    have p43 : (κ = 43) = False := eq_false (by omega)
    have p31 : (κ = 31) = False := eq_false (by omega)
    have p44 : (κ = 44) = False := eq_false (by omega)
    have p32 : (κ = 32) = True := eq_true z
    simp only [hl_r188_0, hl_r188_1, hl_r188_4, hl_r188_6, hl_r188_9, hl_r188_11, hl_r188_14, hl_r188_15, hl_r188_18, hl_r188_19, hl_r188_22, hl_r188_24, hl_r188_27, hl_r188_28, hl_r188_31, hl_r188_33, hl_r188_36, hl_r188_38, hl_r188_41, hl_r188_42, hl_r188_45, hl_r188_46, hl_r188_49, hl_r188_51, hl_r188_54, hl_r188_55, hl_r188_58, hl_r188_60, hl_r188_63, hl_r188_65, hl_r188_68, hl_r188_69, hl_r188_72, hl_r188_74, hl_r188_77, hl_r188_79, hl_r188_82, hl_r188_83, hl_o_85, hl_p_85_3, hl_p_85_4, hl_p_85_5, hl_p_85_6, hl_p_85_19, hl_p_85_23, hl_p_85_24, hl_p_85_25, hl_p_85_26, hl_p_85_27, hl_p_85_28, hl_p_85_29, hl_p_85_30, hl_p_85_31, hl_p_85_33, hl_p_85_34, hl_p_85_35, hl_p_85_36, hl_p_85_37, q30, q43, q31, q44, q32, q33, p30, p43, p31, p44, p32, hl_kill_i, hl_kill_r, hl_kill_n, hl_kill_l, hl_tl_s, hl_tl_n, hl_cal_some, hl_gI, hl_gJ, hl_gsI, hl_gsJ, hl_tv01, if_true, if_false, not_true, not_false_eq_true, hl_10, or_true, true_or]
  · have ec : (if hx_cm κ = true then nI (hx_op κ) else (-1 : Int32)) = 15 := by rw [z]; rfl
    rw [ec]
    have p30 : (κ = 30) = False := eq_false (by omega)
    have p43 : (κ = 43) = False := eq_false (by omega)
    have p31 : (κ = 31) = False := eq_false (by omega)
    have p44 : (κ = 44) = False := eq_false (by omega)
    have p32 : (κ = 32) = False := eq_false (by omega)
    have p33 : (κ = 33) = True := eq_true z
    simp only [hl_r188_0, hl_r188_1, hl_r188_4, hl_r188_6, hl_r188_9, hl_r188_11, hl_r188_14, hl_r188_15, hl_r188_18, hl_r188_19, hl_r188_22, hl_r188_24, hl_r188_27, hl_r188_28, hl_r188_31, hl_r188_33, hl_r188_36, hl_r188_38, hl_r188_41, hl_r188_42, hl_r188_45, hl_r188_46, hl_r188_49, hl_r188_51, hl_r188_54, hl_r188_55, hl_r188_58, hl_r188_60, hl_r188_63, hl_r188_65, hl_r188_68, hl_r188_69, hl_r188_72, hl_r188_74, hl_r188_77, hl_r188_79, hl_r188_82, hl_r188_83, hl_o_85, hl_p_85_3, hl_p_85_4, hl_p_85_5, hl_p_85_6, hl_p_85_19, hl_p_85_23, hl_p_85_24, hl_p_85_25, hl_p_85_26, hl_p_85_27, hl_p_85_28, hl_p_85_29, hl_p_85_30, hl_p_85_31, hl_p_85_33, hl_p_85_34, hl_p_85_35, hl_p_85_36, hl_p_85_37, q30, q43, q31, q44, q32, q33, p30, p43, p31, p44, p32, p33, hl_kill_i, hl_kill_r, hl_kill_n, hl_kill_l, hl_tl_s, hl_tl_n, hl_cal_some, hl_gI, hl_gJ, hl_gsI, hl_gsJ, hl_tv01, if_true, if_false, not_true, not_false_eq_true, hl_10, or_true, true_or]
  · have ec : (if hx_cm κ = true then nI (hx_op κ) else (-1 : Int32)) = -1 := by
      refine if_neg (fun y => ?_)
      unfold hx_cm at y
      rw [Bool.or_eq_true, Bool.and_eq_true, Bool.and_eq_true, decide_eq_true_eq, decide_eq_true_eq, decide_eq_true_eq, decide_eq_true_eq] at y
      omega
    rw [ec]
    have p30 : (κ = 30) = False := eq_false (by omega)
    have p43 : (κ = 43) = False := eq_false (by omega)
    have p31 : (κ = 31) = False := eq_false (by omega)
    have p44 : (κ = 44) = False := eq_false (by omega)
    have p32 : (κ = 32) = False := eq_false (by omega)
    have p33 : (κ = 33) = False := eq_false (by omega)
    simp only [hl_r188_0, hl_r188_1, hl_r188_4, hl_r188_6, hl_r188_9, hl_r188_11, hl_r188_14, hl_r188_15, hl_r188_18, hl_r188_19, hl_r188_22, hl_r188_24, hl_r188_27, hl_r188_28, hl_r188_31, hl_r188_33, hl_r188_36, hl_r188_38, hl_r188_41, hl_r188_42, hl_r188_45, hl_r188_46, hl_r188_49, hl_r188_51, hl_r188_54, hl_r188_55, hl_r188_58, hl_r188_60, hl_r188_63, hl_r188_65, hl_r188_68, hl_r188_69, hl_r188_72, hl_r188_74, hl_r188_77, hl_r188_79, hl_r188_82, hl_r188_83, hl_o_85, hl_p_85_3, hl_p_85_4, hl_p_85_5, hl_p_85_6, hl_p_85_19, hl_p_85_23, hl_p_85_24, hl_p_85_25, hl_p_85_26, hl_p_85_27, hl_p_85_28, hl_p_85_29, hl_p_85_30, hl_p_85_31, hl_p_85_33, hl_p_85_34, hl_p_85_35, hl_p_85_36, hl_p_85_37, q30, q43, q31, q44, q32, q33, p30, p43, p31, p44, p32, p33, hl_kill_i, hl_kill_r, hl_kill_n, hl_kill_l, hl_tl_s, hl_tl_n, hl_cal_some, hl_gI, hl_gJ, hl_gsI, hl_gsJ, hl_tv01, if_true, if_false, not_true, not_false_eq_true, hl_10, or_true, true_or]
end HXRWRD
