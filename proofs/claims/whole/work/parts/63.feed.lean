/-! feed -/
def hl_byt (x s : Int32) : Int32 := x >>> (s &&& 31) &&& 255
theorem hl_bytB (x : BitVec 32) (s : Nat) (hs : s ≤ 24) : (x >>> s) &&& 255#32 = (x.sshiftRight s) &&& 255#32 := by
  apply BitVec.eq_of_getLsbD_eq
  intro i hi
  have e : (255#32).getLsbD i = decide (i < 8) := by
    have := (by decide : ∀ i, i < 32 → (255#32).getLsbD i = decide (i < 8))
    exact this i hi
  rw [BitVec.getLsbD_and, BitVec.getLsbD_and, e]
  by_cases h8 : i < 8
  · rw [BitVec.getLsbD_ushiftRight, BitVec.getLsbD_sshiftRight]
    have h1 : s + i < 32 := by omega
    have h2 : ¬ 32 ≤ i := by omega
    simp [h1, h2]
  · rw [decide_eq_false h8, Bool.and_false, Bool.and_false]
theorem hl_byt_u (x : Int32) : ((x.toUInt32 >>> ((24 : Int32).toUInt32 &&& Int32.toUInt32 31)).toInt32 &&& 255 = hl_byt x 24) ∧ ((x.toUInt32 >>> ((16 : Int32).toUInt32 &&& Int32.toUInt32 31)).toInt32 &&& 255 = hl_byt x 16) ∧ ((x.toUInt32 >>> ((8 : Int32).toUInt32 &&& Int32.toUInt32 31)).toInt32 &&& 255 = hl_byt x 8) ∧ ((x.toUInt32 >>> ((0 : Int32).toUInt32 &&& Int32.toUInt32 31)).toInt32 &&& 255 = hl_byt x 0) := by
  refine ⟨?_, ?_, ?_, ?_⟩
  · apply Int32.toBitVec_inj.mp
    exact hl_bytB x.toBitVec 24 (by omega)
  · apply Int32.toBitVec_inj.mp
    exact hl_bytB x.toBitVec 16 (by omega)
  · apply Int32.toBitVec_inj.mp
    exact hl_bytB x.toBitVec 8 (by omega)
  · apply Int32.toBitVec_inj.mp
    exact hl_bytB x.toBitVec 0 (by omega)
theorem hl_b255 (x : Int32) : 0 ≤ (x &&& 255).toInt ∧ (x &&& 255).toInt ≤ 255 := by
  have h : x &&& 255 = nI (x.toBitVec.toNat % 256) := by
    apply Int32.toBitVec_inj.mp
    apply BitVec.eq_of_toNat_eq
    show (x.toBitVec &&& 255#32).toNat = (BitVec.ofNat 32 (x.toBitVec.toNat % 256)).toNat
    rw [BitVec.toNat_and, BitVec.toNat_ofNat]
    show x.toBitVec.toNat &&& (2 ^ 8 - 1) = _
    rw [Nat.and_two_pow_sub_one_eq_mod]
    have : x.toBitVec.toNat % 2 ^ 8 < 256 := Nat.mod_lt _ (by omega)
    exact (Nat.mod_eq_of_lt (by omega)).symm
  have lt := Nat.mod_lt x.toBitVec.toNat (show 256 > 0 by omega)
  rw [h, hl_tI (by omega)]
  omega
/-- four bytes behind the tape -/
def hl_f4 (x : Int32) (fd k : Nat) (old : Int32) : Int32 := if k = fd + 3 then hl_byt x 0 else if k = fd + 2 then hl_byt x 8 else if k = fd + 1 then hl_byt x 16 else if k = fd then hl_byt x 24 else old
theorem hl_f4_B {x : Int32} {fd k : Nat} {old : Int32} (h : 0 ≤ old.toInt ∧ old.toInt ≤ 255) : 0 ≤ (hl_f4 x fd k old).toInt ∧ (hl_f4 x fd k old).toInt ≤ 255 := by
  unfold hl_f4 hl_byt
  split
  · exact hl_b255 _
  · split
    · exact hl_b255 _
    · split
      · exact hl_b255 _
      · split
        · exact hl_b255 _
        · exact h
def hl_Q4 (ro fi rt : Nat) (x : Int32) (fd : Nat) (I I' : Nat → Nat → Int32) : Prop := I' ro fi = nI (fd + 4) ∧ (∀ k, k ≠ fi → I' ro k = I ro k) ∧ (∀ b, b ≠ ro → b ≠ rt → I' b = I b) ∧ ∀ k, I' rt k = hl_f4 x fd k (I rt k)
section HLFEED
variable {d N W H : Nat} {I Is I' : Nat → Nat → Int32} {J J' : Nat → Nat → Int64}
theorem hl_n0_24 : ((24 : Int32) < 0) = False := by decide
theorem hl_n0_16 : ((16 : Int32) < 0) = False := by decide
theorem hl_n0_8 : ((8 : Int32) < 0) = False := by decide
theorem hl_n0_0 : ((0 : Int32) < 0) = False := by decide
theorem hl_n0_m8 : ((-8 : Int32) < 0) = True := by decide
theorem hl_m8_24 : (24 : Int32) + (-8) = 16 := by decide
theorem hl_m8_16 : (16 : Int32) + (-8) = 8 := by decide
theorem hl_m8_8 : (8 : Int32) + (-8) = 0 := by decide
theorem hl_m8_0 : (0 : Int32) + (-8) = -8 := by decide
theorem hl_s143 {x : Int32} {fd : Nat} (hF : I 0 6 = nI fd) (hfd : fd + 4 ≤ 300) : ∃ I', hl_call (d + 1) 143 [.ref 0, .int x] (hl_g N I J) = some (none, hl_g N I' J) ∧ hl_Q4 0 6 37 x fd I I' := by
  obtain ⟨u1, u2, u3, u4⟩ := hl_byt_u x
  have b0 : hl_inb (nI fd) 300 = true := hl_inb_nI (by omega) (by omega)
  have b1 : hl_inb (nI (fd + 1)) 300 = true := hl_inb_nI (by omega) (by omega)
  have b2 : hl_inb (nI (fd + 2)) 300 = true := hl_inb_nI (by omega) (by omega)
  have b3 : hl_inb (nI (fd + 3)) 300 = true := hl_inb_nI (by omega) (by omega)
  have l0 : ¬ (300 : Int32) ≤ nI fd := show ¬ nI 300 ≤ nI fd from nI_ge (by omega) (by omega)
  have l1 : ¬ (300 : Int32) ≤ nI (fd + 1) := show ¬ nI 300 ≤ nI (fd + 1) from nI_ge (by omega) (by omega)
  have l2 : ¬ (300 : Int32) ≤ nI (fd + 2) := show ¬ nI 300 ≤ nI (fd + 2) from nI_ge (by omega) (by omega)
  have l3 : ¬ (300 : Int32) ≤ nI (fd + 3) := show ¬ nI 300 ≤ nI (fd + 3) from nI_ge (by omega) (by omega)
  have e1 : nI fd + 1 = nI (fd + 1) := (nI_succ _).symm
  have e2 : nI (fd + 1) + 1 = nI (fd + 2) := (nI_succ _).symm
  have e3 : nI (fd + 2) + 1 = nI (fd + 3) := (nI_succ _).symm
  have e4 : nI (fd + 3) + 1 = nI (fd + 4) := (nI_succ _).symm
  refine ⟨hl_up (hl_up (hl_up (hl_up (hl_up (hl_up (hl_up (hl_up I 37 fd (hl_byt x 24)) 0 6 (nI (fd + 1))) 37 (fd + 1) (hl_byt x 16)) 0 6 (nI (fd + 2))) 37 (fd + 2) (hl_byt x 8)) 0 6 (nI (fd + 3))) 37 (fd + 3) (hl_byt x 0)) 0 6 (nI (fd + 4)), ?_, rfl, fun k hk => ?_, fun b h1 h2 => ?_, fun k => rfl⟩
  · rw [hl_e143]
    simp only [hl_r143_0, hl_r143_2, hl_r143_3, hl_r143_4, hl_r143_7, hl_r143_8, hl_r143_11, hl_r143_14, hl_r143_17, hl_r143_18, hl_r143_21, hl_r143_22, hl_r143_25, hl_r143_26, hl_r143_27, hl_r143_28, hl_r143_31, hl_r143_32, hl_r143_33, hl_r143_34, hl_r143_35, hl_r143_38, hl_r143_39, hl_r143_40, hl_r143_43, hl_r143_46, hl_r143_49, hl_o_0, hl_p_0_3, hl_p_0_4, hl_p_0_5, hl_p_0_7, hl_p_0_8, hl_p_0_9, hl_p_0_10, hl_p_0_11, hl_p_0_12, hl_p_0_13, hl_p_0_14, hl_p_0_15, hl_a_37, hl_z_37, hF, hl_n0_24, hl_n0_16, hl_n0_8, hl_n0_0, hl_n0_m8, hl_m8_24, hl_m8_16, hl_m8_8, hl_m8_0, u1, u2, u3, u4, b0, b1, b2, b3, l0, l1, l2, l3, e1, e2, e3, e4, nIc (show fd < 2 ^ 31 by omega), nIc (show fd + 1 < 2 ^ 31 by omega), nIc (show fd + 2 < 2 ^ 31 by omega), nIc (show fd + 3 < 2 ^ 31 by omega), Nat.reduceEqDiff, hl_kill_i, hl_kill_r, hl_kill_n, hl_kill_l, hl_tl_s, hl_tl_n, hl_cal_some, hl_gI, hl_gJ, hl_gsI, hl_gsJ, hl_tv01, if_true, if_false, hl_up_a, hl_row_a]
  · simp only [hl_up_a, Nat.reduceEqDiff, if_false, if_true, if_neg hk]
  · rw [hl_up_ne _ _ _ h1, hl_up_ne _ _ _ h2, hl_up_ne _ _ _ h1, hl_up_ne _ _ _ h2, hl_up_ne _ _ _ h1, hl_up_ne _ _ _ h2, hl_up_ne _ _ _ h1, hl_up_ne _ _ _ h2]
theorem hl_s165 {x : Int32} {fd : Nat} (hF : I 85 7 = nI fd) (hfd : fd + 4 ≤ 300) : ∃ I', hl_call (d + 1) 165 [.ref 85, .int x] (hl_g N I J) = some (none, hl_g N I' J) ∧ hl_Q4 85 7 89 x fd I I' := by
  have u1 : x >>> ((24 : Int32) &&& 31) &&& 255 = hl_byt x 24 := rfl
  have u2 : x >>> ((16 : Int32) &&& 31) &&& 255 = hl_byt x 16 := rfl
  have u3 : x >>> ((8 : Int32) &&& 31) &&& 255 = hl_byt x 8 := rfl
  have u4 : x >>> ((0 : Int32) &&& 31) &&& 255 = hl_byt x 0 := rfl
  have b0 : hl_inb (nI fd) 300 = true := hl_inb_nI (by omega) (by omega)
  have b1 : hl_inb (nI (fd + 1)) 300 = true := hl_inb_nI (by omega) (by omega)
  have b2 : hl_inb (nI (fd + 2)) 300 = true := hl_inb_nI (by omega) (by omega)
  have b3 : hl_inb (nI (fd + 3)) 300 = true := hl_inb_nI (by omega) (by omega)
  have e1 : nI fd + 1 = nI (fd + 1) := (nI_succ _).symm
  have e2 : nI (fd + 1) + 1 = nI (fd + 2) := (nI_succ _).symm
  have e3 : nI (fd + 2) + 1 = nI (fd + 3) := (nI_succ _).symm
  have e4 : nI (fd + 3) + 1 = nI (fd + 4) := (nI_succ _).symm
  refine ⟨hl_up (hl_up (hl_up (hl_up (hl_up (hl_up (hl_up (hl_up I 89 fd (hl_byt x 24)) 85 7 (nI (fd + 1))) 89 (fd + 1) (hl_byt x 16)) 85 7 (nI (fd + 2))) 89 (fd + 2) (hl_byt x 8)) 85 7 (nI (fd + 3))) 89 (fd + 3) (hl_byt x 0)) 85 7 (nI (fd + 4)), ?_, rfl, fun k hk => ?_, fun b h1 h2 => ?_, fun k => rfl⟩
  · rw [hl_e165]
    simp only [hl_r165_0, hl_r165_2, hl_r165_3, hl_r165_4, hl_r165_7, hl_r165_8, hl_r165_11, hl_r165_12, hl_r165_15, hl_r165_16, hl_r165_17, hl_r165_18, hl_r165_21, hl_r165_22, hl_r165_23, hl_r165_24, hl_r165_25, hl_r165_28, hl_r165_29, hl_r165_30, hl_r165_33, hl_r165_36, hl_r165_39, hl_o_85, hl_p_85_3, hl_p_85_4, hl_p_85_5, hl_p_85_6, hl_p_85_19, hl_p_85_23, hl_p_85_24, hl_p_85_25, hl_p_85_26, hl_p_85_27, hl_p_85_28, hl_p_85_29, hl_p_85_30, hl_p_85_31, hl_p_85_33, hl_p_85_34, hl_p_85_35, hl_p_85_36, hl_p_85_37, hl_a_89, hl_z_89, hF, hl_n0_24, hl_n0_16, hl_n0_8, hl_n0_0, hl_n0_m8, hl_m8_24, hl_m8_16, hl_m8_8, hl_m8_0, u1, u2, u3, u4, b0, b1, b2, b3, e1, e2, e3, e4, nIc (show fd < 2 ^ 31 by omega), nIc (show fd + 1 < 2 ^ 31 by omega), nIc (show fd + 2 < 2 ^ 31 by omega), nIc (show fd + 3 < 2 ^ 31 by omega), Nat.reduceEqDiff, hl_kill_i, hl_kill_r, hl_kill_n, hl_kill_l, hl_tl_s, hl_tl_n, hl_cal_some, hl_gI, hl_gJ, hl_gsI, hl_gsJ, hl_tv01, if_true, if_false, hl_up_a, hl_row_a]
  · simp only [hl_up_a, Nat.reduceEqDiff, if_false, if_true, if_neg hk]
  · rw [hl_up_ne _ _ _ h1, hl_up_ne _ _ _ h2, hl_up_ne _ _ _ h1, hl_up_ne _ _ _ h2, hl_up_ne _ _ _ h1, hl_up_ne _ _ _ h2, hl_up_ne _ _ _ h1, hl_up_ne _ _ _ h2]
/-- twenty bytes -/
def hl_f20 (f : Nat → Int32) (fd k : Nat) (old : Int32) : Int32 := hl_f4 (f 5) (fd + 16) k (hl_f4 (f 4) (fd + 12) k (hl_f4 (f 3) (fd + 8) k (hl_f4 (f 2) (fd + 4) k (hl_f4 (f 1) fd k old))))
def hl_Q20 (ro fi rt : Nat) (f : Nat → Int32) (fd : Nat) (I I' : Nat → Nat → Int32) : Prop := I' ro fi = nI (fd + 20) ∧ (∀ k, k ≠ fi → I' ro k = I ro k) ∧ (∀ b, b ≠ ro → b ≠ rt → I' b = I b) ∧ ∀ k, I' rt k = hl_f20 f fd k (I rt k)
theorem hl_Q4_20 {ro fi rt fd : Nat} {f : Nat → Int32} {I0 I1 I2 I3 I4 I5 : Nat → Nat → Int32} (h1 : hl_Q4 ro fi rt (f 1) fd I0 I1) (h2 : hl_Q4 ro fi rt (f 2) (fd + 4) I1 I2) (h3 : hl_Q4 ro fi rt (f 3) (fd + 8) I2 I3) (h4 : hl_Q4 ro fi rt (f 4) (fd + 12) I3 I4) (h5 : hl_Q4 ro fi rt (f 5) (fd + 16) I4 I5) : hl_Q20 ro fi rt f fd I0 I5 := by
  refine ⟨h5.1, fun k hk => ?_, fun b q1 q2 => ?_, fun k => ?_⟩
  · rw [h5.2.1 k hk, h4.2.1 k hk, h3.2.1 k hk, h2.2.1 k hk, h1.2.1 k hk]
  · rw [h5.2.2.1 b q1 q2, h4.2.2.1 b q1 q2, h3.2.2.1 b q1 q2, h2.2.2.1 b q1 q2, h1.2.2.1 b q1 q2]
  · rw [h5.2.2.2, h4.2.2.2, h3.2.2.2, h2.2.2.2, h1.2.2.2]; rfl
theorem hl_s112 {f : Nat → Int32} {fd : Nat} (hF : I 0 6 = nI fd) (hfd : fd + 20 ≤ 300) : ∃ I', hl_call (d + 2) 112 [.ref 0, .int (f 1), .int (f 2), .int (f 3), .int (f 4), .int (f 5)] (hl_g N I J) = some (some (.int (nI (fd + 20))), hl_g N I' J) ∧ hl_Q20 0 6 37 f fd I I' := by
  obtain ⟨I1, e1, q1⟩ := hl_s143 (d := d) (N := N) (J := J) (x := f 1) hF (by omega)
  obtain ⟨I2, e2, q2⟩ := hl_s143 (d := d) (N := N) (J := J) (x := f 2) q1.1 (by omega)
  obtain ⟨I3, e3, q3⟩ := hl_s143 (d := d) (N := N) (J := J) (x := f 3) q2.1 (by omega)
  obtain ⟨I4, e4, q4⟩ := hl_s143 (d := d) (N := N) (J := J) (x := f 4) q3.1 (by omega)
  obtain ⟨I5, e5, q5⟩ := hl_s143 (d := d) (N := N) (J := J) (x := f 5) q4.1 (by omega)
  have q := hl_Q4_20 q1 q2 q3 q4 q5
  refine ⟨I5, ?_, q⟩
  have l : nI fd + 20 ≤ 300 := by
    rw [show nI fd + 20 = nI (fd + 20) from nI_add fd 20]
    exact nI_le (b := 300) (by omega) (by omega)
  rw [hl_e112]
  simp only [hl_r112_0, hl_r112_1, hl_r112_4, hl_r112_6, hl_r112_7, hl_r112_10, hl_r112_13, hl_r112_14, hl_r112_15, hl_r112_16, hl_r112_17, hl_r112_20, hl_r112_21, hl_r112_22, hl_r112_25, hl_r112_26, hl_r112_27, hl_r112_30, hl_r112_31, hl_r112_33, hl_r112_36, hl_r112_37, hl_r112_39, hl_r112_42, hl_r112_43, hl_r112_46, hl_o_0, hl_p_0_3, hl_p_0_4, hl_p_0_5, hl_p_0_7, hl_p_0_8, hl_p_0_9, hl_p_0_10, hl_p_0_11, hl_p_0_12, hl_p_0_13, hl_p_0_14, hl_p_0_15, hF, l, e1, e2, e3, e4, e5, q.1, hl_tl_n, hl_kill_i, hl_kill_r, hl_kill_n, hl_kill_l, hl_tl_s, hl_tl_n, hl_cal_some, hl_gI, hl_gJ, hl_gsI, hl_gsJ, hl_tv01, if_true, if_false, hl_up_a, hl_row_a]
theorem hl_s166 {f : Nat → Int32} {fd : Nat} (hF : I 85 7 = nI fd) (hfd : fd + 20 ≤ 300) : ∃ I', hl_call (d + 2) 166 [.ref 85, .int (f 1), .int (f 2), .int (f 3), .int (f 4), .int (f 5)] (hl_g N I J) = some (some (.int (nI (fd + 20))), hl_g N I' J) ∧ hl_Q20 85 7 89 f fd I I' := by
  obtain ⟨I1, e1, q1⟩ := hl_s165 (d := d) (N := N) (J := J) (x := f 1) hF (by omega)
  obtain ⟨I2, e2, q2⟩ := hl_s165 (d := d) (N := N) (J := J) (x := f 2) q1.1 (by omega)
  obtain ⟨I3, e3, q3⟩ := hl_s165 (d := d) (N := N) (J := J) (x := f 3) q2.1 (by omega)
  obtain ⟨I4, e4, q4⟩ := hl_s165 (d := d) (N := N) (J := J) (x := f 4) q3.1 (by omega)
  obtain ⟨I5, e5, q5⟩ := hl_s165 (d := d) (N := N) (J := J) (x := f 5) q4.1 (by omega)
  have q := hl_Q4_20 q1 q2 q3 q4 q5
  refine ⟨I5, ?_, q⟩
  have l : nI fd + 20 ≤ 300 := by
    rw [show nI fd + 20 = nI (fd + 20) from nI_add fd 20]
    exact nI_le (b := 300) (by omega) (by omega)
  rw [hl_e166]
  simp only [hl_r166_0, hl_r166_1, hl_r166_4, hl_r166_6, hl_r166_7, hl_r166_10, hl_r166_13, hl_r166_14, hl_r166_15, hl_r166_16, hl_r166_17, hl_r166_20, hl_r166_21, hl_r166_22, hl_r166_25, hl_r166_26, hl_r166_27, hl_r166_30, hl_r166_31, hl_r166_33, hl_r166_36, hl_r166_37, hl_r166_39, hl_r166_42, hl_r166_43, hl_r166_46, hl_o_85, hl_p_85_3, hl_p_85_4, hl_p_85_5, hl_p_85_6, hl_p_85_19, hl_p_85_23, hl_p_85_24, hl_p_85_25, hl_p_85_26, hl_p_85_27, hl_p_85_28, hl_p_85_29, hl_p_85_30, hl_p_85_31, hl_p_85_33, hl_p_85_34, hl_p_85_35, hl_p_85_36, hl_p_85_37, hF, l, e1, e2, e3, e4, e5, q.1, hl_tl_n, hl_kill_i, hl_kill_r, hl_kill_n, hl_kill_l, hl_tl_s, hl_tl_n, hl_cal_some, hl_gI, hl_gJ, hl_gsI, hl_gsJ, hl_tv01, if_true, if_false, hl_up_a, hl_row_a]
theorem hl_pr7 (f : Nat → Int32) : hl_PQ hl_TX N W H 112 166 (hl_args 7 f) := by
  intro I J hI
  show ∃ v I1 J1 I2 J2, hl_call 1001 112 [.ref 0, .int (f 1), .int (f 2), .int (f 3), .int (f 4), .int (f 5)] (hl_g N I J) = some (some (.int v), hl_g N I1 J1) ∧ hl_call 1001 166 [.ref 85, .int (f 1), .int (f 2), .int (f 3), .int (f 4), .int (f 5)] (hl_g N I1 J1) = some (some (.int v), hl_g N I2 J2) ∧ hl_Inv hl_TX N W H I2
  obtain ⟨fd, hfd, t1, t2, t3⟩ := hI.2.2.2.1
  by_cases h : fd + 20 ≤ 300
  · obtain ⟨I1, e1, q1⟩ := hl_s112 (d := 999) (N := N) (J := J) (f := f) t1 h
    have w85 : I1 85 = I 85 := q1.2.2.1 85 (by decide) (by decide)
    obtain ⟨I2, e2, q2⟩ := hl_s166 (d := 999) (N := N) (J := J) (f := f) (I := I1) (by rw [w85]; exact t2) h
    refine ⟨_, I1, J, I2, J, e1, e2, ?_⟩
    refine hl_Inv_tape hl_TXc hI (fun b h0 h1 h2 h3 => by rw [q2.2.2.1 b h1 h3, q1.2.2.1 b h0 h2]) (fun k hk => ?_) (fun k hk => ?_) ⟨fd + 20, h, ?_, q2.1, fun k hk => ?_⟩
    · rw [q2.2.2.1 0 (by decide) (by decide), q1.2.1 k hk]
    · rw [q2.2.1 k hk, w85]
    · rw [q2.2.2.1 0 (by decide) (by decide)]; exact q1.1
    · rw [q2.2.2.1 37 (by decide) (by decide), q1.2.2.2, q2.2.2.2, q1.2.2.1 89 (by decide) (by decide), (t3 k hk).1]
      exact ⟨rfl, hl_f4_B (hl_f4_B (hl_f4_B (hl_f4_B (hl_f4_B (t3 k hk).2))))⟩
  · have l : ¬ nI fd + 20 ≤ 300 := by
      rw [show nI fd + 20 = nI (fd + 20) from nI_add fd 20]
      exact nI_ge (a := 300) (by omega) (by omega)
    refine ⟨-1, I, J, I, J, ?_, ?_, hI⟩
    · rw [hl_e112 (d := 1000)]; simp only [hl_r112_0, hl_r112_1, hl_r112_4, hl_r112_6, hl_r112_7, hl_r112_10, hl_r112_13, hl_r112_14, hl_r112_15, hl_r112_16, hl_r112_17, hl_r112_20, hl_r112_21, hl_r112_22, hl_r112_25, hl_r112_26, hl_r112_27, hl_r112_30, hl_r112_31, hl_r112_33, hl_r112_36, hl_r112_37, hl_r112_39, hl_r112_42, hl_r112_43, hl_r112_46, hl_o_0, hl_p_0_3, hl_p_0_4, hl_p_0_5, hl_p_0_7, hl_p_0_8, hl_p_0_9, hl_p_0_10, hl_p_0_11, hl_p_0_12, hl_p_0_13, hl_p_0_14, hl_p_0_15, t1, l, hl_kill_i, hl_kill_r, hl_kill_n, hl_kill_l, hl_tl_s, hl_tl_n, hl_cal_some, hl_gI, hl_gJ, hl_gsI, hl_gsJ, hl_tv01, if_true, if_false, hl_up_a, hl_row_a]
    · rw [hl_e166 (d := 1000)]; simp only [hl_r166_0, hl_r166_1, hl_r166_4, hl_r166_6, hl_r166_7, hl_r166_10, hl_r166_13, hl_r166_14, hl_r166_15, hl_r166_16, hl_r166_17, hl_r166_20, hl_r166_21, hl_r166_22, hl_r166_25, hl_r166_26, hl_r166_27, hl_r166_30, hl_r166_31, hl_r166_33, hl_r166_36, hl_r166_37, hl_r166_39, hl_r166_42, hl_r166_43, hl_r166_46, hl_o_85, hl_p_85_3, hl_p_85_4, hl_p_85_5, hl_p_85_6, hl_p_85_19, hl_p_85_23, hl_p_85_24, hl_p_85_25, hl_p_85_26, hl_p_85_27, hl_p_85_28, hl_p_85_29, hl_p_85_30, hl_p_85_31, hl_p_85_33, hl_p_85_34, hl_p_85_35, hl_p_85_36, hl_p_85_37, t2, l, hl_kill_i, hl_kill_r, hl_kill_n, hl_kill_l, hl_tl_s, hl_tl_n, hl_cal_some, hl_gI, hl_gJ, hl_gsI, hl_gsJ, hl_tv01, if_true, if_false, hl_up_a, hl_row_a]
end HLFEED
