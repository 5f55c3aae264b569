/-! pairs: what a call may change; the two lands side by side -/
theorem hl_ri_cell {N c i : Nat} (hN : N ≤ 24) (hc : c < N) (hi : i < 7) : hl_ri N (30 + 7 * c + i) = some (1 + i, c) := by
  unfold hl_ri
  rw [if_neg (by omega), if_neg (by omega), if_neg (by omega), if_neg (by omega), if_neg (by omega), if_neg (by omega), if_neg (by omega), if_neg (by omega), if_pos (by omega)]
  have a1 : (30 + 7 * c + i - 30) % 7 = i := by omega
  have a2 : (30 + 7 * c + i - 30) / 7 = c := by omega
  rw [a1, a2]
theorem hl_ri_off {N h : Nat} (hh : h < 4) : hl_ri N (10 + h) = some (8, h) := by
  unfold hl_ri
  rw [if_neg (by omega), if_neg (by omega), if_neg (by omega), if_neg (by omega), if_neg (by omega), if_neg (by omega), if_pos (by omega)]
  rw [Nat.add_sub_cancel_left]
theorem hl_ri_rise {N h : Nat} (hh : h < 12) : hl_ri N (15 + h) = some (9, h) := by
  unfold hl_ri
  rw [if_neg (by omega), if_neg (by omega), if_neg (by omega), if_neg (by omega), if_neg (by omega), if_neg (by omega), if_neg (by omega), if_pos (by omega)]
  rw [Nat.add_sub_cancel_left]
theorem hl_ri_tie {N k i : Nat} (hN : N ≤ 24) (hk : k < 40) (hi : i < 3) : hl_ri N (200 + 3 * k + i) = some (11 + i, k) := by
  unfold hl_ri
  rw [if_neg (by omega), if_neg (by omega), if_neg (by omega), if_neg (by omega), if_neg (by omega), if_neg (by omega), if_neg (by omega), if_neg (by omega), if_neg (by omega), if_pos (by omega)]
  have a1 : (200 + 3 * k + i - 200) % 3 = i := by omega
  have a2 : (200 + 3 * k + i - 200) / 3 = k := by omega
  rw [a1, a2]
theorem hl_ri_cnt {N t : Nat} (hN : N ≤ 24) (ht : t < 6) : hl_ri N (330 + t) = some (17, t) := by
  unfold hl_ri
  rw [if_neg (by omega), if_neg (by omega), if_neg (by omega), if_neg (by omega), if_neg (by omega), if_neg (by omega), if_neg (by omega), if_neg (by omega), if_neg (by omega), if_neg (by omega), if_pos (by omega)]
  rw [Nat.add_sub_cancel_left]
theorem hl_ri_stop {N t q i : Nat} (hN : N ≤ 24) (ht : t < 6) (hq : q < 12) (hi : i < 2) : hl_ri N (340 + 24 * t + 2 * q + i) = some (15 + i, 12 * t + q) := by
  unfold hl_ri
  rw [if_neg (by omega), if_neg (by omega), if_neg (by omega), if_neg (by omega), if_neg (by omega), if_neg (by omega), if_neg (by omega), if_neg (by omega), if_neg (by omega), if_neg (by omega), if_neg (by omega), if_pos (by omega)]
  have a1 : (340 + 24 * t + 2 * q + i - 340) % 2 = i := by omega
  have a2 : 12 * ((340 + 24 * t + 2 * q + i - 340) / 24) + (340 + 24 * t + 2 * q + i - 340) % 24 / 2 = 12 * t + q := by omega
  rw [a1, a2]
section HLT
variable {TE : (Nat → Nat → Int32) → Nat → Prop} {N W H : Nat} {I I' : Nat → Nat → Int32} {J J' : Nat → Nat → Int64}
theorem hl_LE.cell (h : hl_LE N I 1 86) (hN : N ≤ 24) {c i : Nat} (hc : c < N) (hi : i < 7) : I (2 + i) c = I 86 (30 + 7 * c + i) := by
  have := h _ _ _ (hl_ri_cell hN hc hi)
  rw [show 1 + (1 + i) = 2 + i by omega] at this
  exact this
theorem hl_LE.off (h : hl_LE N I 1 86) {c : Nat} (hc : c < 4) : I 9 c = I 86 (10 + c) := h _ _ _ (hl_ri_off hc)
theorem hl_LE.rise (h : hl_LE N I 1 86) {c : Nat} (hc : c < 12) : I 10 c = I 86 (15 + c) := h _ _ _ (hl_ri_rise hc)
theorem hl_LE.tie (h : hl_LE N I 1 86) (hN : N ≤ 24) {k i : Nat} (hk : k < 40) (hi : i < 3) : I (12 + i) k = I 86 (200 + 3 * k + i) := by
  have := h _ _ _ (hl_ri_tie hN hk hi)
  rw [show 1 + (11 + i) = 12 + i by omega] at this
  exact this
theorem hl_LE.cnt (h : hl_LE N I 1 86) (hN : N ≤ 24) {c : Nat} (hc : c < 6) : I 18 c = I 86 (330 + c) := h _ _ _ (hl_ri_cnt hN hc)
theorem hl_LE.stop (h : hl_LE N I 1 86) (hN : N ≤ 24) {t q i : Nat} (ht : t < 6) (hq : q < 12) (hi : i < 2) : I (16 + i) (12 * t + q) = I 86 (340 + 24 * t + 2 * q + i) := by
  have := h _ _ _ (hl_ri_stop hN ht hq hi)
  rw [show 1 + (15 + i) = 16 + i by omega] at this
  exact this
theorem hl_LE.h0 (h : hl_LE N I 1 86) : I 1 8 = I 86 0 := h 0 0 8 rfl
theorem hl_LE.h1 (h : hl_LE N I 1 86) : I 11 3 = I 86 1 := h 1 10 3 rfl
theorem hl_LE.h2 (h : hl_LE N I 1 86) : I 1 12 = I 86 2 := h 2 0 12 rfl
theorem hl_LE.h3 (h : hl_LE N I 1 86) : I 1 13 = I 86 3 := h 3 0 13 rfl
theorem hl_LE.h4 (h : hl_LE N I 1 86) : I 1 10 = I 86 4 := h 4 0 10 rfl
theorem hl_LE.h5 (h : hl_LE N I 1 86) : I 1 11 = I 86 5 := h 5 0 11 rfl
/-- a place's number out of its bounds -/
theorem hl_sv {m j : Nat} {a b : Nat} (h : (a : Int) ≤ hl_Sv I m j ∧ hl_Sv I m j ≤ (b : Int)) : ∃ k, a ≤ k ∧ k ≤ b ∧ I m j = nI k ∧ hl_Sv I m j = (k : Int) := by
  obtain ⟨k, h1, h2, h3⟩ := hl_nat (x := I m j) (by unfold hl_Sv at h; omega)
  unfold hl_Sv at h ⊢
  exact ⟨k, by omega, by omega, h2, by omega⟩
theorem hl_Inv.nh (h : hl_Inv TE N W H I) : ∃ nh, nh ≤ 4 ∧ I 1 8 = nI nh ∧ I 86 0 = nI nh ∧ hl_Sv I 86 0 = (nh : Int) := by
  obtain ⟨k, -, h2, h3, h4⟩ := hl_sv (a := 0) (b := 4) h.2.1.2.1
  exact ⟨k, h2, h.2.1.1.h0.trans h3, h3, h4⟩
theorem hl_Inv.cn (h : hl_Inv TE N W H I) : ∃ nh, nh ≤ 40 ∧ I 11 3 = nI nh ∧ I 86 1 = nI nh ∧ hl_Sv I 86 1 = (nh : Int) := by
  obtain ⟨k, -, h2, h3, h4⟩ := hl_sv (a := 0) (b := 40) h.2.1.2.2.1
  exact ⟨k, h2, h.2.1.1.h1.trans h3, h3, h4⟩
theorem hl_Inv.tn (h : hl_Inv TE N W H I) : ∃ nh, nh ≤ 4 ∧ I 1 12 = nI nh ∧ I 86 2 = nI nh ∧ hl_Sv I 86 2 = (nh : Int) := by
  obtain ⟨k, -, h2, h3, h4⟩ := hl_sv (a := 0) (b := 4) h.2.1.2.2.2.1
  exact ⟨k, h2, h.2.1.1.h2.trans h3, h3, h4⟩
theorem hl_Inv.cM (h : hl_Inv TE N W H I) : I 0 2 = nI N := h.1.1.2.2
theorem hl_Inv.mM (h : hl_Inv TE N W H I) : I 85 2 = nI N := h.1.2.1.2.2
/-- only what the two use meanwhile changes -/
def hl_Tm (I I' : Nat → Nat → Int32) : Prop := (∀ b, b < 60 → I' b = I b) ∧ I' 66 = I 66 ∧ (∀ k, k < 10 → I' 85 k = I 85 k) ∧ (∀ b, 86 ≤ b → b < 90 → I' b = I b)
theorem hl_Tm_rf (I : Nat → Nat → Int32) : hl_Tm I I := ⟨fun _ _ => rfl, rfl, fun _ _ => rfl, fun _ _ _ => rfl⟩
theorem hl_Tm_tr {I1 I2 I3 : Nat → Nat → Int32} (h : hl_Tm I1 I2) (g : hl_Tm I2 I3) : hl_Tm I1 I3 := ⟨fun b hb => (g.1 b hb).trans (h.1 b hb), g.2.1.trans h.2.1, fun k hk => (g.2.2.1 k hk).trans (h.2.2.1 k hk), fun b h1 h2 => (g.2.2.2 b h1 h2).trans (h.2.2.2 b h1 h2)⟩
theorem hl_Tm_up {I : Nat → Nat → Int32} {a i : Nat} {v : Int32} (ha : 60 ≤ a ∧ a ≠ 66 ∧ a ≠ 85 ∧ (a < 86 ∨ 90 ≤ a)) : hl_Tm I (hl_up I a i v) := ⟨fun b hb => hl_up_ne _ _ _ (by omega), hl_up_ne _ _ _ (by omega), fun k hk => by rw [hl_up_ne _ _ _ (show 85 ≠ a by omega)], fun b h1 h2 => hl_up_ne _ _ _ (by omega)⟩
theorem hl_Tm_up85 {I : Nat → Nat → Int32} {i : Nat} {v : Int32} (hi : 10 ≤ i) : hl_Tm I (hl_up I 85 i v) := ⟨fun b hb => hl_up_ne _ _ _ (by omega), hl_up_ne _ _ _ (by omega), fun k hk => by rw [hl_up_a, if_pos rfl, if_neg (by omega)], fun b h1 h2 => hl_up_ne _ _ _ (by omega)⟩
theorem hl_Tm_row {I : Nat → Nat → Int32} {a : Nat} {g : Nat → Int32} (ha : 60 ≤ a ∧ a ≠ 66 ∧ a ≠ 85 ∧ (a < 86 ∨ 90 ≤ a)) : hl_Tm I (hl_row I a g) := ⟨fun b hb => hl_row_ne _ _ (by omega), hl_row_ne _ _ (by omega), fun k hk => by rw [hl_row_ne _ _ (show 85 ≠ a by omega)], fun b h1 h2 => hl_row_ne _ _ (by omega)⟩
theorem hl_f6.tm {I I' : Nat → Nat → Int32} (h : hl_f6 I I') : hl_Tm I I' := ⟨fun b hb => h b (by omega) (by omega) (by omega), h 66 (by omega) (by omega) (by omega), fun k hk => by rw [h 85 (by omega) (by omega) (by omega)], fun b h1 h2 => h b (by omega) (by omega) (by omega)⟩
theorem hl_Tm.pd (h : hl_Tm I I') (c : Nat) : hl_PD I I' c := by
  obtain ⟨q, -⟩ := h
  refine ⟨?_, ?_, q 9 (by omega), q 10 (by omega), fun r _ h2 => q r h2⟩
  · rw [q 1 (by omega)]; exact ⟨rfl, rfl, rfl⟩
  · rw [q 2 (by omega), q 3 (by omega), q 4 (by omega), q 5 (by omega), q 6 (by omega)]; exact ⟨rfl, rfl, rfl, rfl, rfl⟩
theorem hl_Pu_t (h : hl_Pu N I) (q : hl_Tm I I') (h64 : I' 64 = I 64) (h65 : I' 65 = I 65) : hl_Pu N I' := hl_Pu_k h (by rw [q.2.2.2 86 (by omega) (by omega)]) h64 (fun c _ => .inr ⟨by rw [h65], q.pd c⟩)
theorem hl_Inv_t (hTE : hl_TEc TE) (h : hl_Inv TE N W H I) (q : hl_Tm I I') (hP : hl_Pu N I') : hl_Inv TE N W H I' := by
  obtain ⟨a, b, c, d, e, f, g⟩ := h
  obtain ⟨q1, q2, q3, q4⟩ := q
  have s6 : hl_Sv I' 86 = hl_Sv I 86 := by funext j; unfold hl_Sv; rw [q4 86 (by omega) (by omega)]
  have s7 : hl_Sv I' 87 = hl_Sv I 87 := by funext j; unfold hl_Sv; rw [q4 87 (by omega) (by omega)]
  refine ⟨?_, ⟨?_, ?_⟩, ⟨?_, ?_, ?_⟩, ?_, hP, ?_, ?_⟩
  · unfold hl_A9
    rw [q1 0 (by omega), q1 38 (by omega), q2, q3 0 (by omega), q3 1 (by omega), q3 2 (by omega), q3 8 (by omega), q3 9 (by omega)]
    exact a
  · exact hl_LE_congr b.1 (fun r hr => q1 _ (by omega)) (q4 86 (by omega) (by omega))
  · rw [s6]; exact b.2
  · exact hl_LE_congr c.1 (fun r hr => q1 _ (by omega)) (q4 87 (by omega) (by omega))
  · rw [s7]; exact c.2.1
  · rw [s6, s7]; exact c.2.2
  · unfold hl_Tp
    rw [q1 0 (by omega), q1 37 (by omega), q3 7 (by omega), q4 89 (by omega) (by omega)]
    exact d
  · intro T cl hT hcl
    rw [q1 (46 + 4 * T) (by omega), q1 (47 + 4 * T) (by omega)]
    exact f T cl hT hcl
  · intro T hT
    rw [s6] at hT
    have hV := b.2.2.2.1
    exact hTE I I' T (q1 _ (by omega)) (q1 _ (by omega)) (q1 _ (by omega)) (fun k _ _ => by rw [q4 88 (by omega) (by omega)]) (g T hT)
/-- a pair under the invariant -/
def hl_PQ (TE : (Nat → Nat → Int32) → Nat → Prop) (N W H jc jm : Nat) (as : List Value) : Prop := hl_PairQ (hl_call 1001) N (fun I _ => hl_Inv TE N W H I) (fun I _ => hl_Inv TE N W H I) jc jm as
/-- a pair that only reads -/
theorem hl_PQ_read {jc jm : Nat} {as : List Value} (hTE : hl_TEc TE) (h : ∀ I J, hl_Inv TE N W H I → ∃ v I1 J1 I2 J2, hl_call 1001 jc (.ref 0 :: as) (hl_g N I J) = some (some (.int v), hl_g N I1 J1) ∧ hl_call 1001 jm (.ref 85 :: as) (hl_g N I1 J1) = some (some (.int v), hl_g N I2 J2) ∧ hl_Tm I I1 ∧ hl_Pu N I1 ∧ hl_Tm I1 I2 ∧ I2 64 = I1 64 ∧ I2 65 = I1 65) : hl_PQ TE N W H jc jm as := by
  intro I J hI
  obtain ⟨v, I1, J1, I2, J2, h1, h2, t1, p1, t2, e4, e5⟩ := h I J hI
  exact ⟨v, I1, J1, I2, J2, h1, h2, hl_Inv_t hTE hI (hl_Tm_tr t1 t2) (hl_Pu_t p1 t2 e4 e5)⟩
/-- nothing changes -/
theorem hl_PQ_same {jc jm : Nat} {as : List Value} (h : ∀ I J, hl_Inv TE N W H I → ∃ v, hl_call 1001 jc (.ref 0 :: as) (hl_g N I J) = some (some (.int v), hl_g N I J) ∧ hl_call 1001 jm (.ref 85 :: as) (hl_g N I J) = some (some (.int v), hl_g N I J)) : hl_PQ TE N W H jc jm as := by
  intro I J hI
  obtain ⟨v, h1, h2⟩ := h I J hI
  exact ⟨v, I, J, I, J, h1, h2, hI⟩
theorem hl_PD_of (q : ∀ b, b = 1 ∨ (2 ≤ b ∧ b ≤ 6) ∨ b = 9 ∨ b = 10 ∨ (45 ≤ b ∧ b < 60) → I' b = I b) (c : Nat) : hl_PD I I' c := by
  refine ⟨?_, ?_, q 9 (by omega), q 10 (by omega), fun r h1 h2 => q r (by omega)⟩
  · rw [q 1 (by omega)]; exact ⟨rfl, rfl, rfl⟩
  · rw [q 2 (by omega), q 3 (by omega), q 4 (by omega), q 5 (by omega), q 6 (by omega)]; exact ⟨rfl, rfl, rfl, rfl, rfl⟩
theorem hl_Qt_of (q : ∀ b, ¬ (1 ≤ b ∧ b < 19) → b ≠ 86 → ¬ (60 ≤ b ∧ b ≤ 65) → I' b = I b) (h2 : I' 86 2 = I 86 2) : hl_Qt I I' := ⟨q 0 (by omega) (by omega) (by omega), fun r h1 h2 => q r (by omega) (by omega) (by omega), fun r h1 h2 => q r (by omega) (by omega) (by omega), q 66 (by omega) (by omega) (by omega), q 85 (by omega) (by omega) (by omega), fun r h1 h2 => q r (by omega) (by omega) (by omega), h2⟩
theorem hl_LE_rows (h : hl_LE N I 1 86) (h1 : ∀ b, 1 ≤ b → b < 19 → I' b = I b) (h2 : I' 86 = I 86) : hl_LE N I' 1 86 := hl_LE_congr h (fun r hr => h1 _ (by omega) (by omega)) h2
end HLT
