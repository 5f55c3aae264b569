/-! the class's network as it is built -/
def hl_us {α : Type} (f : Nat → α) (i : Nat) (v : α) : Nat → α := fun j => if j = i then v else f j
def hl_NL (I : Nat → Nat → Int32) (nd np : Nat) (sr ds : Nat → Nat) : Prop := (2 ≤ nd ∧ nd ≤ 74 ∧ np ≤ 432) ∧ I 69 0 = nI nd ∧ I 69 1 = nI np ∧ (∀ p, p < np → I 72 p = nI (ds p) ∧ ds p < nd ∧ sr p < nd) ∧ (∀ u, u < nd → I 70 u = hl_lst sr u np) ∧ ∀ p, p < np → I 71 p = hl_lst sr (sr p) p
def hl_fN (I I' : Nat → Nat → Int32) : Prop := ∀ b, b ≠ 69 → b ≠ 70 → b ≠ 71 → b ≠ 72 → I' b = I b
theorem hl_fN_rf (I : Nat → Nat → Int32) : hl_fN I I := fun _ _ _ _ _ => rfl
theorem hl_fN_tr {I1 I2 I3 : Nat → Nat → Int32} (h : hl_fN I1 I2) (g : hl_fN I2 I3) : hl_fN I1 I3 := fun b h1 h2 h3 h4 => (g b h1 h2 h3 h4).trans (h b h1 h2 h3 h4)
theorem hl_lst_us {sr : Nat → Nat} {u i v : Nat} (k : Nat) (h : k ≤ i) : hl_lst (hl_us sr i v) u k = hl_lst sr u k := hl_lst_congr k (fun j hj => if_neg (by omega))
theorem hl_b432 {n : Nat} (h : n < 432) : hl_inb (nI n) 432 = true := hl_inb_nI h (by decide)
theorem hl_b74 {n : Nat} (h : n < 74) : hl_inb (nI n) 74 = true := hl_inb_nI h (by decide)
theorem hl_cq {n : Nat} (h : n < 10000) : (nI n).toNatClampNeg = n := nI_clamp (by omega)
section HLNET
variable {d N : Nat} {I I' : Nat → Nat → Int32} {J J' : Nat → Nat → Int64} {nd np : Nat} {sr ds : Nat → Nat}
theorem hl_s17 {u v : Nat} {w : Int64} (h : hl_NL I nd np sr ds) (hp : np < 432) (hu : u < nd) (hv : v < nd) : ∃ I', hl_call (d + 1) 17 [.ref 69, .int (nI u), .int (nI v), .long w] (hl_g N I J) = some (none, hl_g N I' (hl_up J 73 np w)) ∧ hl_NL I' nd (np + 1) (hl_us sr np u) (hl_us ds np v) ∧ hl_fN I I' := by
  obtain ⟨⟨n2, n74, n432⟩, h0, h1, h72, h70, h71⟩ := h
  have en : nI np + 1 = nI (np + 1) := (nI_succ np).symm
  generalize hI2 : hl_up (hl_up (hl_up (hl_up I 72 np (nI v)) 71 np (I 70 u)) 70 u (nI np)) 69 1 (nI (np + 1)) = I2
  have a72 : ∀ p, I2 72 p = if p = np then nI v else I 72 p := fun p => by rw [← hI2]; rfl
  have a71 : ∀ p, I2 71 p = if p = np then I 70 u else I 71 p := fun p => by rw [← hI2]; rfl
  have a70 : ∀ p, I2 70 p = if p = u then nI np else I 70 p := fun p => by rw [← hI2]; rfl
  refine ⟨I2, ?_, ⟨⟨n2, n74, by omega⟩, ?_, ?_, fun p hp2 => ?_, fun q hq => ?_, fun p hp2 => ?_⟩, fun b q1 q2 q3 q4 => ?_⟩
  · rw [← hI2, hl_e17]
    have r70 : hl_up I 72 np (nI v) 70 u = I 70 u := by rw [hl_up_ne _ _ _ (by decide)]
    have r69 : ∀ (I9 : Nat → Nat → Int32) (a i : Nat) (x : Int32), a ≠ 69 → hl_up I9 a i x 69 1 = I9 69 1 := fun I9 a i x ha => by rw [hl_up_ne _ _ _ (fun z => ha z.symm)]
    simp only [hl_r17_0, hl_r17_1, hl_r17_4, hl_r17_5, hl_r17_8, hl_r17_9, hl_r17_10, hl_r17_11, hl_r17_14, hl_r17_15, hl_r17_18, hl_r17_19, hl_r17_20, hl_r17_21, hl_r17_24, hl_r17_25, hl_r17_28, hl_r17_29, hl_r17_32, hl_r17_33, hl_r17_34, hl_r17_35, hl_r17_36, hl_r17_39, hl_r17_40, hl_r17_41, hl_r17_44, hl_r17_45, hl_r17_46, hl_r17_47, hl_r17_50, hl_r17_51, hl_r17_52, hl_r17_55, hl_o_69, hl_p_69_2, hl_p_69_3, hl_p_69_4, hl_p_69_5, hl_p_69_6, hl_p_69_7, hl_p_69_8, hl_p_69_9, hl_a_72, hl_z_72, hl_a_73, hl_z_73, hl_a_71, hl_z_71, hl_a_70, hl_z_70, h1, r70, r69 _ 72 _ _ (by decide), r69 _ 71 _ _ (by decide), r69 _ 70 _ _ (by decide), hl_b432 hp, hl_cq (show np < 10000 by omega), hl_b74 (show u < 74 by omega), hl_cq (show u < 10000 by omega), en, hl_kill_i, hl_kill_r, hl_kill_n, hl_kill_l, hl_gI, hl_gJ, hl_gsI, hl_gsJ]
  · rw [← hI2, hl_up_a, if_pos rfl, if_neg (by decide), hl_up_ne _ _ _ (by decide), hl_up_ne _ _ _ (by decide), hl_up_ne _ _ _ (by decide)]; exact h0
  · rw [← hI2]; exact hl_up_at
  · rw [a72]
    unfold hl_us
    by_cases z : p = np
    · rw [if_pos z, if_pos z, if_pos z]; exact ⟨rfl, hv, hu⟩
    · rw [if_neg z, if_neg z, if_neg z]; exact h72 p (by omega)
  · rw [a70]
    show _ = if hl_us sr np u np = q then nI np else hl_lst (hl_us sr np u) q np
    rw [hl_lst_us np (Nat.le_refl np), show hl_us sr np u np = u from if_pos rfl]
    by_cases z : q = u
    · rw [if_pos z, if_pos z.symm]
    · rw [if_neg z, if_neg (fun y => z y.symm)]; exact h70 q hq
  · rw [a71, hl_lst_us p (by omega)]
    unfold hl_us
    by_cases z : p = np
    · rw [if_pos z, if_pos z, z]; exact h70 u hu
    · rw [if_neg z, if_neg z]; exact h71 p (by omega)
  · rw [← hI2, hl_up_ne _ _ _ q1, hl_up_ne _ _ _ q2, hl_up_ne _ _ _ q3, hl_up_ne _ _ _ q4]
/-- pipes in pairs -/
def hl_Pr (np : Nat) (sr ds : Nat → Nat) : Prop := np % 2 = 0 ∧ ∀ p, p < np → sr (hl_pe p) = ds p ∧ ds (hl_pe p) = sr p
/-- rooms -/
def hl_Rm (J : Nat → Nat → Int64) (np : Nat) (r : Nat → Int) : Prop := ∀ p, p < np → (J 73 p).toInt = r p ∧ 0 ≤ r p ∧ r p + r (hl_pe p) ≤ 1000000000000
def hl_NW (I : Nat → Nat → Int32) (J : Nat → Nat → Int64) (nd np : Nat) (C : (Nat → Bool) → Int) : Prop := ∃ sr ds r, hl_NL I nd np sr ds ∧ hl_Pr np sr ds ∧ hl_Rm J np r ∧ ∀ S, hl_fM np sr ds r S = C S
theorem hl_fM_s {sr ds : Nat → Nat} {r : Nat → Int} {S : Nat → Bool} {n u v : Nat} {x : Int} : hl_fM (n + 1) (hl_us sr n u) (hl_us ds n v) (hl_us r n x) S = hl_fM n sr ds r S + hl_fs S u v x := by
  show hl_si n _ + hl_fs S (hl_us sr n u n) (hl_us ds n v n) (hl_us r n x n) = _
  rw [show hl_us sr n u n = u from if_pos rfl, show hl_us ds n v n = v from if_pos rfl, show hl_us r n x n = x from if_pos rfl]
  unfold hl_fM
  rw [hl_si_congr (g := fun i => hl_fs S (sr i) (ds i) (r i)) n (fun k hk => by
    unfold hl_us
    rw [if_neg (by omega), if_neg (by omega), if_neg (by omega)])]
theorem hl_s16 {C : (Nat → Bool) → Int} {u v : Nat} {t b : Int64} (h : hl_NW I J nd np C) (hp : np + 2 ≤ 432) (hu : u < nd) (hv : v < nd) (ht : 0 ≤ t.toInt) (hb : 0 ≤ b.toInt) (htb : t.toInt + b.toInt ≤ 1000000000000) : ∃ I' J', hl_call (d + 2) 16 [.ref 69, .int (nI u), .int (nI v), .long t, .long b] (hl_g N I J) = some (none, hl_g N I' J') ∧ hl_NW I' J' nd (np + 2) (fun S => C S + hl_fs S u v t.toInt + hl_fs S v u b.toInt) ∧ hl_fN I I' ∧ ∀ q, q ≠ 73 → J' q = J q := by
  obtain ⟨sr, ds, r, hL, ⟨he, hPr⟩, hR, hC⟩ := h
  obtain ⟨I1, e1, L1, f1⟩ := hl_s17 (d := d) (N := N) (J := J) (w := t) hL (by omega) hu hv
  obtain ⟨I2, e2, L2, f2⟩ := hl_s17 (d := d) (N := N) (J := hl_up J 73 np t) (w := b) L1 (by omega) hv hu
  have h0 : I 69 0 = nI nd := hL.2.1
  have h1 : I 69 1 = nI np := hL.2.2.1
  obtain ⟨n2, n74, n432⟩ := hL.1
  have l : ¬ (432 : Int32) < nI np + 2 := by
    rw [show nI np + 2 = nI (np + 2) from nI_add np 2]
    exact nI_nlt (b := np + 2) (a := 432) (by omega) (by omega)
  have w1 : hl_in (nI u) 0 (nI nd - 1) = true := by rw [hl_in_inb (by omega)]; exact hl_inb_nI hu (by omega)
  have w2 : hl_in (nI v) 0 (nI nd - 1) = true := by rw [hl_in_inb (by omega)]; exact hl_inb_nI hv (by omega)
  have pe1 : hl_pe np = np + 1 := if_pos he
  have pe2 : hl_pe (np + 1) = np := by unfold hl_pe; rw [if_neg (by omega)]; omega
  refine ⟨I2, hl_up (hl_up J 73 np t) 73 (np + 1) b, ?_, ⟨hl_us (hl_us sr np u) (np + 1) v, hl_us (hl_us ds np v) (np + 1) u, hl_us (hl_us r np t.toInt) (np + 1) b.toInt, L2, ⟨by omega, fun p hp2 => ?_⟩, fun p hp2 => ?_, fun S => ?_⟩, hl_fN_tr f1 f2, fun q hq => by rw [hl_up_ne _ _ _ hq, hl_up_ne _ _ _ hq]⟩
  · rw [hl_e16]
    simp only [hl_r16_0, hl_r16_1, hl_r16_4, hl_r16_5, hl_r16_6, hl_r16_9, hl_r16_12, hl_r16_13, hl_r16_14, hl_r16_15, hl_r16_18, hl_r16_19, hl_r16_20, hl_r16_23, hl_r16_26, hl_r16_27, hl_r16_28, hl_r16_29, hl_r16_32, hl_r16_33, hl_r16_34, hl_r16_37, hl_r16_40, hl_r16_41, hl_r16_42, hl_r16_43, hl_r16_44, hl_r16_45, hl_r16_48, hl_r16_49, hl_r16_50, hl_r16_51, hl_r16_53, hl_r16_56, hl_o_69, hl_p_69_2, hl_p_69_3, hl_p_69_4, hl_p_69_5, hl_p_69_6, hl_p_69_7, hl_p_69_8, hl_p_69_9, h0, h1, l, hl_s147, w1, w2, hl_tv_t, hl_10, not_false_eq_true, e1, e2, hl_tl_n, hl_kill_i, hl_kill_r, hl_kill_n, hl_kill_l, hl_tl_s, hl_tl_n, hl_cal_some, hl_gI, hl_gJ, hl_gsI, hl_gsJ, hl_tv01, if_true, if_false, hl_up_a, hl_row_a]
  · unfold hl_us
    by_cases z1 : p = np
    · subst z1
      rw [pe1]
      simp
    · by_cases z2 : p = np + 1
      · subst z2
        rw [pe2]
        simp
      · have hp3 : p < np := by omega
        have := hl_pe_lt hp3 he
        rw [if_neg (by omega), if_neg (by omega), if_neg (by omega), if_neg (by omega), if_neg (by omega), if_neg (by omega), if_neg (by omega), if_neg (by omega)]
        exact hPr p hp3
  · have j : ∀ q, hl_up (hl_up J 73 np t) 73 (np + 1) b 73 q = if q = np + 1 then b else if q = np then t else J 73 q := fun q => rfl
    rw [j]
    unfold hl_us
    by_cases z1 : p = np
    · subst z1
      rw [pe1, if_neg (by omega), if_pos rfl, if_neg (by omega), if_pos rfl, if_pos rfl]
      exact ⟨rfl, ht, htb⟩
    · by_cases z2 : p = np + 1
      · subst z2
        rw [pe2, if_pos rfl, if_pos rfl, if_neg (by omega), if_pos rfl]
        exact ⟨rfl, hb, by omega⟩
      · have hp3 : p < np := by omega
        have := hl_pe_lt hp3 he
        rw [if_neg z2, if_neg z1, if_neg z2, if_neg z1, if_neg (by omega), if_neg (by omega)]
        exact hR p hp3
  · rw [show np + 2 = (np + 1) + 1 from rfl, hl_fM_s, hl_fM_s, hC]
/-- an empty network -/
theorem hl_l15 {c : hl_C} (hnd : nd ≤ 74) (f : Nat) : ∀ (I : Nat → Nat → Int32) (x : Int32) (i : Nat), i + f = nd → I 69 0 = nI nd → ∃ I', hl_Run 15 c 18 [.ref 69, .int x, .int (nI i)] [] (hl_g N I J) = some (none, hl_g N I' J) ∧ (∀ b, b ≠ 70 → I' b = I b) ∧ (∀ u, u < i → I' 70 u = I 70 u) ∧ ∀ u, i ≤ u → u < nd → I' 70 u = -1 := by
  induction f with
  | zero =>
    intro I x i hi h0
    obtain rfl : i = nd := by omega
    refine ⟨I, ?_, fun _ _ => rfl, fun _ _ => rfl, fun u h1 h2 => by omega⟩
    simp only [hl_r15_0, hl_r15_1, hl_r15_2, hl_r15_3, hl_r15_5, hl_r15_8, hl_r15_11, hl_r15_12, hl_r15_13, hl_r15_16, hl_r15_17, hl_r15_18, hl_r15_19, hl_r15_20, hl_r15_23, hl_r15_26, hl_r15_27, hl_r15_30, hl_r15_31, hl_r15_32, hl_r15_33, hl_r15_36, hl_r15_39, hl_o_69, hl_p_69_2, hl_p_69_3, hl_p_69_4, hl_p_69_5, hl_p_69_6, hl_p_69_7, hl_p_69_8, hl_p_69_9, h0, Int32.le_refl, hl_kill_i, hl_kill_r, hl_kill_n, hl_kill_l, hl_tl_s, hl_tl_n, hl_cal_some, hl_gI, hl_gJ, hl_gsI, hl_gsJ, hl_tv01, if_true, if_false, hl_up_a, hl_row_a]
  | succ f ih =>
    intro I x i hi h0
    have c1 : ¬ nI nd ≤ nI i := nI_ge (by omega) (by omega)
    have en : nI i + 1 = nI (i + 1) := (nI_succ i).symm
    obtain ⟨I1, e1, f1, g1, k1⟩ := ih (hl_up I 70 i (-1)) x (i + 1) (by omega) (by rw [hl_up_ne _ _ _ (by decide)]; exact h0)
    refine ⟨I1, ?_, fun q hq => by rw [f1 q hq, hl_up_ne _ _ _ hq], fun u hu => ?_, fun u h1 h2 => ?_⟩
    · rw [← e1, hl_r15_18]
      simp only [hl_r15_19, hl_r15_20, hl_r15_23, hl_r15_26, hl_r15_27, hl_r15_30, hl_r15_31, hl_r15_32, hl_r15_33, hl_r15_36, hl_r15_39, hl_o_69, hl_p_69_2, hl_p_69_3, hl_p_69_4, hl_p_69_5, hl_p_69_6, hl_p_69_7, hl_p_69_8, hl_p_69_9, hl_a_70, hl_z_70, h0, c1, hl_b74 (show i < 74 by omega), hl_cq (show i < 10000 by omega), en, hl_kill_i, hl_kill_r, hl_kill_n, hl_kill_l, hl_tl_s, hl_tl_n, hl_cal_some, hl_gI, hl_gJ, hl_gsI, hl_gsJ, hl_tv01, if_true, if_false, hl_up_a, hl_row_a]
    · rw [g1 u (by omega), hl_up_a, if_pos rfl, if_neg (by omega)]
    · by_cases z : u = i
      · subst z
        rw [g1 u (by omega), hl_up_at]
      · exact k1 u (by omega) h2
theorem hl_s15 (h2 : 2 ≤ nd) (hnd : nd ≤ 74) : ∃ I', hl_call (d + 2) 15 [.ref 69, .int (nI nd)] (hl_g N I J) = some (none, hl_g N I' J) ∧ hl_NW I' J nd 0 (fun _ => 0) ∧ hl_fN I I' := by
  have eb : hl_bnd (nI nd) 2 74 = nI nd := by
    unfold hl_bnd
    have q1 : ¬ nI nd < 2 := nI_nlt (b := 2) (by omega) (by omega)
    have q2 : ¬ (74 : Int32) < nI nd := nI_nlt (a := 74) (b := nd) (by omega) (by omega)
    rw [if_neg q1, if_neg q2]
  generalize hI1 : hl_up (hl_up I 69 0 (nI nd)) 69 1 0 = I1
  have w0 : I1 69 0 = nI nd := by rw [← hI1]; rfl
  obtain ⟨I2, e2, f2, -, k2⟩ := hl_l15 (N := N) (J := J) (c := hl_call (d + 1)) hnd nd I1 (nI nd) 0 (by omega) w0
  refine ⟨I2, ?_, ⟨fun _ => 0, fun _ => 0, fun _ => 0, ⟨⟨h2, hnd, by omega⟩, ?_, ?_, fun p hp => by omega, fun u hu => k2 u (by omega) hu, fun p hp => by omega⟩, ⟨rfl, fun p hp => by omega⟩, fun p hp => by omega, fun S => rfl⟩, fun b q1 q2 _ _ => by rw [f2 b q2, ← hI1, hl_up_ne _ _ _ q1, hl_up_ne _ _ _ q1]⟩
  · rw [← e2, ← hI1, hl_e15]
    simp only [hl_r15_0, hl_r15_1, hl_r15_2, hl_r15_3, hl_r15_5, hl_r15_8, hl_r15_11, hl_r15_12, hl_r15_13, hl_r15_16, hl_r15_17, hl_o_69, hl_p_69_2, hl_p_69_3, hl_p_69_4, hl_p_69_5, hl_p_69_6, hl_p_69_7, hl_p_69_8, hl_p_69_9, hl_s148, eb, hl_kill_i, hl_kill_r, hl_kill_n, hl_kill_l, hl_tl_s, hl_tl_n, hl_cal_some, hl_gI, hl_gJ, hl_gsI, hl_gsJ, hl_tv01, if_true, if_false, hl_up_a, hl_row_a]
    rfl
  · rw [f2 69 (by decide)]; exact w0
  · rw [f2 69 (by decide), ← hI1]; rfl
end HLNET
