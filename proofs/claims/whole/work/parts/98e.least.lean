/-! the reference's least as a whole -/
theorem hx_CT_B {m G cn : Nat} {gp : Nat → Int} {ga gb : Nat → Nat} {wt : Nat → Nat → Int} {S : Nat → Bool} (h4 : m ≤ 4) (hG : G ≤ 24) (hcn : cn ≤ 40) (hgp : ∀ q, 0 ≤ gp q ∧ gp q ≤ 24000000000) (hwt : ∀ t k, t < cn → k + 1 < m → 0 ≤ wt t k ∧ wt t k ≤ 100000) : 0 ≤ hl_CT 40000000000 m G cn gp ga gb wt S ∧ hl_CT 40000000000 m G cn gp ga gb wt S ≤ 1000000000000000 := by
  have b1 := hl_si_B (B := 300000000000) (f := fun g => hl_si m (hl_ch 40000000000 m gp g S)) G (fun g hg => by
    have := hl_si_B (B := 70000000000) (f := hl_ch 40000000000 m gp g S) m (fun k hk => by
      have q1 := hgp (4 * g + k)
      have a := hl_fs_le (S := S) (u := hl_nd m g k) (v := hl_nd m g (k + 1)) q1.1 q1.2
      have b := hl_fs_le (S := S) (u := hl_nd m g (k + 1)) (v := hl_nd m g k) (x := if 0 < k ∧ k + 1 < m then 40000000000 else 0) (B := 40000000000) (by split <;> omega) (by split <;> omega)
      unfold hl_ch
      omega)
    show 0 ≤ hl_si m (hl_ch 40000000000 m gp g S) ∧ hl_si m (hl_ch 40000000000 m gp g S) ≤ 300000000000
    omega)
  have b2 := hl_si_B (B := 1000000) (f := fun t => hl_si (m - 1) (hl_ct m (ga t) (gb t) (wt t) S)) cn (fun t ht => by
    have := hl_si_B (B := 200000) (f := hl_ct m (ga t) (gb t) (wt t) S) (m - 1) (fun k hk => by
      have q1 := hwt t k ht (by omega)
      have a := hl_fs_le (S := S) (u := hl_nd m (ga t) (k + 1)) (v := hl_nd m (gb t) (k + 1)) q1.1 q1.2
      have b := hl_fs_le (S := S) (u := hl_nd m (gb t) (k + 1)) (v := hl_nd m (ga t) (k + 1)) q1.1 q1.2
      unfold hl_ct
      split <;> omega)
    show 0 ≤ hl_si (m - 1) (hl_ct m (ga t) (gb t) (wt t) S) ∧ hl_si (m - 1) (hl_ct m (ga t) (gb t) (wt t) S) ≤ 1000000
    omega)
  unfold hl_CT
  omega
/-- what a tie costs from hour to hour -/
def hx_wt (I : Nat → Nat → Int32) (al : Nat → Nat) (t k : Nat) : Int := (I 14 t * (I 9 (al (k + 1)) - I 9 (al k))).toInt
/-- what 230 leaves -/
def hx_fR (I I' : Nat → Nat → Int32) : Prop := (∀ b, b ≠ 85 → b ≠ 91 → b ≠ 93 → b ≠ 97 → b ≠ 98 → b ≠ 99 → b ≠ 100 → b ≠ 102 → I' b = I b) ∧ ∀ k, k ≠ 32 → I' 85 k = I 85 k
def hx_fJ (J J' : Nat → Nat → Int64) : Prop := ∀ q, q ≠ 92 → q ≠ 96 → q ≠ 101 → J' q = J q
theorem hx_fR.tm {I I' : Nat → Nat → Int32} (h : hx_fR I I') : hl_Tm I I' := ⟨fun b hb => h.1 b (by omega) (by omega) (by omega) (by omega) (by omega) (by omega) (by omega) (by omega), h.1 66 (by omega) (by omega) (by omega) (by omega) (by omega) (by omega) (by omega) (by omega), fun k hk => h.2 k (by omega), fun b h1 h2 => h.1 b (by omega) (by omega) (by omega) (by omega) (by omega) (by omega) (by omega) (by omega)⟩
theorem hx_fR.lo {I I' : Nat → Nat → Int32} (h : hx_fR I I') {b : Nat} (hb : b < 85) : I' b = I b := h.1 b (by omega) (by omega) (by omega) (by omega) (by omega) (by omega) (by omega) (by omega)
theorem hx_fR_tr {I1 I2 I3 : Nat → Nat → Int32} (h : hx_fR I1 I2) (g : hx_fR I2 I3) : hx_fR I1 I3 := ⟨fun b h1 h2 h3 h4 h5 h6 h7 h8 => (g.1 b h1 h2 h3 h4 h5 h6 h7 h8).trans (h.1 b h1 h2 h3 h4 h5 h6 h7 h8), fun k hk => (g.2 k hk).trans (h.2 k hk)⟩
theorem hx_fR_rf (I : Nat → Nat → Int32) : hx_fR I I := ⟨fun _ _ _ _ _ _ _ _ _ => rfl, fun _ _ => rfl⟩
section HXLE
variable {d N W H m nh cn : Nat} {I Is I' : Nat → Nat → Int32} {J J' : Nat → Nat → Int64} {wh : Bool} {al : Nat → Nat} {x y s : Int32}
theorem hx_off_lt (hCo : hl_Co N W H Is) (hs : hl_Sv Is 86 0 = (nh : Int)) {h h' : Nat} (h1 : h < h') (h2 : h' < nh) : (Is 9 h).toInt < (Is 9 h').toInt := by
  have n4 : nh ≤ 4 := by have := hCo.2.1.2.1.2; omega
  have v6 := hCo.2.1.2.2.2.2.2.2.2.1
  have st : ∀ k, k + 1 < nh → (Is 9 k).toInt < (Is 9 (k + 1)).toInt := fun k hk => by
    have a := v6 k (by omega)
    unfold hl_Sv at a
    rw [← hCo.2.1.1.off (show k < 4 by omega), ← hCo.2.1.1.off (show k + 1 < 4 by omega)] at a
    exact a
  have gen : ∀ f k, k + f + 1 < nh → (Is 9 k).toInt < (Is 9 (k + f + 1)).toInt := by
    intro f
    induction f with
    | zero => exact fun k hk => st k hk
    | succ f ih =>
      intro k hk
      have a := ih k (by omega)
      have b := st (k + f + 1) (by omega)
      have e : k + (f + 1) + 1 = k + f + 1 + 1 := by omega
      rw [e]
      omega
  have := gen (h' - h - 1) h (by omega)
  rw [show h + (h' - h - 1) + 1 = h' by omega] at this
  exact this
theorem hx_wt_eq (hCo : hl_Co N W H Is) (hN : N ≤ 24) (hs : hl_Sv Is 86 0 = (nh : Int)) (hc : hl_Sv Is 86 1 = (cn : Int)) {t h h' : Nat} (ht : t < cn) (h1 : h < h') (h2 : h' < nh) : ((Is 86 (200 + 3 * t + 2)).toInt64 * (Is 86 (10 + h') - Is 86 (10 + h)).toInt64).toInt = (Is 14 t * (Is 9 h' - Is 9 h)).toInt ∧ 0 ≤ (Is 14 t * (Is 9 h' - Is 9 h)).toInt ∧ (Is 14 t * (Is 9 h' - Is 9 h)).toInt ≤ 100000 := by
  obtain ⟨a, b, w, -, -, -, w1, w2, -, -, e1, -, -, e2⟩ := hCo.tie hN hc ht
  have lt := hx_off_lt hCo hs h1 h2
  obtain ⟨o1, o2, o3⟩ := hCo.off4 (k := h) (by omega)
  obtain ⟨p1, p2, p3⟩ := hCo.off4 (k := h') (by omega)
  rw [e1, e2, ← o1, ← p1]
  have sb : (Is 9 h' - Is 9 h).toInt = (Is 9 h').toInt - (Is 9 h).toInt := by rw [Int32.toInt_sub, Int.bmod_eq_of_le (by omega) (by omega)]
  generalize Is 9 h' - Is 9 h = v at sb
  have wv : (nI w).toInt = (w : Int) := hl_tI (by omega)
  have m1 : 0 ≤ (w : Int) * v.toInt := Int.mul_nonneg (by omega) (by omega)
  have m2 : (w : Int) * v.toInt ≤ 99 * 300 := Int.mul_le_mul (by omega) (by omega) (by omega) (by omega)
  have k1 : ((nI w).toInt64 * v.toInt64).toInt = (w : Int) * v.toInt := by rw [Int64.toInt_mul, Int32.toInt_toInt64, Int32.toInt_toInt64, wv, Int.bmod_eq_of_le (by omega) (by omega)]
  have k2 : (nI w * v).toInt = (w : Int) * v.toInt := by rw [Int32.toInt_mul, wv, Int.bmod_eq_of_le (by omega) (by omega)]
  rw [k1, k2]
  omega
theorem hx_s230 {gr : Nat → Nat} {G : Nat} (hCo : hl_Co N W H Is) (hv : hl_vw Is I) (hN : N ≤ 24) (hs : hl_Sv Is 86 0 = (nh : Int)) (hm : Is 86 0 = nI nh) (hc : hl_Sv Is 86 1 = (cn : Int)) (hcm : Is 86 1 = nI cn) (em : (hl_chs s nh).2 = m) (ea : (hl_chs s nh).1 = al) (h1 : 1 ≤ m) (hgr : (hl_grp (Is 4) wh N).1 = gr) (hG : (hl_grp (Is 4) wh N).2 = G) : ∃ I' J' F R, hl_MC (hl_CT 40000000000 m G cn (fun q => hx_gs gr m (hx_rw Is al x y) N q) (fun t => gr (Is 12 t).toNatClampNeg) (fun t => gr (Is 13 t).toNatClampNeg) (hx_wt Is al)) F.toInt R ∧ hl_call (d + 7) 230 [.ref 85, .int s, .int (hl_tv wh), .int x, .int y] (hl_g N I J) = some (some (.long (if F < 1000000000 then F else -1)), hl_g N I' J') ∧ (∀ c, c < N → I' 102 c = nI (al (hl_hk R m (gr c) (m - 1) 0))) ∧ hx_fR I I' ∧ hx_fJ J J' := by
  have n4 : nh ≤ 4 := by have := hCo.2.1.2.1.2; omega
  have c40 : cn ≤ 40 := by have := hCo.2.1.2.2.1.2; omega
  obtain ⟨m1, m2, m3⟩ := hl_chs_in (s := s) nh
  obtain ⟨g1, g2⟩ := hl_grp_le (st := Is 4) (wh := wh) N
  rw [hgr] at g2
  rw [hG] at g1 g2
  rw [em] at m1 m2 m3
  rw [ea] at m2 m3
  have m4 : m ≤ 4 := by omega
  have G24 : G ≤ 24 := by omega
  generalize hnd : 2 + G * (m - 1) = nd
  have nd74 : nd ≤ 74 := by
    have := Nat.mul_le_mul G24 (show m - 1 ≤ 3 by omega)
    omega
  -- chosen hours
  obtain ⟨I2, e2, a2, b2, f2, k2⟩ := hl_l230c (N := N) (J := J) (s := s) (c := hl_call (d + 6)) (l2 := .int (hl_tv wh)) (l3 := .int x) (hv := y) n4 nh (hl_up I 85 32 0) 0 (by omega) (by rw [hl_up_ne _ _ _ (by decide), hv.2.1]; exact hm) hl_up_at (fun k hk => absurd hk (Nat.not_lt_zero k))
  rw [em] at a2 b2
  rw [ea] at b2
  have F2 : ∀ b, b ≠ 85 → b ≠ 99 → I2 b = I b := fun b h1 h2 => by rw [f2 b h1 h2, hl_up_ne _ _ _ h1]
  have K2 : ∀ k, k ≠ 32 → I2 85 k = I 85 k := fun k hk => by rw [k2 k hk, hl_up_a, if_pos rfl, if_neg hk]
  -- groups
  obtain ⟨I3, e3, b3, f3⟩ := hx_s229 (d := d + 4) (N := N) (I := I2) (J := J) (st := Is 4) (wh := wh) hN (by rw [K2 2 (by decide), hv.1 2 (by omega)]; exact hCo.mM) (fun c hc => by
    rw [F2 86 (by decide) (by decide), hv.2.1]
    obtain ⟨q, -, q1, q2⟩ := hCo.state hN hc
    rw [q2, q1])
  rw [hgr] at b3
  rw [hG] at e3
  have V3 : hl_vw Is I3 := ⟨fun k hk => by rw [f3 85 (by decide), K2 k (by omega)]; exact hv.1 k hk, by rw [f3 86 (by decide), F2 86 (by decide) (by decide)]; exact hv.2.1, by rw [f3 88 (by decide), F2 88 (by decide) (by decide)]; exact hv.2.2⟩
  have A3 : I3 85 32 = nI m := by rw [f3 85 (by decide)]; exact a2
  have B3 : ∀ k, k < m → I3 99 k = nI (al k) ∧ al k < nh := fun k hk => ⟨by rw [f3 99 (by decide)]; exact b2 k hk, m2 k hk⟩
  have C3 : ∀ c, c < N → I3 100 c = nI (gr c) ∧ gr c < 24 := fun c hc => ⟨b3 c hc, by have := g2 c hc; omega⟩
  -- empty rows
  obtain ⟨J1, e4, -, z4, j4⟩ := hl_l230y (N := N) (I := I3) (c := hl_call (d + 6)) (l1 := .int s) (l2 := .int (hl_tv wh)) (l3 := .int x) (l4 := .int y) (l7 := .null) (l8 := .null) (l9 := .null) (gv := nI G) 96 J 0 (by omega)
  obtain ⟨I4, J2, m7, m8, e5, r5, g5, j5⟩ := hx_l230w (d := d) (wh := wh) (x := x) (y := y) (s := s) (gv := nI G) (gr := gr) (al := al) hCo hN hs m4 V3 A3 B3 C3 N I3 J1 0 .null .null .null (by omega) (hl_r9_rf I3) (fun q hq => by rw [z4 q (Nat.zero_le q) hq]; rfl)
  obtain ⟨J3, e6, -, z6, j6⟩ := hl_l230z (N := N) (I := I4) (c := hl_call (d + 6)) (l1 := .int s) (l2 := .int (hl_tv wh)) (l3 := .int x) (l4 := .int y) (l7 := m7) (l8 := m8) (l9 := .null) (gv := nI G) 5476 J2 0 (by omega)
  have gB := fun q => hx_gs_B (gr := gr) (m := m) (w := hx_rw Is al x y) (n := N) (fun c k hc hk => hx_rw_B hCo hN hc (by have := m2 k hk; omega)) q
  have A4 : I4 85 32 = nI m := by rw [r5 85 (by decide) (by decide)]; exact A3
  obtain ⟨J4, e7, W7, j7⟩ := hl_l230g (d := d + 4) (N := N) (I := I4) (l1 := .int s) (l2 := .int (hl_tv wh)) (l3 := .int x) (l4 := .int y) (l7 := m7) (l8 := m8) (l9 := .null) (gp := fun q => hx_gs gr m (hx_rw Is al x y) N q) m4 G24 hnd.symm nd74 A4 G J3 0 (fun _ => 0) 0 (by omega) (hl_NR_0 (fun p hp => z6 p (Nat.zero_le p) hp)) (by omega) (fun q hq => by
    have := gB q
    exact ⟨by rw [j6 101 (by decide)]; exact g5 q (by omega), by omega, by omega⟩)
  have WT : ∀ t k, t < cn → k + 1 < m → 0 ≤ hx_wt Is al t k ∧ hx_wt Is al t k ≤ 100000 := fun t k ht hk => (hx_wt_eq hCo hN hs hc ht (m3 k (k + 1) (by omega) hk) (m2 (k + 1) hk)).2
  have e86 : I4 86 = Is 86 := by rw [r5 86 (by decide) (by decide)]; exact V3.2.1
  obtain ⟨J5, e8, W8, j8⟩ := hl_s226 (d := d + 4) (N := N) (I := I4) (J := J4) (G := G) (al := al) (ga := fun t => gr (Is 12 t).toNatClampNeg) (gb := fun t => gr (Is 13 t).toNatClampNeg) (wt := hx_wt Is al) m4 h1 G24 hN c40 hnd.symm nd74 A4 (by rw [e86]; exact hcm) (fun k hk => ⟨by rw [r5 99 (by decide) (by decide)]; exact (B3 k hk).1, by have := m2 k hk; omega⟩) (fun t ht => by
    obtain ⟨a, b, w, a1, b1, -, -, -, t1, t2, -, t4, t5, -⟩ := hCo.tie hN hc ht
    refine ⟨a, b, a1, b1, by rw [e86]; exact t4, by rw [e86]; exact t5, ?_, ?_, ?_, ?_⟩
    · rw [r5 100 (by decide) (by decide), t1, hl_cq (by omega)]; exact b3 a a1
    · rw [r5 100 (by decide) (by decide), t2, hl_cq (by omega)]; exact b3 b b1
    · rw [t1, hl_cq (by omega)]; exact g2 a a1
    · rw [t2, hl_cq (by omega)]; exact g2 b b1) (fun t k ht hk => ⟨by rw [e86]; exact (hx_wt_eq hCo hN hs hc ht (m3 k (k + 1) (by omega) hk) (m2 (k + 1) hk)).1, WT t k ht hk⟩) W7 (by omega)
  generalize hC : hl_CT 40000000000 m G cn (fun q => hx_gs gr m (hx_rw Is al x y) N q) (fun t => gr (Is 12 t).toNatClampNeg) (fun t => gr (Is 13 t).toNatClampNeg) (hx_wt Is al) = C
  have CB : 0 ≤ C (fun u => decide (u = 0)) ∧ C (fun u => decide (u = 0)) ≤ 1000000000000000 := by
    rw [← hC]
    exact hx_CT_B m4 G24 c40 (fun q => by have := gB q; show 0 ≤ hx_gs gr m (hx_rw Is al x y) N q ∧ hx_gs gr m (hx_rw Is al x y) N q ≤ 24000000000; omega) WT
  obtain ⟨r, Rq, Rf⟩ := W8
  have Rf' : ∀ S, hl_fM 5476 (fun p => p / 74) (fun p => p % 74) r S = C S := fun S => by
    rw [Rf S, ← hC]
    unfold hl_CT
    show 0 + (_ - 0) + _ = _
    rw [Int.sub_zero, Int.zero_add]
  have z64 : (0 : Int64).toInt = 0 := rfl
  obtain ⟨I5, J6, F, D, r', e9, MC, FE, f9, j9⟩ := hl_l230r (d := d + 5) (N := N) (C := C) (S0 := fun u => decide (u = 0)) (l1 := .int s) (l2 := .int (hl_tv wh)) (l3 := .int x) (l4 := .int y) (l8 := m8) (l9 := .null) (gv := nI G) (Bd := 0 + (G : Int) * 1600000000000 + 64000000000000) rfl rfl CB.2 (by omega) (C (fun u => decide (u = 0))).toNat I4 J5 r 0 Rq (by rw [z64]; omega) (fun S _ _ => by rw [z64, Rf' S, Int.zero_add]) (by rw [z64]; omega)
  have f45 : ∀ b, b ≠ 91 → b ≠ 93 → b ≠ 97 → b ≠ 98 → I5 b = I3 b := fun b h1 h2 h3 h4 => by rw [f9 b h3 h4, r5 b h1 h2]
  obtain ⟨I6, e10, f10, -, h10⟩ := hl_l230h (d := d + 5) (N := N) (m := m) (G := G) (nd := nd) (J := J6) (r := r') (D := D) (al := al) (gr := gr) (l1 := .int s) (l2 := .int (hl_tv wh)) (l3 := .int x) (l4 := .int y) (l5 := .int (nI G)) (F := F) hN g2 hnd.symm nd74 h1 m4 N I5 0 .null (by omega) (by rw [f45 85 (by decide) (by decide) (by decide) (by decide), V3.1 2 (by omega)]; exact hCo.mM) (by rw [f45 85 (by decide) (by decide) (by decide) (by decide)]; exact A3) (fun c hc => by rw [f45 100 (by decide) (by decide) (by decide) (by decide)]; exact b3 c hc) (fun k hk => ⟨by rw [f45 99 (by decide) (by decide) (by decide) (by decide)]; exact (B3 k hk).1, by have := m2 k hk; omega⟩) FE
  refine ⟨I6, J6, F, hl_Rs 74 D, by first | exact MC | (rw [hC]; exact MC), ?_, fun c hc => h10 c (Nat.zero_le c) hc, ⟨fun b q1 q2 q3 q4 q5 q6 q7 q8 => by rw [f10 b q8, f45 b q2 q3 q4 q5, f3 b q7, F2 b q1 q6], fun k hk => by rw [f10 85 (by decide), f45 85 (by decide) (by decide) (by decide) (by decide), f3 85 (by decide), K2 k hk]⟩, fun q q1 q2 q3 => by rw [j9 q q2, j8 q q2, j7 q q2, j6 q q2, j5 q q1 q3, j4 q q3]⟩
  have z0 : nI 0 = 0 := rfl
  rw [z0] at e2 e4 e5 e6 e7 e10
  rw [hl_e230, ← e10]
  have sA : hl_Run 230 (hl_call (d + 6)) 0 [.ref 85, .int s, .int (hl_tv wh), .int x, .int y, .null, .null, .null, .null, .null] [] (hl_g N I J) = hl_Run 230 (hl_call (d + 6)) 8 [.ref 85, .int s, .int (hl_tv wh), .int x, .int y, .int 0, .null, .null, .null, .null] [] (hl_g N (hl_up I 85 32 0) J) := by
    simp only [hl_r230_0, hl_r230_1, hl_r230_2, hl_r230_5, hl_r230_6, hl_o_85, hl_p_85_3, hl_p_85_4, hl_p_85_5, hl_p_85_6, hl_p_85_19, hl_p_85_23, hl_p_85_24, hl_p_85_25, hl_p_85_26, hl_p_85_27, hl_p_85_28, hl_p_85_29, hl_p_85_30, hl_p_85_31, hl_p_85_33, hl_p_85_34, hl_p_85_35, hl_p_85_36, hl_p_85_37, hl_kill_i, hl_kill_r, hl_kill_n, hl_kill_l, hl_tl_s, hl_tl_n, hl_cal_some, hl_gI, hl_gJ, hl_gsI, hl_gsJ, hl_tv01, if_true, if_false, hl_up_a, hl_row_a]
  have sB : hl_Run 230 (hl_call (d + 6)) 58 [.ref 85, .int s, .int (hl_tv wh), .int x, .int y, .int (nI nh), .null, .null, .null, .null] [] (hl_g N I2 J) = hl_Run 230 (hl_call (d + 6)) 68 [.ref 85, .int s, .int (hl_tv wh), .int x, .int y, .int (nI G), .int 0, .null, .null, .null] [] (hl_g N I3 J) := by
    simp only [hl_r230_58, hl_r230_59, hl_r230_60, hl_r230_63, hl_r230_65, hl_r230_66, hl_o_85, hl_p_85_3, hl_p_85_4, hl_p_85_5, hl_p_85_6, hl_p_85_19, hl_p_85_23, hl_p_85_24, hl_p_85_25, hl_p_85_26, hl_p_85_27, hl_p_85_28, hl_p_85_29, hl_p_85_30, hl_p_85_31, hl_p_85_33, hl_p_85_34, hl_p_85_35, hl_p_85_36, hl_p_85_37, e3, hl_kill_i, hl_kill_r, hl_kill_n, hl_kill_l, hl_tl_s, hl_tl_n, hl_cal_some, hl_gI, hl_gJ, hl_gsI, hl_gsJ, hl_tv01, if_true, if_false, hl_up_a, hl_row_a]
  have sC : hl_Run 230 (hl_call (d + 6)) 89 [.ref 85, .int s, .int (hl_tv wh), .int x, .int y, .int (nI G), .int (nI 96), .null, .null, .null] [] (hl_g N I3 J1) = hl_Run 230 (hl_call (d + 6)) 92 [.ref 85, .int s, .int (hl_tv wh), .int x, .int y, .int (nI G), .int 0, .null, .null, .null] [] (hl_g N I3 J1) := by
    simp only [hl_r230_89, hl_r230_90, hl_kill_i, hl_kill_r, hl_kill_n, hl_kill_l, hl_tl_s, hl_tl_n, hl_cal_some, hl_gI, hl_gJ, hl_gsI, hl_gsJ, hl_tv01, if_true, if_false, hl_up_a, hl_row_a]
  have sD : hl_Run 230 (hl_call (d + 6)) 222 [.ref 85, .int s, .int (hl_tv wh), .int x, .int y, .int (nI G), .int (nI N), m7, m8, .null] [] (hl_g N I4 J2) = hl_Run 230 (hl_call (d + 6)) 225 [.ref 85, .int s, .int (hl_tv wh), .int x, .int y, .int (nI G), .int 0, m7, m8, .null] [] (hl_g N I4 J2) := by
    simp only [hl_r230_222, hl_r230_223, hl_kill_i, hl_kill_r, hl_kill_n, hl_kill_l, hl_tl_s, hl_tl_n, hl_cal_some, hl_gI, hl_gJ, hl_gsI, hl_gsJ, hl_tv01, if_true, if_false, hl_up_a, hl_row_a]
  have sE : hl_Run 230 (hl_call (d + 6)) 247 [.ref 85, .int s, .int (hl_tv wh), .int x, .int y, .int (nI G), .int (nI 5476), m7, m8, .null] [] (hl_g N I4 J3) = hl_Run 230 (hl_call (d + 6)) 250 [.ref 85, .int s, .int (hl_tv wh), .int x, .int y, .int (nI G), .int 0, m7, m8, .null] [] (hl_g N I4 J3) := by
    simp only [hl_r230_247, hl_r230_248, hl_kill_i, hl_kill_r, hl_kill_n, hl_kill_l, hl_tl_s, hl_tl_n, hl_cal_some, hl_gI, hl_gJ, hl_gsI, hl_gsJ, hl_tv01, if_true, if_false, hl_up_a, hl_row_a]
  have sF : hl_Run 230 (hl_call (d + 6)) 269 [.ref 85, .int s, .int (hl_tv wh), .int x, .int y, .int (nI G), .int (nI G), m7, m8, .null] [] (hl_g N I4 J4) = hl_Run 230 (hl_call (d + 6)) 276 [.ref 85, .int s, .int (hl_tv wh), .int x, .int y, .int (nI G), .long 0, .null, m8, .null] [] (hl_g N I4 J5) := by
    simp only [hl_r230_269, hl_r230_270, hl_r230_273, hl_r230_274, hl_o_85, hl_p_85_3, hl_p_85_4, hl_p_85_5, hl_p_85_6, hl_p_85_19, hl_p_85_23, hl_p_85_24, hl_p_85_25, hl_p_85_26, hl_p_85_27, hl_p_85_28, hl_p_85_29, hl_p_85_30, hl_p_85_31, hl_p_85_33, hl_p_85_34, hl_p_85_35, hl_p_85_36, hl_p_85_37, e8, hl_tl_n, hl_kill_i, hl_kill_r, hl_kill_n, hl_kill_l, hl_tl_s, hl_tl_n, hl_cal_some, hl_gI, hl_gJ, hl_gsI, hl_gsJ, hl_tv01, if_true, if_false, hl_up_a, hl_row_a]
  have sG : hl_Run 230 (hl_call (d + 6)) 295 [.ref 85, .int s, .int (hl_tv wh), .int x, .int y, .int (nI G), .long F, .null, m8, .null] [] (hl_g N I5 J6) = hl_Run 230 (hl_call (d + 6)) 298 [.ref 85, .int s, .int (hl_tv wh), .int x, .int y, .int (nI G), .long F, .null, .int 0, .null] [] (hl_g N I5 J6) := by
    simp only [hl_r230_295, hl_r230_296, hl_kill_i, hl_kill_r, hl_kill_n, hl_kill_l, hl_tl_s, hl_tl_n, hl_cal_some, hl_gI, hl_gJ, hl_gsI, hl_gsJ, hl_tv01, if_true, if_false, hl_up_a, hl_row_a]
  exact sA.trans (e2.trans (sB.trans (e4.trans (sC.trans (e5.trans (sD.trans (e6.trans (sE.trans (e7.trans (sF.trans (e9.trans sG)))))))))))
end HXLE
