/-! class and reference solve alike -/
theorem hx_gs_congr {gr gr' : Nat → Nat} {m : Nat} {w : Nat → Nat → Int} {n q q' : Nat} (h : ∀ c, c < n → ((gr c = q / 4 ∧ q % 4 < m) ↔ (gr' c = q' / 4 ∧ q' % 4 < m))) (hq : q % 4 = q' % 4) : hx_gs gr m w n q = hx_gs gr' m w n q' := by
  refine hl_si_congr n (fun c hc => ?_)
  rw [hq] at h ⊢
  by_cases z : gr c = q / 4 ∧ q' % 4 < m
  · rw [if_pos z, if_pos ((h c hc).mp z)]
  · rw [if_neg z, if_neg (fun y => z ((h c hc).mpr y))]
theorem hx_rn_of {N G1 G2 m cn : Nat} {gr1 gr2 : Nat → Nat} {w : Nat → Nat → Int} {ta tb : Nat → Nat} (h4 : m ≤ 4) (h1 : ∀ c, c < N → gr1 c < G1) (h2 : ∀ c, c < N → gr2 c < G2) (hs : ∀ g, g < G2 → ∃ c, c < N ∧ gr2 c = g) (he : ∀ c c', c < N → c' < N → (gr1 c = gr1 c' ↔ gr2 c = gr2 c')) (ht : ∀ t, t < cn → ta t < N ∧ tb t < N) : ∃ σ τ, hx_rn m G1 G2 cn σ τ (fun q => hx_gs gr1 m w N q) (fun q => hx_gs gr2 m w N q) (fun t => gr1 (ta t)) (fun t => gr1 (tb t)) (fun t => gr2 (ta t)) (fun t => gr2 (tb t)) ∧ ∀ c, c < N → gr1 c = σ (gr2 c) := by
  have hs' : ∀ g, ∃ c, g < G2 → c < N ∧ gr2 c = g := fun g => by
    by_cases z : g < G2
    · obtain ⟨c, hc⟩ := hs g z
      exact ⟨c, fun _ => hc⟩
    · exact ⟨0, fun q => absurd q z⟩
  obtain ⟨rep, hrep⟩ := Classical.axiomOfChoice hs'
  have ht' : ∀ s, ∃ o : Option Nat, (∃ c, c < N ∧ gr1 c = s ∧ o = some (gr2 c)) ∨ ((∀ c, c < N → ¬ gr1 c = s) ∧ o = none) := fun s => by
    by_cases z : ∃ c, c < N ∧ gr1 c = s
    · obtain ⟨c, hc, e⟩ := z
      exact ⟨some (gr2 c), .inl ⟨c, hc, e, rfl⟩⟩
    · exact ⟨none, .inr ⟨fun c hc e => z ⟨c, hc, e⟩, rfl⟩⟩
  obtain ⟨τ, hτ⟩ := Classical.axiomOfChoice ht'
  have key : ∀ c, c < N → gr1 c = gr1 (rep (gr2 c)) := fun c hc => by
    obtain ⟨a, b⟩ := hrep (gr2 c) (h2 c hc)
    exact (he c _ hc a).mpr b.symm
  have eqv : ∀ c g, c < N → g < G2 → (gr1 c = gr1 (rep g) ↔ gr2 c = g) := fun c g hc hg => by
    obtain ⟨a, b⟩ := hrep g hg
    rw [he c _ hc a, b]
  refine ⟨fun g => gr1 (rep g), τ, ⟨fun g hg => ?_, fun s hs0 hn => ?_, fun t h => ?_⟩, key⟩
  · obtain ⟨a, b⟩ := hrep g hg
    refine ⟨h1 _ a, ?_, fun k hk => ?_⟩
    · rcases hτ (gr1 (rep g)) with ⟨c, c1, c2, c3⟩ | ⟨c1, -⟩
      · rw [c3, (eqv c g c1 hg).mp c2]
      · exact absurd rfl (c1 (rep g) a)
    · refine hx_gs_congr (fun c hc => ?_) (by omega)
      rw [show (4 * gr1 (rep g) + k) / 4 = gr1 (rep g) by omega, show (4 * g + k) / 4 = g by omega, show (4 * gr1 (rep g) + k) % 4 = k by omega, show (4 * g + k) % 4 = k by omega, eqv c g hc hg]
  · refine ⟨?_, fun k hk => ?_⟩
    · rcases hτ s with ⟨c, c1, c2, -⟩ | ⟨-, c2⟩
      · exact absurd ((key c c1).symm.trans c2) (hn (gr2 c) (h2 c c1))
      · exact c2
    · refine hl_si_z N (fun c hc => if_neg (fun z => ?_))
      rw [show (4 * s + k) / 4 = s by omega] at z
      exact hn (gr2 c) (h2 c hc) ((key c hc).symm.trans z.1)
  · obtain ⟨a, b⟩ := ht t h
    exact ⟨h2 _ a, h2 _ b, key _ a, key _ b⟩
/-- the cut's price, out of what cells pay -/
noncomputable def hx_Cs (N cn : Nat) (I : Nat → Nat → Int32) (wh : Bool) (m : Nat) (al : Nat → Nat) (x y : Int32) : (Nat → Bool) → Int := hl_CT 1000000000 m (if wh = true then 6 else N) cn (fun q => hx_gs (hl_gr I wh) m (hx_rw I al x y) N q) (fun t => hl_gr I wh (I 12 t).toNatClampNeg) (fun t => hl_gr I wh (I 13 t).toNatClampNeg) (hx_wt I al)
/-- a price and its hours -/
def hx_Sol (N nh cn : Nat) (I : Nat → Nat → Int32) (s : Int32) (wh : Bool) (x y : Int32) (p : Option Nat) (hr : Nat → Nat) : Prop := ∃ F R, hl_MC (hx_Cs N cn I wh (hl_chs s nh).2 (hl_chs s nh).1 x y) F R ∧ 0 ≤ F ∧ ((F < 1000000000 ∧ p = some F.toNat ∧ ∀ c, c < N → hr c = (hl_chs s nh).1 (hl_hk R (hl_chs s nh).2 (hl_gr I wh c) ((hl_chs s nh).2 - 1) 0)) ∨ (1000000000 ≤ F ∧ p = none))
def hx_oi (p : Option Nat) : Int32 := match p with
  | some n => nI n
  | none => -1
def hx_ol (p : Option Nat) : Int64 := match p with
  | some n => Int64.ofNat n
  | none => -1
def hx_Fp (N nh : Nat) (I : Nat → Nat → Int32) : Prop := ∀ c, c < N → ∀ h, h < nh → I 64 (4 * c + h) = hl_pay I c h
section HXSOL
variable {d N W H nh cn : Nat} {I Is I' : Nat → Nat → Int32} {J J' : Nat → Nat → Int64} {wh : Bool} {x y s : Int32} {p p' : Option Nat} {hr hr' : Nat → Nat}
theorem hx_Sol_u (h : hx_Sol N nh cn I s wh x y p hr) (h' : hx_Sol N nh cn I s wh x y p' hr') : p = p' ∧ (p ≠ none → ∀ c, c < N → hr c = hr' c) := by
  obtain ⟨F, R, a, b, c⟩ := h
  obtain ⟨F', R', a', b', c'⟩ := h'
  rcases hl_cuts2 (c := 1000000000) (fun S => Int.le_refl _) (fun S => .inl rfl) a a' with ⟨q1, q2⟩ | ⟨q1, q2, q3⟩
  · rcases c with ⟨c1, -⟩ | ⟨-, c2⟩
    · omega
    · rcases c' with ⟨c1, -⟩ | ⟨-, c2'⟩
      · omega
      · rw [c2, c2']; exact ⟨rfl, fun z => absurd rfl z⟩
  · subst q1
    have e : R = R' := funext q3
    subst e
    rcases c with ⟨c1, c2, c3⟩ | ⟨c1, -⟩
    · rcases c' with ⟨-, c2', c3'⟩ | ⟨c1', -⟩
      · rw [c2, c2']; exact ⟨rfl, fun _ c hc => (c3 c hc).trans (c3' c hc).symm⟩
      · omega
    · omega
theorem hx_Sol_B {q : Nat} (h : hx_Sol N nh cn I s wh x y (some q) hr) : q < 1000000000 := by
  obtain ⟨F, R, a, b, ⟨c1, c2, -⟩ | ⟨-, c2⟩⟩ := h
  · have := Option.some.inj c2; omega
  · cases c2
theorem hx_Sol_h (h : hx_Sol N nh cn I s wh x y p hr) (hp : p ≠ none) (h1 : 1 ≤ (hl_chs s nh).2) {c : Nat} (hc : c < N) : hr c < nh := by
  obtain ⟨m1, m2, m3⟩ := hl_chs_in (s := s) nh
  obtain ⟨F, R, a, b, ⟨c1, c2, c3⟩ | ⟨-, c2⟩⟩ := h
  · rw [c3 c hc]
    refine m2 _ ?_
    have := hl_hk_le (R := R) (m := (hl_chs s nh).2) (g := hl_gr I wh c) ((hl_chs s nh).2 - 1) 0
    omega
  · exact absurd c2 hp
theorem hx_rw_f (f : ∀ b, b < 60 → I' b = I b) (al : Nat → Nat) : hx_rw I' al x y = hx_rw I al x y := by
  funext c k
  unfold hx_rw
  rw [f 7 (by omega), (hl_PD_of (fun b hb => f b (by omega)) c).pay]
theorem hx_Sol_f (h : hx_Sol N nh cn I s wh x y p hr) (f : ∀ b, b < 60 → I' b = I b) : hx_Sol N nh cn I' s wh x y p hr := by
  have eg : hl_gr I' wh = hl_gr I wh := funext (fun c => by unfold hl_gr; rw [f 4 (by omega)])
  obtain ⟨F, R, a, b, c⟩ := h
  refine ⟨F, R, ?_, b, ?_⟩
  · have e : hx_Cs N cn I' wh (hl_chs s nh).2 (hl_chs s nh).1 x y = hx_Cs N cn I wh (hl_chs s nh).2 (hl_chs s nh).1 x y := by
      unfold hx_Cs hx_wt
      rw [f 12 (by omega), f 13 (by omega), f 14 (by omega), f 9 (by omega), eg, hx_rw_f f]
    rw [e]
    exact a
  · rw [eg]
    exact c
theorem hx_Cs_Cc {m : Nat} {al : Nat → Nat} (hF : hx_Fp N nh I) (m2 : ∀ k, k < m → al k < nh) : hl_Cc N cn I wh m al x y = hx_Cs N cn I wh m al x y := by
  have ew : ∀ c k, c < N → k < m → hl_cw I al x y c k = hx_rw I al x y c k := fun c k hcN hk => by
    unfold hl_cw hx_rw
    rw [hF c hcN _ (m2 k hk)]
  have egq : (fun q => hl_gq I wh m al x y N q) = fun q => hx_gs (hl_gr I wh) m (hx_rw I al x y) N q := funext (fun q => hx_gq_gs ew)
  unfold hl_Cc hx_Cs
  rw [egq]
  rfl
theorem hx_PH (hCo : hl_Co N W H I) (hF : hx_Fp N nh I) (hN : N ≤ 24) (hs : hl_Sv I 86 0 = (nh : Int)) (h1 : I 1 8 = nI nh) (hc : hl_Sv I 86 1 = (cn : Int)) (hcc : I 11 3 = nI cn) : hl_PH N nh cn I := by
  have n4 : nh ≤ 4 := by have := hCo.2.1.2.1.2; omega
  have c40 : cn ≤ 40 := by have := hCo.2.1.2.2.1.2; omega
  refine ⟨⟨hN, n4, c40⟩, h1, hcc, fun t ht => ?_, fun c hc => ?_, fun c h hcN hh => ?_, fun t h h' ht h1 h2 => (hx_wt_eq hCo hN hs hc ht h1 h2).2⟩
  · obtain ⟨a, b, w, a1, b1, -, -, -, t1, t2, -⟩ := hCo.tie hN hc ht
    exact ⟨a, b, a1, b1, t1, t2⟩
  · obtain ⟨q, q1, q2, -⟩ := hCo.state hN hc
    exact ⟨q, q1, q2⟩
  · rw [hF c hcN h hh]
    have := hx_pay_B hCo hN hcN (show (h : Int) < hl_Sv I 86 0 by omega)
    omega
/-- what the class's solve leaves -/
def hx_fC (I I' : Nat → Nat → Int32) : Prop := (∀ b, b < 68 ∨ 79 < b → I' b = I b) ∧ I' 68 7 = I 68 7
theorem hx_fC.tm (h : hx_fC I I') : hl_Tm I I' := ⟨fun b hb => h.1 b (by omega), h.1 66 (by omega), fun k hk => by rw [h.1 85 (by omega)], fun b h1 h2 => h.1 b (by omega)⟩
theorem hx_fC_tr {I1 I2 I3 : Nat → Nat → Int32} (h : hx_fC I1 I2) (g : hx_fC I2 I3) : hx_fC I1 I3 := ⟨fun b hb => (g.1 b hb).trans (h.1 b hb), g.2.trans h.2⟩
theorem hx_solve (hP : hl_PH N nh cn I) (hF : hx_Fp N nh I) (h1 : 1 ≤ (hl_chs s nh).2) : ∃ I' J' p hr, hx_Sol N nh cn I s wh x y p hr ∧ hl_call (d + 4) 26 [.ref 68, .int s, .int (hl_tv wh), .int x, .int y] (hl_g N I J) = some (some (.int (hx_oi p)), hl_g N I' J') ∧ (p ≠ none → ∀ c, c < N → I' 79 c = nI (hr c)) ∧ hx_fC I I' := by
  obtain ⟨I1, J1, F, R, MC, F0, e, g1, g2, g3, -⟩ := hl_s26 (d := d) (N := N) (J := J) (wh := wh) (x := x) (y := y) (s := s) hP rfl rfl h1
  rw [hx_Cs_Cc hF (hl_chs_in nh).2.1] at MC
  by_cases z : F < 1000000000
  · refine ⟨I1, J1, some F.toNat, fun c => (hl_chs s nh).1 (hl_hk R (hl_chs s nh).2 (hl_gr I wh c) ((hl_chs s nh).2 - 1) 0), ⟨F, R, MC, F0, .inl ⟨z, rfl, fun c hc => rfl⟩⟩, ?_, fun _ => g1 z, g2, g3⟩
    rw [e, if_pos z]
    rfl
  · refine ⟨I1, J1, none, fun _ => 0, ⟨F, R, MC, F0, .inr ⟨by omega, rfl⟩⟩, ?_, fun q => absurd rfl q, g2, g3⟩
    rw [e, if_neg z]
    rfl
theorem hx_least (hCo : hl_Co N W H Is) (hv : hl_vw Is I) (hN : N ≤ 24) (hs : hl_Sv Is 86 0 = (nh : Int)) (hc : hl_Sv Is 86 1 = (cn : Int)) (h1 : 1 ≤ (hl_chs s nh).2) : ∃ I' J' p hr, hx_Sol N nh cn Is s wh x y p hr ∧ hl_call (d + 7) 230 [.ref 85, .int s, .int (hl_tv wh), .int x, .int y] (hl_g N I J) = some (some (.long (hx_ol p)), hl_g N I' J') ∧ (p ≠ none → ∀ c, c < N → I' 102 c = nI (hr c)) ∧ hx_fR I I' ∧ hx_fJ J J' := by
  have n4 : nh ≤ 4 := by have := hCo.2.1.2.1.2; omega
  have c40 : cn ≤ 40 := by have := hCo.2.1.2.2.1.2; omega
  have hm : Is 86 0 = nI nh := by
    obtain ⟨k, -, -, k2, k3⟩ := hCo.nh
    have : k = nh := by omega
    rw [← this]; exact k2
  have h8 : Is 1 8 = nI nh := hCo.2.1.1.h0.trans hm
  have hcm : Is 86 1 = nI cn := by
    obtain ⟨k, -, -, k2, k3⟩ := hCo.cn
    have : k = cn := by omega
    rw [← this]; exact k2
  have hcc : Is 11 3 = nI cn := hCo.2.1.1.h1.trans hcm
  obtain ⟨m1, m2, m3⟩ := hl_chs_in (s := s) nh
  -- a cut of the class's over a fresh purse: there is one
  have ex : ∃ F1 R1, hl_MC (hx_Cs N cn Is wh (hl_chs s nh).2 (hl_chs s nh).1 x y) F1 R1 ∧ 0 ≤ F1 := by
    have tm : hl_Tm Is (hl_row Is 64 (fun j => hl_pay Is (j / 4) (j % 4))) := hl_Tm_row (by omega)
    have fp : hx_Fp N nh (hl_row Is 64 (fun j => hl_pay Is (j / 4) (j % 4))) := fun c hcN h hh => by
      rw [(tm.pd c).pay]
      show hl_pay Is ((4 * c + h) / 4) ((4 * c + h) % 4) = hl_pay Is c h
      rw [show (4 * c + h) / 4 = c by omega, show (4 * c + h) % 4 = h by omega]
    have e6 : hl_Sv (hl_row Is 64 (fun j => hl_pay Is (j / 4) (j % 4))) 86 = hl_Sv Is 86 := by
      funext j
      unfold hl_Sv
      rw [tm.2.2.2 86 (by omega) (by omega)]
    obtain ⟨-, -, F1, R1, MC1, F10, -⟩ := hl_s26 (d := 0) (N := N) (J := fun _ _ => 0) (wh := wh) (x := x) (y := y) (s := s) (hx_PH (hl_Co_t hCo tm) fp hN (by rw [e6]; exact hs) (by rw [tm.1 1 (by omega)]; exact h8) (by rw [e6]; exact hc) (by rw [tm.1 11 (by omega)]; exact hcc)) rfl rfl h1
    rw [hx_Cs_Cc fp (hl_chs_in nh).2.1] at MC1
    refine ⟨F1, R1, ?_, F10⟩
    have f : ∀ b, b < 60 → Is b = hl_row Is 64 (fun j => hl_pay Is (j / 4) (j % 4)) b := fun b hb => (tm.1 b hb).symm
    have eg : hl_gr Is wh = hl_gr (hl_row Is 64 (fun j => hl_pay Is (j / 4) (j % 4))) wh := funext (fun c => by unfold hl_gr; rw [f 4 (by omega)])
    have e : hx_Cs N cn Is wh (hl_chs s nh).2 (hl_chs s nh).1 x y = hx_Cs N cn (hl_row Is 64 (fun j => hl_pay Is (j / 4) (j % 4))) wh (hl_chs s nh).2 (hl_chs s nh).1 x y := by
      unfold hx_Cs hx_wt
      rw [← f 12 (by omega), ← f 13 (by omega), ← f 14 (by omega), ← f 9 (by omega), ← eg, hx_rw_f f]
    rw [e]
    exact MC1
  obtain ⟨F1, R1, MC1, F10⟩ := ex
  obtain ⟨I2, J2, F2, R2, MC2, e2, r2, f2, j2⟩ := hx_s230 (d := d) (J := J) (wh := wh) (x := x) (y := y) (s := s) hCo hv hN hs hm hc hcm rfl rfl h1 rfl rfl
  generalize hmm : (hl_chs s nh).2 = m at m1 m2 m3 MC1 MC2 h1 r2
  generalize hal : (hl_chs s nh).1 = al at m2 m3 MC1 MC2 r2
  have m4 : m ≤ 4 := by omega
  unfold hx_Cs at MC1
  have gl1 : ∀ c, c < N → hl_gr Is wh c < (if wh = true then 6 else N) := fun c hc => by
    obtain ⟨q, q1, q2, -⟩ := hCo.state hN hc
    unfold hl_gr
    cases wh with
    | true => rw [if_pos rfl, if_pos rfl, q2, nIc (show q < 2 ^ 31 by omega)]; exact q1
    | false => rw [if_neg (by decide), if_neg (by decide)]; exact hc
  have he : ∀ c c', c < N → c' < N → (hl_gr Is wh c = hl_gr Is wh c' ↔ (hl_grp (Is 4) wh N).1 c = (hl_grp (Is 4) wh N).1 c') := fun c c' hc hc' => by
    cases wh with
    | true =>
      rw [hx_grp_t N c c' hc hc']
      obtain ⟨q, q1, q2, -⟩ := hCo.state hN hc
      obtain ⟨q', q1', q2', -⟩ := hCo.state hN hc'
      unfold hl_gr
      rw [if_pos rfl, if_pos rfl, q2, q2', nIc (show q < 2 ^ 31 by omega), nIc (show q' < 2 ^ 31 by omega)]
      exact ⟨fun z => by rw [z], fun z => (nI_eq (by omega) (by omega)).mp z⟩
    | false =>
      obtain ⟨-, b⟩ := hx_grp_f (st := Is 4) N
      rw [b c hc, b c' hc']
      unfold hl_gr
      rw [if_neg (by decide), if_neg (by decide)]
  obtain ⟨σ, τ, hrn, hσ⟩ := hx_rn_of (m := m) (w := hx_rw Is al x y) (ta := fun t => (Is 12 t).toNatClampNeg) (tb := fun t => (Is 13 t).toNatClampNeg) (cn := cn) m4 gl1 (hl_grp_le (st := Is 4) (wh := wh) N).2 (hx_grp_s N) he (fun t ht => by
    obtain ⟨a, b, w, a1, b1, -, -, -, t1, t2, -⟩ := hCo.tie hN hc ht
    show (Is 12 t).toNatClampNeg < N ∧ (Is 13 t).toNatClampNeg < N
    rw [t1, t2, hl_cq (by omega), hl_cq (by omega)]
    exact ⟨a1, b1⟩)
  have two := hx_two (wt := hx_wt Is al) m4 hrn (fun s' k _ hk => (hx_gs_B (fun c k hc hk => hx_rw_B hCo hN hc (by have := m2 k hk; omega)) _).1) (fun t k ht hk => (hx_wt_eq hCo hN hs hc ht (m3 k (k + 1) (by omega) hk) (m2 (k + 1) hk)).2.1) MC1 MC2
  have sol : ∀ p hr, ((F1 < 1000000000 ∧ p = some F1.toNat ∧ ∀ c, c < N → hr c = al (hl_hk R1 m (hl_gr Is wh c) (m - 1) 0)) ∨ (1000000000 ≤ F1 ∧ p = none)) → hx_Sol N nh cn Is s wh x y p hr := fun p hr h => by
    unfold hx_Sol
    rw [hmm, hal]
    refine ⟨F1, R1, ?_, F10, h⟩
    unfold hx_Cs
    exact MC1
  have bB : (1000000000 : Int64).toInt = 1000000000 := rfl
  rcases two with ⟨q1, q2⟩ | ⟨q1, q2, q3⟩
  · refine ⟨I2, J2, none, fun _ => 0, sol _ _ (.inr ⟨q1, rfl⟩), ?_, fun q => absurd rfl q, f2, j2⟩
    rw [e2, if_neg (by rw [Int64.lt_iff_toInt_lt, bB]; omega)]
    rfl
  · refine ⟨I2, J2, some F1.toNat, fun c => al (hl_hk R1 m (hl_gr Is wh c) (m - 1) 0), sol _ _ (.inl ⟨q2, rfl, fun c hc => rfl⟩), ?_, fun _ c hc => ?_, f2, j2⟩
    · rw [e2, if_pos (by rw [Int64.lt_iff_toInt_lt, bB]; omega)]
      have e : F2 = Int64.ofNat F1.toNat := by
        apply Int64.toInt_inj.mp
        rw [Int64.toInt_ofNat_of_lt (by omega)]
        omega
      rw [e]
      rfl
    · rw [r2 c hc, q3 _ _ _ ((hl_grp_le (st := Is 4) (wh := wh) N).2 c hc), ← hσ c hc]
end HXSOL
