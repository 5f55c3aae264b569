/-! the step theorem, runs, contracts of all depths -/
theorem hl_v_rf (ad : Nat → Nat) (o : Option Nat) : hl_v ad (va_rf o) = va_rf (o.map ad) := by cases o <;> rfl
section HLO
variable {p : Program} {l : Launch} {e : Env} {R : Room} {s : State} {m : MethodId} {args : Array Value} {below : List Frame} {meth : Method} {c : Code} {Q : State → Prop}
variable {B0 : Nat} {sa : Nat → Nat} {D : va_G} {cA : Nat → ClassId} {E : State → Prop} {nL n0 s0 j d : Nat} {rr : hl_Rt} {pc pc' : Nat} {L L' st st' : List Value} {w w' : hl_W}
/-- how a frame is left -/
def hl_Lv (p : Program) (l : Launch) (e : Env) (R : Room) (s : State) (m : MethodId) (args : Array Value) (below : List Frame) (meth : Method) (c : Code) (Q : State → Prop) (B0 : Nat) (sa : Nat → Nat) (D : va_G) (cA : Nat → ClassId) (n0 s0 j : Nat) (rr : hl_Rt) : Prop := ∀ (pc : Nat) (ls : Array Slot) (H : Heap) (locs : List Loc), hl_H B0 sa D cA rr.2 H → va_S (fun q => B0 ≤ q) s.heap H locs →
  (∀ x, rr.1 = some (.int x) → (hl_rk j = 0 ∨ (hl_rk j = 3 ∧ (x = 0 ∨ x = 1))) → decode (hl_b j) pc = .ok (.ireturn, 1) → W p l e R s m args below meth c H locs (hl_n rr.2 - n0) (hl_sz rr.2 - s0) Q (F0 m pc ls [.int x])) ∧
  (∀ x, rr.1 = some (.long x) → hl_rk j = 1 → decode (hl_b j) pc = .ok (.lreturn, 1) → W p l e R s m args below meth c H locs (hl_n rr.2 - n0) (hl_sz rr.2 - s0) Q (F0 m pc ls [.long x])) ∧
  (rr.1 = none → hl_rk j = 2 → decode (hl_b j) pc = .ok (.return_, 1) → W p l e R s m args below meth c H locs (hl_n rr.2 - n0) (hl_sz rr.2 - s0) Q (F0 m pc ls []))
set_option maxHeartbeats 8000000 in
theorem hl_one {k : Nat → List Value → List Value → hl_W → Option hl_Rt} {cO : hl_C} (hC : hl_Cx p l R s m args meth c B0 sa D cA E j d) (hO : hl_Ok l B0 sa D cA E d cO) (hR : hl_n rr.2 - n0 ≤ R.cells ∧ hl_sz rr.2 - s0 ≤ R.slots) (hnL : nL = hl_m j) (hLv : hl_Lv p l e R s m args below meth c Q B0 sa D cA n0 s0 j rr) {ins : Instr} {len : Nat} (hd : decode (hl_b j) pc = .ok (ins, len)) (hl : hl_len ins len = true) (h : hl_nx k (hl_step (hl_o j) (hl_rk j) (hl_kd j == 2) ins pc cO L st w) = some rr) (hk : ∀ (pc : Nat) (L st : List Value) (w : hl_W), k pc L st w = some rr → hl_Good p l e R s m args below meth c Q B0 sa D cA nL n0 s0 rr pc L st w) : hl_Good p l e R s m args below meth c Q B0 sa D cA nL n0 s0 rr pc L st w := by
  have hC' := hC
  obtain ⟨hx, hb, hml, hown, hts, hK, hNs, hAO, hE, hB0, hini, hRf, hRl, hEC, hEX⟩ := hC'
  cases ins with
  | iload_n i =>
    have hl : len = 1 := by simpa [hl_len] using hl
    subst hl
    simp only [hl_step, hl_lI] at h
    split at h
    · next x hxx => exact hl_gp (hk _ _ _ _ h) (fun ls H locs cells slots hL hH hS hc1 hs1 g => lv_iload_n hx hb hd rfl (hL.2.2.2 _ _ (hl_ld_at hxx (by simp)) (by simp)) g)
    · simp [hl_nx] at h
  | iload i =>
    have hl : len = 2 := by simpa [hl_len] using hl
    subst hl
    simp only [hl_step, hl_lI] at h
    split at h
    · next x hxx => exact hl_gp (hk _ _ _ _ h) (fun ls H locs cells slots hL hH hS hc1 hs1 g => lv_iload hx hb hd (hL.2.2.2 _ _ (hl_ld_at hxx (by simp)) (by simp)) g)
    · simp [hl_nx] at h
  | lload_n i =>
    have hl : len = 1 := by simpa [hl_len] using hl
    subst hl
    simp only [hl_step, hl_lJ] at h
    split at h
    · next x hxx => exact hl_gp (hk _ _ _ _ h) (fun ls H locs cells slots hL hH hS hc1 hs1 g => lv_lload_n hx hb hd rfl (hL.2.2.2 _ _ (hl_ld_at hxx (by simp)) (by simp)) g)
    · simp [hl_nx] at h
  | lload i =>
    have hl : len = 2 := by simpa [hl_len] using hl
    subst hl
    simp only [hl_step, hl_lJ] at h
    split at h
    · next x hxx => exact hl_gp (hk _ _ _ _ h) (fun ls H locs cells slots hL hH hS hc1 hs1 g => lv_lload hx hb hd (hL.2.2.2 _ _ (hl_ld_at hxx (by simp)) (by simp)) g)
    · simp [hl_nx] at h
  | aload_n i =>
    have hl : len = 1 := by simpa [hl_len] using hl
    subst hl
    simp only [hl_step, hl_lA] at h
    split at h
    · next x hxx => exact hl_gp (hk _ _ _ _ h) (fun ls H locs cells slots hL hH hS hc1 hs1 g => lv_aload_n hx hb hd rfl (hL.2.2.2 _ _ (hl_ld_at hxx (by simp)) (by simp)) g)
    · simp [hl_nx] at h
  | aload i =>
    have hl : len = 2 := by simpa [hl_len] using hl
    subst hl
    simp only [hl_step, hl_lA] at h
    split at h
    · next x hxx => exact hl_gp (hk _ _ _ _ h) (fun ls H locs cells slots hL hH hS hc1 hs1 g => lv_aload hx hb hd (hL.2.2.2 _ _ (hl_ld_at hxx (by simp)) (by simp)) g)
    · simp [hl_nx] at h
  | istore_n i =>
    have hl : len = 1 := by simpa [hl_len] using hl
    subst hl
    simp only [hl_step, hl_pI] at h
    split at h
    · next x st2 =>
      split at h
      · next hi => exact hl_gl (hk _ _ _ _ h) (fun ls H locs cells slots hL g => lv_istore_n hx hb hd rfl hL.has (by have := hL.1; omega) rfl (fun ls' hl' => g ls' (hL.s1 rfl hl')))
      · simp [hl_nx] at h
    · simp [hl_nx] at h
  | istore i =>
    have hl : len = 2 := by simpa [hl_len] using hl
    subst hl
    simp only [hl_step, hl_pI] at h
    split at h
    · next x st2 =>
      split at h
      · next hi => exact hl_gl (hk _ _ _ _ h) (fun ls H locs cells slots hL g => lv_istore hx hb hd hL.has (by have := hL.1; omega) rfl (fun ls' hl' => g ls' (hL.s1 rfl hl')))
      · simp [hl_nx] at h
    · simp [hl_nx] at h
  | lstore_n i =>
    have hl : len = 1 := by simpa [hl_len] using hl
    subst hl
    simp only [hl_step, hl_pJ] at h
    split at h
    · next x st2 =>
      split at h
      · next hi => exact hl_gl (hk _ _ _ _ h) (fun ls H locs cells slots hL g => lv_lstore_n hx hb hd rfl hL.has (by have := hL.1; omega) rfl (fun ls' hl' => g ls' (hL.s2 rfl hl')))
      · simp [hl_nx] at h
    · simp [hl_nx] at h
  | lstore i =>
    have hl : len = 2 := by simpa [hl_len] using hl
    subst hl
    simp only [hl_step, hl_pJ] at h
    split at h
    · next x st2 =>
      split at h
      · next hi => exact hl_gl (hk _ _ _ _ h) (fun ls H locs cells slots hL g => lv_lstore hx hb hd hL.has (by have := hL.1; omega) rfl (fun ls' hl' => g ls' (hL.s2 rfl hl')))
      · simp [hl_nx] at h
    · simp [hl_nx] at h
  | astore_n i =>
    have hl : len = 1 := by simpa [hl_len] using hl
    subst hl
    simp only [hl_step, hl_pA] at h
    split at h
    · next x st2 =>
      split at h
      · next hi => exact hl_gl (hk _ _ _ _ h) (fun ls H locs cells slots hL g => lv_astore_n hx hb hd rfl hL.has (by have := hL.1; omega) rfl (fun ls' hl' => g ls' (hL.s1 rfl hl')))
      · simp [hl_nx] at h
    · simp [hl_nx] at h
  | astore i =>
    have hl : len = 2 := by simpa [hl_len] using hl
    subst hl
    simp only [hl_step, hl_pA] at h
    split at h
    · next x st2 =>
      split at h
      · next hi => exact hl_gl (hk _ _ _ _ h) (fun ls H locs cells slots hL g => lv_astore hx hb hd hL.has (by have := hL.1; omega) rfl (fun ls' hl' => g ls' (hL.s1 rfl hl')))
      · simp [hl_nx] at h
    · simp [hl_nx] at h
  | iinc i n =>
    have hl : len = 3 := by simpa [hl_len] using hl
    subst hl
    simp only [hl_step] at h
    split at h
    · next x hxx =>
      split at h
      · next hi =>
        refine hl_gl (hk _ _ _ _ h) (fun ls H locs cells slots hL g => ?_)
        obtain ⟨q, hq⟩ := List.getElem?_of_mem (hl_pr_mem (ad := hl_ad B0 sa) (L := L) (q := (i, .int x)) |>.mpr ⟨_, hl_ld_at hxx (by simp), by simp, rfl⟩)
        exact lv_iinc hx hb hd hL.has hq rfl (by have := hL.1; omega) rfl (fun ls' hl' => g ls' (hL.s1 rfl hl'))
      · simp [hl_nx] at h
    · simp [hl_nx] at h
  | iconst n =>
    have hl : len = 1 := by simpa [hl_len] using hl
    subst hl
    exact hl_gp (hk _ _ _ _ h) (fun ls H locs cells slots hL hH hS hc1 hs1 g => lv_iconst hx hb hd rfl g)
  | bipush n =>
    have hl : len = 2 := by simpa [hl_len] using hl
    subst hl
    exact hl_gp (hk _ _ _ _ h) (fun ls H locs cells slots hL hH hS hc1 hs1 g => lv_bipush hx hb hd rfl g)
  | sipush n =>
    have hl : len = 3 := by simpa [hl_len] using hl
    subst hl
    exact hl_gp (hk _ _ _ _ h) (fun ls H locs cells slots hL hH hS hc1 hs1 g => lv_sipush hx hb hd rfl g)
  | lconst n =>
    have hl : len = 1 := by simpa [hl_len] using hl
    subst hl
    exact hl_gp (hk _ _ _ _ h) (fun ls H locs cells slots hL hH hS hc1 hs1 g => lv_lconst hx hb hd rfl g)
  | ldc ix =>
    have hl : len = 2 := by simpa [hl_len] using hl
    subst hl
    simp only [hl_step] at h
    split at h
    · next x hci => exact hl_gp (hk _ _ _ _ h) (fun ls H locs cells slots hL hH hS hc1 hs1 g => lv_ldc hx hb hown (hts _ (hl_ciok hci)) hd g)
    · split at h
      · next q hq => exact hl_gp (hk _ _ _ _ h) (fun ls H locs cells slots hL hH hS hc1 hs1 g => hEX.2 p e R s m args below meth c H locs cells slots Q pc ls _ q (hl_o j) ix hx hown hE hq (by rw [hb]; exact hd) g)
      · simp [hl_nx] at h
  | ldc_w ix =>
    have hl : len = 3 := by simpa [hl_len] using hl
    subst hl
    simp only [hl_step] at h
    split at h
    · next x hci => exact hl_gp (hk _ _ _ _ h) (fun ls H locs cells slots hL hH hS hc1 hs1 g => lv_ldcw hx hb hown (hts _ (hl_ciok hci)) hd g)
    · simp [hl_nx] at h
  | ldc2_w ix =>
    have hl : len = 3 := by simpa [hl_len] using hl
    subst hl
    simp only [hl_step] at h
    split at h
    · next x hci => exact hl_gp (hk _ _ _ _ h) (fun ls H locs cells slots hL hH hS hc1 hs1 g => lv_ldc2 hx hb hown (hts _ (hl_cjok hci)) hd g)
    · simp [hl_nx] at h
  | iadd =>
    have hl : len = 1 := by simpa [hl_len] using hl
    subst hl
    simp only [hl_step, hl_i2] at h
    split at h
    · exact hl_gp (hk _ _ _ _ h) (fun ls H locs cells slots hL hH hS hc1 hs1 g => lv_iadd hx hb hd g)
    · simp [hl_nx] at h
  | isub =>
    have hl : len = 1 := by simpa [hl_len] using hl
    subst hl
    simp only [hl_step, hl_i2] at h
    split at h
    · exact hl_gp (hk _ _ _ _ h) (fun ls H locs cells slots hL hH hS hc1 hs1 g => lv_isub hx hb hd g)
    · simp [hl_nx] at h
  | imul =>
    have hl : len = 1 := by simpa [hl_len] using hl
    subst hl
    simp only [hl_step, hl_i2] at h
    split at h
    · exact hl_gp (hk _ _ _ _ h) (fun ls H locs cells slots hL hH hS hc1 hs1 g => lv_imul hx hb hd g)
    · simp [hl_nx] at h
  | iand =>
    have hl : len = 1 := by simpa [hl_len] using hl
    subst hl
    simp only [hl_step, hl_i2] at h
    split at h
    · exact hl_gp (hk _ _ _ _ h) (fun ls H locs cells slots hL hH hS hc1 hs1 g => lv_iand hx hb hd g)
    · simp [hl_nx] at h
  | ior =>
    have hl : len = 1 := by simpa [hl_len] using hl
    subst hl
    simp only [hl_step, hl_i2] at h
    split at h
    · exact hl_gp (hk _ _ _ _ h) (fun ls H locs cells slots hL hH hS hc1 hs1 g => lv_ior hx hb hd g)
    · simp [hl_nx] at h
  | ixor =>
    have hl : len = 1 := by simpa [hl_len] using hl
    subst hl
    simp only [hl_step, hl_i2] at h
    split at h
    · exact hl_gp (hk _ _ _ _ h) (fun ls H locs cells slots hL hH hS hc1 hs1 g => lv_ixor hx hb hd g)
    · simp [hl_nx] at h
  | ishl =>
    have hl : len = 1 := by simpa [hl_len] using hl
    subst hl
    simp only [hl_step, hl_i2] at h
    split at h
    · exact hl_gp (hk _ _ _ _ h) (fun ls H locs cells slots hL hH hS hc1 hs1 g => lv_ishl hx hb hd g)
    · simp [hl_nx] at h
  | ishr =>
    have hl : len = 1 := by simpa [hl_len] using hl
    subst hl
    simp only [hl_step, hl_i2] at h
    split at h
    · exact hl_gp (hk _ _ _ _ h) (fun ls H locs cells slots hL hH hS hc1 hs1 g => lv_ishr hx hb hd g)
    · simp [hl_nx] at h
  | iushr =>
    have hl : len = 1 := by simpa [hl_len] using hl
    subst hl
    simp only [hl_step, hl_i2] at h
    split at h
    · exact hl_gp (hk _ _ _ _ h) (fun ls H locs cells slots hL hH hS hc1 hs1 g => lv_iushr hx hb hd rfl g)
    · simp [hl_nx] at h
  | ladd =>
    have hl : len = 1 := by simpa [hl_len] using hl
    subst hl
    simp only [hl_step, hl_j2] at h
    split at h
    · exact hl_gp (hk _ _ _ _ h) (fun ls H locs cells slots hL hH hS hc1 hs1 g => lv_ladd hx hb hd g)
    · simp [hl_nx] at h
  | lsub =>
    have hl : len = 1 := by simpa [hl_len] using hl
    subst hl
    simp only [hl_step, hl_j2] at h
    split at h
    · exact hl_gp (hk _ _ _ _ h) (fun ls H locs cells slots hL hH hS hc1 hs1 g => lv_lsub hx hb hd g)
    · simp [hl_nx] at h
  | lmul =>
    have hl : len = 1 := by simpa [hl_len] using hl
    subst hl
    simp only [hl_step, hl_j2] at h
    split at h
    · exact hl_gp (hk _ _ _ _ h) (fun ls H locs cells slots hL hH hS hc1 hs1 g => lv_lmul hx hb hd g)
    · simp [hl_nx] at h
  | lor =>
    have hl : len = 1 := by simpa [hl_len] using hl
    subst hl
    simp only [hl_step, hl_j2] at h
    split at h
    · exact hl_gp (hk _ _ _ _ h) (fun ls H locs cells slots hL hH hS hc1 hs1 g => lv_lor hx hb hd g)
    · simp [hl_nx] at h
  | idiv =>
    have hl : len = 1 := by simpa [hl_len] using hl
    subst hl
    simp only [hl_step] at h
    split at h
    · split at h
      · simp [hl_nx] at h
      · next hne => exact hl_gp (hk _ _ _ _ h) (fun ls H locs cells slots hL hH hS hc1 hs1 g => lv_idiv hx hb hd hne g)
    · simp [hl_nx] at h
  | irem =>
    have hl : len = 1 := by simpa [hl_len] using hl
    subst hl
    simp only [hl_step] at h
    split at h
    · split at h
      · simp [hl_nx] at h
      · next hne => exact hl_gp (hk _ _ _ _ h) (fun ls H locs cells slots hL hH hS hc1 hs1 g => lv_irem hx hb hd hne g)
    · simp [hl_nx] at h
  | ldiv =>
    have hl : len = 1 := by simpa [hl_len] using hl
    subst hl
    simp only [hl_step] at h
    split at h
    · split at h
      · simp [hl_nx] at h
      · next hne => exact hl_gp (hk _ _ _ _ h) (fun ls H locs cells slots hL hH hS hc1 hs1 g => lv_ldiv hx hb hd hne g)
    · simp [hl_nx] at h
  | ineg =>
    have hl : len = 1 := by simpa [hl_len] using hl
    subst hl
    simp only [hl_step] at h
    split at h
    · exact hl_gp (hk _ _ _ _ h) (fun ls H locs cells slots hL hH hS hc1 hs1 g => lv_ineg hx hb hd g)
    · simp [hl_nx] at h
  | lneg =>
    have hl : len = 1 := by simpa [hl_len] using hl
    subst hl
    simp only [hl_step] at h
    split at h
    · exact hl_gp (hk _ _ _ _ h) (fun ls H locs cells slots hL hH hS hc1 hs1 g => lv_lneg hx hb hd g)
    · simp [hl_nx] at h
  | lshl =>
    have hl : len = 1 := by simpa [hl_len] using hl
    subst hl
    simp only [hl_step] at h
    split at h
    · exact hl_gp (hk _ _ _ _ h) (fun ls H locs cells slots hL hH hS hc1 hs1 g => lv_lshl hx hb hd rfl g)
    · simp [hl_nx] at h
  | i2l =>
    have hl : len = 1 := by simpa [hl_len] using hl
    subst hl
    simp only [hl_step] at h
    split at h
    · exact hl_gp (hk _ _ _ _ h) (fun ls H locs cells slots hL hH hS hc1 hs1 g => lv_i2l hx hb hd rfl g)
    · simp [hl_nx] at h
  | l2i =>
    have hl : len = 1 := by simpa [hl_len] using hl
    subst hl
    simp only [hl_step] at h
    split at h
    · exact hl_gp (hk _ _ _ _ h) (fun ls H locs cells slots hL hH hS hc1 hs1 g => lv_l2i hx hb hd rfl g)
    · simp [hl_nx] at h
  | i2c =>
    have hl : len = 1 := by simpa [hl_len] using hl
    subst hl
    simp only [hl_step] at h
    split at h
    · exact hl_gp (hk _ _ _ _ h) (fun ls H locs cells slots hL hH hS hc1 hs1 g => lv_i2c hx hb hd rfl g)
    · simp [hl_nx] at h
  | lcmp =>
    have hl : len = 1 := by simpa [hl_len] using hl
    subst hl
    simp only [hl_step] at h
    split at h
    · exact hl_gp (hk _ _ _ _ h) (fun ls H locs cells slots hL hH hS hc1 hs1 g => W.lcmp hx hb hd g)
    · simp [hl_nx] at h
  | dup =>
    have hl : len = 1 := by simpa [hl_len] using hl
    subst hl
    simp only [hl_step] at h
    split at h
    · exact hl_gp (hk _ _ _ _ h) (fun ls H locs cells slots hL hH hS hc1 hs1 g => lv_dup hx hb hd rfl g)
    · exact hl_gp (hk _ _ _ _ h) (fun ls H locs cells slots hL hH hS hc1 hs1 g => lv_dup hx hb hd rfl g)
    · simp [hl_nx] at h
  | pop =>
    have hl : len = 1 := by simpa [hl_len] using hl
    subst hl
    simp only [hl_step] at h
    split at h
    · exact hl_gp (hk _ _ _ _ h) (fun ls H locs cells slots hL hH hS hc1 hs1 g => lv_pop hx hb hd rfl g)
    · exact hl_gp (hk _ _ _ _ h) (fun ls H locs cells slots hL hH hS hc1 hs1 g => lv_pop hx hb hd rfl g)
    · simp [hl_nx] at h
  | dup2 =>
    have hl : len = 1 := by simpa [hl_len] using hl
    subst hl
    simp only [hl_step] at h
    split at h
    · exact hl_gp (hk _ _ _ _ h) (fun ls H locs cells slots hL hH hS hc1 hs1 g => lv_dup2_11 hx hb hd rfl rfl g)
    · simp [hl_nx] at h
  | goto off =>
    have hl : len = 3 := by simpa [hl_len] using hl
    subst hl
    simp only [hl_step] at h
    obtain ⟨t, ht, h⟩ := hl_jpE h
    exact hl_gp (hk _ _ _ _ h) (fun ls H locs cells slots hL hH hS hc1 hs1 g => lv_goto hx hb hd ht g)
  | ifCond cd off =>
    have hl : len = 3 := by simpa [hl_len] using hl
    subst hl
    cases cd with
    | eq =>
      simp only [hl_step] at h
      split at h
      · obtain ⟨t, ht, ⟨hq, h⟩ | ⟨hq, h⟩⟩ := hl_ifE h
        · exact hl_gp (hk _ _ _ _ h) (fun ls H locs cells slots hL hH hS hc1 hs1 g => lv_if_eq hx hb hd ht (fun _ => g) (fun q => absurd (of_decide_eq_true hq) q))
        · exact hl_gp (hk _ _ _ _ h) (fun ls H locs cells slots hL hH hS hc1 hs1 g => lv_if_eq hx hb hd ht (fun q => absurd q (of_decide_eq_false hq)) (fun _ => g))
      · simp [hl_nx] at h
    | ne =>
      simp only [hl_step] at h
      split at h
      · obtain ⟨t, ht, ⟨hq, h⟩ | ⟨hq, h⟩⟩ := hl_ifE h
        · exact hl_gp (hk _ _ _ _ h) (fun ls H locs cells slots hL hH hS hc1 hs1 g => lv_if_ne hx hb hd ht (fun _ => g) (fun q => absurd (of_decide_eq_true hq) (fun z => z q)))
        · exact hl_gp (hk _ _ _ _ h) (fun ls H locs cells slots hL hH hS hc1 hs1 g => lv_if_ne hx hb hd ht (fun q => absurd q (of_decide_eq_false hq)) (fun _ => g))
      · simp [hl_nx] at h
    | lt =>
      simp only [hl_step] at h
      split at h
      · obtain ⟨t, ht, ⟨hq, h⟩ | ⟨hq, h⟩⟩ := hl_ifE h
        · exact hl_gp (hk _ _ _ _ h) (fun ls H locs cells slots hL hH hS hc1 hs1 g => lv_if_lt hx hb hd ht (fun _ => g) (fun q => absurd (of_decide_eq_true hq) q))
        · exact hl_gp (hk _ _ _ _ h) (fun ls H locs cells slots hL hH hS hc1 hs1 g => lv_if_lt hx hb hd ht (fun q => absurd q (of_decide_eq_false hq)) (fun _ => g))
      · simp [hl_nx] at h
    | ge =>
      simp only [hl_step] at h
      split at h
      · obtain ⟨t, ht, ⟨hq, h⟩ | ⟨hq, h⟩⟩ := hl_ifE h
        · exact hl_gp (hk _ _ _ _ h) (fun ls H locs cells slots hL hH hS hc1 hs1 g => lv_if_ge hx hb hd ht (fun _ => g) (fun q => absurd (of_decide_eq_true hq) q))
        · exact hl_gp (hk _ _ _ _ h) (fun ls H locs cells slots hL hH hS hc1 hs1 g => lv_if_ge hx hb hd ht (fun q => absurd q (of_decide_eq_false hq)) (fun _ => g))
      · simp [hl_nx] at h
    | gt =>
      simp only [hl_step] at h
      split at h
      · obtain ⟨t, ht, ⟨hq, h⟩ | ⟨hq, h⟩⟩ := hl_ifE h
        · exact hl_gp (hk _ _ _ _ h) (fun ls H locs cells slots hL hH hS hc1 hs1 g => lv_if_gt hx hb hd ht (fun _ => g) (fun q => absurd (of_decide_eq_true hq) q))
        · exact hl_gp (hk _ _ _ _ h) (fun ls H locs cells slots hL hH hS hc1 hs1 g => lv_if_gt hx hb hd ht (fun q => absurd q (of_decide_eq_false hq)) (fun _ => g))
      · simp [hl_nx] at h
    | le =>
      simp only [hl_step] at h
      split at h
      · obtain ⟨t, ht, ⟨hq, h⟩ | ⟨hq, h⟩⟩ := hl_ifE h
        · exact hl_gp (hk _ _ _ _ h) (fun ls H locs cells slots hL hH hS hc1 hs1 g => lv_if_le hx hb hd ht (fun _ => g) (fun q => absurd (of_decide_eq_true hq) q))
        · exact hl_gp (hk _ _ _ _ h) (fun ls H locs cells slots hL hH hS hc1 hs1 g => lv_if_le hx hb hd ht (fun q => absurd q (of_decide_eq_false hq)) (fun _ => g))
      · simp [hl_nx] at h
  | if_icmp cd off =>
    have hl : len = 3 := by simpa [hl_len] using hl
    subst hl
    cases cd with
    | eq =>
      simp only [hl_step] at h
      split at h
      · obtain ⟨t, ht, ⟨hq, h⟩ | ⟨hq, h⟩⟩ := hl_ifE h
        · exact hl_gp (hk _ _ _ _ h) (fun ls H locs cells slots hL hH hS hc1 hs1 g => lv_icmp_eq hx hb hd ht (fun _ => g) (fun q => absurd (of_decide_eq_true hq) q))
        · exact hl_gp (hk _ _ _ _ h) (fun ls H locs cells slots hL hH hS hc1 hs1 g => lv_icmp_eq hx hb hd ht (fun q => absurd q (of_decide_eq_false hq)) (fun _ => g))
      · simp [hl_nx] at h
    | ne =>
      simp only [hl_step] at h
      split at h
      · obtain ⟨t, ht, ⟨hq, h⟩ | ⟨hq, h⟩⟩ := hl_ifE h
        · exact hl_gp (hk _ _ _ _ h) (fun ls H locs cells slots hL hH hS hc1 hs1 g => lv_icmp_ne hx hb hd ht (fun _ => g) (fun q => absurd (of_decide_eq_true hq) (fun z => z q)))
        · exact hl_gp (hk _ _ _ _ h) (fun ls H locs cells slots hL hH hS hc1 hs1 g => lv_icmp_ne hx hb hd ht (fun q => absurd q (of_decide_eq_false hq)) (fun _ => g))
      · simp [hl_nx] at h
    | lt =>
      simp only [hl_step] at h
      split at h
      · obtain ⟨t, ht, ⟨hq, h⟩ | ⟨hq, h⟩⟩ := hl_ifE h
        · exact hl_gp (hk _ _ _ _ h) (fun ls H locs cells slots hL hH hS hc1 hs1 g => lv_icmp_lt hx hb hd ht (fun _ => g) (fun q => absurd (of_decide_eq_true hq) q))
        · exact hl_gp (hk _ _ _ _ h) (fun ls H locs cells slots hL hH hS hc1 hs1 g => lv_icmp_lt hx hb hd ht (fun q => absurd q (of_decide_eq_false hq)) (fun _ => g))
      · simp [hl_nx] at h
    | ge =>
      simp only [hl_step] at h
      split at h
      · obtain ⟨t, ht, ⟨hq, h⟩ | ⟨hq, h⟩⟩ := hl_ifE h
        · exact hl_gp (hk _ _ _ _ h) (fun ls H locs cells slots hL hH hS hc1 hs1 g => lv_icmp_ge hx hb hd ht (fun _ => g) (fun q => absurd (of_decide_eq_true hq) q))
        · exact hl_gp (hk _ _ _ _ h) (fun ls H locs cells slots hL hH hS hc1 hs1 g => lv_icmp_ge hx hb hd ht (fun q => absurd q (of_decide_eq_false hq)) (fun _ => g))
      · simp [hl_nx] at h
    | gt =>
      simp only [hl_step] at h
      split at h
      · obtain ⟨t, ht, ⟨hq, h⟩ | ⟨hq, h⟩⟩ := hl_ifE h
        · exact hl_gp (hk _ _ _ _ h) (fun ls H locs cells slots hL hH hS hc1 hs1 g => lv_icmp_gt hx hb hd ht (fun _ => g) (fun q => absurd (of_decide_eq_true hq) q))
        · exact hl_gp (hk _ _ _ _ h) (fun ls H locs cells slots hL hH hS hc1 hs1 g => lv_icmp_gt hx hb hd ht (fun q => absurd q (of_decide_eq_false hq)) (fun _ => g))
      · simp [hl_nx] at h
    | le =>
      simp only [hl_step] at h
      split at h
      · obtain ⟨t, ht, ⟨hq, h⟩ | ⟨hq, h⟩⟩ := hl_ifE h
        · exact hl_gp (hk _ _ _ _ h) (fun ls H locs cells slots hL hH hS hc1 hs1 g => lv_icmp_le hx hb hd ht (fun _ => g) (fun q => absurd (of_decide_eq_true hq) q))
        · exact hl_gp (hk _ _ _ _ h) (fun ls H locs cells slots hL hH hS hc1 hs1 g => lv_icmp_le hx hb hd ht (fun q => absurd q (of_decide_eq_false hq)) (fun _ => g))
      · simp [hl_nx] at h
  | tableswitch dflt lo hi offs =>
    simp only [hl_step] at h
    split at h
    · next x st2 =>
      split at h
      · next hq =>
        obtain ⟨t, ht, h⟩ := hl_jpE h
        exact hl_gp (hk _ _ _ _ h) (fun ls H locs cells slots hL hH hS hc1 hs1 g => lv_tableOut hx hb hd hq ht g)
      · next hq =>
        split at h
        · next off ho =>
          obtain ⟨t, ht, h⟩ := hl_jpE h
          exact hl_gp (hk _ _ _ _ h) (fun ls H locs cells slots hL hH hS hc1 hs1 g => lv_tableIn hx hb hd (fun z => hq (Or.inl z)) (fun z => hq (Or.inr z)) ho ht g)
        · simp [hl_nx] at h
    · simp [hl_nx] at h
  | getfield ix =>
    have hl : len = 3 := by simpa [hl_len] using hl
    subst hl
    exact hl_g_get hC hd h hk
  | putfield ix =>
    have hl : len = 3 := by simpa [hl_len] using hl
    subst hl
    exact hl_g_put hC hd h hk
  | iaload =>
    have hl : len = 1 := by simpa [hl_len] using hl
    subst hl
    simp only [hl_step] at h
    split at h
    · next i a st2 =>
      split at h
      · next hq =>
        obtain ⟨ha, hka⟩ := hl_arE hq.1
        refine hl_gp (hk _ _ _ _ h) (fun ls H locs cells slots hL hH hS hc1 hs1 g => ?_)
        have he := hl_cz_at (ad := hl_ad B0 sa) (cA := cA) ha
        rw [hl_ce_0 hka] at he
        exact va_iald hx hb hK hH.2.2 a 0 he rfl (hl_inE hq.2) hd g
      · simp [hl_nx] at h
    · simp [hl_nx] at h
  | laload =>
    have hl : len = 1 := by simpa [hl_len] using hl
    subst hl
    simp only [hl_step] at h
    split at h
    · next i a st2 =>
      split at h
      · next hq =>
        obtain ⟨ha, hka⟩ := hl_arE hq.1
        refine hl_gp (hk _ _ _ _ h) (fun ls H locs cells slots hL hH hS hc1 hs1 g => ?_)
        have he := hl_cz_at (ad := hl_ad B0 sa) (cA := cA) ha
        rw [hl_ce_1 hka] at he
        exact va_lald hx hb hK hH.2.2 a 1 he rfl (hl_inE hq.2) hd g
      · simp [hl_nx] at h
    · simp [hl_nx] at h
  | baload =>
    have hl : len = 1 := by simpa [hl_len] using hl
    subst hl
    simp only [hl_step] at h
    split at h
    · next i a st2 =>
      split at h
      · next hq =>
        obtain ⟨ha, hka⟩ := hl_arE hq.1
        refine hl_gp (hk _ _ _ _ h) (fun ls H locs cells slots hL hH hS hc1 hs1 g => ?_)
        have he := hl_cz_at (ad := hl_ad B0 sa) (cA := cA) ha
        rw [hl_ce_2 hka] at he
        exact va_zald hx hb hK hH.2.2 a 2 he rfl (hl_inE hq.2) hd g
      · simp [hl_nx] at h
    · simp [hl_nx] at h
  | aaload =>
    have hl : len = 1 := by simpa [hl_len] using hl
    subst hl
    simp only [hl_step] at h
    split at h
    · next i a st2 =>
      split at h
      · next hq =>
        obtain ⟨ha, hka⟩ := hl_arE hq.1
        refine hl_gp (hk _ _ _ _ h) (fun ls H locs cells slots hL hH hS hc1 hs1 g => ?_)
        have he := hl_cz_at (ad := hl_ad B0 sa) (cA := cA) ha
        rw [hl_ce_3 hka] at he
        exact va_aldq hx hb hK hH.2.2 a 3 he rfl (hl_inE hq.2) hd (by rw [List.map_cons, hl_v_rf] at g; exact g)
      · simp [hl_nx] at h
    · simp [hl_nx] at h
  | iastore =>
    have hl : len = 1 := by simpa [hl_len] using hl
    subst hl
    simp only [hl_step] at h
    split at h
    · split at h
      · next hq =>
        obtain ⟨ha, hka⟩ := hl_arE hq.1
        refine hl_gw ?_ ?_ (hk _ _ _ _ h) (fun ls H locs cells slots hL hH hS g => hl_r_iast hx hb hK hH hS ha hka (hl_inE hq.2) hd g) <;> rfl
      · simp [hl_nx] at h
    · simp [hl_nx] at h
  | lastore =>
    have hl : len = 1 := by simpa [hl_len] using hl
    subst hl
    simp only [hl_step] at h
    split at h
    · split at h
      · next hq =>
        obtain ⟨ha, hka⟩ := hl_arE hq.1
        refine hl_gw ?_ ?_ (hk _ _ _ _ h) (fun ls H locs cells slots hL hH hS g => hl_r_last hx hb hK hH hS ha hka (hl_inE hq.2) hd g) <;> rfl
      · simp [hl_nx] at h
    · simp [hl_nx] at h
  | bastore =>
    have hl : len = 1 := by simpa [hl_len] using hl
    subst hl
    simp only [hl_step] at h
    split at h
    · split at h
      · next hq =>
        obtain ⟨ha, hka⟩ := hl_arE hq.1
        refine hl_gw ?_ ?_ (hk _ _ _ _ h) (fun ls H locs cells slots hL hH hS g => hl_r_zast hx hb hK hH hS ha hka hq.2.2 (hl_inE hq.2.1) hd g) <;> rfl
      · simp [hl_nx] at h
    · simp [hl_nx] at h
  | aastore =>
    have hl : len = 1 := by simpa [hl_len] using hl
    subst hl
    simp only [hl_step] at h
    split at h
    · split at h
      · next hq =>
        obtain ⟨ha, hka⟩ := hl_arE hq.1
        refine hl_gw ?_ ?_ (hk _ _ _ _ h) (fun ls H locs cells slots hL hH hS g => hl_r_aast hx hb hK hH hS ha hka hq.2.2 (hl_inE hq.2.1) hd g) <;> rfl
      · simp [hl_nx] at h
    · simp [hl_nx] at h
  | arraylength =>
    have hl : len = 1 := by simpa [hl_len] using hl
    subst hl
    simp only [hl_step] at h
    split at h
    · next a st2 =>
      split at h
      · next hq =>
        obtain ⟨ha, hlt⟩ := hq
        refine hl_gp (hk _ _ _ _ h) (fun ls H locs cells slots hL hH hS hc1 hs1 g => ?_)
        have he := hl_cz_at (ad := hl_ad B0 sa) (cA := cA) ha
        rcases (show (hl_k w a).1 = 0 ∨ (hl_k w a).1 = 1 ∨ (hl_k w a).1 = 2 ∨ (hl_k w a).1 = 3 by omega) with hka | hka | hka | hka
        · rw [hl_ce_0 hka] at he
          exact va_alen hx hb hK hH.2.2 a 0 he rfl rfl hd g
        · rw [hl_ce_1 hka] at he
          exact va_alen hx hb hK hH.2.2 a 1 he rfl rfl hd g
        · rw [hl_ce_2 hka] at he
          exact va_alen hx hb hK hH.2.2 a 2 he rfl rfl hd g
        · rw [hl_ce_3 hka] at he
          exact va_alen hx hb hK hH.2.2 a 3 he rfl rfl hd g
      · simp [hl_nx] at h
    · simp [hl_nx] at h
  | newarray ty =>
    have hl : len = 2 := by simpa [hl_len] using hl
    subst hl
    simp only [hl_step] at h
    split at h
    · next n st2 =>
      split at h
      · next hq =>
        obtain ⟨h1, h2, h3⟩ := hq
        split at h
        · exact hl_gn hR (hk _ _ _ _ h) (fun ls H locs cells slots hL hH hS hc1 hs1 g => hl_r_newa hx hb hts hK hH hS (atype := .int) (t := 0) (by decide) rfl hl_aw_int h1 h2 h3 hc1 hs1 hd g)
        · exact hl_gn hR (hk _ _ _ _ h) (fun ls H locs cells slots hL hH hS hc1 hs1 g => hl_r_newa hx hb hts hK hH hS (atype := .long) (t := 1) (by decide) rfl hl_aw_long h1 h2 h3 hc1 hs1 hd g)
        · exact hl_gn hR (hk _ _ _ _ h) (fun ls H locs cells slots hL hH hS hc1 hs1 g => hl_r_newa hx hb hts hK hH hS (atype := .boolean) (t := 2) (by decide) rfl hl_aw_boolean h1 h2 h3 hc1 hs1 hd g)
        · simp [hl_nx] at h
      · simp [hl_nx] at h
    · simp [hl_nx] at h
  | anewarray ix =>
    have hl : len = 3 := by simpa [hl_len] using hl
    subst hl
    simp only [hl_step] at h
    split at h
    · next n st2 =>
      split at h
      · next hq =>
        obtain ⟨h1, h2, h3, h4⟩ := hq
        exact hl_gn hR (hk _ _ _ _ h) (fun ls H locs cells slots hL hH hS hc1 hs1 g => hl_r_anew hx hb hown hts hAO hK hH hS h3 h1 h2 h4 hc1 hs1 hd g)
      · simp [hl_nx] at h
    · simp [hl_nx] at h
  | new ix =>
    have hl : len = 3 := by simpa [hl_len] using hl
    subst hl
    simp only [hl_step] at h
    split at h
    · next ci hci =>
      split at h
      · next hq => exact hl_gn hR (hk _ _ _ _ h) (fun ls H locs cells slots hL hH hS hc1 hs1 g => hl_r_new hx hb hown hts hK hH hS hci hq hc1 hs1 hd g)
      · simp [hl_nx] at h
    · simp [hl_nx] at h
  | invokestatic ix =>
    have hl : len = 3 := by simpa [hl_len] using hl
    subst hl
    exact hl_g_cS hC hO hR hnL hd h hk
  | invokevirtual ix =>
    have hl : len = 3 := by simpa [hl_len] using hl
    subst hl
    exact hl_g_cV hC hO hR hnL hd h hk
  | invokespecial ix =>
    have hl : len = 3 := by simpa [hl_len] using hl
    subst hl
    exact hl_g_cI hC hO hR hnL hd h hk
  | ireturn =>
    have hl : len = 1 := by simpa [hl_len] using hl
    subst hl
    simp only [hl_step] at h
    split at h
    · next x => 
      split at h
      · next hq =>
        have e1 : rr = (some (.int x), w) := by simpa [hl_nx, eq_comm] using h
        subst e1
        refine ⟨⟨Nat.le_refl _, Nat.le_refl _⟩, fun h0 h1 ls H locs hL hH hS => ?_⟩
        exact (hLv pc ls H locs hH hS).1 x rfl hq hd
      · simp [hl_nx] at h
    · simp [hl_nx] at h
  | lreturn =>
    have hl : len = 1 := by simpa [hl_len] using hl
    subst hl
    simp only [hl_step] at h
    split at h
    · next x => 
      split at h
      · next hq =>
        have e1 : rr = (some (.long x), w) := by simpa [hl_nx, eq_comm] using h
        subst e1
        refine ⟨⟨Nat.le_refl _, Nat.le_refl _⟩, fun h0 h1 ls H locs hL hH hS => ?_⟩
        exact (hLv pc ls H locs hH hS).2.1 x rfl hq hd
      · simp [hl_nx] at h
    · simp [hl_nx] at h
  | return_ =>
    have hl : len = 1 := by simpa [hl_len] using hl
    subst hl
    simp only [hl_step] at h
    split at h
    · 
      split at h
      · next hq =>
        have e1 : rr = (none, w) := by simpa [hl_nx, eq_comm] using h
        subst e1
        refine ⟨⟨Nat.le_refl _, Nat.le_refl _⟩, fun h0 h1 ls H locs hL hH hS => ?_⟩
        exact (hLv pc ls H locs hH hS).2.2 rfl hq hd
      · simp [hl_nx] at h
    · simp [hl_nx] at h
  | _ => simp [hl_step, hl_nx] at h
/-- runs -/
theorem hl_walk {cO : hl_C} (hC : hl_Cx p l R s m args meth c B0 sa D cA E j d) (hO : hl_Ok l B0 sa D cA E d cO) (hR : hl_n rr.2 - n0 ≤ R.cells ∧ hl_sz rr.2 - s0 ≤ R.slots) (hnL : nL = hl_m j) (hLv : hl_Lv p l e R s m args below meth c Q B0 sa D cA n0 s0 j rr) (n : Nat) : ∀ (pc : Nat) (L st : List Value) (w : hl_W), hl_run j cO n pc L st w = some rr → hl_Good p l e R s m args below meth c Q B0 sa D cA nL n0 s0 rr pc L st w := by
  induction n with
  | zero => intro pc L st w h; simp [hl_run] at h
  | succ n ih =>
    intro pc L st w h
    rw [hl_run] at h
    split at h
    · next ins len hd =>
      split at h
      · next hl => exact hl_one hC hO hR hnL hLv hd hl h ih
      · cases h
    · cases h
end HLO
/-! worlds only grow -/
def hl_le (w w' : hl_W) : Prop := hl_n w ≤ hl_n w' ∧ hl_sz w ≤ hl_sz w'
theorem hl_le_rf (w : hl_W) : hl_le w w := ⟨Nat.le_refl _, Nat.le_refl _⟩
theorem hl_le_eq {w w' : hl_W} (hn : hl_n w' = hl_n w) (hk : hl_k w' = hl_k w) : hl_le w w' := ⟨Nat.le_of_eq hn.symm, Nat.le_of_eq (hl_sz_eq hn hk).symm⟩
theorem hl_le_new (w : hl_W) (t n : Nat) : hl_le w (hl_new w t n) := ⟨Nat.le_succ _, by rw [hl_sz_new]; exact Nat.le_add_right _ _⟩
def hl_Up (w : hl_W) (x : hl_O) : Prop := match x with
  | some (.inl (_, _, _, w')) => hl_le w w'
  | some (.inr (_, w')) => hl_le w w'
  | none => True
theorem hl_Up_go {w w' : hl_W} {pc : Nat} {L st : List Value} (h : hl_le w w') : hl_Up w (hl_go pc L st w') := h
theorem hl_Up_bk {w : hl_W} {pc : Nat} {L st : List Value} {r : Option hl_Rt} (h : ∀ r', r = some r' → hl_le w r'.2) : hl_Up w (hl_bk pc L st r) := by
  unfold hl_bk
  split
  · next v w' => exact h _ rfl
  · trivial
theorem hl_Up_jp {w : hl_W} {pc : Nat} {off : Int} {L st : List Value} : hl_Up w (hl_jp pc off L st w) := by
  unfold hl_jp
  split
  · exact hl_le_rf w
  · trivial
theorem hl_Up_if {w : hl_W} {q : Bool} {pc : Nat} {off : Int} {L st : List Value} : hl_Up w (hl_if q pc off L st w) := by
  unfold hl_if
  split
  · split
    · exact hl_le_rf w
    · exact hl_le_rf w
  · trivial
theorem hl_step_up {o rk : Nat} {ini : Bool} {ins : Instr} {pc : Nat} {c : hl_C} {L st : List Value} {w : hl_W} (hc : ∀ j as r, c j as w = some r → hl_le w r.2) : hl_Up w (hl_step o rk ini ins pc c L st w) := by
  cases ins with
  | ifCond cd off => cases cd <;> simp only [hl_step] <;> (repeat' split) <;> first | trivial | exact hl_Up_if
  | if_icmp cd off => cases cd <;> simp only [hl_step] <;> (repeat' split) <;> first | trivial | exact hl_Up_if
  | goto off => exact hl_Up_jp
  | tableswitch d lo hi offs => simp only [hl_step] ; (repeat' split) <;> first | trivial | exact hl_Up_jp
  | getfield ix => simp only [hl_step, hl_get] ; (repeat' split) <;> first | trivial | exact hl_Up_go (hl_le_rf w)
  | putfield ix => simp only [hl_step, hl_put] ; (repeat' split) <;> first | trivial | exact hl_Up_go (hl_le_eq rfl rfl)
  | invokestatic ix =>
    simp only [hl_step, hl_cS, hl_acp, hl_lib]
    (repeat' split) <;> first | trivial | exact hl_Up_go (hl_le_eq rfl rfl) | exact hl_Up_bk (fun r' h => hc _ _ _ h)
  | invokevirtual ix =>
    simp only [hl_step, hl_cV]
    (repeat' split) <;> first | trivial | exact hl_Up_go (hl_le_eq rfl rfl) | exact hl_Up_bk (fun r' h => hc _ _ _ h)
  | invokespecial ix =>
    simp only [hl_step, hl_cI]
    (repeat' split) <;> first | trivial | exact hl_Up_go (hl_le_eq rfl rfl) | exact hl_Up_bk (fun r' h => hc _ _ _ h)
  | _ =>
    simp only [hl_step, hl_lI, hl_lJ, hl_lA, hl_pI, hl_pJ, hl_pA, hl_i2, hl_j2]
    first | trivial | exact hl_Up_go (hl_le_rf w) | ((repeat' split) <;> first | trivial | exact hl_Up_go (hl_le_eq rfl rfl) | exact hl_Up_go (hl_le_new _ _ _) | exact hl_le_rf w)
theorem hl_le_tr {a b c : hl_W} (h : hl_le a b) (g : hl_le b c) : hl_le a c := ⟨Nat.le_trans h.1 g.1, Nat.le_trans h.2 g.2⟩
theorem hl_run_up {j : Nat} {c : hl_C} (hc : ∀ j as w r, c j as w = some r → hl_le w r.2) (n : Nat) : ∀ (pc : Nat) (L st : List Value) (w : hl_W) (r : hl_Rt), hl_run j c n pc L st w = some r → hl_le w r.2 := by
  induction n with
  | zero => intro pc L st w r h; simp [hl_run] at h
  | succ n ih =>
    intro pc L st w r h
    rw [hl_run] at h
    split at h
    · next ins len hd =>
      split at h
      · have hu := hl_step_up (o := hl_o j) (rk := hl_rk j) (ini := hl_kd j == 2) (ins := ins) (pc := pc) (c := c) (L := L) (st := st) (w := w) (fun j as r => hc j as w r)
        cases hs : hl_step (hl_o j) (hl_rk j) (hl_kd j == 2) ins pc c L st w with
        | none => rw [hs] at h; simp [hl_nx] at h
        | some x =>
          rw [hs] at h hu
          cases x with
          | inl y =>
            obtain ⟨a, b, d, f⟩ := y
            exact hl_le_tr hu (ih _ _ _ _ _ h)
          | inr y =>
            obtain ⟨v, w'⟩ := y
            have e1 : r = (v, w') := by simpa [hl_nx, eq_comm] using h
            subst e1
            exact hu
      · cases h
    · cases h
theorem hl_call_up (d : Nat) : ∀ j as w r, hl_call d j as w = some r → hl_le w r.2 := by
  induction d with
  | zero => intro j as w r h; simp [hl_call] at h
  | succ d ih =>
    intro j as w r h
    rw [hl_call] at h
    dsimp only at h
    split at h
    · split at h
      · cases hv : hl_ext j as with
        | none => rw [hv] at h; simp at h
        | some v =>
          rw [hv] at h
          simp at h
          subst h
          exact hl_le_rf w
      · cases h
    · split at h
      · obtain ⟨n, hn⟩ := hl_Run_iff.mp h
        exact hl_run_up ih n _ _ _ _ _ hn
      · cases h
/-- a run of a method is its contract -/
theorem hl_meet {l : Launch} {B0 : Nat} {sa : Nat → Nat} {D : va_G} {cA : Nat → ClassId} {E : State → Prop} (hEC : hl_EC B0 E) (hEX : hl_EX l B0 sa E) {d j : Nat} {cO : hl_C} (hO : hl_Ok l B0 sa D cA E d cO) (hj : hl_jOK j) {as : List Value} {w : hl_W} {rr : hl_Rt} (hlen : (hl_lay as).length ≤ hl_m j) (h : ∃ n, hl_run j cO n 0 (hl_ent (hl_m j) as) [] w = some rr) : hl_Met l B0 sa D cA E (d + 1) j as w rr := by
  obtain ⟨n, hn⟩ := h
  unfold hl_Met
  refine Met.ofW (cc := hl_b j) (maxL := hl_m j) (ret := hl_ret j) hj.1.1 rfl ?_
  intro p e s m args below meth c s₁ B hml hP
  obtain ⟨rfl, hH, hK, hNs, hAO, hE⟩ := hP
  have hts0 : ∀ x ∈ hl_ws j, x.before (as.map (hl_v (hl_ad B0 sa))).toArray s = true := atoms_spec (ws := hl_ws j) B.pre
  have hts : ∀ x ∈ hl_G, x.before (as.map (hl_v (hl_ad B0 sa))).toArray s = true := fun x hx => hts0 x (List.mem_cons_of_mem _ hx)
  have hown : s.vm.findClass (hl_R (hl_o j)) = some m.cls := by
    rw [← hj.1.2.1]
    exact findClass_of_methodNamed B.named
  have hini : hl_kd j = 2 → meth.name = "<init>" := fun q => (name_of_methodNamed B.named B.method).1.trans (hj.2.2.2 q).1
  have hC : hl_Cx p l (headSpec (hl_ws j) (hl_rm (d + 1) (hl_n rr.2 - hl_n w) (hl_sz rr.2 - hl_sz w))).room s m (as.map (hl_v (hl_ad B0 sa))).toArray meth c B0 sa D cA E j d :=
    ⟨B.exec, B.bytes, hml, hown, hts, hK, hNs, hAO, hE, by have := hH.1; omega, hini, Nat.le_refl _, by show 64 * d + 64 ≤ 64 * (d + 1); omega, hEC, hEX⟩
  have hLv : hl_Lv p l e (headSpec (hl_ws j) (hl_rm (d + 1) (hl_n rr.2 - hl_n w) (hl_sz rr.2 - hl_sz w))).room s m (as.map (hl_v (hl_ad B0 sa))).toArray below meth c (MQ below (hl_Q B0 sa D cA rr) (as.map (hl_v (hl_ad B0 sa))).toArray s (hl_n rr.2 - hl_n w) (hl_sz rr.2 - hl_sz w) (fun q => B0 ≤ q)) B0 sa D cA (hl_n w) (hl_sz w) j rr := by
    intro pc ls H locs hH1 hS
    refine ⟨fun x hv hq hd => ?_, fun x hv hq hd => ?_, fun hv hq hd => ?_⟩
    · have post : ∀ t : State, t.heap = H → s.WarmedH t.vm → hl_Q B0 sa D cA rr (as.map (hl_v (hl_ad B0 sa))).toArray s (.returned (some (.int x))) t := fun t ht _ => ⟨by rw [hv]; rfl, by rw [ht]; exact hH1, hS.F ht⟩
      rcases hq with hq | ⟨hq, hx01⟩
      · exact W.iret B.exec B.bytes (B.returns.trans (by simp only [hl_ret, hq])) post hS.2.2 hd
      · exact W.zret (ty := .boolean) B.exec B.bytes (B.returns.trans (by simp only [hl_ret, hq])) (by rcases hx01 with rfl | rfl <;> rfl) post hS.2.2 hd
    · exact W.lret B.exec B.bytes (B.returns.trans (by simp only [hl_ret, hq])) (fun t ht _ => ⟨by rw [hv]; rfl, by rw [ht]; exact hH1, hS.F ht⟩) hS.2.2 hd
    · exact W.vret B.exec B.bytes (B.returns.trans (by simp only [hl_ret, hq])) (fun t ht _ => ⟨by rw [hv]; rfl, by rw [ht]; exact hH1, hS.F ht⟩) hS.2.2 hd
  have g := (hl_walk (nL := hl_m j) (n0 := hl_n w) (s0 := hl_sz w) hC hO ⟨Nat.le_refl _, Nat.le_refl _⟩ rfl hLv n 0 _ [] w hn).2 (Nat.le_refl _) (Nat.le_refl _) _ s.heap [] (hl_entry hlen) hH va_S.rf
  rw [Nat.sub_self, Nat.sub_self] at g
  rw [lg_entry_eq]
  exact g
theorem hl_ok {l : Launch} {B0 : Nat} {sa : Nat → Nat} {D : va_G} {cA : Nat → ClassId} {E : State → Prop} (hEC : hl_EC B0 E) (hEX : hl_EX l B0 sa E) (d : Nat) : hl_Ok l B0 sa D cA E d (hl_call d) := by
  induction d with
  | zero => intro j as w r h; simp [hl_call] at h
  | succ d ih =>
    intro j as w r h
    have hup := hl_call_up (d + 1) j as w r h
    rw [hl_call] at h
    dsimp only at h
    split at h
    · next hk3 =>
      split at h
      · next h12 =>
        cases hv : hl_ext j as with
        | none => rw [hv] at h; simp at h
        | some v =>
          rw [hv] at h
          simp at h
          subst h
          exact ⟨hup, fun q => by omega, fun _ => ⟨h12, v, rfl, rfl⟩⟩
      · cases h
    · next hk3 =>
      split at h
      · next hq =>
        obtain ⟨hkd, hj, hlen⟩ := hq
        exact ⟨hup, fun _ => hl_meet hEC hEX ih (hl_jok hj hkd) hlen (hl_Run_iff.mp h), fun q => absurd q hk3⟩
      · cases h
