/-! each step of the small machine is the machine's -/
def hl_rm (d mc ms : Nat) : Room := { frames := d, cells := mc, slots := ms, locals := 64 * d }
def hl_ws (j : Nat) : List Cond := Cond.code (hl_y j) (hl_b j) (hl_m j) (hl_ret j) :: hl_G
def hl_B (B0 : Nat) (sa : Nat → Nat) (D : va_G) (cA : Nat → ClassId) (E : State → Prop) (w : hl_W) (U : State) : Prop := hl_H B0 sa D cA w U.heap ∧ va_K D hl_cl (hl_tys cA) U ∧ (∀ x ∈ hl_nest, va_Nw x U) ∧ va_AO "HourLines$Text" U ∧ E U
def hl_Q (B0 : Nat) (sa : Nat → Nat) (D : va_G) (cA : Nat → ClassId) (r : hl_Rt) : Array Value → State → Outcome → State → Prop := fun _ st o t => o = .returned (r.1.map (hl_v (hl_ad B0 sa))) ∧ hl_H B0 sa D cA r.2 t.heap ∧ va_F (fun q => B0 ≤ q) st t
def hl_Met (l : Launch) (B0 : Nat) (sa : Nat → Nat) (D : va_G) (cA : Nat → ClassId) (E : State → Prop) (d j : Nat) (args : List Value) (w : hl_W) (r : hl_Rt) : Prop :=
  Met l (hl_y j) (hl_ws j) (hl_rm d (hl_n r.2 - hl_n w) (hl_sz r.2 - hl_sz w)) (va_Pc (args.map (hl_v (hl_ad B0 sa))) (hl_B B0 sa D cA E w)) (hl_Q B0 sa D cA r) (hl_n r.2 - hl_n w) (hl_sz r.2 - hl_sz w) (fun q => B0 ≤ q)
/-- what is known of the calls of depth d -/
def hl_Ok (l : Launch) (B0 : Nat) (sa : Nat → Nat) (D : va_G) (cA : Nat → ClassId) (E : State → Prop) (d : Nat) (cO : hl_C) : Prop := ∀ (j : Nat) (as : List Value) (w : hl_W) (r : hl_Rt), cO j as w = some r → (hl_n w ≤ hl_n r.2 ∧ hl_sz w ≤ hl_sz r.2) ∧ (hl_kd j < 3 → hl_Met l B0 sa D cA E d j as w r) ∧ (hl_kd j = 3 → 12 ≤ d ∧ ∃ v, hl_ext j as = some v ∧ r = (some v, w))
/-- the extra knowledge of a start (the two texts) goes along -/
def hl_EC (B0 : Nat) (E : State → Prop) : Prop := (∀ U U' : State, U'.vm = U.vm → U'.heap = U.heap → E U → E U') ∧ ∀ s U : State, E s → s.WarmedH U.vm → (∀ q : Nat, q < B0 → U.heap[q]? = s.heap[q]?) → E U
def hl_EX (l : Launch) (B0 : Nat) (sa : Nat → Nat) (E : State → Prop) : Prop :=
  (∀ (p : Program) (e : Env) (R : Room) (s : State) (m : MethodId) (args : Array Value) (below : List Frame) (meth : Method) (c : Code) (H : Heap) (locs : List Loc) (cells slots : Nat) (Q : State → Prop) (pc : Nat) (ls : Array Slot) (rest : List Value) (j : Nat) (as : List Value) (v : Value) (o ix : Nat),
    p.tables.exec = Jvm.exec → s.vm.findClass (hl_R o) = some m.cls → (∀ x ∈ hl_G, x.before args s = true) → E s → B0 ≤ s.heap.size → va_S (fun q => B0 ≤ q) s.heap H locs → 12 ≤ R.frames → 768 ≤ R.locals → cells ≤ R.cells → slots ≤ R.slots → c.maxLocals = ls.size → hl_ml o ix = some j → hl_kd j = 3 → hl_ext j as = some v → (rest.map fun v => v.category).sum ≤ 8 → decode c.code pc = .ok (.invokevirtual ix, 3) →
    W p l e R s m args below meth c H locs cells slots Q (F0 m (pc + 3) ls (hl_v (hl_ad B0 sa) v :: rest)) → W p l e R s m args below meth c H locs cells slots Q (F0 m pc ls ((as.map (hl_v (hl_ad B0 sa))).reverse ++ rest))) ∧
  (∀ (p : Program) (e : Env) (R : Room) (s : State) (m : MethodId) (args : Array Value) (below : List Frame) (meth : Method) (c : Code) (H : Heap) (locs : List Loc) (cells slots : Nat) (Q : State → Prop) (pc : Nat) (ls : Array Slot) (rest : List Value) (q o ix : Nat),
    p.tables.exec = Jvm.exec → s.vm.findClass (hl_R o) = some m.cls → E s → hl_str o ix = some q → decode c.code pc = .ok (.ldc ix, 2) →
    W p l e R s m args below meth c H locs cells slots Q (F0 m (pc + 2) ls (.ref (hl_ad B0 sa q) :: rest)) → W p l e R s m args below meth c H locs cells slots Q (F0 m pc ls rest))
def hl_Good (p : Program) (l : Launch) (e : Env) (R : Room) (s : State) (m : MethodId) (args : Array Value) (below : List Frame) (meth : Method) (c : Code) (Q : State → Prop) (B0 : Nat) (sa : Nat → Nat) (D : va_G) (cA : Nat → ClassId) (nL n0 s0 : Nat) (rr : hl_Rt) (pc : Nat) (L st : List Value) (w : hl_W) : Prop :=
  (hl_n w ≤ hl_n rr.2 ∧ hl_sz w ≤ hl_sz rr.2) ∧ (n0 ≤ hl_n w → s0 ≤ hl_sz w → ∀ (ls : Array Slot) (H : Heap) (locs : List Loc), hl_LR (hl_ad B0 sa) ls nL L → hl_H B0 sa D cA w H → va_S (fun q => B0 ≤ q) s.heap H locs → W p l e R s m args below meth c H locs (hl_n w - n0) (hl_sz w - s0) Q (F0 m pc ls (st.map (hl_v (hl_ad B0 sa)))))
/-- what is fixed in a method's frame -/
def hl_Cx (p : Program) (l : Launch) (R : Room) (s : State) (m : MethodId) (args : Array Value) (meth : Method) (c : Code) (B0 : Nat) (sa : Nat → Nat) (D : va_G) (cA : Nat → ClassId) (E : State → Prop) (j d : Nat) : Prop :=
  p.tables.exec = Jvm.exec ∧ c.code = hl_b j ∧ c.maxLocals = hl_m j ∧ s.vm.findClass (hl_R (hl_o j)) = some m.cls ∧ (∀ x ∈ hl_G, x.before args s = true) ∧ va_K D hl_cl (hl_tys cA) s ∧ (∀ x ∈ hl_nest, va_Nw x s) ∧ va_AO "HourLines$Text" s ∧ E s ∧ B0 ≤ s.heap.size ∧ (hl_kd j = 2 → meth.name = "<init>") ∧ d + 1 ≤ R.frames ∧ 64 * d + 64 ≤ R.locals ∧ hl_EC B0 E ∧ hl_EX l B0 sa E
theorem hl_tgE {pc t : Nat} {off : Int} (h : hl_tg pc off = some t) : (pc : Int) + off = (t : Int) := by
  unfold hl_tg at h
  split at h
  · next n hn => cases h; exact hn
  · cases h
section HLG
variable {p : Program} {l : Launch} {e : Env} {R : Room} {s : State} {m : MethodId} {args : Array Value} {below : List Frame} {meth : Method} {c : Code} {Q : State → Prop}
variable {B0 : Nat} {sa : Nat → Nat} {D : va_G} {cA : Nat → ClassId} {E : State → Prop} {nL n0 s0 j d : Nat} {rr : hl_Rt} {pc pc' : Nat} {L L' st st' : List Value} {w w' : hl_W}
/-- a step that leaves locals and world -/
theorem hl_gp (g : hl_Good p l e R s m args below meth c Q B0 sa D cA nL n0 s0 rr pc' L st' w) (row : ∀ (ls : Array Slot) (H : Heap) (locs : List Loc) (cells slots : Nat), hl_LR (hl_ad B0 sa) ls nL L → hl_H B0 sa D cA w H → va_S (fun q => B0 ≤ q) s.heap H locs → cells ≤ hl_n rr.2 - n0 → slots ≤ hl_sz rr.2 - s0 → W p l e R s m args below meth c H locs cells slots Q (F0 m pc' ls (st'.map (hl_v (hl_ad B0 sa)))) → W p l e R s m args below meth c H locs cells slots Q (F0 m pc ls (st.map (hl_v (hl_ad B0 sa))))) : hl_Good p l e R s m args below meth c Q B0 sa D cA nL n0 s0 rr pc L st w :=
  ⟨g.1, fun h0 h1 ls H locs hL hH hS => row ls H locs _ _ hL hH hS (Nat.sub_le_sub_right g.1.1 _) (Nat.sub_le_sub_right g.1.2 _) (g.2 h0 h1 ls H locs hL hH hS)⟩
/-- a step that writes a place of the locals -/
theorem hl_gl (g : hl_Good p l e R s m args below meth c Q B0 sa D cA nL n0 s0 rr pc' L' st' w) (row : ∀ (ls : Array Slot) (H : Heap) (locs : List Loc) (cells slots : Nat), hl_LR (hl_ad B0 sa) ls nL L → (∀ ls' : Array Slot, hl_LR (hl_ad B0 sa) ls' nL L' → W p l e R s m args below meth c H locs cells slots Q (F0 m pc' ls' (st'.map (hl_v (hl_ad B0 sa))))) → W p l e R s m args below meth c H locs cells slots Q (F0 m pc ls (st.map (hl_v (hl_ad B0 sa))))) : hl_Good p l e R s m args below meth c Q B0 sa D cA nL n0 s0 rr pc L st w :=
  ⟨g.1, fun h0 h1 ls H locs hL hH hS => row ls H locs _ _ hL (fun ls' hL' => g.2 h0 h1 ls' H locs hL' hH hS)⟩
/-- a step that writes the world -/
theorem hl_gw (hn : hl_n w' = hl_n w) (hk : hl_k w' = hl_k w) (g : hl_Good p l e R s m args below meth c Q B0 sa D cA nL n0 s0 rr pc' L st' w') (row : ∀ (ls : Array Slot) (H : Heap) (locs : List Loc) (cells slots : Nat), hl_LR (hl_ad B0 sa) ls nL L → hl_H B0 sa D cA w H → va_S (fun q => B0 ≤ q) s.heap H locs → (∀ (H1 : Heap) (locs1 : List Loc), hl_H B0 sa D cA w' H1 → va_S (fun q => B0 ≤ q) s.heap H1 locs1 → W p l e R s m args below meth c H1 locs1 cells slots Q (F0 m pc' ls (st'.map (hl_v (hl_ad B0 sa))))) → W p l e R s m args below meth c H locs cells slots Q (F0 m pc ls (st.map (hl_v (hl_ad B0 sa))))) : hl_Good p l e R s m args below meth c Q B0 sa D cA nL n0 s0 rr pc L st w := by
  have hz : hl_sz w' = hl_sz w := hl_sz_eq hn hk
  refine ⟨by rw [← hn, ← hz]; exact g.1, fun h0 h1 ls H locs hL hH hS => row ls H locs _ _ hL hH hS (fun H1 locs1 hH1 hS1 => ?_)⟩
  have := g.2 (by rw [hn]; exact h0) (by rw [hz]; exact h1) ls H1 locs1 hL hH1 hS1
  rw [hn, hz] at this
  exact this
/-- a step that makes a cell -/
theorem hl_gn {t N : Nat} (hR : hl_n rr.2 - n0 ≤ R.cells ∧ hl_sz rr.2 - s0 ≤ R.slots) (g : hl_Good p l e R s m args below meth c Q B0 sa D cA nL n0 s0 rr pc' L st' (hl_new w t N)) (row : ∀ (ls : Array Slot) (H : Heap) (locs : List Loc) (cells slots : Nat), hl_LR (hl_ad B0 sa) ls nL L → hl_H B0 sa D cA w H → va_S (fun q => B0 ≤ q) s.heap H locs → cells + 1 ≤ R.cells → slots + N ≤ R.slots → (∀ H1 : Heap, hl_H B0 sa D cA (hl_new w t N) H1 → va_S (fun q => B0 ≤ q) s.heap H1 locs → W p l e R s m args below meth c H1 locs (cells + 1) (slots + N) Q (F0 m pc' ls (st'.map (hl_v (hl_ad B0 sa))))) → W p l e R s m args below meth c H locs cells slots Q (F0 m pc ls (st.map (hl_v (hl_ad B0 sa))))) : hl_Good p l e R s m args below meth c Q B0 sa D cA nL n0 s0 rr pc L st w := by
  have hn : hl_n (hl_new w t N) = hl_n w + 1 := rfl
  have hz := hl_sz_new w t N
  have g1 := g.1
  rw [hn, hz] at g1
  refine ⟨⟨by omega, by omega⟩, fun h0 h1 ls H locs hL hH hS => row ls H locs _ _ hL hH hS (by omega) (by omega) (fun H1 hH1 hS1 => ?_)⟩
  have := g.2 (by rw [hn]; omega) (by rw [hz]; omega) ls H1 locs hL hH1 hS1
  rw [hn, hz, show hl_n w + 1 - n0 = hl_n w - n0 + 1 by omega, show hl_sz w + N - s0 = hl_sz w - s0 + N by omega] at this
  exact this
theorem hl_jpE {k : Nat → List Value → List Value → hl_W → Option hl_Rt} {off : Int} (h : hl_nx k (hl_jp pc off L st w) = some rr) : ∃ t : Nat, (pc : Int) + off = (t : Int) ∧ k t L st w = some rr := by
  unfold hl_jp at h
  split at h
  · next t ht => exact ⟨t, hl_tgE ht, h⟩
  · simp [hl_nx] at h
theorem hl_ifE {k : Nat → List Value → List Value → hl_W → Option hl_Rt} {q : Bool} {off : Int} (h : hl_nx k (hl_if q pc off L st w) = some rr) : ∃ t : Nat, (pc : Int) + off = (t : Int) ∧ ((q = true ∧ k t L st w = some rr) ∨ (q = false ∧ k (pc + 3) L st w = some rr)) := by
  unfold hl_if at h
  split at h
  · next t ht =>
    refine ⟨t, hl_tgE ht, ?_⟩
    split at h
    · next hq => exact Or.inl ⟨hq, h⟩
    · next hq => exact Or.inr ⟨by simpa using hq, h⟩
  · simp [hl_nx] at h

theorem hl_g_get {k : Nat → List Value → List Value → hl_W → Option hl_Rt} (hC : hl_Cx p l R s m args meth c B0 sa D cA E j d) {ix : Nat} (hd : decode (hl_b j) pc = .ok (.getfield ix, 3)) (h : hl_nx k (hl_get (hl_o j) ix pc L st w) = some rr) (hk : ∀ (pc : Nat) (L st : List Value) (w : hl_W), k pc L st w = some rr → hl_Good p l e R s m args below meth c Q B0 sa D cA nL n0 s0 rr pc L st w) : hl_Good p l e R s m args below meth c Q B0 sa D cA nL n0 s0 rr pc L st w := by
  obtain ⟨hx, hb, hml, hown, hts, hK, hNs, hAO, hE, hB0, hini, hRf, hRl, hEC, hEX⟩ := hC
  unfold hl_get at h
  split at h
  · next a st' =>
    split at h
    · next ci kk hfl =>
      split at h
      · next hob =>
        obtain ⟨C, T, N, hcl, hkN, hTC, hlink⟩ := hl_fok hfl
        obtain ⟨ha, hka⟩ := hl_obE hob
        rw [hl_NE hcl] at hka
        obtain ⟨ty, huw, -⟩ := hl_cok hcl
        have row : ∀ (ls : Array Slot) (H : Heap) (locs : List Loc) (cells slots : Nat), hl_H B0 sa D cA w H → W p l e R s m args below meth c H locs cells slots Q (F0 m (pc + 3) ls (hl_fv (hl_ad B0 sa) w ci a kk :: st'.map (hl_v (hl_ad B0 sa)))) → W p l e R s m args below meth c H locs cells slots Q (F0 m pc ls (.ref (hl_ad B0 sa a) :: st'.map (hl_v (hl_ad B0 sa)))) := by
          intro ls H locs cells slots hH g
          have he := hl_cz_at (ad := hl_ad B0 sa) (cA := cA) ha
          rw [hl_ce_ob hka] at he
          have hv : ((List.range N).map (hl_fv (hl_ad B0 sa) w ci a))[kk]? = some (hl_fv (hl_ad B0 sa) w ci a kk) := by simp [hkN]
          rcases hlink with hlk | ⟨host, hlk, -⟩
          · exact va_get hx hb hts huw hown hK hH.2.2 a he hcl kk hkN (hts _ hlk) (by rw [hTC]; exact fun _ h => h) hv hd g
          · exact va_getN hx hb hts huw hown hK hH.2.2 a he hcl kk hkN (va_Nw.use rfl (hNs _ hlk)) (by rw [hTC]; exact fun _ h => h) hv hd g
        split at h
        · next hf =>
          have ev : hl_fv (hl_ad B0 sa) w ci a kk = .int (hl_I w a kk) := by simp only [hl_fv, hf]
          rw [ev] at row
          exact hl_gp (hk _ _ _ _ h) (fun ls H locs cells slots _ hH _ _ _ g => row ls H locs cells slots hH g)
        · next hf =>
          have ev : hl_fv (hl_ad B0 sa) w ci a kk = .long (hl_J w a kk) := by simp only [hl_fv, hf]
          rw [ev] at row
          exact hl_gp (hk _ _ _ _ h) (fun ls H locs cells slots _ hH _ _ _ g => row ls H locs cells slots hH g)
        · next hf =>
          have ev : hl_fv (hl_ad B0 sa) w ci a kk = hl_v (hl_ad B0 sa) (va_rf (hl_P w a kk)) := by
            simp only [hl_fv, hf]
            cases hl_P w a kk <;> rfl
          rw [ev] at row
          exact hl_gp (hk _ _ _ _ h) (fun ls H locs cells slots _ hH _ _ _ g => row ls H locs cells slots hH g)
        · next hf =>
          have ev : hl_fv (hl_ad B0 sa) w ci a kk = .int (hl_I w a kk) := by simp only [hl_fv, hf]
          rw [ev] at row
          exact hl_gp (hk _ _ _ _ h) (fun ls H locs cells slots _ hH _ _ _ g => row ls H locs cells slots hH g)
        · simp [hl_nx] at h
      · simp [hl_nx] at h
    · simp [hl_nx] at h
  · simp [hl_nx] at h
theorem hl_g_put {k : Nat → List Value → List Value → hl_W → Option hl_Rt} (hC : hl_Cx p l R s m args meth c B0 sa D cA E j d) {ix : Nat} (hd : decode (hl_b j) pc = .ok (.putfield ix, 3)) (h : hl_nx k (hl_put (hl_o j) (hl_kd j == 2) ix pc L st w) = some rr) (hk : ∀ (pc : Nat) (L st : List Value) (w : hl_W), k pc L st w = some rr → hl_Good p l e R s m args below meth c Q B0 sa D cA nL n0 s0 rr pc L st w) : hl_Good p l e R s m args below meth c Q B0 sa D cA nL n0 s0 rr pc L st w := by
  obtain ⟨hx, hb, hml, hown, hts, hK, hNs, hAO, hE, hB0, hini, hRf, hRl, hEC, hEX⟩ := hC
  unfold hl_put at h
  split at h
  · next v a st' =>
    split at h
    · next ci kk hfl =>
      split at h
      · next hcond =>
        have hfin : hl_fin ci kk = false ∨ (meth.name = "<init>" ∧ hl_o j = ci) := hcond.2.imp id (fun q => ⟨hini (by simpa using q.1), q.2⟩)
        split at h
        · next hf =>
          split at h
          · next x =>
            refine hl_gw (w' := hl_sI w a kk x) rfl rfl (hk _ _ _ _ h) (fun ls H locs cells slots _ hH hS g => hl_r_put (w' := hl_sI w a kk x) hx hb hown hts hNs hK hH hS hfl hcond.1 hfin rfl rfl (fun b hb' => hl_ce_sI hb') ?_ ?_ ?_ hd g)
            · simp only [hl_fv, hf, hl_I_sI, hl_up_eq, if_true]; rfl
            · intro i hi
              simp only [hl_fv, hl_I_sI, hl_J_sI, hl_P_sI, hl_up_eq, if_neg hi]
            · rintro ty (⟨-, rfl⟩ | ⟨f, -⟩ | ⟨f, -⟩ | ⟨f, -⟩)
              · exact ⟨rfl, rfl⟩
              all_goals rw [hf] at f; cases f
          · simp [hl_nx] at h
        · next hf =>
          split at h
          · next x =>
            refine hl_gw (w' := hl_sJ w a kk x) rfl rfl (hk _ _ _ _ h) (fun ls H locs cells slots _ hH hS g => hl_r_put (w' := hl_sJ w a kk x) hx hb hown hts hNs hK hH hS hfl hcond.1 hfin rfl rfl (fun b hb' => hl_ce_sJ hb') ?_ ?_ ?_ hd g)
            · simp only [hl_fv, hf, hl_J_sJ, hl_up_eq, if_true]; rfl
            · intro i hi
              have hP : hl_P (hl_sJ w a kk x) = hl_P w := rfl
              simp only [hl_fv, hl_I_sJ, hl_J_sJ, hP, hl_up_eq, if_neg hi]
            · rintro ty (⟨f, -⟩ | ⟨-, rfl⟩ | ⟨f, -⟩ | ⟨f, -⟩)
              rotate_left 1
              · exact ⟨rfl, rfl⟩
              all_goals rw [hf] at f; cases f
          · simp [hl_nx] at h
        · next hf =>
          split at h
          · next x =>
            refine hl_gw (w' := hl_sP w a kk (some x)) rfl rfl (hk _ _ _ _ h) (fun ls H locs cells slots _ hH hS g => hl_r_put (w' := hl_sP w a kk (some x)) hx hb hown hts hNs hK hH hS hfl hcond.1 hfin rfl rfl (fun b hb' => hl_ce_sP hb') ?_ ?_ ?_ hd g)
            · have hP : hl_P (hl_sP w a kk (some x)) = hl_up (hl_P w) a kk (some x) := rfl
              simp only [hl_fv, hf, hP, hl_up_eq, if_true]; rfl
            · intro i hi
              have hP : hl_P (hl_sP w a kk (some x)) = hl_up (hl_P w) a kk (some x) := rfl
              have hI : hl_I (hl_sP w a kk (some x)) = hl_I w := rfl
              have hJ : hl_J (hl_sP w a kk (some x)) = hl_J w := rfl
              simp only [hl_fv, hP, hI, hJ, hl_up_eq, if_neg hi]
            · rintro ty (⟨f, -⟩ | ⟨f, -⟩ | ⟨f, -⟩ | ⟨-, ⟨n, rfl⟩ | ⟨n, rfl⟩⟩)
              rotate_left 3
              · exact ⟨rfl, rfl⟩
              · exact ⟨rfl, rfl⟩
              all_goals rw [hf] at f; cases f
          · simp [hl_nx] at h
        · next hf =>
          split at h
          · next x =>
            split at h
            · next hbit =>
              refine hl_gw (w' := hl_sI w a kk x) rfl rfl (hk _ _ _ _ h) (fun ls H locs cells slots _ hH hS g => hl_r_put (w' := hl_sI w a kk x) hx hb hown hts hNs hK hH hS hfl hcond.1 hfin rfl rfl (fun b hb' => hl_ce_sI hb') ?_ ?_ ?_ hd g)
              · simp only [hl_fv, hf, hl_I_sI, hl_up_eq, if_true]; rfl
              · intro i hi
                simp only [hl_fv, hl_I_sI, hl_J_sI, hl_P_sI, hl_up_eq, if_neg hi]
              · rintro ty (⟨f, -⟩ | ⟨f, -⟩ | ⟨-, rfl⟩ | ⟨f, -⟩)
                rotate_left 2
                · rcases hbit with rfl | rfl <;> exact ⟨rfl, rfl⟩
                all_goals rw [hf] at f; cases f
            · simp [hl_nx] at h
          · simp [hl_nx] at h
        · simp [hl_nx] at h
      · simp [hl_nx] at h
    · simp [hl_nx] at h
  · simp [hl_nx] at h
theorem hl_blind {av : List Value} (hEC : hl_EC B0 E) : FrameBlind (va_Pc av (hl_B B0 sa D cA E w)) := by
  intro a U g mk ⟨h1, h2, h3, h4, h5, h6⟩
  exact ⟨h1, h2, va_K.moved (u := U) (U := U.calling g mk a) (Vm.Alike.refl U.vm) h3, fun x hx => (by
    have : (U.calling g mk a).vm = U.vm := rfl
    exact va_tabs (by have := hl_nest_tab x hx; exact this) this.symm (h4 x hx)), va_AO.moved (u := U) (U := U.calling g mk a) (Vm.Alike.refl U.vm) h5, hEC.1 U _ rfl rfl h6⟩
theorem hl_pre {av : List Value} (hEC : hl_EC B0 E) (hK : va_K D hl_cl (hl_tys cA) s) (hNs : ∀ x ∈ hl_nest, va_Nw x s) (hAO : va_AO "HourLines$Text" s) (hE : E s) (hB0 : B0 ≤ s.heap.size) {H : Heap} {locs : List Loc} (hH : hl_H B0 sa D cA w H) (hS : va_S (fun q => B0 ≤ q) s.heap H locs) : ∀ U : State, U.heap = H → s.WarmedH U.vm → va_Pc av (hl_B B0 sa D cA E w) av.toArray U := by
  intro U hU hW
  refine ⟨rfl, by rw [hU]; exact hH, va_K.moved hW.alike hK, fun x hx => hl_nest_warm x hx hW (hNs x hx), va_AO.moved hW.alike hAO, hEC.2 s U hE hW (fun q hq => ?_)⟩
  rw [hU]
  exact hS.2.1 q (by omega) (by omega)
theorem hl_gin (j : Nat) (hc : Cond.code (hl_y j) (hl_b j) (hl_m j) (hl_ret j) ∈ hl_G) : GoodIn hl_G (hl_ws j) := by
  intro x hx
  rcases List.mem_cons.mp hx with rfl | hx
  · exact hl_G_good _ hc
  · exact hl_G_good _ hx
/-- behind a call -/
theorem hl_back {r : hl_Rt} {ls : Array Slot} {H : Heap} {locs : List Loc} {cells slots mc ms : Nat} {rest st0 : List Value} {a' : Array Value} (hr : va_Run p l e R s m args below meth c H locs cells slots mc ms (F0 m pc ls st0) rest (hl_Q B0 sa D cA r a') (fun q => B0 ≤ q)) (hS : va_S (fun q => B0 ≤ q) s.heap H locs)
    (kk : ∀ (H1 : Heap) (locs1 : List Loc), hl_H B0 sa D cA r.2 H1 → va_S (fun q => B0 ≤ q) s.heap H1 locs1 → W p l e R s m args below meth c H1 locs1 (cells + mc) (slots + ms) Q (F0 m (pc + 3) ls ((r.1.map (hl_v (hl_ad B0 sa))).toList ++ rest))) : W p l e R s m args below meth c H locs cells slots Q (F0 m pc ls st0) := by
  intro T hT X
  obtain ⟨v, st₀, t, T', Lc, h0, X', hL, e1, e2, ⟨hv, hH1, hz, hkp⟩, st⟩ := hr T hT X
  have hv' : v = r.1.map (hl_v (hl_ad B0 sa)) := Outcome.returned.inj hv
  subst hv'
  rw [h0] at hz hkp
  obtain ⟨t2, a1, b1⟩ := kk T'.heap (locs ++ Lc) (by rw [e1]; exact hH1) ⟨Nat.le_trans hS.1 (by rw [e1]; exact hz), fun q h1 h2 => by rw [e1, hkp q (Nat.lt_of_lt_of_le h1 hS.1) h2]; exact hS.2.1 q h1 h2, fun q hq => by
      rcases List.mem_append.mp hq with h | h
      · exact hS.2.2 q h
      · exact hL q h⟩ T' rfl X'
  exact ⟨t2, st t2 a1, b1⟩
/-- a step that is a call of a method of mine -/
theorem hl_gc {r : hl_Rt} {j' : Nat} {as rest : List Value} (hR : hl_n rr.2 - n0 ≤ R.cells ∧ hl_sz rr.2 - s0 ≤ R.slots) (hmono : hl_n w ≤ hl_n r.2 ∧ hl_sz w ≤ hl_sz r.2) (g : hl_Good p l e R s m args below meth c Q B0 sa D cA nL n0 s0 rr (pc + 3) L (r.1.toList ++ rest) r.2)
    (run : ∀ (ls : Array Slot) (H : Heap) (locs : List Loc) (cells slots : Nat), hl_LR (hl_ad B0 sa) ls nL L → hl_H B0 sa D cA w H → va_S (fun q => B0 ≤ q) s.heap H locs → cells + (hl_n r.2 - hl_n w) ≤ R.cells ∧ slots + (hl_sz r.2 - hl_sz w) ≤ R.slots → ∃ a' : Array Value, va_Run p l e R s m args below meth c H locs cells slots (hl_n r.2 - hl_n w) (hl_sz r.2 - hl_sz w) (F0 m pc ls (st.map (hl_v (hl_ad B0 sa)))) (rest.map (hl_v (hl_ad B0 sa))) (hl_Q B0 sa D cA r a') (fun q => B0 ≤ q)) : hl_Good p l e R s m args below meth c Q B0 sa D cA nL n0 s0 rr pc L st w := by
  refine ⟨⟨Nat.le_trans hmono.1 g.1.1, Nat.le_trans hmono.2 g.1.2⟩, fun h0 h1 ls H locs hL hH hS => ?_⟩
  have g1 := g.1
  obtain ⟨a', hr⟩ := run ls H locs (hl_n w - n0) (hl_sz w - s0) hL hH hS ⟨by omega, by omega⟩
  refine hl_back hr hS (fun H1 locs1 hH1 hS1 => ?_)
  have := g.2 (by omega) (by omega) ls H1 locs1 hL hH1 hS1
  rw [show hl_n r.2 - n0 = hl_n w - n0 + (hl_n r.2 - hl_n w) by omega, show hl_sz r.2 - s0 = hl_sz w - s0 + (hl_sz r.2 - hl_sz w) by omega] at this
  rw [List.map_append] at this
  have e1 : r.1.toList.map (hl_v (hl_ad B0 sa)) = (r.1.map (hl_v (hl_ad B0 sa))).toList := by cases r.1 <;> rfl
  rw [e1] at this
  exact this
theorem hl_sumv (ad : Nat → Nat) (l : List Value) : ((l.map (hl_v ad)).map fun v => v.category).sum = (l.map fun v => v.category).sum := by
  rw [List.map_map]
  congr 1
  apply List.map_congr_left
  intro v _
  exact hl_v_cat ad v
theorem hl_lowE {l : List Value} (ad : Nat → Nat) (h : hl_low l = true) : ((l.map (hl_v ad)).map fun v => v.category).sum ≤ 8 := by
  rw [hl_sumv]
  simpa [hl_low] using h
theorem hl_split {n : Nat} (ad : Nat → Nat) (st : List Value) : st.map (hl_v ad) = ((st.take n).reverse.map (hl_v ad)).reverse ++ (st.drop n).map (hl_v ad) := by
  rw [List.map_reverse, List.reverse_reverse, ← List.map_append, List.take_append_drop]
theorem hl_cB {o ix j' mc ms : Nat} (hjo : hl_jOK j') (hts : ∀ x ∈ hl_G, x.before args s = true) (hlk : Cond.methodLink (hl_R o) ix (hl_y j') ∈ hl_G) (hR : d + 1 ≤ R.frames ∧ 64 * d + 64 ≤ R.locals) : CallB R s args (hl_R o) ix (hl_y j') (hl_b j') (hl_m j') (hl_ret j') (hl_ws j') (hl_rm d mc ms) mc ms (hl_a j') := by
  obtain ⟨⟨h1, h2, h3, h4, h5, h6⟩, -⟩ := hjo
  exact callB_of _ hts (hl_gin _ h3) rfl rfl rfl (hts _ h4) (hts _ hlk) h5 ⟨hR.1, by show 8 + (hl_m j' + 11) + 64 * d ≤ _; omega⟩
theorem hl_cN {o ix j' mc ms : Nat} {host : String} (hjo : hl_jOK j') (hts : ∀ x ∈ hl_G, x.before args s = true) (hNs : ∀ x ∈ hl_nest, va_Nw x s) (hlk : Cond.methodLinkNest (hl_R o) ix (hl_y j') host ∈ hl_nest) (hR : d + 1 ≤ R.frames ∧ 64 * d + 64 ≤ R.locals) : va_CN R s args (hl_R o) ix (hl_y j') host (hl_b j') (hl_m j') (hl_ret j') (hl_ws j') (hl_rm d mc ms) mc ms (hl_a j') := by
  obtain ⟨⟨h1, h2, h3, h4, h5, h6⟩, -⟩ := hjo
  exact va_cnB _ hts (hl_gin _ h3) rfl rfl rfl (hNs _ hlk) (hts _ h4) h5 ⟨hR.1, by show 8 + (hl_m j' + 11) + 64 * d ≤ _; omega⟩
theorem hl_mon : 2 * (F0 m pc (#[] : Array Slot) st).monitorRoom = 0 := rfl
theorem hl_takeL {n : Nat} {l : List Value} (h : n ≤ l.length) (ad : Nat → Nat) : ((l.take n).reverse.map (hl_v ad)).length = n := by simp; omega
theorem hl_bkE {k : Nat → List Value → List Value → hl_W → Option hl_Rt} {rest : List Value} {r : Option hl_Rt} (h : hl_nx k (hl_bk pc L rest r) = some rr) : ∃ r', r = some r' ∧ k (pc + 3) L (r'.1.toList ++ rest) r'.2 = some rr := by
  cases r with
  | none => simp [hl_bk, hl_nx] at h
  | some r' => exact ⟨r', rfl, h⟩
theorem hl_g_cS {k : Nat → List Value → List Value → hl_W → Option hl_Rt} {cO : hl_C} (hC : hl_Cx p l R s m args meth c B0 sa D cA E j d) (hO : hl_Ok l B0 sa D cA E d cO) (hR : hl_n rr.2 - n0 ≤ R.cells ∧ hl_sz rr.2 - s0 ≤ R.slots) (hnL : nL = hl_m j) {ix : Nat} (hd : decode (hl_b j) pc = .ok (.invokestatic ix, 3)) (h : hl_nx k (hl_cS (hl_o j) ix pc cO L st w) = some rr) (hk : ∀ (pc : Nat) (L st : List Value) (w : hl_W), k pc L st w = some rr → hl_Good p l e R s m args below meth c Q B0 sa D cA nL n0 s0 rr pc L st w) : hl_Good p l e R s m args below meth c Q B0 sa D cA nL n0 s0 rr pc L st w := by
  obtain ⟨hx, hb, hml, hown, hts, hK, hNs, hAO, hE, hB0, hini, hRf, hRl, hEC, hEX⟩ := hC
  unfold hl_cS at h
  split at h
  · next j' hj' =>
    have hmk := hl_mok hj'
    split at h
    · next h1 =>
      subst h1
      have hlk : Cond.methodLink (hl_R (hl_o j)) ix arraycopyName ∈ hl_G := by
        rcases hmk with q | ⟨_, _, q⟩
        · rw [hl_acw.1] at q; exact q
        · exact absurd q (by decide +kernel)
      unfold hl_acp at h
      split at h
      · next n dp b sp a st' =>
        split at h
        · next hq =>
          obtain ⟨hlow, hab, h1, h2, h3, h4, h5⟩ := hq
          refine hl_gw (w' := hl_copy w a b sp dp n) rfl rfl (hk _ _ _ _ h) (fun ls H locs cells slots hL hH hS g => ?_)
          exact hl_r_copy hx hb (by rw [hml, ← hnL]; exact hL.2.1.symm) hown (hts _ hlk) (hts _ hl_acw.2.1) (hts _ hl_acw.2.2.1) (hts _ hl_acw.2.2.2) hK hH hS hab h1 h2 h3 h4 h5 (by omega) (by have := hl_lowE (hl_ad B0 sa) hlow; omega) hd g
        · simp [hl_nx] at h
      · simp [hl_nx] at h
    · next h1 =>
      split at h
      · next h4 =>
        have hlk : Cond.methodLink (hl_R (hl_o j)) ix (hl_y j') ∈ hl_G := by
          rcases hmk with q | ⟨_, _, q⟩
          · exact q
          · omega
        unfold hl_lib at h
        split at h
        · next e => 
          subst e
          rw [hl_mw259.1] at hlk
          split at h
          · next x st' =>
            split at h
            · next hlow => exact hl_gp (hk _ _ _ _ h) (fun ls H locs cells slots hL hH hS hc1 hs1 g => va_mabs hx hb (by rw [hml, ← hnL]; exact hL.2.1.symm) hown (hts _ hlk) (hts _ hl_mw259.2.1) (hts _ hl_mwi) (hts _ hl_mw259.2.2) (by omega) (by have := hl_lowE (hl_ad B0 sa) hlow; omega) (by omega) (by omega) hd g)
            · simp [hl_nx] at h
          · simp [hl_nx] at h
        · split at h
          · next e =>
            subst e
            rw [hl_mw260.1] at hlk
            split at h
            · next y x st' =>
              split at h
              · next hlow => exact hl_gp (hk _ _ _ _ h) (fun ls H locs cells slots hL hH hS hc1 hs1 g => va_mmax hx hb (by rw [hml, ← hnL]; exact hL.2.1.symm) hown (hts _ hlk) (hts _ hl_mw260.2.1) (hts _ hl_mwi) (hts _ hl_mw260.2.2) (by omega) (by have := hl_lowE (hl_ad B0 sa) hlow; omega) (by omega) (by omega) hd g)
              · simp [hl_nx] at h
            · simp [hl_nx] at h
          · split at h
            · next e =>
              subst e
              rw [hl_mw261.1] at hlk
              split at h
              · next y x st' =>
                split at h
                · next hlow => exact hl_gp (hk _ _ _ _ h) (fun ls H locs cells slots hL hH hS hc1 hs1 g => va_mmin hx hb (by rw [hml, ← hnL]; exact hL.2.1.symm) hown (hts _ hlk) (hts _ hl_mw261.2.1) (hts _ hl_mwi) (hts _ hl_mw261.2.2) (by omega) (by have := hl_lowE (hl_ad B0 sa) hlow; omega) (by omega) (by omega) hd g)
                · simp [hl_nx] at h
              · simp [hl_nx] at h
            · split at h
              · next e =>
                subst e
                rw [hl_mw262.1] at hlk
                split at h
                · next y x st' =>
                  split at h
                  · next hlow => exact hl_gp (hk _ _ _ _ h) (fun ls H locs cells slots hL hH hS hc1 hs1 g => va_mmin_long hx hb (by rw [hml, ← hnL]; exact hL.2.1.symm) hown (hts _ hlk) (hts _ hl_mw262.2.1) (hts _ hl_mwi) (hts _ hl_mw262.2.2) (by omega) (by have := hl_lowE (hl_ad B0 sa) hlow; omega) (by omega) (by omega) hd g)
                  · simp [hl_nx] at h
                · simp [hl_nx] at h
              · simp [hl_nx] at h
      · next h4 =>
        split at h
        · next hq =>
          obtain ⟨hkd, hlen, hlow⟩ := hq
          obtain ⟨r', hr', hkr⟩ := hl_bkE h
          obtain ⟨hmono, hMet, -⟩ := hO _ _ _ _ hr'
          have hjo := hl_jok (hl_ml_lt hj') (by omega : hl_kd j' < 3)
          have hMet := hMet (by omega)
          refine hl_gc (j' := j') (as := []) hR hmono (hk _ _ _ _ hkr) (fun ls H locs cells slots hL hH hS hcs => ⟨((st.take (hl_a j')).reverse.map (hl_v (hl_ad B0 sa))).toArray, ?_⟩)
          have hst := hl_split (n := hl_a j') (hl_ad B0 sa) st
          rcases hmk with hlk | ⟨host, hlk, -⟩
          · exact va_runS (As := (st.take (hl_a j')).reverse.map (hl_v (hl_ad B0 sa))) ⟨hx, hb, hml, hown, hts⟩ hMet ⟨hl_cB hjo hts hlk ⟨hRf, hRl⟩, hts _ (hjo.2.1 hkd)⟩ ⟨hl_blind hEC, hl_pre hEC hK hNs hAO hE hB0 hH hS⟩ rfl (hl_takeL hlen _) (hL.2.1.trans hnL) hst (by have := hl_lowE (hl_ad B0 sa) hlow; show 2 * 0 + _ ≤ 8; omega) hd hcs
          · exact va_runSN (As := (st.take (hl_a j')).reverse.map (hl_v (hl_ad B0 sa))) ⟨hx, hb, hml, hown, hts⟩ hMet ⟨hl_cN hjo hts hNs hlk ⟨hRf, hRl⟩, hts _ (hjo.2.1 hkd), trivial⟩ ⟨hl_blind hEC, hl_pre hEC hK hNs hAO hE hB0 hH hS⟩ rfl (hl_takeL hlen _) (hL.2.1.trans hnL) hst (by have := hl_lowE (hl_ad B0 sa) hlow; show 2 * 0 + _ ≤ 8; omega) hd hcs
        · simp [hl_nx] at h
  · simp [hl_nx] at h
theorem hl_split2 {n a : Nat} {rest : List Value} (ad : Nat → Nat) (st : List Value) (hr : st.drop n = .ref a :: rest) : st.map (hl_v ad) = ((st.take n).reverse.map (hl_v ad)).reverse ++ .ref (ad a) :: rest.map (hl_v ad) := by
  rw [hl_split (n := n) ad st, hr]
  rfl
theorem hl_g_cV {k : Nat → List Value → List Value → hl_W → Option hl_Rt} {cO : hl_C} (hC : hl_Cx p l R s m args meth c B0 sa D cA E j d) (hO : hl_Ok l B0 sa D cA E d cO) (hR : hl_n rr.2 - n0 ≤ R.cells ∧ hl_sz rr.2 - s0 ≤ R.slots) (hnL : nL = hl_m j) {ix : Nat} (hd : decode (hl_b j) pc = .ok (.invokevirtual ix, 3)) (h : hl_nx k (hl_cV (hl_o j) ix pc cO L st w) = some rr) (hk : ∀ (pc : Nat) (L st : List Value) (w : hl_W), k pc L st w = some rr → hl_Good p l e R s m args below meth c Q B0 sa D cA nL n0 s0 rr pc L st w) : hl_Good p l e R s m args below meth c Q B0 sa D cA nL n0 s0 rr pc L st w := by
  obtain ⟨hx, hb, hml, hown, hts, hK, hNs, hAO, hE, hB0, hini, hRf, hRl, hEC, hEX⟩ := hC
  unfold hl_cV at h
  split at h
  · next j' hj' =>
    have hmk := hl_mok hj'
    split at h
    · next a rest hdrop =>
      split at h
      · next hq =>
        obtain ⟨hlen, hlow⟩ := hq
        have hst := hl_split2 (hl_ad B0 sa) st hdrop
        split at h
        · next hq2 =>
          obtain ⟨hkd, hob⟩ := hq2
          obtain ⟨r', hr', hkr⟩ := hl_bkE h
          obtain ⟨hmono, hMet, -⟩ := hO _ _ _ _ hr'
          have hjo := hl_jok (hl_ml_lt hj') (by omega : hl_kd j' < 3)
          have hMet := hMet (by omega)
          refine hl_gc (j' := j') (as := []) hR hmono (hk _ _ _ _ hkr) (fun ls H locs cells slots hL hH hS hcs => ⟨(Value.ref (hl_ad B0 sa a) :: (st.take (hl_a j')).reverse.map (hl_v (hl_ad B0 sa))).toArray, ?_⟩)
          obtain ⟨ha, hka⟩ := hl_obE hob
          have he := hl_cz_at (ad := hl_ad B0 sa) (cA := cA) ha
          rw [hl_ce_ob hka] at he
          obtain ⟨q0, hq0⟩ : ∃ q, hl_cl[hl_o j']? = some q := by
            obtain ⟨r, hr, -⟩ := hH.2.2 a _ he
            exact ⟨r, hr⟩
          have hrecv := va_recv hK hH.2.2 hq0 he
          obtain ⟨C, T, N⟩ := q0
          obtain ⟨ty, -, -, -, -, -, -, hCR⟩ := hl_cok hq0
          have hyc : (hl_y j').cls = C := by rw [hjo.1.2.1, hCR]
          have hw2 := hjo.2.2.1 hkd
          rw [hyc] at hw2
          rcases hmk with hlk | ⟨host, hlk, -⟩
          · exact va_runV (As := (st.take (hl_a j')).reverse.map (hl_v (hl_ad B0 sa))) (C := C) ⟨hx, hb, hml, hown, hts⟩ hMet ⟨hl_cB hjo hts hlk ⟨hRf, hRl⟩, hts _ hw2.1, hts _ hw2.2⟩ ⟨hl_blind hEC, hrecv, hl_pre hEC hK hNs hAO hE hB0 hH hS⟩ rfl (hl_takeL hlen _) (hL.2.1.trans hnL) hst (by have := hl_lowE (hl_ad B0 sa) hlow; show 2 * 0 + _ ≤ 8; omega) hd hcs
          · exact va_runVN (As := (st.take (hl_a j')).reverse.map (hl_v (hl_ad B0 sa))) (C := C) ⟨hx, hb, hml, hown, hts⟩ hMet ⟨hl_cN hjo hts hNs hlk ⟨hRf, hRl⟩, hts _ hw2.1, hts _ hw2.2⟩ ⟨hl_blind hEC, hrecv, hl_pre hEC hK hNs hAO hE hB0 hH hS⟩ rfl (hl_takeL hlen _) (hL.2.1.trans hnL) hst (by have := hl_lowE (hl_ad B0 sa) hlow; show 2 * 0 + _ ≤ 8; omega) hd hcs
        · split at h
          · next hkd =>
            obtain ⟨r', hr', hkr⟩ := hl_bkE h
            obtain ⟨hmono, -, hX⟩ := hO _ _ _ _ hr'
            obtain ⟨h12, v, hv, hrv⟩ := hX hkd
            subst hrv
            refine hl_gp (hk _ _ _ _ hkr) (fun ls H locs cells slots hL hH hS hc1 hs1 g => ?_)
            have hst2 : st.map (hl_v (hl_ad B0 sa)) = ((Value.ref a :: (st.take (hl_a j')).reverse).map (hl_v (hl_ad B0 sa))).reverse ++ rest.map (hl_v (hl_ad B0 sa)) := by
              rw [hst, List.map_cons, List.reverse_cons, List.append_assoc]
              rfl
            rw [hst2]
            exact hEX.1 p e R s m args below meth c H locs cells slots Q pc ls _ j' _ v (hl_o j) ix hx hown hts hE hB0 hS (by omega) (by omega) (by omega) (by omega) (by rw [hml, ← hnL]; exact hL.2.1.symm) hj' hkd hv (hl_lowE (hl_ad B0 sa) hlow) (by rw [hb]; exact hd) g
          · simp [hl_nx] at h
      · simp [hl_nx] at h
    · simp [hl_nx] at h
  · simp [hl_nx] at h
theorem hl_g_cI {k : Nat → List Value → List Value → hl_W → Option hl_Rt} {cO : hl_C} (hC : hl_Cx p l R s m args meth c B0 sa D cA E j d) (hO : hl_Ok l B0 sa D cA E d cO) (hR : hl_n rr.2 - n0 ≤ R.cells ∧ hl_sz rr.2 - s0 ≤ R.slots) (hnL : nL = hl_m j) {ix : Nat} (hd : decode (hl_b j) pc = .ok (.invokespecial ix, 3)) (h : hl_nx k (hl_cI (hl_o j) ix pc cO L st w) = some rr) (hk : ∀ (pc : Nat) (L st : List Value) (w : hl_W), k pc L st w = some rr → hl_Good p l e R s m args below meth c Q B0 sa D cA nL n0 s0 rr pc L st w) : hl_Good p l e R s m args below meth c Q B0 sa D cA nL n0 s0 rr pc L st w := by
  obtain ⟨hx, hb, hml, hown, hts, hK, hNs, hAO, hE, hB0, hini, hRf, hRl, hEC, hEX⟩ := hC
  unfold hl_cI at h
  split at h
  · next j' hj' =>
    have hmk := hl_mok hj'
    split at h
    · next h0 =>
      subst h0
      have hlk : Cond.methodLink (hl_R (hl_o j)) ix Lib.objectInit ∈ hl_G := by
        rcases hmk with q | ⟨_, _, q⟩
        · rw [hl_oiw.1] at q; exact q
        · exact absurd q (by decide +kernel)
      split at h
      · next a rest =>
        split at h
        · next hlow =>
          exact hl_gp (hk _ _ _ _ h) (fun ls H locs cells slots hL hH hS hc1 hs1 g => W.objInit hx hb hown (hts _ hlk) (hts _ hl_oiw.2.1) (hts _ hl_oiw.2.2) (g := F0 m pc ls _) rfl (by rw [hml, ← hnL]; exact hL.2.1) rfl hd (by omega) (by have := hl_lowE (hl_ad B0 sa) hlow; show 2 * 0 + _ + 12 ≤ _; omega) g)
        · simp [hl_nx] at h
      · simp [hl_nx] at h
    · next h0 =>
      split at h
      · next a rest hdrop =>
        split at h
        · next hq =>
          obtain ⟨hlen, hlow, hkd⟩ := hq
          have hst := hl_split2 (hl_ad B0 sa) st hdrop
          obtain ⟨r', hr', hkr⟩ := hl_bkE h
          obtain ⟨hmono, hMet, -⟩ := hO _ _ _ _ hr'
          have hjo := hl_jok (hl_ml_lt hj') (by omega : hl_kd j' < 3)
          have hMet := hMet (by omega)
          obtain ⟨hw1, hw2, hw3⟩ := hjo.2.2.2 hkd
          refine hl_gc (j' := j') (as := []) hR hmono (hk _ _ _ _ hkr) (fun ls H locs cells slots hL hH hS hcs => ⟨(Value.ref (hl_ad B0 sa a) :: (st.take (hl_a j')).reverse.map (hl_v (hl_ad B0 sa))).toArray, ?_⟩)
          rcases hmk with hlk | ⟨host, hlk, -⟩
          · have hcb := hl_cB (mc := hl_n r'.2 - hl_n w) (ms := hl_sz r'.2 - hl_sz w) hjo hts hlk ⟨hRf, hRl⟩
            rw [hw3] at hcb
            exact va_runI (As := (st.take (hl_a j')).reverse.map (hl_v (hl_ad B0 sa))) ⟨hx, hb, hml, hown, hts⟩ hMet ⟨hcb, hw1, hts _ hw2⟩ ⟨hl_blind hEC, hl_pre hEC hK hNs hAO hE hB0 hH hS⟩ rfl (hl_takeL hlen _) (hL.2.1.trans hnL) hst (by have := hl_lowE (hl_ad B0 sa) hlow; show 2 * 0 + _ ≤ 8; omega) hd hcs
          · have hcb := hl_cN (mc := hl_n r'.2 - hl_n w) (ms := hl_sz r'.2 - hl_sz w) hjo hts hNs hlk ⟨hRf, hRl⟩
            rw [hw3] at hcb
            exact va_runIN (As := (st.take (hl_a j')).reverse.map (hl_v (hl_ad B0 sa))) ⟨hx, hb, hml, hown, hts⟩ hMet ⟨hcb, hw1, hts _ hw2⟩ ⟨hl_blind hEC, hl_pre hEC hK hNs hAO hE hB0 hH hS⟩ rfl (hl_takeL hlen _) (hL.2.1.trans hnL) hst (by have := hl_lowE (hl_ad B0 sa) hlow; show 2 * 0 + _ ≤ 8; omega) hd hcs
        · simp [hl_nx] at h
      · simp [hl_nx] at h
  · simp [hl_nx] at h
end HLG
