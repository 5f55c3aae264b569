/-! runs that may read the script too (the law's own; printed by wip/whole/gen_law.py) -/
def hl_iA (ins : Instr) : Bool := match ins with
  | .iaload => true
  | _ => false
def hl_iL (ins : Instr) : Bool := match ins with
  | .arraylength => true
  | _ => false
theorem hl_iA_eq {ins : Instr} (h : hl_iA ins = true) : ins = .iaload := by
  unfold hl_iA at h
  split at h
  · rfl
  · cases h
theorem hl_iL_eq {ins : Instr} (h : hl_iL ins = true) : ins = .arraylength := by
  unfold hl_iL at h
  split at h
  · rfl
  · cases h
def hl_s2q (st : List Value) : Bool := match st with
  | .int _ :: .ref a :: _ => a == 1000003
  | _ => false
def hl_s1r (st : List Value) : Bool := match st with
  | .ref a :: _ => a == 1000003
  | _ => false
def hl_rdA (xs : Nat → Int32) (Ln pc : Nat) (L st : List Value) (w : hl_W) : hl_O := match st with
  | .int i :: _ :: r => if hl_inb i Ln = true then hl_go (pc + 1) L (.int (xs i.toNatClampNeg) :: r) w else none
  | _ => none
def hl_rdL (Ln pc : Nat) (L st : List Value) (w : hl_W) : hl_O := match st with
  | _ :: r => hl_go (pc + 1) L (.int (Int32.ofNat Ln) :: r) w
  | _ => none
def hl_lstep (xs : Nat → Int32) (Ln o rk : Nat) (ini : Bool) (ins : Instr) (pc : Nat) (c : hl_C) (L st : List Value) (w : hl_W) : hl_O :=
  if (hl_iA ins && hl_s2q st) = true then hl_rdA xs Ln pc L st w else if (hl_iL ins && hl_s1r st) = true then hl_rdL Ln pc L st w else hl_step o rk ini ins pc c L st w
def hl_lrun (xs : Nat → Int32) (Ln j : Nat) (c : hl_C) : Nat → Nat → List Value → List Value → hl_W → Option hl_Rt
  | 0, _, _, _, _ => none
  | n + 1, pc, L, st, w => (match decode (hl_b j) pc with
    | .ok (ins, len) => if hl_len ins len = true then hl_nx (hl_lrun xs Ln j c n) (hl_lstep xs Ln (hl_o j) (hl_rk j) (hl_kd j == 2) ins pc c L st w) else none
    | .error _ => none)
theorem hl_lrun_s {xs : Nat → Int32} {Ln : Nat} {j n pc : Nat} {c : hl_C} {L st : List Value} {w : hl_W} {r : hl_Rt} (h : hl_lrun xs Ln j c n pc L st w = some r) : hl_lrun xs Ln j c (n + 1) pc L st w = some r := by
  induction n generalizing pc L st w with
  | zero => simp [hl_lrun] at h
  | succ n ih =>
    rw [hl_lrun] at h ⊢
    cases hd : decode (hl_b j) pc with
    | error e => rw [hd] at h; simp at h
    | ok q =>
      obtain ⟨ins, len⟩ := q
      rw [hd] at h
      dsimp only at h ⊢
      split at h
      · next hl =>
        rw [if_pos hl]
        cases hs : hl_lstep xs Ln (hl_o j) (hl_rk j) (hl_kd j == 2) ins pc c L st w with
        | none => rw [hs] at h; simp [hl_nx] at h
        | some x =>
          rw [hs] at h
          cases x with
          | inl y =>
            obtain ⟨a, b, d, e⟩ := y
            exact ih h
          | inr y => exact h
      · cases h
theorem hl_lrun_le {xs : Nat → Int32} {Ln : Nat} {j n m pc : Nat} {c : hl_C} {L st : List Value} {w : hl_W} {r : hl_Rt} (h : hl_lrun xs Ln j c n pc L st w = some r) (hm : n ≤ m) : hl_lrun xs Ln j c m pc L st w = some r := by
  obtain ⟨k, rfl⟩ := Nat.exists_eq_add_of_le hm
  induction k with
  | zero => exact h
  | succ k ih => exact hl_lrun_s (ih (Nat.le_add_right _ _))
noncomputable def hl_LRun (xs : Nat → Int32) (Ln j : Nat) (c : hl_C) (pc : Nat) (L st : List Value) (w : hl_W) : Option hl_Rt :=
  @dite _ (∃ r, ∃ n, hl_lrun xs Ln j c n pc L st w = some r) (Classical.propDecidable _) (fun h => some (Classical.choose h)) (fun _ => none)
theorem hl_LRun_iff {xs : Nat → Int32} {Ln : Nat} {j pc : Nat} {c : hl_C} {L st : List Value} {w : hl_W} {r : hl_Rt} : hl_LRun xs Ln j c pc L st w = some r ↔ ∃ n, hl_lrun xs Ln j c n pc L st w = some r := by
  unfold hl_LRun
  by_cases h : ∃ r, ∃ n, hl_lrun xs Ln j c n pc L st w = some r
  · rw [dif_pos h]
    obtain ⟨n, hn⟩ := Classical.choose_spec h
    constructor
    · intro e
      cases e
      exact ⟨n, hn⟩
    · rintro ⟨m, hm⟩
      have h1 := hl_lrun_le hn (Nat.le_max_left n m)
      have h2 := hl_lrun_le hm (Nat.le_max_right n m)
      rw [h1] at h2
      exact h2
  · rw [dif_neg h]
    constructor
    · intro e; cases e
    · intro e; exact absurd ⟨r, e⟩ h
theorem hl_LRun_at {xs : Nat → Int32} {Ln : Nat} {j pc len : Nat} {c : hl_C} {L st : List Value} {w : hl_W} {ins : Instr} (hd : decode (hl_b j) pc = .ok (ins, len)) (hl : hl_len ins len = true) :
    hl_LRun xs Ln j c pc L st w = hl_nx (hl_LRun xs Ln j c) (hl_lstep xs Ln (hl_o j) (hl_rk j) (hl_kd j == 2) ins pc c L st w) := by
  have key : ∀ r, hl_LRun xs Ln j c pc L st w = some r ↔ hl_nx (hl_LRun xs Ln j c) (hl_lstep xs Ln (hl_o j) (hl_rk j) (hl_kd j == 2) ins pc c L st w) = some r := by
    intro r
    rw [hl_LRun_iff]
    cases hs : hl_lstep xs Ln (hl_o j) (hl_rk j) (hl_kd j == 2) ins pc c L st w with
    | none =>
      simp only [hl_nx]
      constructor
      · rintro ⟨n, hn⟩
        cases n with
        | zero => simp [hl_lrun] at hn
        | succ n => rw [hl_lrun, hd] at hn; simp [hl, hs, hl_nx] at hn
      · intro e; cases e
    | some x =>
      cases x with
      | inl y =>
        obtain ⟨a, b, d, e⟩ := y
        simp only [hl_nx]
        rw [hl_LRun_iff]
        constructor
        · rintro ⟨n, hn⟩
          cases n with
          | zero => simp [hl_lrun] at hn
          | succ n => rw [hl_lrun, hd] at hn; simp only [hl, hs, hl_nx, if_true] at hn; exact ⟨n, hn⟩
        · rintro ⟨n, hn⟩
          refine ⟨n + 1, ?_⟩
          rw [hl_lrun, hd]
          simp only [hl, hs, hl_nx, if_true]
          exact hn
      | inr y =>
        simp only [hl_nx]
        constructor
        · rintro ⟨n, hn⟩
          cases n with
          | zero => simp [hl_lrun] at hn
          | succ n => rw [hl_lrun, hd] at hn; simp only [hl, hs, hl_nx, if_true] at hn; exact hn
        · intro e
          refine ⟨1, ?_⟩
          rw [hl_lrun, hd]
          simp only [hl, hs, hl_nx, if_true]
          exact e
  cases h1 : hl_LRun xs Ln j c pc L st w with
  | some r => exact ((key r).mp h1).symm
  | none =>
    cases h2 : hl_nx (hl_LRun xs Ln j c) (hl_lstep xs Ln (hl_o j) (hl_rk j) (hl_kd j == 2) ins pc c L st w) with
    | none => rfl
    | some r => rw [(key r).mpr h2] at h1; cases h1
section HLS
variable {p : Program} {l : Launch} {e : Env} {R : Room} {s : State} {m : MethodId} {args : Array Value} {below : List Frame} {meth : Method} {c : Code} {Q : State → Prop} {B0 : Nat} {sa : Nat → Nat} {D : va_G} {cA : Nat → ClassId} {E : State → Prop} {n0 s0 nL pc j d : Nat} {rr : hl_Rt} {L st : List Value} {w : hl_W} {xs : Nat → Int32} {Ln : Nat}
theorem hl_lone {k : Nat → List Value → List Value → hl_W → Option hl_Rt} {cO : hl_C} (hX : va_X (sa 1000003) Ln xs s s.heap) (hX1 : sa 1000003 < s.heap.size) (hX2 : sa 1000003 < B0) (hC : hl_Cx p l R s m args meth c B0 sa D cA E j d) (hO : hl_Ok l B0 sa D cA E d cO) (hR : hl_n rr.2 - n0 ≤ R.cells ∧ hl_sz rr.2 - s0 ≤ R.slots) (hnL : nL = hl_m j) (hLv : hl_Lv p l e R s m args below meth c Q B0 sa D cA n0 s0 j rr) {ins : Instr} {len : Nat} (hd : decode (hl_b j) pc = .ok (ins, len)) (hl : hl_len ins len = true) (h : hl_nx k (hl_lstep xs Ln (hl_o j) (hl_rk j) (hl_kd j == 2) ins pc cO L st w) = some rr) (hk : ∀ (pc : Nat) (L st : List Value) (w : hl_W), k pc L st w = some rr → hl_Good p l e R s m args below meth c Q B0 sa D cA nL n0 s0 rr pc L st w) : hl_Good p l e R s m args below meth c Q B0 sa D cA nL n0 s0 rr pc L st w := by
  have hsc : hl_ad B0 sa 1000003 = sa 1000003 := if_neg (by omega)
  unfold hl_lstep at h
  split at h
  · next hq =>
    rw [Bool.and_eq_true] at hq
    obtain ⟨h1, h2⟩ := hq
    obtain rfl := hl_iA_eq h1
    unfold hl_s2q at h2
    split at h2
    · next i a r =>
      obtain rfl : a = 1000003 := by simpa using h2
      simp only [hl_rdA] at h
      split at h
      · next hin =>
        have g := hk _ _ _ _ h
        have hlen1 : len = 1 := by simpa [hl_len] using hl
        subst hlen1
        unfold hl_inb at hin
        rw [Bool.and_eq_true, decide_eq_true_eq, decide_eq_true_eq] at hin
        refine hl_gp g (fun ls H locs cells slots hL hH hS _ _ kk => ?_)
        show W p l e R s m args below meth c H locs cells slots Q (F0 m pc ls (.int i :: .ref (hl_ad B0 sa 1000003) :: r.map (hl_v (hl_ad B0 sa))))
        rw [hsc]
        refine va_sld (b := sa 1000003) (L := Ln) hC.1 hC.2.1 hX hX1 (Nat.not_le.mpr hX2) hS (i := i) (fun q => ?_) hd ?_
        · rcases q with q | q
          · exact hin.1 q
          · exact absurd hin.2 (Nat.not_lt.mpr q)
        · exact kk
      · cases h
    · cases h2
  · split at h
    · next hq =>
      rw [Bool.and_eq_true] at hq
      obtain ⟨h1, h2⟩ := hq
      obtain rfl := hl_iL_eq h1
      unfold hl_s1r at h2
      split at h2
      · next a r _ =>
        obtain rfl : a = 1000003 := by simpa using h2
        simp only [hl_rdL] at h
        have g := hk _ _ _ _ h
        have hlen1 : len = 1 := by simpa [hl_len] using hl
        subst hlen1
        refine hl_gp g (fun ls H locs cells slots hL hH hS _ _ kk => ?_)
        show W p l e R s m args below meth c H locs cells slots Q (F0 m pc ls (.ref (hl_ad B0 sa 1000003) :: r.map (hl_v (hl_ad B0 sa))))
        rw [hsc]
        exact va_slen (b := sa 1000003) (L := Ln) hC.1 hC.2.1 hX hX1 (Nat.not_le.mpr hX2) hS hd kk
      · cases h2
    · exact hl_one hC hO hR hnL hLv hd hl h hk
theorem hl_lwalk {cO : hl_C} (hX : va_X (sa 1000003) Ln xs s s.heap) (hX1 : sa 1000003 < s.heap.size) (hX2 : sa 1000003 < B0) (hC : hl_Cx p l R s m args meth c B0 sa D cA E j d) (hO : hl_Ok l B0 sa D cA E d cO) (hR : hl_n rr.2 - n0 ≤ R.cells ∧ hl_sz rr.2 - s0 ≤ R.slots) (hnL : nL = hl_m j) (hLv : hl_Lv p l e R s m args below meth c Q B0 sa D cA n0 s0 j rr) (n : Nat) : ∀ (pc : Nat) (L st : List Value) (w : hl_W), hl_lrun xs Ln j cO n pc L st w = some rr → hl_Good p l e R s m args below meth c Q B0 sa D cA nL n0 s0 rr pc L st w := by
  induction n with
  | zero => intro pc L st w h; simp [hl_lrun] at h
  | succ n ih =>
    intro pc L st w h
    rw [hl_lrun] at h
    split at h
    · next ins len hd =>
      split at h
      · next hl => exact hl_lone hX hX1 hX2 hC hO hR hnL hLv hd hl h ih
      · cases h
    · cases h
end HLS
/-- a run that reads the script is a contract too -/
theorem hl_lmeet {l : Launch} {B0 : Nat} {sa : Nat → Nat} {D : va_G} {cA : Nat → ClassId} {E : State → Prop} (hEC : hl_EC B0 E) (hEX : hl_EX l B0 sa E) {d j : Nat} {cO : hl_C} (hO : hl_Ok l B0 sa D cA E d cO) (hj : hl_jOK j) {as : List Value} {w : hl_W} {rr : hl_Rt} {xs : Nat → Int32} {Ln : Nat} (hES : ∀ U : State, E U → B0 ≤ U.heap.size → va_X (sa 1000003) Ln xs U U.heap ∧ sa 1000003 < B0) (hlen : (hl_lay as).length ≤ hl_m j) (h : ∃ n, hl_lrun xs Ln j cO n 0 (hl_ent (hl_m j) as) [] w = some rr) : hl_Met l B0 sa D cA E (d + 1) j as w rr := by
  obtain ⟨n, hn⟩ := h
  unfold hl_Met
  refine Met.ofW (cc := hl_b j) (maxL := hl_m j) (ret := hl_ret j) hj.1.1 rfl ?_
  intro p e s m args below meth c s₁ B hml hP
  obtain ⟨rfl, hH, hK, hNs, hAO, hE⟩ := hP
  have hts0 : ∀ x ∈ hl_ws j, x.before (as.map (hl_v (hl_ad B0 sa))).toArray s = true := atoms_spec (ws := hl_ws j) B.pre
  have hts : ∀ x ∈ hl_G, x.before (as.map (hl_v (hl_ad B0 sa))).toArray s = true := fun x hx => hts0 x (List.mem_cons_of_mem _ hx)
  have hown : s.vm.findClass (hl_R (hl_o j)) = some m.cls := by
    rw [← hj.1.2.1]
    exact findClass_of_methodNamed B.named
  have hini : hl_kd j = 2 → meth.name = "<init>" := fun q => (name_of_methodNamed B.named B.method).1.trans (hj.2.2.2 q).1
  have hC : hl_Cx p l (headSpec (hl_ws j) (hl_rm (d + 1) (hl_n rr.2 - hl_n w) (hl_sz rr.2 - hl_sz w))).room s m (as.map (hl_v (hl_ad B0 sa))).toArray meth c B0 sa D cA E j d :=
    ⟨B.exec, B.bytes, hml, hown, hts, hK, hNs, hAO, hE, by have := hH.1; omega, hini, Nat.le_refl _, by show 64 * d + 64 ≤ 64 * (d + 1); omega, hEC, hEX⟩
  have hLv : hl_Lv p l e (headSpec (hl_ws j) (hl_rm (d + 1) (hl_n rr.2 - hl_n w) (hl_sz rr.2 - hl_sz w))).room s m (as.map (hl_v (hl_ad B0 sa))).toArray below meth c (MQ below (hl_Q B0 sa D cA rr) (as.map (hl_v (hl_ad B0 sa))).toArray s (hl_n rr.2 - hl_n w) (hl_sz rr.2 - hl_sz w) (fun q => B0 ≤ q)) B0 sa D cA (hl_n w) (hl_sz w) j rr := by
    intro pc ls H locs hH1 hS
    refine ⟨fun x hv hq hd => ?_, fun x hv hq hd => ?_, fun hv hq hd => ?_⟩
    · have post : ∀ t : State, t.heap = H → s.WarmedH t.vm → hl_Q B0 sa D cA rr (as.map (hl_v (hl_ad B0 sa))).toArray s (.returned (some (.int x))) t := fun t ht _ => ⟨by rw [hv]; rfl, by rw [ht]; exact hH1, hS.F ht⟩
      rcases hq with hq | ⟨hq, hx01⟩
      · exact W.iret B.exec B.bytes (B.returns.trans (by simp only [hl_ret, hq])) post hS.2.2 hd
      · exact W.zret (ty := .boolean) B.exec B.bytes (B.returns.trans (by simp only [hl_ret, hq])) (by rcases hx01 with rfl | rfl <;> rfl) post hS.2.2 hd
    · exact W.lret B.exec B.bytes (B.returns.trans (by simp only [hl_ret, hq])) (fun t ht _ => ⟨by rw [hv]; rfl, by rw [ht]; exact hH1, hS.F ht⟩) hS.2.2 hd
    · exact W.vret B.exec B.bytes (B.returns.trans (by simp only [hl_ret, hq])) (fun t ht _ => ⟨by rw [hv]; rfl, by rw [ht]; exact hH1, hS.F ht⟩) hS.2.2 hd
  obtain ⟨hX, hX2⟩ := hES s hE (by have := hH.1; omega)
  have g := (hl_lwalk hX (by have := hH.1; omega) hX2 (nL := hl_m j) (n0 := hl_n w) (s0 := hl_sz w) hC hO ⟨Nat.le_refl _, Nat.le_refl _⟩ rfl hLv n 0 _ [] w hn).2 (Nat.le_refl _) (Nat.le_refl _) _ s.heap [] (hl_entry hlen) hH va_S.rf
  rw [Nat.sub_self, Nat.sub_self] at g
  rw [lg_entry_eq]
  exact g
/-- the law's oracle: the calls, and the law's own reading of the script -/
noncomputable def hl_lO (xs : Nat → Int32) (Ln d : Nat) : hl_C := fun j as w => if j = 264 then (match as with
  | [.ref a, .int k] => if a = 1000003 ∧ hl_inb k 2 = true then some (some (.int (if k < Int32.ofNat Ln then xs k.toNatClampNeg else 0)), w) else none
  | _ => none) else hl_call d j as w
