/-! rows over worlds of my machine: what writes, what makes, what calls -/
theorem hl_obE {w : hl_W} {a ci : Nat} (h : hl_ob w a ci = true) : a < hl_n w ∧ hl_k w a = (ci + 4, hl_N ci) := by simpa [hl_ob] using h
theorem hl_arE {w : hl_W} {a t : Nat} (h : hl_ar w a t = true) : a < hl_n w ∧ (hl_k w a).1 = t := by simpa [hl_ar] using h
theorem hl_inE {i : Int32} {n : Nat} (h : hl_inb i n = true) : vp_in i n := by
  simp only [hl_inb, Bool.and_eq_true, decide_eq_true_eq] at h
  exact fun q => q.elim h.1 (fun q => absurd h.2 (Nat.not_lt.mpr q))
theorem hl_NE {ci N : Nat} {C : String} {T : u_T} (h : hl_cl[ci]? = some (C, T, N)) : hl_N ci = N := by
  unfold hl_N
  rw [h]
theorem hl_ce_ob {ad : Nat → Nat} {cA : Nat → ClassId} {w : hl_W} {a ci N : Nat} (h : hl_k w a = (ci + 4, N)) : hl_ce ad cA w a = .inr (ci, (List.range N).map (hl_fv ad w ci a)) := by
  unfold hl_ce
  rw [h]
theorem hl_ce_0 {ad : Nat → Nat} {cA : Nat → ClassId} {w : hl_W} {a : Nat} (h : (hl_k w a).1 = 0) : hl_ce ad cA w a = .inl (cA 0, (hl_k w a).2, .inl (hl_I w a)) := by
  have e : hl_k w a = (0, (hl_k w a).2) := by rw [← h]
  unfold hl_ce
  rw [e]
theorem hl_ce_1 {ad : Nat → Nat} {cA : Nat → ClassId} {w : hl_W} {a : Nat} (h : (hl_k w a).1 = 1) : hl_ce ad cA w a = .inl (cA 1, (hl_k w a).2, .inr (.inl (hl_J w a))) := by
  have e : hl_k w a = (1, (hl_k w a).2) := by rw [← h]
  unfold hl_ce
  rw [e]
theorem hl_ce_2 {ad : Nat → Nat} {cA : Nat → ClassId} {w : hl_W} {a : Nat} (h : (hl_k w a).1 = 2) : hl_ce ad cA w a = .inl (cA 2, (hl_k w a).2, .inl (hl_I w a)) := by
  have e : hl_k w a = (2, (hl_k w a).2) := by rw [← h]
  unfold hl_ce
  rw [e]
theorem hl_ce_3 {ad : Nat → Nat} {cA : Nat → ClassId} {w : hl_W} {a : Nat} (h : (hl_k w a).1 = 3) : hl_ce ad cA w a = .inl (cA 3, (hl_k w a).2, .inr (.inr (.inr (.inr (fun i => (hl_P w a i).map ad))))) := by
  have e : hl_k w a = (3, (hl_k w a).2) := by rw [← h]
  unfold hl_ce
  rw [e]
theorem hl_up_ne {α : Type} (f : Nat → Nat → α) {a b : Nat} (i : Nat) (v : α) (h : b ≠ a) : hl_up f a i v b = f b := by
  funext j
  show (if b = a then _ else _) = _
  rw [if_neg h]
theorem hl_up_eq {α : Type} (f : Nat → Nat → α) (a i : Nat) (v : α) : hl_up f a i v a = fun j => if j = i then v else f a j := by
  funext j
  show (if a = a then _ else _) = _
  rw [if_pos rfl]
theorem hl_row_ne {α : Type} (f : Nat → Nat → α) {a b : Nat} (g : Nat → α) (h : b ≠ a) : hl_row f a g b = f b := by
  funext j
  show (if b = a then _ else _) = _
  rw [if_neg h]
theorem hl_row_eq {α : Type} (f : Nat → Nat → α) (a : Nat) (g : Nat → α) : hl_row f a g a = g := by
  funext j
  show (if a = a then _ else _) = _
  rw [if_pos rfl]
theorem hl_ce_sI {ad : Nat → Nat} {cA : Nat → ClassId} {w : hl_W} {a b i : Nat} {v : Int32} (h : b ≠ a) : hl_ce ad cA (hl_sI w a i v) b = hl_ce ad cA w b := hl_ce_congr rfl rfl (hl_up_ne _ _ _ h) rfl
theorem hl_ce_sJ {ad : Nat → Nat} {cA : Nat → ClassId} {w : hl_W} {a b i : Nat} {v : Int64} (h : b ≠ a) : hl_ce ad cA (hl_sJ w a i v) b = hl_ce ad cA w b := hl_ce_congr rfl rfl rfl (hl_up_ne _ _ _ h)
theorem hl_ce_sP {ad : Nat → Nat} {cA : Nat → ClassId} {w : hl_W} {a b i : Nat} {v : Option Nat} (h : b ≠ a) : hl_ce ad cA (hl_sP w a i v) b = hl_ce ad cA w b := hl_ce_congr rfl (hl_up_ne _ _ _ h) rfl rfl
theorem hl_ce_rI {ad : Nat → Nat} {cA : Nat → ClassId} {w : hl_W} {a b : Nat} {g : Nat → Int32} (h : b ≠ a) : hl_ce ad cA (hl_rI w a g) b = hl_ce ad cA w b := hl_ce_congr rfl rfl (hl_row_ne _ _ h) rfl
theorem hl_ce_new {ad : Nat → Nat} {cA : Nat → ClassId} {w : hl_W} {b t n : Nat} (h : b < hl_n w) : hl_ce ad cA (hl_new w t n) b = hl_ce ad cA w b :=
  hl_ce_congr (if_neg (Nat.ne_of_lt h)) (hl_row_ne _ _ (Nat.ne_of_lt h)) (hl_row_ne _ _ (Nat.ne_of_lt h)) (hl_row_ne _ _ (Nat.ne_of_lt h))
theorem hl_wr {B0 : Nat} {sa : Nat → Nat} {D : va_G} {cA : Nat → ClassId} {w w' : hl_W} {a : Nat} {H H1 : Heap} (hH : hl_H B0 sa D cA w H) (hn : hl_n w' = hl_n w) (ha : a < hl_n w) (hce : ∀ b, b ≠ a → hl_ce (hl_ad B0 sa) cA w' b = hl_ce (hl_ad B0 sa) cA w b)
    (hat : va_at D hl_cl (hl_ad B0 sa a, hl_ce (hl_ad B0 sa) cA w' a) H1) (z : H1.size = H.size) (oq : ∀ q : Nat, q ≠ hl_ad B0 sa a → H1[q]? = H[q]?) : hl_H B0 sa D cA w' H1 := by
  refine ⟨z.trans (by rw [hn]; exact hH.1), by rw [hn]; exact hH.2.1, ?_⟩
  have h := hH.2.2.set (hl_D hH.2.1) (hl_cz_at ha) hat oq
  rwa [hl_cz_set hn ha hce rfl] at h
theorem hl_adA {B0 : Nat} {sa : Nat → Nat} {w : hl_W} {a : Nat} (hn : hl_n w ≤ 1000000) (ha : a < hl_n w) : B0 ≤ hl_ad B0 sa a := by
  rw [hl_adl (by omega)]
  omega
theorem hl_mk {B0 : Nat} {sa : Nat → Nat} {D : va_G} {cA : Nat → ClassId} {w : hl_W} {t n : Nat} {H H1 : Heap} (hH : hl_H B0 sa D cA w H) (hlt : hl_n w < 1000000) (hat : va_at D hl_cl (B0 + hl_n w, hl_ce (hl_ad B0 sa) cA (hl_new w t n) (hl_n w)) H1) (z : H1.size = H.size + 1) (oq : ∀ q : Nat, q < H.size → H1[q]? = H[q]?) : hl_H B0 sa D cA (hl_new w t n) H1 := by
  refine ⟨by rw [z, hH.1]; rfl, by show hl_n w + 1 ≤ _; omega, ?_⟩
  rw [← hl_cz_push (ad := hl_ad B0 sa) (cA := cA) (w := w) (w' := hl_new w t n) rfl (fun b hb => hl_ce_new hb) rfl]
  refine (hH.2.2.kept (fun k q hk => oq q.1 ((hH.2.2 k q hk).lt))).app (fun k q hk => ?_)
  have hz : k < 1 := (List.getElem?_eq_some_iff.mp hk).1
  rw [show k = 0 by omega] at hk
  cases hk
  rw [hl_adl hlt]
  exact hat
theorem hl_S_new {B0 : Nat} {H0 H H1 : Heap} {locs : List Loc} (hS : va_S (fun q => B0 ≤ q) H0 H locs) (z : H1.size = H.size + 1) (oq : ∀ q : Nat, q < H.size → H1[q]? = H[q]?) : va_S (fun q => B0 ≤ q) H0 H1 locs :=
  ⟨Nat.le_trans hS.1 (by omega), fun x h1 h2 => (oq x (Nat.lt_of_lt_of_le h1 hS.1)).trans (hS.2.1 x h1 h2), hS.2.2⟩
section HLR
variable {p : Program} {l : Launch} {e : Env} {R : Room} {s : State} {m : MethodId} {args : Array Value} {below : List Frame} {meth : Method} {c : Code} {H : Heap} {locs : List Loc} {cells slots : Nat} {Q : State → Prop}
variable {cc : ByteArray} {pc : Nat} {ls : Array Slot} {rest : List Value} {B0 : Nat} {sa : Nat → Nat} {D : va_G} {cA : Nat → ClassId} {w : hl_W} {a : Nat} {H0 : Heap}
theorem hl_r_iast (hx : p.tables.exec = Jvm.exec) (hb : c.code = cc) (hK : va_K D hl_cl (hl_tys cA) s) (hH : hl_H B0 sa D cA w H) (hS : va_S (fun q => B0 ≤ q) H0 H locs) (ha : a < hl_n w) (hk : (hl_k w a).1 = 0) {i x : Int32} (hin : vp_in i (hl_k w a).2) (hdg : decode cc pc = .ok (.iastore, 1))
    (kk : ∀ (H1 : Heap) (locs1 : List Loc), hl_H B0 sa D cA (hl_sI w a i.toNatClampNeg x) H1 → va_S (fun q => B0 ≤ q) H0 H1 locs1 → W p l e R s m args below meth c H1 locs1 cells slots Q (F0 m (pc + 1) ls rest)) : W p l e R s m args below meth c H locs cells slots Q (F0 m pc ls (.int x :: .int i :: .ref (hl_ad B0 sa a) :: rest)) := by
  have hat := hH.2.2 a _ (hl_cz_at ha)
  rw [hl_ce_0 hk] at hat
  refine W.iast hx hb hat ((hK.2 0 _ rfl).1 _ (fun j => .int (hl_I w a j))) (fun q => by cases q) (by show ¬ (i < 0 ∨ (arrV _ _ _).slots.size ≤ _); rw [arrV_size]; exact hin) rfl rfl hdg fun H1 e1 z oq => ?_
  refine kk H1 _ (hl_wr hH rfl ha (fun b hb => hl_ce_sI hb) ?_ z oq) (hS.put z oq (hl_adA hH.2.1 ha))
  rw [hl_ce_0 (by exact hk)]
  show H1[hl_ad B0 sa a]? = some (vp_cell _ _)
  rw [e1, vp_cell_i, vp_cell_i, arrV_store]
  congr 2
  funext q
  rw [hl_I_sI, hl_up_eq]
  by_cases hq : q = i.toNatClampNeg
  · subst hq
    simp [updV]
  · simp [updV, hq]
theorem hl_r_zast (hx : p.tables.exec = Jvm.exec) (hb : c.code = cc) (hK : va_K D hl_cl (hl_tys cA) s) (hH : hl_H B0 sa D cA w H) (hS : va_S (fun q => B0 ≤ q) H0 H locs) (ha : a < hl_n w) (hk : (hl_k w a).1 = 2) {i x : Int32} (hbit : x = 0 ∨ x = 1) (hin : vp_in i (hl_k w a).2) (hdg : decode cc pc = .ok (.bastore, 1))
    (kk : ∀ (H1 : Heap) (locs1 : List Loc), hl_H B0 sa D cA (hl_sI w a i.toNatClampNeg x) H1 → va_S (fun q => B0 ≤ q) H0 H1 locs1 → W p l e R s m args below meth c H1 locs1 cells slots Q (F0 m (pc + 1) ls rest)) : W p l e R s m args below meth c H locs cells slots Q (F0 m pc ls (.int x :: .int i :: .ref (hl_ad B0 sa a) :: rest)) := by
  have hat := hH.2.2 a _ (hl_cz_at ha)
  rw [hl_ce_2 hk] at hat
  refine W.zast hx hb hat ((hK.2 2 _ rfl).1 _ (fun j => .int (hl_I w a j))) (fun q => by cases q) (by show ¬ (i < 0 ∨ (arrV _ _ _).slots.size ≤ _); rw [arrV_size]; exact hin) rfl rfl hdg fun H1 e1 z oq => ?_
  refine kk H1 _ (hl_wr hH rfl ha (fun b hb => hl_ce_sI hb) ?_ z oq) (hS.put z oq (hl_adA hH.2.1 ha))
  rw [hl_ce_2 (by exact hk)]
  show H1[hl_ad B0 sa a]? = some (vp_cell _ _)
  have hnx : narrow .boolean (.int x) = .int x := by rcases hbit with rfl | rfl <;> rfl
  rw [e1, hnx, vp_cell_i, vp_cell_i, arrV_store]
  congr 2
  funext q
  rw [hl_I_sI, hl_up_eq]
  by_cases hq : q = i.toNatClampNeg
  · subst hq
    simp [updV]
  · simp [updV, hq]
theorem hl_r_last (hx : p.tables.exec = Jvm.exec) (hb : c.code = cc) (hK : va_K D hl_cl (hl_tys cA) s) (hH : hl_H B0 sa D cA w H) (hS : va_S (fun q => B0 ≤ q) H0 H locs) (ha : a < hl_n w) (hk : (hl_k w a).1 = 1) {i : Int32} {x : Int64} (hin : vp_in i (hl_k w a).2) (hdg : decode cc pc = .ok (.lastore, 1))
    (kk : ∀ (H1 : Heap) (locs1 : List Loc), hl_H B0 sa D cA (hl_sJ w a i.toNatClampNeg x) H1 → va_S (fun q => B0 ≤ q) H0 H1 locs1 → W p l e R s m args below meth c H1 locs1 cells slots Q (F0 m (pc + 1) ls rest)) : W p l e R s m args below meth c H locs cells slots Q (F0 m pc ls (.long x :: .int i :: .ref (hl_ad B0 sa a) :: rest)) := by
  have hat := hH.2.2 a _ (hl_cz_at ha)
  rw [hl_ce_1 hk] at hat
  refine W.last hx hb hat ((hK.2 1 _ rfl).1 _ (fun j => .long (hl_J w a j))) (fun q => by cases q) (by show ¬ (i < 0 ∨ (arrV _ _ _).slots.size ≤ _); rw [arrV_size]; exact hin) rfl rfl hdg fun H1 e1 z oq => ?_
  refine kk H1 _ (hl_wr hH rfl ha (fun b hb => hl_ce_sJ hb) ?_ z oq) (hS.put z oq (hl_adA hH.2.1 ha))
  rw [hl_ce_1 (by exact hk)]
  show H1[hl_ad B0 sa a]? = some (vp_cell _ _)
  rw [e1, vp_cell_l, vp_cell_l, arrV_store]
  congr 2
  funext q
  rw [hl_J_sJ, hl_up_eq]
  by_cases hq : q = i.toNatClampNeg
  · subst hq
    simp [updV]
  · simp [updV, hq]
theorem hl_r_aast (hx : p.tables.exec = Jvm.exec) (hb : c.code = cc) (hK : va_K D hl_cl (hl_tys cA) s) (hH : hl_H B0 sa D cA w H) (hS : va_S (fun q => B0 ≤ q) H0 H locs) (ha : a < hl_n w) (hk : (hl_k w a).1 = 3) {i : Int32} {v : Nat} (hv : hl_ob w v 7 = true) (hin : vp_in i (hl_k w a).2) (hdg : decode cc pc = .ok (.aastore, 1))
    (kk : ∀ (H1 : Heap) (locs1 : List Loc), hl_H B0 sa D cA (hl_sP w a i.toNatClampNeg (some v)) H1 → va_S (fun q => B0 ≤ q) H0 H1 locs1 → W p l e R s m args below meth c H1 locs1 cells slots Q (F0 m (pc + 1) ls rest)) : W p l e R s m args below meth c H locs cells slots Q (F0 m pc ls (.ref (hl_ad B0 sa v) :: .int i :: .ref (hl_ad B0 sa a) :: rest)) := by
  have hlt : i.toNatClampNeg < (hl_k w a).2 := Nat.not_le.mp fun q => hin (Or.inr q)
  have h0 : ¬ i < 0 := fun q => hin (Or.inl q)
  have hat := hH.2.2 a _ (hl_cz_at ha)
  rw [hl_ce_3 hk] at hat
  obtain ⟨hvn, hvk⟩ := hl_obE hv
  have hvt := hH.2.2 v _ (hl_cz_at hvn)
  rw [hl_ce_ob hvk] at hvt
  obtain ⟨r', hr', cellV, g1, g2, g3, -⟩ := hvt
  have hcls := (hK.1 7 _ (rfl : hl_cl[7]? = some (hl_R7, hl_T7, 4))).2
  obtain ⟨kA, comp, k1, k2, k3, -⟩ := (hK.2 3 _ rfl).2
  have hcomp : comp = D.1 7 := Option.some.inj (k3.symm.trans hcls.1)
  subst hcomp
  obtain ⟨kC, hkC, -⟩ := hcls.2
  refine W.aast hx hb hat (fun q h => by cases h) (fun h => by cases h) k1 k2 rfl hkC ⟨h0, by show _ < (arrV _ _ _).slots.size; rw [arrV_size]; exact hlt⟩ g1 (fun q h => by rw [g3] at h; cases h) (by rw [g2]; exact hkC) (by rw [g2]; exact va_assign hcls) rfl rfl hdg fun H1 e1 z oq => ?_
  refine kk H1 _ (hl_wr hH rfl ha (fun b hb => hl_ce_sP hb) ?_ z oq) (hS.put z oq (hl_adA hH.2.1 ha))
  rw [hl_ce_3 (by exact hk)]
  show H1[hl_ad B0 sa a]? = some (vp_cell _ _)
  rw [e1, vp_cell_q, vp_cell_q, arrV_store]
  congr 2
  funext q
  show _ = va_rf ((hl_up (hl_P w) a i.toNatClampNeg (some v) a q).map (hl_ad B0 sa))
  rw [hl_up_eq]
  by_cases hq : q = i.toNatClampNeg
  · subst hq
    simp [updV, va_rf]
  · simp [updV, hq]
/-- the fields of an object behind a write -/
theorem hl_put_fs {ad : Nat → Nat} {w' : hl_W} {ci N k : Nat} {v : Value} (hv : hl_fv ad w' ci a k = v) (ho : ∀ j, j ≠ k → hl_fv ad w' ci a j = hl_fv ad w ci a j) : ((List.range N).map (hl_fv ad w ci a)).set k v = (List.range N).map (hl_fv ad w' ci a) := by
  apply List.ext_getElem?
  intro j
  rw [List.getElem?_set, List.getElem?_map, List.getElem?_map]
  by_cases hj : k = j
  · subst hj
    by_cases hl : k < N
    · simp [hl, hv]
    · simp [hl]
  · rw [if_neg hj]
    by_cases hl : j < N
    · simp [hl, ho j (Ne.symm hj)]
    · simp [hl]
/-- putfield, as the world has it -/
theorem hl_r_put (hx : p.tables.exec = Jvm.exec) (hb : c.code = cc) {o : Nat} (hown : s.vm.findClass (hl_R o) = some m.cls) (hts : ∀ x ∈ hl_G, x.before args s = true) (hNs : ∀ x ∈ hl_nest, va_Nw x s) (hK : va_K D hl_cl (hl_tys cA) s) (hH : hl_H B0 sa D cA w H) (hS : va_S (fun q => B0 ≤ q) H0 H locs) {ix ci k : Nat} (hfl : hl_fl o ix = some (ci, k)) (hob : hl_ob w a ci = true) (hfin : hl_fin ci k = false ∨ (meth.name = "<init>" ∧ o = ci))
    {v : Value} {w' : hl_W} (hn : hl_n w' = hl_n w) (hkk : hl_k w' = hl_k w) (hce : ∀ b, b ≠ a → hl_ce (hl_ad B0 sa) cA w' b = hl_ce (hl_ad B0 sa) cA w b) (hv : hl_fv (hl_ad B0 sa) w' ci a k = v) (ho : ∀ j, j ≠ k → hl_fv (hl_ad B0 sa) w' ci a j = hl_fv (hl_ad B0 sa) w ci a j)
    (hty : ∀ ty : FieldType, ((hl_fk ci k = 0 ∧ ty = .int) ∨ (hl_fk ci k = 1 ∧ ty = .long) ∨ (hl_fk ci k = 3 ∧ ty = .boolean) ∨ (hl_fk ci k = 2 ∧ ((∃ n, ty = .object n) ∨ ∃ t, ty = .array t))) → narrow ty v = v ∧ fits ty v = true) (hdg : decode cc pc = .ok (.putfield ix, 3))
    (kk : ∀ (H1 : Heap) (locs1 : List Loc), hl_H B0 sa D cA w' H1 → va_S (fun q => B0 ≤ q) H0 H1 locs1 → W p l e R s m args below meth c H1 locs1 cells slots Q (F0 m (pc + 3) ls rest)) : W p l e R s m args below meth c H locs cells slots Q (F0 m pc ls (v :: .ref (hl_ad B0 sa a) :: rest)) := by
  obtain ⟨C, T, N, hcl, hkN, hTC, hlink⟩ := hl_fok hfl
  obtain ⟨ha, hka⟩ := hl_obE hob
  rw [hl_NE hcl] at hka
  obtain ⟨ty, huw, hpty, hnm, hkinds, -, -, hCR⟩ := hl_cok hcl
  obtain ⟨hfe, hkind⟩ := hkinds k hkN
  obtain ⟨hnar, hfit⟩ := hty (ty k) hkind
  have hat := hH.2.2 a _ (hl_cz_at ha)
  rw [hl_ce_ob hka] at hat
  have hap := va_apart (own := hl_R o) hts huw ty hpty hnm hK hcl
  obtain ⟨r, h1, cell, q1, q2, q3, q4⟩ := hat
  have hr : r = (C, T, N) := Option.some.inj (h1.symm.trans hcl)
  subst hr
  obtain ⟨hSl, hfc, kC, hkC, hkindC⟩ := hK.1 ci _ hcl
  obtain ⟨cf, kf, fi, f, hi, hsl⟩ := hSl k hkN
  have hi' : s.fieldFound? C (T k).2.1 (T k).2.2.1 = some (cf, kf, fi, f) := by rw [← hTC]; exact hi
  have hst := (u_facts hfc hkC (u_lays hts huw hkN) hi).1
  have hlen : k < ((List.range N).map (hl_fv (hl_ad B0 sa) w ci a)).length := by simpa using hkN
  have fin : ∀ H1 : Heap, H1[hl_ad B0 sa a]? = some (cell.setSlot f.slot v) → H1.size = H.size → (∀ q : Nat, q ≠ hl_ad B0 sa a → H1[q]? = H[q]?) → hl_H B0 sa D cA w' H1 := by
    intro H1 e1 e2 e3
    refine hl_wr hH hn ha hce ?_ e2 e3
    rw [hl_ce_ob (by rw [hkk]; exact hka), ← hl_put_fs hv ho]
    rw [hsl] at e1
    exact ⟨_, hcl, t_OB.to (V := updV (vp_V ((List.range N).map (hl_fv (hl_ad B0 sa) w ci a))) k v) ⟨_, e1, q2, q3, t_set q4 hap hkN v⟩ (fun j _ => vp_updV_set hlen v j)⟩
  have hlay := hts _ (huw _ (u_in_lay hkN))
  unfold u_lay at hlay
  by_cases hff : hl_fin ci k = false
  · rw [if_neg (by rw [← hfe, hff]; decide)] at hlay
    have h6 := u_store hfc hkC hkindC hlay hi (hpty k hkN) hnar hfit
    rcases hlink with hlk | ⟨host, hlk, -⟩
    · refine W.putK hx hb (f := f) ⟨hown, hts _ hlk, ⟨_, _, _, hi'⟩, hst⟩ (by rw [q2]; exact h6) q1 q3 (by rw [hsl]; exact k2_hasslot (q4 k hkN)) rfl rfl hdg fun H' e1 e2 e3 => ?_
      exact kk H' _ (fin H' e1 e2 e3) (hS.put e2 e3 (hl_adA hH.2.1 ha))
    · refine va_WputK hx hb (f := f) hown (va_Nw.use rfl (hNs _ hlk)) hi' hst (by rw [q2]; exact h6) q1 q3 (by rw [hsl]; exact k2_hasslot (q4 k hkN)) rfl rfl hdg fun H' e1 e2 e3 => ?_
      exact kk H' _ (fin H' e1 e2 e3) (hS.put e2 e3 (hl_adA hH.2.1 ha))
  · obtain ⟨hin2, hoc⟩ := hfin.resolve_left hff
    subst hoc
    have hft : hl_fin o k = true := by cases h : hl_fin o k with
      | true => rfl
      | false => exact absurd h hff
    rw [if_pos (by rw [← hfe]; exact hft)] at hlay
    have hcf : m.cls = cf := by
      obtain ⟨_, _, c', _, _, _, -, -, hf', -, -, -, hown2, -⟩ := Cond.laysFinal_spec hlay
      have e1 : c' = cf := by have := hi.symm.trans hf'; simp at this; exact this.1.symm
      rw [hTC, hCR] at hown2
      rw [← e1]; exact Option.some.inj (hown.symm.trans hown2)
    have h6 := u_fits hfc hkC hkindC (Or.inr hlay) hi (hpty k hkN) hnar hfit
    rcases hlink with hlk | ⟨host, -, hne⟩
    · refine W.putFinK hx hb hown (hts _ hlk) hi' hst hcf hin2 (by rw [q2]; exact h6) q1 q3 (by rw [hsl]; exact k2_hasslot (q4 k hkN)) rfl rfl hdg fun H' e1 e2 e3 => ?_
      exact kk H' _ (fin H' e1 e2 e3) (hS.put e2 e3 (hl_adA hH.2.1 ha))
    · exact absurd rfl hne
theorem hl_r_newa (hx : p.tables.exec = Jvm.exec) (hb : c.code = cc) (hts : ∀ x ∈ hl_G, x.before args s = true) (hK : va_K D hl_cl (hl_tys cA) s) (hH : hl_H B0 sa D cA w H) (hS : va_S (fun q => B0 ≤ q) H0 H locs) {atype : ArrayType} {t : Nat} (ht : t < 3) (hte : (hl_tys cA)[t]? = some (cA t, newarray.typeOf atype)) (hg : Cond.arrayClass (newarray.typeOf atype) ∈ hl_G) {n : Int32} (hn : ¬ n < 0) (hbig : n.toNatClampNeg ≤ 100000) (hlt : hl_n w < 1000000) (hcells : cells + 1 ≤ R.cells) (hslots : slots + n.toNatClampNeg ≤ R.slots) (hdg : decode cc pc = .ok (.newarray atype, 2))
    (kk : ∀ H1 : Heap, hl_H B0 sa D cA (hl_new w t n.toNatClampNeg) H1 → va_S (fun q => B0 ≤ q) H0 H1 locs → W p l e R s m args below meth c H1 locs (cells + 1) (slots + n.toNatClampNeg) Q (F0 m (pc + 2) ls (.ref (hl_ad B0 sa (hl_n w)) :: rest))) : W p l e R s m args below meth c H locs cells slots Q (F0 m pc ls (.int n :: rest)) := by
  refine va_newaK hx hb (hts _ hg) rfl hdg rfl hn rfl (by cases atype <;> simp [componentBytes, newarray.typeOf] <;> omega) hcells hslots rfl fun H1 cA1 e1 z1 o1 hAr hNm => ?_
  have hcA : cA1 = cA t := by
    have h1 := (hK.2 t _ hte).2
    match t, ht, hte, h1 with
    | 0, _, hte, h1 =>
      have e : newarray.typeOf atype = .int := (Prod.mk.inj (Option.some.inj hte)).2.symm
      rw [e] at hNm h1
      exact Option.some.inj (hNm.symm.trans h1)
    | 1, _, hte, h1 =>
      have e : newarray.typeOf atype = .long := (Prod.mk.inj (Option.some.inj hte)).2.symm
      rw [e] at hNm h1
      exact Option.some.inj (hNm.symm.trans h1)
    | 2, _, hte, h1 =>
      have e : newarray.typeOf atype = .boolean := (Prod.mk.inj (Option.some.inj hte)).2.symm
      rw [e] at hNm h1
      exact Option.some.inj (hNm.symm.trans h1)
  subst hcA
  have kk2 := kk H1 (hl_mk hH hlt ?_ z1 o1) (hl_S_new hS z1 o1)
  · rw [hl_adl hlt, ← hH.1] at kk2
    exact kk2
  have hk : hl_k (hl_new w t n.toNatClampNeg) (hl_n w) = (t, n.toNatClampNeg) := if_pos rfl
  rw [hH.1] at e1
  match t, ht, hte, hk with
  | 0, _, hte, hk =>
    have e : newarray.typeOf atype = .int := (Prod.mk.inj (Option.some.inj hte)).2.symm
    rw [e] at e1
    rw [hl_ce_0 (by rw [hk]), hk]
    show H1[B0 + hl_n w]? = some (vp_cell _ _)
    rw [e1, vp_cell_i]
    congr 2
    funext q
    show _ = Value.int (hl_row (hl_I w) (hl_n w) (fun _ => 0) (hl_n w) q)
    rw [hl_row_eq]
    rfl
  | 1, _, hte, hk =>
    have e : newarray.typeOf atype = .long := (Prod.mk.inj (Option.some.inj hte)).2.symm
    rw [e] at e1
    rw [hl_ce_1 (by rw [hk]), hk]
    show H1[B0 + hl_n w]? = some (vp_cell _ _)
    rw [e1, vp_cell_l]
    congr 2
    funext q
    show _ = Value.long (hl_row (hl_J w) (hl_n w) (fun _ => 0) (hl_n w) q)
    rw [hl_row_eq]
    rfl
  | 2, _, hte, hk =>
    have e : newarray.typeOf atype = .boolean := (Prod.mk.inj (Option.some.inj hte)).2.symm
    rw [e] at e1
    rw [hl_ce_2 (by rw [hk]), hk]
    show H1[B0 + hl_n w]? = some (vp_cell _ _)
    rw [e1, vp_cell_i]
    congr 2
    funext q
    show _ = Value.int (hl_row (hl_I w) (hl_n w) (fun _ => 0) (hl_n w) q)
    rw [hl_row_eq]
    rfl
theorem hl_r_anew (hx : p.tables.exec = Jvm.exec) (hb : c.code = cc) {o : Nat} (hown : s.vm.findClass (hl_R o) = some m.cls) (hts : ∀ x ∈ hl_G, x.before args s = true) (hAO : va_AO "HourLines$Text" s) (hK : va_K D hl_cl (hl_tys cA) s) (hH : hl_H B0 sa D cA w H) (hS : va_S (fun q => B0 ≤ q) H0 H locs) {ix : Nat} (hlc : hl_lc o ix = some 7) {n : Int32} (hn : ¬ n < 0) (hbig : n.toNatClampNeg ≤ 100000) (hlt : hl_n w < 1000000) (hcells : cells + 1 ≤ R.cells) (hslots : slots + n.toNatClampNeg ≤ R.slots) (hdg : decode cc pc = .ok (.anewarray ix, 3))
    (kk : ∀ H1 : Heap, hl_H B0 sa D cA (hl_new w 3 n.toNatClampNeg) H1 → va_S (fun q => B0 ≤ q) H0 H1 locs → W p l e R s m args below meth c H1 locs (cells + 1) (slots + n.toNatClampNeg) Q (F0 m (pc + 3) ls (.ref (hl_ad B0 sa (hl_n w)) :: rest))) : W p l e R s m args below meth c H locs cells slots Q (F0 m pc ls (.int n :: rest)) := by
  obtain ⟨C, T, N, hcl, hlk⟩ := hl_lcok hlc
  cases hcl
  refine W.anew hx hb hown (hts _ hlk) (va_AO.use hAO) rfl hdg rfl hn (by omega) hcells hslots fun cA1 kA comp f1 f2 f3 f4 => ?_
  obtain ⟨kA', comp', g1, g2, g3, g4⟩ := (hK.2 3 _ rfl).2
  have hcA : cA1 = cA 3 := Option.some.inj (f1.symm.trans g4)
  subst hcA
  generalize hH1 : H.push ({ cls := cA 3, slots := Array.replicate n.toNatClampNeg .null, vm := .none } : Cell) = H1
  have z1 : H1.size = H.size + 1 := by rw [← hH1, Array.size_push]
  have e1 : H1[H.size]? = some (arrV (cA 3) n.toNatClampNeg (fun _ => .null)) := by rw [← hH1, Array.getElem?_push_size, ← arrV_new]
  have o1 : ∀ q : Nat, q < H.size → H1[q]? = H[q]? := fun q hq => by rw [← hH1, Array.getElem?_push, if_neg (Nat.ne_of_lt hq)]
  have kk2 := kk H1 (hl_mk hH hlt ?_ z1 o1) (hl_S_new hS z1 o1)
  · rw [hl_adl hlt, ← hH.1] at kk2
    exact kk2
  · have hk : hl_k (hl_new w 3 n.toNatClampNeg) (hl_n w) = (3, n.toNatClampNeg) := if_pos rfl
    rw [hl_ce_3 (by rw [hk]), hk]
    show H1[B0 + hl_n w]? = some (vp_cell _ _)
    rw [← hH.1, e1, vp_cell_q]
    congr 2
    funext q
    show _ = va_rf ((hl_row (hl_P w) (hl_n w) (fun _ => none) (hl_n w) q).map _)
    rw [hl_row_eq]
    rfl
theorem hl_r_new (hx : p.tables.exec = Jvm.exec) (hb : c.code = cc) {o : Nat} (hown : s.vm.findClass (hl_R o) = some m.cls) (hts : ∀ x ∈ hl_G, x.before args s = true) (hK : va_K D hl_cl (hl_tys cA) s) (hH : hl_H B0 sa D cA w H) (hS : va_S (fun q => B0 ≤ q) H0 H locs) {ix ci : Nat} (hlc : hl_lc o ix = some ci) (hlt : hl_n w < 1000000) (hcells : cells + 1 ≤ R.cells) (hslots : slots + hl_N ci ≤ R.slots) (hdg : decode cc pc = .ok (.new ix, 3))
    (kk : ∀ H1 : Heap, hl_H B0 sa D cA (hl_new w (ci + 4) (hl_N ci)) H1 → va_S (fun q => B0 ≤ q) H0 H1 locs → W p l e R s m args below meth c H1 locs (cells + 1) (slots + hl_N ci) Q (F0 m (pc + 3) ls (.ref (hl_ad B0 sa (hl_n w)) :: rest))) : W p l e R s m args below meth c H locs cells slots Q (F0 m pc ls rest) := by
  obtain ⟨C, T, N, hcl, hlk⟩ := hl_lcok hlc
  obtain ⟨ty, huw, hpty, hnm, hkinds, hinst, hini, hCR⟩ := hl_cok hcl
  have hN := hl_NE hcl
  have hKn := hK.1 ci _ hcl
  refine W.newcK hx hb hown (hts _ hlk) (hts _ hinst) (hts _ hini) rfl hdg hcells (by rw [← hN]; exact hslots) hKn.2.1 rfl fun H1 kC hkC e1 z1 o1 => ?_
  have kk2 := kk H1 (hl_mk hH hlt ?_ z1 o1) (hl_S_new hS z1 o1)
  · rw [hl_adl hlt, ← hH.1, hN] at kk2
    exact kk2
  · have hk : hl_k (hl_new w (ci + 4) (hl_N ci)) (hl_n w) = (ci + 4, hl_N ci) := if_pos rfl
    rw [hN] at hk
    rw [hN, hl_ce_ob hk]
    have e2 : H1[B0 + hl_n w]? = some (blank (D.1 ci) kC) := by rw [← hH.1]; exact e1
    refine ⟨_, hcl, (u_born ty hts huw hKn hkC e2 hpty).to (fun j hj => ?_)⟩
    have hvv : vp_V ((List.range N).map (hl_fv (hl_ad B0 sa) (hl_new w (ci + 4) N) ci (hl_n w))) j = hl_fv (hl_ad B0 sa) (hl_new w (ci + 4) N) ci (hl_n w) j := by
      unfold vp_V
      simp [List.getD, hj]
    rw [hvv]
    have hJ0 : hl_J (hl_new w (ci + 4) N) (hl_n w) j = 0 := by show hl_row (hl_J w) (hl_n w) (fun _ => (0 : Int64)) (hl_n w) j = 0; rw [hl_row_eq]
    have hI0 : hl_I (hl_new w (ci + 4) N) (hl_n w) j = 0 := by show hl_row (hl_I w) (hl_n w) (fun _ => (0 : Int32)) (hl_n w) j = 0; rw [hl_row_eq]
    have hP0 : hl_P (hl_new w (ci + 4) N) (hl_n w) j = none := by show hl_row (hl_P w) (hl_n w) (fun _ => (none : Option Nat)) (hl_n w) j = none; rw [hl_row_eq]
    rcases (hkinds j hj).2 with ⟨f1, f2⟩ | ⟨f1, f2⟩ | ⟨f1, f2⟩ | ⟨f1, ⟨nm, f2⟩ | ⟨nm, f2⟩⟩
    · simp only [hl_fv, f1, f2, hI0]; rfl
    · simp only [hl_fv, f1, f2, hJ0]; rfl
    · simp only [hl_fv, f1, f2, hI0]; rfl
    · simp only [hl_fv, f1, f2, hP0]; rfl
    · simp only [hl_fv, f1, f2, hP0]; rfl
theorem hl_r_copy {own : String} {ix b : Nat} (hx : p.tables.exec = Jvm.exec) (hb : c.code = cc) (hml : c.maxLocals = ls.size) (hown : s.vm.findClass own = some m.cls) (hlink : (Cond.methodLink own ix arraycopyName).before args s = true) (hnat : (Cond.native arraycopyName).before args s = true) (hstat : (Cond.static arraycopyName).before args s = true) (hini : (Cond.initialized "java/lang/System").before args s = true)
    (hK : va_K D hl_cl (hl_tys cA) s) (hH : hl_H B0 sa D cA w H) (hS : va_S (fun q => B0 ≤ q) H0 H locs) {sp dp n : Int32} (hab : (hl_ar w a 0 = true ∧ hl_ar w b 0 = true) ∨ (hl_ar w a 2 = true ∧ hl_ar w b 2 = true ∧ hl_bits w a sp.toNatClampNeg n.toNatClampNeg = true)) (h1 : ¬ sp < 0) (h2 : ¬ dp < 0) (h3 : ¬ n < 0) (h4 : sp.toNatClampNeg + n.toNatClampNeg ≤ (hl_k w a).2) (h5 : dp.toNatClampNeg + n.toNatClampNeg ≤ (hl_k w b).2)
    (hframes : 1 ≤ R.frames) (hlocals : (rest.map fun v => v.category).sum + 50 ≤ R.locals) (hdg : decode cc pc = .ok (.invokestatic ix, 3))
    (kk : ∀ (H1 : Heap) (locs1 : List Loc), hl_H B0 sa D cA (hl_copy w a b sp dp n) H1 → va_S (fun q => B0 ≤ q) H0 H1 locs1 → W p l e R s m args below meth c H1 locs1 cells slots Q (F0 m (pc + 3) ls rest)) : W p l e R s m args below meth c H locs cells slots Q (F0 m pc ls (.int n :: .int dp :: .ref (hl_ad B0 sa b) :: .int sp :: .ref (hl_ad B0 sa a) :: rest)) := by
  have nf : nativeFrameWords "java/lang/System" "arraycopy" 5 ≤ 39 := by decide +kernel
  have nn : ∀ z : Int32, ¬ z < 0 → z.toInt = (z.toNatClampNeg : Int) := by
    intro z hz
    have hz0 : (0 : Int) ≤ z.toInt := by
      have := Int32.not_lt.mp hz
      simpa using Int32.le_iff_toInt_le.mp this
    show z.toInt = ((z.toInt.toNat : Nat) : Int)
    omega
  -- the two arrays, of ints or of bits
  obtain ⟨t, ty, cT, ha, hb', hta, htb, hce, hty, hprim, hfit⟩ : ∃ (t : Nat) (ty : FieldType) (cT : ClassId), a < hl_n w ∧ b < hl_n w ∧ (hl_k w a).1 = t ∧ (hl_k w b).1 = t ∧ (∀ (w' : hl_W) (q : Nat), (hl_k w' q).1 = t → hl_ce (hl_ad B0 sa) cA w' q = .inl (cT, (hl_k w' q).2, .inl (hl_I w' q))) ∧ (hl_tys cA)[t]? = some (cT, ty) ∧ refKind ty = false ∧ ∀ i, i < n.toNatClampNeg → fits ty (.int (hl_I w a (sp.toNatClampNeg + i))) = true := by
    rcases hab with ⟨ha, hb'⟩ | ⟨ha, hb', hbits⟩
    · obtain ⟨ha, ka⟩ := hl_arE ha
      obtain ⟨hb', kb⟩ := hl_arE hb'
      exact ⟨0, .int, cA 0, ha, hb', ka, kb, fun w' q h => hl_ce_0 h, rfl, rfl, fun i hi => rfl⟩
    · obtain ⟨ha, ka⟩ := hl_arE ha
      obtain ⟨hb', kb⟩ := hl_arE hb'
      refine ⟨2, .boolean, cA 2, ha, hb', ka, kb, fun w' q h => hl_ce_2 h, rfl, rfl, fun i hi => ?_⟩
      have := List.all_eq_true.mp hbits i (List.mem_range.mpr hi)
      simp only [Bool.or_eq_true, decide_eq_true_eq] at this
      rcases this with e0 | e0 <;> rw [e0] <;> rfl
  have hc0 := hH.2.2 a _ (hl_cz_at ha)
  have hc1 := hH.2.2 b _ (hl_cz_at hb')
  rw [hce w a hta] at hc0
  rw [hce w b htb] at hc1
  have hc0 : H[hl_ad B0 sa a]? = some (vp_cell cT ((hl_k w a).2, .inl (hl_I w a))) := hc0
  have hc1 : H[hl_ad B0 sa b]? = some (vp_cell cT ((hl_k w b).2, .inl (hl_I w b))) := hc1
  intro T hT X
  obtain ⟨-, k0, hk0, cm0, hkk0⟩ := (hK.2 t _ hty).1 (hl_k w a).2 (fun j => .int (hl_I w a j))
  obtain ⟨-, k1, hk1, cm1, hkk1⟩ := (hK.2 t _ hty).1 (hl_k w b).2 (fun j => .int (hl_I w b j))
  obtain ⟨vm', X', step⟩ := X.arraycopy hx hown hlink hnat hstat hini (src := hl_ad B0 sa a) (dst := hl_ad B0 sa b) (cs := vp_cell cT ((hl_k w a).2, .inl (hl_I w a))) (cd := vp_cell cT ((hl_k w b).2, .inl (hl_I w b))) (srcPos := sp) (destPos := dp) (n := n) (by rw [hT]; exact hc0) (by rw [hT]; exact hc1)
    (fun _ h => by cases h) (fun _ h => by cases h) (fun h => by cases h) (fun h => by cases h) hk0 hk1 hkk0 hkk1 (by simp [hprim]) h1 h2 h3
    (by rw [nn sp h1, nn n h3]; show ¬ _ > ((arrV cT (hl_k w a).2 (fun j => .int (hl_I w a j))).slots.size : Int); rw [arrV_size]; omega)
    (by rw [nn dp h2, nn n h3]; show ¬ _ > ((arrV cT (hl_k w b).2 (fun j => .int (hl_I w b j))).slots.size : Int); rw [arrV_size]; omega)
    (fun vm₁ _ i hi => by
      have e : (vp_cell cT ((hl_k w a).2, .inl (hl_I w a))).slots.getD (sp.toNatClampNeg + i) .null = .int (hl_I w a (sp.toNatClampNeg + i)) := by
        show (arrV cT (hl_k w a).2 (fun j => .int (hl_I w a j))).slots.getD _ _ = _
        rw [Array.getD_eq_getD_getElem?, arrV_read _ _ (by omega)]
        rfl
      refine ⟨?_, ?_⟩
      · rw [e]
        exact hfit i hi
      · rw [e]
        exact trivial)
    (g := F0 m pc ls (.int n :: .int dp :: .ref (hl_ad B0 sa b) :: .int sp :: .ref (hl_ad B0 sa a) :: rest)) rfl (by rw [hml]) (rest := rest) rfl (by rw [hb]; exact hdg) hframes (by show 2 * 0 + _ + _ ≤ _; omega)
  have e1 : copied (vp_cell cT ((hl_k w a).2, .inl (hl_I w a))) (vp_cell cT ((hl_k w b).2, .inl (hl_I w b))) sp dp n = vp_cell cT ((hl_k w b).2, .inl (va_cpy (hl_I w a) (hl_I w b) sp.toNatClampNeg dp.toNatClampNeg n.toNatClampNeg)) := va_copied (fun z => .int z) cT cT (hl_I w a) (hl_I w b) h4
  rw [e1] at X' step
  have hl : hl_ad B0 sa b < H.size := (Array.getElem?_eq_some_iff.mp hc1).1
  have hheap : ((T.setVm vm').setCell (hl_ad B0 sa b) (vp_cell cT ((hl_k w b).2, .inl (va_cpy (hl_I w a) (hl_I w b) sp.toNatClampNeg dp.toNatClampNeg n.toNatClampNeg)))).heap = H.setIfInBounds (hl_ad B0 sa b) (vp_cell cT ((hl_k w b).2, .inl (va_cpy (hl_I w a) (hl_I w b) sp.toNatClampNeg dp.toNatClampNeg n.toNatClampNeg))) := by rw [← hT]; rfl
  have oq : ∀ q : Nat, q ≠ hl_ad B0 sa b → (H.setIfInBounds (hl_ad B0 sa b) (vp_cell cT ((hl_k w b).2, .inl (va_cpy (hl_I w a) (hl_I w b) sp.toNatClampNeg dp.toNatClampNeg n.toNatClampNeg))))[q]? = H[q]? := fun q hq => by simp [Array.getElem?_setIfInBounds, Ne.symm hq]
  have hat : va_at D hl_cl (hl_ad B0 sa b, hl_ce (hl_ad B0 sa) cA (hl_copy w a b sp dp n) b) (H.setIfInBounds (hl_ad B0 sa b) (vp_cell cT ((hl_k w b).2, .inl (va_cpy (hl_I w a) (hl_I w b) sp.toNatClampNeg dp.toNatClampNeg n.toNatClampNeg)))) := by
    rw [hce _ b (by exact htb)]
    show (H.setIfInBounds _ _)[_]? = some _
    have e2 : hl_I (hl_copy w a b sp dp n) b = va_cpy (hl_I w a) (hl_I w b) sp.toNatClampNeg dp.toNatClampNeg n.toNatClampNeg := by
      show hl_row (hl_I w) b _ b = _
      rw [hl_row_eq]
    rw [e2]
    simp [Array.getElem?_setIfInBounds, hl]
    rfl
  obtain ⟨t2, a1, b1⟩ := kk _ _ (hl_wr (w' := hl_copy w a b sp dp n) hH rfl hb' (fun q hq => hl_ce_rI hq) hat (by simp) oq) ⟨by simp; exact hS.1, fun q g1 g2 => by
      rw [oq q (fun e => g2 (by rw [e]; exact hl_adA hH.2.1 hb'))]
      exact hS.2.1 q g1 g2, fun q hq => by
      rcases List.mem_append.mp hq with h | h
      · exact hS.2.2 q h
      · obtain ⟨z, -, hz⟩ := List.mem_map.mp h
        rw [← hz]
        exact hl_adA hH.2.1 hb'⟩ _ hheap X'
  exact ⟨t2, step t2 a1, b1⟩
end HLR
def hl_isN (x : Cond) : Bool := match x with
  | .methodLinkNest .. => true
  | .fieldLinkNest .. => true
  | _ => false
theorem hl_nest_n : ∀ x ∈ hl_nest, hl_isN x = true := by decide +kernel
theorem hl_nest_tab (x : Cond) (h : x ∈ hl_nest) : x.onTables = true := by
  have := hl_nest_n x h
  cases x <;> first | rfl | cases this
theorem hl_nest_warm (x : Cond) (h : x ∈ hl_nest) {s U : State} (hW : s.WarmedH U.vm) (hZ : va_Nw x s) : va_Nw x U := by
  have := hl_nest_n x h
  cases x <;> first | exact va_Nw.warmM hW hZ | exact va_Nw.warmF hW hZ | cases this
