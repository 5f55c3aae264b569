/-! the law's first frame: from the machine to runs -/
def hl_w0 : hl_W := (0, fun _ => (0, 0), fun _ _ => none, fun _ _ => 0, fun _ _ => 0)
def hl_tm (i : Nat) : Term := if i = 0 then .string "HourLines$Reader" 120 else .string "HourLines$Reader" 136
def hl_FL : List Cond := flatC (Jvm.Cond.and given_1 narrow_1)
theorem hl_f_co : Cond.eq (.static "java/lang/String" "COMPACT_STRINGS" "Z") (.int 1) ∈ hl_FL := List.mem_of_getElem? (i := 4) (by decide +kernel)
theorem hl_f_si : Cond.isRef (.static "jdk/internal/util/Preconditions" "SIOOBE_FORMATTER" "Ljava/util/function/BiFunction;") ∈ hl_FL := List.mem_of_getElem? (i := 5) (by decide +kernel)
theorem hl_f_ex : ∀ i, i < 2 → Cond.exactly (hl_tm i) "java/lang/String" ∈ hl_FL := by
  intro i hi
  match i, hi with
  | 0, _ => exact List.mem_of_getElem? (i := 9) (by decide +kernel)
  | 1, _ => exact List.mem_of_getElem? (i := 95) (by decide +kernel)
theorem hl_f_cd : ∀ i, i < 2 → Cond.eq (.field (hl_tm i) "java/lang/String" "coder" "B") (.int 0) ∈ hl_FL := by
  intro i hi
  match i, hi with
  | 0, _ => exact List.mem_of_getElem? (i := 10) (by decide +kernel)
  | 1, _ => exact List.mem_of_getElem? (i := 96) (by decide +kernel)
theorem hl_f_ar : ∀ i, i < 2 → Cond.arrayOf (.field (hl_tm i) "java/lang/String" "value" "[B") .byte ∈ hl_FL := by
  intro i hi
  match i, hi with
  | 0, _ => exact List.mem_of_getElem? (i := 11) (by decide +kernel)
  | 1, _ => exact List.mem_of_getElem? (i := 97) (by decide +kernel)
theorem hl_f_le : ∀ i, i < 2 → Cond.eq (.length (.field (hl_tm i) "java/lang/String" "value" "[B")) (.int (Int32.ofNat (hl_lens.getD i 0))) ∈ hl_FL := by
  intro i hi
  match i, hi with
  | 0, _ => exact List.mem_of_getElem? (i := 12) (by decide +kernel)
  | 1, _ => exact List.mem_of_getElem? (i := 98) (by decide +kernel)
theorem hl_f_el0 : ∀ j, j < 82 → hl_FL[13 + j]? = some (Cond.eq (.elem (.field (hl_tm 0) "java/lang/String" "value" "[B") (.int (Int32.ofNat j))) (.int ((hl_bys.getD 0 []).getD j 0))) := by decide +kernel
theorem hl_f_el1 : ∀ j, j < 13 → hl_FL[99 + j]? = some (Cond.eq (.elem (.field (hl_tm 1) "java/lang/String" "value" "[B") (.int (Int32.ofNat j))) (.int ((hl_bys.getD 1 []).getD j 0))) := by decide +kernel
theorem hl_f_el : ∀ i, i < 2 → ∀ j, j < hl_lens.getD i 0 → Cond.eq (.elem (.field (hl_tm i) "java/lang/String" "value" "[B") (.int (Int32.ofNat j))) (.int ((hl_bys.getD i []).getD j 0)) ∈ hl_FL := by
  intro i hi j hj
  match i, hi, hj with
  | 0, _, hj => exact List.mem_of_getElem? (hl_f_el0 j hj)
  | 1, _, hj => exact List.mem_of_getElem? (hl_f_el1 j hj)
theorem hl_f_ne : Cond.not (Cond.eq (hl_tm 0) (hl_tm 1)) ∈ hl_FL := List.mem_of_getElem? (i := 112) (by decide +kernel)
theorem hl_t_ao : Cond.arrayOver (.object "HourLines$Text") ∈ lw_tbl := List.mem_of_getElem? (i := 385) (by decide +kernel)
theorem hl_t_s1 : Cond.stringRef "HourLines$Reader" 120 hl_words ∈ lw_tbl := List.mem_of_getElem? (i := 681) (by decide +kernel)
theorem hl_t_s2 : Cond.stringRef "HourLines$Reader" 136 hl_signs ∈ lw_tbl := List.mem_of_getElem? (i := 744) (by decide +kernel)
theorem hl_t_ls : Cond.laysStatic "java/lang/String" "COMPACT_STRINGS" "Z" ∈ lw_tbl := List.mem_of_getElem? (i := 691) (by decide +kernel)
theorem hl_t_lf : Cond.laysStatic "jdk/internal/util/Preconditions" "SIOOBE_FORMATTER" "Ljava/util/function/BiFunction;" ∈ lw_tbl := List.mem_of_getElem? (i := 707) (by decide +kernel)
theorem hl_b268 : hl_b 268 = code := rfl
theorem hl_kStart {s : State} {A : Array Value} (hG : ∀ x ∈ hl_G, x.before A s = true) (hAO : (Cond.arrayOver (.object "HourLines$Text")).before A s = true) : ∃ (D : va_G) (cA : Nat → ClassId), va_K D hl_cl (hl_tys cA) s := by
  have h0 : ∀ ci : Nat, ∃ q : ClassId × (Nat → Nat), ∀ r : vw_C, hl_cl[ci]? = some r → u_Kn s r.1 r.2.1 r.2.2 q.1 q.2 := by
    intro ci
    cases hc : hl_cl[ci]? with
    | none => exact ⟨(0, fun _ => 0), fun r h => by cases h⟩
    | some r =>
      obtain ⟨C, T, N⟩ := r
      obtain ⟨ty, h1, -, -, -, h5, -⟩ := hl_cok hc
      obtain ⟨cC, iS, hk⟩ := u_known (ws := hl_G) hG h1 (hG _ h5)
      exact ⟨(cC, iS), fun r h => by cases h; exact hk⟩
  obtain ⟨f, hf⟩ := Classical.axiomOfChoice h0
  obtain ⟨c0, k0, p0, a1, a2, a3⟩ := Cond.arrayClass_spec (hG _ hl_aw_int)
  obtain ⟨c1, k1, p1, b1, b2, b3⟩ := Cond.arrayClass_spec (hG _ hl_aw_long)
  obtain ⟨c2, k2, p2, d1, d2, d3⟩ := Cond.arrayClass_spec (hG _ hl_aw_boolean)
  obtain ⟨p3, c3, k3, g1, g2, g3, g4, g5⟩ := Cond.arrayOver_spec hAO
  refine ⟨(fun ci => (f ci).1, fun ci => (f ci).2), fun k => if k = 0 then c0 else if k = 1 then c1 else if k = 2 then c2 else c3, fun ci r h => hf ci r h, fun k q hq => ?_⟩
  match k, hq with
  | 0, hq => cases hq; exact ⟨fun N z => ⟨fun k h => (by cases h), k0, a2, p0, a3⟩, a1⟩
  | 1, hq => cases hq; exact ⟨fun N z => ⟨fun k h => (by cases h), k1, b2, p1, b3⟩, b1⟩
  | 2, hq => cases hq; exact ⟨fun N z => ⟨fun k h => (by cases h), k2, d2, p2, d3⟩, d1⟩
  | 3, hq => cases hq; exact ⟨fun N z => ⟨fun k h => (by cases h), k3, g3, p3, g4⟩, k3, p3, g3, g4, g1, g5⟩
  | k + 4, hq => simp [hl_tys] at hq
theorem hl_first {p : Program} {e : Env} {s : State} {m : MethodId} {below : List Frame} {meth : Method} {c : Code} (l : Launch) {b Ln : Nat} {xs : Nat → Int32} (hL : Ln ≤ 3586) (C0 : lw_At p s m meth c b Ln xs) (hpure : ∃ w, hl_LRun xs Ln 268 (hl_lO xs Ln 1001) 0 [.ref 1000003, .null, .null, .null] [] hl_w0 = some (some (.int 1), w) ∧ hl_n w ≤ 600000 ∧ hl_sz w ≤ 7302250) : W p l e room_1 s m #[Value.ref b] below meth c s.heap [] 0 0 (lw_Z below #[Value.ref b] s) (entryFrame m ([Value.ref b] : List Value).toArray 4) := by
  obtain ⟨hx, hb, hr, hml, hown, hts, hX, hbl, hlocks, hgv⟩ := id C0
  obtain ⟨w, hrun, hn, hsz⟩ := hpure
  have hG : ∀ x ∈ hl_G, x.before #[Value.ref b] s = true := fun x h => hts x (List.mem_filter.mp h).1
  have hF : ∀ x ∈ hl_FL, x.before #[Value.ref b] s = true := flat_of_before _ hgv
  have hA : ∀ a : Nat, a < s.heap.size → ¬ s.heap.size ≤ a := fun a h => Nat.not_le.mpr h
  obtain ⟨aK, aV, hV, hVt⟩ := vk_Sof (args := #[Value.ref b]) (s := s) (N := 2) (tm := hl_tm) (len := hl_lens) (byt := hl_bys) (A := fun q => s.heap.size ≤ q) hl_len9 (fun i hi => hF _ (hl_f_ex i hi)) (fun i hi => hF _ (hl_f_cd i hi)) (fun i hi => hF _ (hl_f_ar i hi)) (fun i hi => hF _ (hl_f_le i hi)) (fun i hi j hj => hF _ (hl_f_el i hi j hj)) (fun i j hi hj hij => by
    match i, j, hi, hj, hij with
    | 0, 0, _, _, h => exact absurd rfl h
    | 0, 1, _, _, _ => exact Or.inl (hF _ hl_f_ne)
    | 1, 0, _, _, _ => exact Or.inr (hF _ hl_f_ne)
    | 1, 1, _, _, h => exact absurd rfl h) hA
  obtain ⟨D, cA, hK⟩ := hl_kStart hG (hts _ hl_t_ao)
  generalize hsa : (fun q : Nat => if q = 1000003 then b else aK (q - 1000001)) = sa
  have hs1 : sa 1000001 = aK 0 := by rw [← hsa]; rfl
  have hs2 : sa 1000002 = aK 1 := by rw [← hsa]; rfl
  have hs3 : sa 1000003 = b := by rw [← hsa]; rfl
  have hsi : ∀ i, i < 2 → sa (1000001 + i) = aK i := by
    intro i hi
    match i, hi with
    | 0, _ => exact hs1
    | 1, _ => exact hs2
  have hE : hl_E s.heap.size sa aV xs Ln s := by
    refine ⟨⟨fun i hi => ?_, fun i j hi hj h => ?_⟩, va_Zof (hts _ hl_t_ls) (hG _ hl_ui_str) (va_eqi (hF _ hl_f_co)) hA, va_Zqof (hts _ hl_t_lf) (hG _ hl_ui_pre) (hF _ hl_f_si) hA, ?_, ?_, by rw [hs3]; exact hX, by rw [hs3]; exact hbl⟩
    · dsimp only
      rw [hsi i hi]
      exact hV.1 i hi
    · dsimp only at h
      rw [hsi i hi, hsi j hj] at h
      exact hV.2 i j hi hj h
    · rw [hs1]
      exact vk_R.of (hts _ hl_t_s1) (hVt 0 (by decide))
    · rw [hs2]
      exact vk_R.of (hts _ hl_t_s2) (hVt 1 (by decide))
  have hX' : va_X (sa 1000003) Ln xs s s.heap := by rw [hs3]; exact hX
  have hb' : sa 1000003 < s.heap.size := by rw [hs3]; exact hbl
  obtain ⟨n, hn'⟩ := hl_LRun_iff.mp hrun
  have hC : hl_Cx p l room_1 s m #[Value.ref b] meth c s.heap.size sa D cA (hl_E s.heap.size sa aV xs Ln) 268 1001 :=
    ⟨hx, hb, hml, hown, hG, hK, fun x h => va_Nw.of (hl_nest_tab x h) (hts x (hl_nest_in x h)), va_AO.of (hts _ hl_t_ao), hE, Nat.le_refl _, fun h => absurd h (by decide), Nat.le_of_ble_eq_true rfl, Nat.le_of_ble_eq_true rfl, hl_E_ec, hl_E_ex⟩
  have hLv : hl_Lv p l e room_1 s m #[Value.ref b] below meth c (lw_Z below #[Value.ref b] s) s.heap.size sa D cA 0 0 268 (some (.int 1), w) := by
    intro pc ls H locs hH hS
    refine ⟨fun x hv hq hd => ?_, fun x hv => (by cases hv), fun hv => (by cases hv)⟩
    cases hv
    refine va_forget (fun q hq => hS.2.2 q hq) ?_
    exact W.widen (k := 600000) (n := 7302250) hn hsz (lw_ret hx hb hr hlocks hd)
  have hH0 : hl_H s.heap.size sa D cA hl_w0 s.heap := ⟨rfl, Nat.zero_le _, fun k q h => by cases h⟩
  have g := (hl_lwalk (n0 := 0) (s0 := 0) (nL := 4) hX' hb' hb' hC (hl_lok (aV := aV) (by omega) 1000) ⟨hn, hsz⟩ rfl hLv n 0 _ [] hl_w0 hn').2 (Nat.zero_le _) (Nat.zero_le _)
  have e9 : ([Value.ref b] : List Value) = ([.ref 1000003] : List Value).map (hl_v (hl_ad s.heap.size sa)) := by
    show [Value.ref b] = [Value.ref (hl_ad s.heap.size sa 1000003)]
    rw [show hl_ad s.heap.size sa 1000003 = sa 1000003 from if_neg (by omega), hs3]
  rw [lg_entry_eq]
  have hLR := hl_entry (ad := hl_ad s.heap.size sa) (vs := [.ref 1000003]) (n := 4) (Nat.le_of_ble_eq_true rfl)
  rw [← e9] at hLR
  exact g _ s.heap [] hLR hH0 va_S.rf
