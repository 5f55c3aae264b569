/-! what the class's steps and the reference's code work out alike -/
def hx_enc (k v : Nat) : Int32 := nI k ||| nI v <<< (6 &&& 31)
theorem hx_encE {k v : Nat} (hk : k < 64) (hv : v < 2 ^ 20) : hx_enc k v = nI (64 * v + k) := by
  unfold hx_enc
  apply Int32.toBitVec_inj.mp
  rw [Int32.toBitVec_or, Int32.toBitVec_shiftLeft]
  have e6 : ((6 : Int32) &&& 31).toBitVec.smod 32 = 6#32 := by decide
  rw [e6]
  apply BitVec.eq_of_toNat_eq
  show (BitVec.ofNat 32 k ||| BitVec.ofNat 32 v <<< 6#32).toNat = (BitVec.ofNat 32 (64 * v + k)).toNat
  have n6 : (6#32).toNat = 6 := rfl
  rw [BitVec.toNat_or, BitVec.shiftLeft_eq', BitVec.toNat_shiftLeft, n6, BitVec.toNat_ofNat, BitVec.toNat_ofNat, BitVec.toNat_ofNat, Nat.mod_eq_of_lt (show v < 2 ^ 32 by omega), Nat.mod_eq_of_lt (show k < 2 ^ 32 by omega), Nat.mod_eq_of_lt (show 64 * v + k < 2 ^ 32 by omega)]
  have sl : v <<< 6 = 64 * v := by rw [Nat.shiftLeft_eq]; omega
  rw [Nat.mod_eq_of_lt (by rw [sl]; omega), Nat.or_comm, ← Nat.shiftLeft_add_eq_or_of_lt (show k < 2 ^ 6 by omega), sl]
theorem hx_enc_k {k v : Nat} (hk : k < 64) (hv : v < 2 ^ 20) : hx_enc k v &&& 63 = nI k := by
  rw [hx_encE hk hv]
  apply Int32.toBitVec_inj.mp
  apply BitVec.eq_of_toNat_eq
  show (BitVec.ofNat 32 (64 * v + k) &&& 63#32).toNat = (BitVec.ofNat 32 k).toNat
  rw [BitVec.toNat_and, BitVec.toNat_ofNat, BitVec.toNat_ofNat, BitVec.toNat_ofNat, Nat.mod_eq_of_lt (show 64 * v + k < 2 ^ 32 by omega), Nat.mod_eq_of_lt (show k < 2 ^ 32 by omega)]
  show (64 * v + k) &&& (2 ^ 6 - 1) = k
  rw [Nat.and_two_pow_sub_one_eq_mod]
  omega
theorem hx_enc_v {k v : Nat} (hk : k < 64) (hv : v < 2 ^ 20) : hx_enc k v >>> (6 &&& 31) = nI v := by
  rw [hx_encE hk hv]
  apply Int32.toBitVec_inj.mp
  rw [Int32.toBitVec_shiftRight]
  have e6 : ((6 : Int32) &&& 31).toBitVec.smod 32 = 6#32 := by decide
  rw [e6]
  show (BitVec.ofNat 32 (64 * v + k)).sshiftRight' 6#32 = BitVec.ofNat 32 v
  have n6 : (6#32).toNat = 6 := rfl
  have ms : (BitVec.ofNat 32 (64 * v + k)).msb = false := by
    rw [BitVec.msb_eq_false_iff_two_mul_lt, BitVec.toNat_ofNat, Nat.mod_eq_of_lt (by omega)]
    omega
  apply BitVec.eq_of_toNat_eq
  show ((BitVec.ofNat 32 (64 * v + k)).sshiftRight (6#32).toNat).toNat = _
  rw [n6, BitVec.sshiftRight_eq_of_msb_false ms, BitVec.toNat_ushiftRight, BitVec.toNat_ofNat, BitVec.toNat_ofNat, Nat.mod_eq_of_lt (by omega), Nat.mod_eq_of_lt (by omega), Nat.shiftRight_eq_div_pow]
  omega
/-- the reference's code, from a list -/
def hx_es (nm : Nat → Int32) (o v : Nat) (V : List Int64) (B : List Bool) : Option (List Int64 × List Bool) := hl_rst (fun j => if j = 30 then nI o else nI v) nm 0 0 V B
def hx_ev (nm : Nat → Int32) : List (Nat × Nat) → List Int64 → List Bool → Option (List Int64 × List Bool)
  | [], V, B => some (V, B)
  | c :: cs, V, B => match hx_es nm c.1 c.2 V B with
    | some q => hx_ev nm cs q.1 q.2
    | none => none
theorem hx_ev_app {nm : Nat → Int32} {C2 : List (Nat × Nat)} : ∀ (C1 : List (Nat × Nat)) V B V' B', hx_ev nm C1 V B = some (V', B') → hx_ev nm (C1 ++ C2) V B = hx_ev nm C2 V' B' := by
  intro C1
  induction C1 with
  | nil =>
    intro V B V' B' h
    have h' : some (V, B) = some (V', B') := h
    cases h'
    rfl
  | cons c cs ih =>
    intro V B V' B' h
    show (match hx_es nm c.1 c.2 V B with | some q => hx_ev nm (cs ++ C2) q.1 q.2 | none => none) = _
    have h' : (match hx_es nm c.1 c.2 V B with | some q => hx_ev nm cs q.1 q.2 | none => none) = some (V', B') := h
    cases he : hx_es nm c.1 c.2 V B with
    | none => rw [he] at h'; cases h'
    | some q =>
      rw [he] at h'
      exact ih q.1 q.2 V' B' h'
theorem hx_ev_1 {nm : Nat → Int32} {o v : Nat} {V : List Int64} {B : List Bool} : hx_ev nm [(o, v)] V B = hx_es nm o v V B := by
  show (match hx_es nm o v V B with | some q => hx_ev nm [] q.1 q.2 | none => none) = _
  cases hx_es nm o v V B with
  | none => rfl
  | some q => rfl
theorem hx_rrun_ev {C nm : Nat → Int32} {x : Nat} : ∀ (cs : List (Nat × Nat)) (i : Nat) V B, (∀ k, k < cs.length → C (x + 30 + 2 * (i + k)) = nI (cs.getD k (0, 0)).1 ∧ C (x + 30 + 2 * (i + k) + 1) = nI (cs.getD k (0, 0)).2) → hl_rrun C nm x cs.length i V B = hx_ev nm cs V B := by
  intro cs
  induction cs with
  | nil => exact fun i V B _ => rfl
  | cons c cs ih =>
    intro i V B h
    obtain ⟨a, b⟩ := h 0 (Nat.succ_pos _)
    have e : hl_rst C nm x i V B = hx_es nm c.1 c.2 V B := by
      have a' : C (x + 30 + 2 * i) = nI c.1 := a
      have b' : C (x + 30 + 2 * i + 1) = nI c.2 := b
      unfold hx_es
      simp only [hl_rst, a', b']
      rfl
    show (match hl_rst C nm x i V B with | some q => hl_rrun C nm x cs.length (i + 1) q.1 q.2 | none => none) = (match hx_es nm c.1 c.2 V B with | some q => hx_ev nm cs q.1 q.2 | none => none)
    rw [e]
    cases hx_es nm c.1 c.2 V B with
    | none => rfl
    | some q => exact ih (i + 1) q.1 q.2 (fun k hk => by
        have := h (k + 1) (Nat.succ_lt_succ hk)
        rw [show i + 1 + k = i + (k + 1) by omega]
        exact this)
/-- the class's run over some steps -/
def hx_WR (S nm : Nat → Int32) (n n' : Nat) (K K' : List Int32) : Prop := ∃ g, g ≤ n' - n ∧ ∀ b f, n' ≤ b → b ≤ 300 → hl_wk S nm (nI b) (f + g) (nI n) K = hl_wk S nm (nI b) f (nI n') K'
theorem hx_WR_tr {S nm : Nat → Int32} {n n1 n2 : Nat} {K K1 K2 : List Int32} (h : hx_WR S nm n n1 K K1) (g : hx_WR S nm n1 n2 K1 K2) (h1 : n ≤ n1) (h2 : n1 ≤ n2) : hx_WR S nm n n2 K K2 := by
  obtain ⟨a, a1, a2⟩ := h
  obtain ⟨b, b1, b2⟩ := g
  refine ⟨b + a, by omega, fun bh f h3 h4 => ?_⟩
  rw [← Nat.add_assoc, a2 bh (f + b) (by omega) h4, b2 bh f h3 h4]
theorem hx_WR_1 {S nm : Nat → Int32} {n n' : Nat} {K K' : List Int32} (hn : n < n') (h : hl_wst S nm (nI n) K = (nI n', K')) : hx_WR S nm n n' K K' := by
  refine ⟨1, by omega, fun b f h1 h2 => ?_⟩
  show (if hl_in (nI n) 0 (nI b - 1) = true then hl_wk S nm (nI b) f (hl_wst S nm (nI n) K).1 (hl_wst S nm (nI n) K).2 else K.headD 0) = _
  rw [hl_in_inb (by omega), hl_inb_nI (show n < b by omega) (by omega), if_pos rfl, h]
def hx_bd (v : Int64) : Prop := -1000000 ≤ v.toInt ∧ v.toInt ≤ 1000000
/-- numbers; truths -/
def hx_SN (S : Nat → Int32) (n n' : Nat) (C : List (Nat × Nat)) (M : Nat) : Prop := ∀ S' : Nat → Int32, (∀ j, n ≤ j → j < n' → S' j = S j) → ∀ nm, hl_nmB nm → ∃ v, hx_bd v ∧ (∀ V B, V.length + C.length ≤ 330 → B.length + C.length ≤ 330 → hx_ev nm C V B = some (v :: V, B)) ∧ ∀ K : List Int32, K.length + M ≤ 64 → hx_WR S' nm n n' K (v.toInt32 :: K)
def hx_SB (S : Nat → Int32) (n n' : Nat) (C : List (Nat × Nat)) (M : Nat) : Prop := ∀ S' : Nat → Int32, (∀ j, n ≤ j → j < n' → S' j = S j) → ∀ nm, hl_nmB nm → ∃ tb : Bool, (∀ V B, V.length + C.length ≤ 330 → B.length + C.length ≤ 330 → hx_ev nm C V B = some (V, tb :: B)) ∧ ∀ K : List Int32, K.length + M ≤ 64 → hx_WR S' nm n n' K (hl_tv tb :: K)
section HXSEM
variable {S S2 : Nat → Int32} {n n' n1 n2 n3 M M1 M2 M3 k v : Nat} {C C1 C2 C3 : List (Nat × Nat)}
theorem hx_SN_S (h : hx_SN S n n' C M) (e : ∀ j, n ≤ j → j < n' → S2 j = S j) (hM : M ≤ M1) : hx_SN S2 n n' C M1 := fun S' e' nm hn => by
  obtain ⟨v, a, b, c⟩ := h S' (fun j h1 h2 => (e' j h1 h2).trans (e j h1 h2)) nm hn
  exact ⟨v, a, b, fun K hK => c K (by omega)⟩
theorem hx_SB_S (h : hx_SB S n n' C M) (e : ∀ j, n ≤ j → j < n' → S2 j = S j) (hM : M ≤ M1) : hx_SB S2 n n' C M1 := fun S' e' nm hn => by
  obtain ⟨v, b, c⟩ := h S' (fun j h1 h2 => (e' j h1 h2).trans (e j h1 h2)) nm hn
  exact ⟨v, b, fun K hK => c K (by omega)⟩
theorem hx_psh {x : Int32} {K : List Int32} (h : K.length < 64) : hl_psh x K = x :: K := if_pos h
theorem hx_wst_e {nm : Nat → Int32} {S' : Nat → Int32} {K : List Int32} (hn : n < 300) (hk : k < 64) (hv : v < 2 ^ 20) (hS : S' n = hx_enc k v) : hl_wst S' nm (nI n) K = (if nI k = 51 then (nI v, K)
  else if nI k = 52 then (if K.headD 0 = 0 then (nI v, K.tail) else (nI n + 1, K.tail))
  else if nI k = 20 then (nI n + 1, hl_psh (nI v) K)
  else if hl_in (nI k) 3 11 = true then (nI n + 1, hl_psh (nm (nI k - 3).toNatClampNeg) K)
  else if nI k = 50 then (nI n + 1, hl_psh (-(K.headD 0)) K.tail)
  else if nI k = 14 then (nI n + 1, hl_psh (if K.headD 0 = 0 then 1 else 0) K.tail)
  else (nI n + 1, hl_psh (hl_lim (hl_jn (nI k) (K.tail.headD 0) (K.headD 0))) K.tail.tail)) := by
  have e : (nI n).toNatClampNeg = n := hl_cq (by omega)
  unfold hl_wst
  simp only [e, hS, hx_enc_k hk hv, hx_enc_v hk hv]
theorem hx_SN_num (hn : n < 300) (hv : v ≤ 9999) (hS : S n = hx_enc 20 v) (hM : 1 ≤ M) : hx_SN S n (n + 1) [(0, v)] M := fun S' e nm hnm => by
  have eS : S' n = hx_enc 20 v := (e n (Nat.le_refl n) (by omega)).trans hS
  have ei : (nI v).toInt64.toInt = (v : Int) := by rw [Int32.toInt_toInt64, hl_tI (by omega)]
  refine ⟨(nI v).toInt64, ⟨by omega, by omega⟩, fun V B h1 h2 => ?_, fun K hK => ?_⟩
  · rw [hx_ev_1]
    have l : V.length < 330 := by simp only [List.length_singleton] at h1; omega
    have z0 : nI 0 = 0 := rfl
    have z1 : (0 : Int32) ≤ 1 := by decide
    unfold hx_es hl_rst
    simp only [if_true, show ((0 + 30 + 2 * 0 + 1 : Nat) = 30) = False by decide, show ((0 + 30 + 2 * 0 : Nat) = 30) = True by decide, if_false, z0, z1, l]
  · refine hx_WR_1 (by omega) ?_
    rw [hx_wst_e hn (by omega) (by omega) eS, if_neg (by decide), if_neg (by decide), if_pos (by rfl), hx_psh (by omega), Int32.toInt32_toInt64, nI_succ]
theorem hx_SN_name (hn : n < 300) (hk : 3 ≤ k ∧ k ≤ 11) (hS : S n = hx_enc k 0) (hM : 1 ≤ M) : hx_SN S n (n + 1) [(1, k - 3)] M := fun S' e nm hnm => by
  have eS : S' n = hx_enc k 0 := (e n (Nat.le_refl n) (by omega)).trans hS
  have hb := hnm (k - 3) (by omega)
  refine ⟨(nm (k - 3)).toInt64, ?_, fun V B h1 h2 => ?_, fun K hK => ?_⟩
  · unfold hx_bd
    rw [Int32.toInt_toInt64]
    exact hb
  · rw [hx_ev_1]
    have l : V.length < 330 := by simp only [List.length_singleton] at h1; omega
    have z0 : nI 1 = 1 := rfl
    have z1 : (1 : Int32) ≤ 1 := by decide
    have z2 : ¬ (1 : Int32) = 0 := by decide
    have b9 : hl_inb (nI (k - 3)) 9 = true := hl_inb_nI (by omega) (by decide)
    unfold hx_es hl_rst
    simp only [if_true, show ((0 + 30 + 2 * 0 + 1 : Nat) = 30) = False by decide, show ((0 + 30 + 2 * 0 : Nat) = 30) = True by decide, if_false, z0, z1, z2, l, b9, hl_cq (show k - 3 < 10000 by omega)]
  · refine hx_WR_1 (by omega) ?_
    have n51 : ¬ nI k = 51 := fun x => by have := (nI_eq (a := k) (b := 51) (by omega) (by omega)).mp x; omega
    have n52 : ¬ nI k = 52 := fun x => by have := (nI_eq (a := k) (b := 52) (by omega) (by omega)).mp x; omega
    have n20 : ¬ nI k = 20 := fun x => by have := (nI_eq (a := k) (b := 20) (by omega) (by omega)).mp x; omega
    have i3 : hl_in (nI k) 3 11 = true := by
      have : hl_in (nI k) (nI 3) (nI 11) = (decide (3 ≤ k) && decide (k ≤ 11)) := hx_in_n (by omega) (by omega) (by omega)
      rw [decide_eq_true hk.1, decide_eq_true hk.2] at this
      exact this
    have e3 : nI k - 3 = nI (k - 3) := by
      have q : (3 : Int32) = nI 3 := rfl
      rw [q, show k = (k - 3) + 3 by omega, ← nI_add, Int32.add_sub_cancel, show (k - 3) + 3 - 3 = k - 3 by omega]
    rw [hx_wst_e hn (by omega) (by omega) eS, if_neg n51, if_neg n52, if_neg n20, if_pos i3, hx_psh (by omega), e3, hl_cq (by omega), Int32.toInt32_toInt64, nI_succ]
theorem hx_es_b (o : Nat) (nm : Nat → Int32) (V : List Int64) (B : List Bool) : hx_es nm o 0 V B = hl_rst (fun j => if j = 30 then nI o else nI 0) nm 0 0 V B := rfl
theorem hx_t32 {v : Int64} (h : hx_bd v) : v.toInt32.toInt = v.toInt := by
  obtain ⟨a, b⟩ := h
  rw [Int64.toInt_toInt32, Int.bmod_eq_of_le (by omega) (by omega)]
theorem hx_t64 {v : Int64} (h : hx_bd v) : v.toInt32.toInt64 = v := by
  apply Int64.toInt_inj.mp
  rw [Int32.toInt_toInt64, hx_t32 h]
theorem hx_SN_neg (h : hx_SN S n n1 C M) (hn : n ≤ n1) (hn1 : n1 < 300) (hS : S n1 = hx_enc 50 0) (hM : 1 ≤ M) : hx_SN S n (n1 + 1) (C ++ [(2, 0)]) M := fun S' e nm hnm => by
  obtain ⟨v, a, b, c⟩ := h S' (fun j h1 h2 => e j h1 (by omega)) nm hnm
  have eS : S' n1 = hx_enc 50 0 := (e n1 hn (by omega)).trans hS
  have en : (-v).toInt = - v.toInt := by
    obtain ⟨a1, a2⟩ := a
    rw [Int64.toInt_neg, Int.bmod_eq_of_le (by omega) (by omega)]
  refine ⟨-v, ⟨by rw [en]; have := a.2; omega, by rw [en]; have := a.1; omega⟩, fun V B h1 h2 => ?_, fun K hK => ?_⟩
  · simp only [List.length_append, List.length_singleton] at h1 h2
    rw [hx_ev_app C V B _ _ (b V B (by omega) (by omega)), hx_ev_1, hx_es_b]
    have z2 : ¬ (nI 2 : Int32) ≤ 1 := by decide
    have z3 : nI 2 = 2 := rfl
    have z4 : ¬ (2 : Int32) ≤ 1 := by decide
    simp only [hl_rst, if_true, show ((0 + 30 + 2 * 0 : Nat) = 30) = True by decide, if_false, z3, z4]
  · refine hx_WR_tr (c K hK) (hx_WR_1 (by omega) ?_) hn (by omega)
    have en32 : -(v.toInt32) = (-v).toInt32 := by
      apply Int32.toInt_inj.mp
      have bb : hx_bd (-v) := ⟨by rw [en]; have := a.2; omega, by rw [en]; have := a.1; omega⟩
      obtain ⟨a1, a2⟩ := a
      rw [hx_t32 bb, en, Int32.toInt_neg, hx_t32 ⟨a1, a2⟩, Int.bmod_eq_of_le (by omega) (by omega)]
    rw [hx_wst_e hn1 (by omega) (by omega) eS, if_neg (by decide), if_neg (by decide), if_neg (by decide), if_neg (by decide), if_pos (by rfl)]
    show (nI n1 + 1, hl_psh (-(v.toInt32)) K) = _
    rw [hx_psh (by omega), en32, nI_succ]
theorem hx_wst_b {nm : Nat → Int32} {S' : Nat → Int32} {x y : Int32} {K : List Int32} (hn : n < 300) (hk : k = 12 ∨ k = 13 ∨ (30 ≤ k ∧ k ≤ 44)) (hS : S' n = hx_enc k 0) (hK : K.length < 64) : hl_wst S' nm (nI n) (y :: x :: K) = (nI (n + 1), hl_lim (hl_jn (nI k) x y) :: K) := by
  have f : ∀ c, c < 100 → k ≠ c → ¬ nI k = nI c := fun c hc hne x => hne ((nI_eq (by omega) (by omega)).mp x)
  have i3 : hl_in (nI k) 3 11 = false := by
    have : hl_in (nI k) (nI 3) (nI 11) = (decide (3 ≤ k) && decide (k ≤ 11)) := hx_in_n (by omega) (by omega) (by omega)
    rw [decide_eq_false (show ¬ k ≤ 11 by omega), Bool.and_false] at this
    exact this
  have f51 : ¬ nI k = 51 := f 51 (by omega) (by omega)
  have f52 : ¬ nI k = 52 := f 52 (by omega) (by omega)
  have f20 : ¬ nI k = 20 := f 20 (by omega) (by omega)
  have f50 : ¬ nI k = 50 := f 50 (by omega) (by omega)
  have f14 : ¬ nI k = 14 := f 14 (by omega) (by omega)
  rw [hx_wst_e hn (by omega) (by omega) hS, if_neg f51, if_neg f52, if_neg f20, i3, if_neg (by decide), if_neg f50, if_neg f14]
  show (nI n + 1, hl_psh (hl_lim (hl_jn (nI k) x y)) K) = _
  rw [hx_psh hK, nI_succ]
/-- two numbers into one -/
theorem hx_lim_clp {v : Int64} : hl_lim v = (hl_clp v).toInt32 ∧ hx_bd (hl_clp v) := by
  unfold hl_lim hl_clp hx_bd
  have e1 : (1000000 : Int64).toInt = 1000000 := rfl
  have e2 : (-1000000 : Int64).toInt = -1000000 := rfl
  by_cases h1 : 1000000 < v
  · rw [if_pos h1, if_pos h1]; exact ⟨rfl, by rw [e1]; omega, by rw [e1]; omega⟩
  · rw [if_neg h1, if_neg h1]
    by_cases h2 : v < -1000000
    · rw [if_pos h2, if_pos h2]; exact ⟨rfl, by rw [e2]; omega, by rw [e2]; omega⟩
    · rw [if_neg h2, if_neg h2]
      rw [Int64.lt_iff_toInt_lt, e1] at h1
      rw [Int64.lt_iff_toInt_lt, e2] at h2
      exact ⟨rfl, by omega, by omega⟩
theorem hx_z32 : (0 : Int64).toInt32 = 0 := by decide
theorem hx_z64 : (0 : Int32).toInt64 = 0 := by decide
theorem hx_zl : hl_lim 0 = (0 : Int64).toInt32 := by decide
theorem hx_jn34 {x y : Int32} : hl_jn (nI 34) x y = x.toInt64 + y.toInt64 := by
  have o : nI 34 = 34 := rfl
  unfold hl_jn
  rw [o, if_neg (by decide), if_neg (by decide), if_neg (by decide), if_neg (by decide), if_neg (by decide), if_neg (by decide), if_pos rfl]
theorem hx_jn35 {x y : Int32} : hl_jn (nI 35) x y = x.toInt64 - y.toInt64 := by
  have o : nI 35 = 35 := rfl
  unfold hl_jn
  rw [o, if_neg (by decide), if_neg (by decide), if_neg (by decide), if_neg (by decide), if_neg (by decide), if_neg (by decide), if_neg (by decide), if_pos rfl]
theorem hx_jn36 {x y : Int32} : hl_jn (nI 36) x y = x.toInt64 * y.toInt64 := by
  have o : nI 36 = 36 := rfl
  unfold hl_jn
  rw [o, if_neg (by decide), if_neg (by decide), if_neg (by decide), if_neg (by decide), if_neg (by decide), if_neg (by decide), if_neg (by decide), if_neg (by decide), if_pos rfl]
theorem hx_jn37 {x y : Int32} : hl_jn (nI 37) x y = if y = 0 then 0 else (x / y).toInt64 := by
  have o : nI 37 = 37 := rfl
  unfold hl_jn
  rw [o, if_neg (by decide), if_neg (by decide), if_neg (by decide), if_neg (by decide), if_neg (by decide), if_neg (by decide), if_neg (by decide), if_neg (by decide), if_neg (by decide), if_neg (by decide), if_neg (by decide)]
theorem hx_tw34 {a b : Int64} : hl_two (nI (hx_op 34)) a b = hl_clp (a + b) := by
  have o : nI (hx_op 34) = 3 := rfl
  unfold hl_two
  rw [o, if_pos rfl]
theorem hx_tw35 {a b : Int64} : hl_two (nI (hx_op 35)) a b = hl_clp (a - b) := by
  have o : nI (hx_op 35) = 4 := rfl
  unfold hl_two
  rw [o, if_neg (by decide), if_pos rfl]
theorem hx_tw36 {a b : Int64} : hl_two (nI (hx_op 36)) a b = hl_clp (a * b) := by
  have o : nI (hx_op 36) = 5 := rfl
  unfold hl_two
  rw [o, if_neg (by decide), if_neg (by decide), if_pos rfl]
theorem hx_tw37 {a b : Int64} : hl_two (nI (hx_op 37)) a b = if b = 0 then 0 else hl_clp (a / b) := by
  have o : nI (hx_op 37) = 6 := rfl
  unfold hl_two
  rw [o, if_neg (by decide), if_neg (by decide), if_neg (by decide)]
theorem hx_dv {a b : Int64} (ha : hx_bd a) (hb : hx_bd b) : (a.toInt32 / b.toInt32).toInt64 = a / b := by
  apply Int64.toInt_inj.mp
  obtain ⟨a1, a2⟩ := ha
  have q : a.toInt.tdiv b.toInt ≤ 1000000 ∧ -1000000 ≤ a.toInt.tdiv b.toInt := by
    have := Int.natAbs_tdiv_le_natAbs a.toInt b.toInt
    omega
  rw [Int32.toInt_toInt64, Int32.toInt_div, Int64.toInt_div, hx_t32 ⟨a1, a2⟩, hx_t32 hb, Int.bmod_eq_of_le (by omega) (by omega), Int.bmod_eq_of_le (by omega) (by omega)]
theorem hx_dv0 {a b : Int64} (ha : hx_bd a) (hb : hx_bd b) : hl_lim (hl_jn (nI 37) a.toInt32 b.toInt32) = (hl_two (nI (hx_op 37)) a b).toInt32 ∧ hx_bd (hl_two (nI (hx_op 37)) a b) := by
  rw [hx_jn37, hx_tw37]
  by_cases z : b = 0
  · have z' : b.toInt32 = 0 := by rw [z, hx_z32]
    have e0 : (0 : Int64).toInt = 0 := rfl
    rw [if_pos z, if_pos z']
    exact ⟨hx_zl, by rw [e0]; omega, by rw [e0]; omega⟩
  · have z' : ¬ b.toInt32 = 0 := fun x => z (by rw [← hx_t64 hb, x, hx_z64])
    rw [if_neg z, if_neg z', hx_dv ha hb]
    exact hx_lim_clp
theorem hx_two2 {a b : Int64} (ha : hx_bd a) (hb : hx_bd b) (hk : 34 ≤ k ∧ k ≤ 37) : hl_lim (hl_jn (nI k) a.toInt32 b.toInt32) = (hl_two (nI (hx_op k)) a b).toInt32 ∧ hx_bd (hl_two (nI (hx_op k)) a b) := by
  have k4 : k = 34 ∨ k = 35 ∨ k = 36 ∨ k = 37 := by omega
  rcases k4 with h | h | h | h
  · rw [h, hx_jn34, hx_tw34, hx_t64 ha, hx_t64 hb]; exact hx_lim_clp
  · rw [h, hx_jn35, hx_tw35, hx_t64 ha, hx_t64 hb]; exact hx_lim_clp
  · rw [h, hx_jn36, hx_tw36, hx_t64 ha, hx_t64 hb]; exact hx_lim_clp
  · rw [h]; exact hx_dv0 ha hb
theorem hx_SN_bin (h1 : hx_SN S n n1 C1 M1) (h2 : hx_SN S n1 n2 C2 M2) (hn : n ≤ n1) (hn2 : n1 ≤ n2) (hn3 : n2 < 300) (hk : 34 ≤ k ∧ k ≤ 37) (hS : S n2 = hx_enc k 0) (hM1 : M1 ≤ M) (hM2 : M2 + 1 ≤ M) : hx_SN S n (n2 + 1) (C1 ++ C2 ++ [(hx_op k, 0)]) M := fun S' e nm hnm => by
  obtain ⟨v, a, b, c⟩ := h1 S' (fun j h1 h2 => e j h1 (by omega)) nm hnm
  obtain ⟨w, a', b', c'⟩ := h2 S' (fun j h1 h2 => e j (by omega) (by omega)) nm hnm
  have eS : S' n2 = hx_enc k 0 := (e n2 (by omega) (by omega)).trans hS
  obtain ⟨t1, t2⟩ := hx_two2 a a' hk
  refine ⟨hl_two (nI (hx_op k)) v w, t2, fun V B h1 h2 => ?_, fun K hK => ?_⟩
  · simp only [List.length_append, List.length_singleton] at h1 h2
    rw [List.append_assoc, hx_ev_app C1 V B _ _ (b V B (by omega) (by omega)), hx_ev_app C2 _ B _ _ (b' (v :: V) B (by simp only [List.length_cons]; omega) (by omega)), hx_ev_1, hx_es_b]
    have k4 : k = 34 ∨ k = 35 ∨ k = 36 ∨ k = 37 := by omega
    rcases k4 with rfl | rfl | rfl | rfl <;> rfl
  · refine hx_WR_tr (hx_WR_tr (c K (by omega)) (c' _ (by simp only [List.length_cons]; omega)) hn hn2) (hx_WR_1 (by omega) ?_) (by omega) (by omega)
    rw [hx_wst_b hn3 (by omega) eS (by omega), t1]
/-- two numbers compared -/
theorem hx_i32 {a b : Int64} (ha : hx_bd a) (hb : hx_bd b) : (a.toInt32 < b.toInt32) = (a < b) ∧ (a.toInt32 ≤ b.toInt32) = (a ≤ b) ∧ (a.toInt32 = b.toInt32) = (a = b) := by
  refine ⟨?_, ?_, ?_⟩
  · rw [Int32.lt_iff_toInt_lt, Int64.lt_iff_toInt_lt, hx_t32 ha, hx_t32 hb]
  · rw [Int32.le_iff_toInt_le, Int64.le_iff_toInt_le, hx_t32 ha, hx_t32 hb]
  · exact propext ⟨fun x => by rw [← hx_t64 ha, x, hx_t64 hb], fun x => by rw [x]⟩
theorem hx_tv_lim (p : Prop) (inst : Decidable p) : hl_lim (if p then 1 else 0) = hl_tv (decide p) := by
  by_cases h : p
  · rw [if_pos h, decide_eq_true h]; decide
  · rw [if_neg h, decide_eq_false h]; decide
theorem hx_cmp {a b : Int64} (ha : hx_bd a) (hb : hx_bd b) (hk : hx_cm k = true) : hl_lim (hl_jn (nI k) a.toInt32 b.toInt32) = hl_tv (hl_akd (nI (hx_op k)) a b) := by
  obtain ⟨i1, i2, i3⟩ := hx_i32 ha hb
  obtain ⟨j1, j2, -⟩ := hx_i32 hb ha
  have k6 : k = 30 ∨ k = 31 ∨ k = 32 ∨ k = 33 ∨ k = 43 ∨ k = 44 := by
    unfold hx_cm at hk
    rw [Bool.or_eq_true, Bool.and_eq_true, Bool.and_eq_true, decide_eq_true_eq, decide_eq_true_eq, decide_eq_true_eq, decide_eq_true_eq] at hk
    omega
  rcases k6 with rfl | rfl | rfl | rfl | rfl | rfl
  · show hl_lim (if a.toInt32 < b.toInt32 then 1 else 0) = hl_tv (decide (a < b))
    rw [hx_tv_lim]; simp only [i1]
  · show hl_lim (if b.toInt32 < a.toInt32 then 1 else 0) = hl_tv (decide (b < a))
    rw [hx_tv_lim]; simp only [j1]
  · show hl_lim (if a.toInt32 = b.toInt32 then 1 else 0) = hl_tv (decide (a = b))
    rw [hx_tv_lim]; simp only [i3]
  · show hl_lim (if a.toInt32 = b.toInt32 then 0 else 1) = hl_tv (!decide (a = b))
    by_cases z : a = b
    · rw [if_pos (by rw [z]), decide_eq_true z]; decide
    · rw [if_neg (by rw [i3]; exact z), decide_eq_false z]; decide
  · show hl_lim (if a.toInt32 ≤ b.toInt32 then 1 else 0) = hl_tv (decide (a ≤ b))
    rw [hx_tv_lim]; simp only [i2]
  · show hl_lim (if b.toInt32 ≤ a.toInt32 then 1 else 0) = hl_tv (decide (b ≤ a))
    rw [hx_tv_lim]; simp only [j2]
theorem hx_SB_cmp (h1 : hx_SN S n n1 C1 M1) (h2 : hx_SN S n1 n2 C2 M2) (hn : n ≤ n1) (hn2 : n1 ≤ n2) (hn3 : n2 < 300) (hk : hx_cm k = true) (hS : S n2 = hx_enc k 0) (hM1 : M1 ≤ M) (hM2 : M2 + 1 ≤ M) : hx_SB S n (n2 + 1) (C1 ++ C2 ++ [(hx_op k, 0)]) M := fun S' e nm hnm => by
  obtain ⟨v, a, b, c⟩ := h1 S' (fun j h1 h2 => e j h1 (by omega)) nm hnm
  obtain ⟨w, a', b', c'⟩ := h2 S' (fun j h1 h2 => e j (by omega) (by omega)) nm hnm
  have eS : S' n2 = hx_enc k 0 := (e n2 (by omega) (by omega)).trans hS
  have k6 : k = 30 ∨ k = 31 ∨ k = 32 ∨ k = 33 ∨ k = 43 ∨ k = 44 := by
    unfold hx_cm at hk
    rw [Bool.or_eq_true, Bool.and_eq_true, Bool.and_eq_true, decide_eq_true_eq, decide_eq_true_eq, decide_eq_true_eq, decide_eq_true_eq] at hk
    omega
  refine ⟨hl_akd (nI (hx_op k)) v w, fun V B h1 h2 => ?_, fun K hK => ?_⟩
  · simp only [List.length_append, List.length_singleton] at h1 h2
    rw [List.append_assoc, hx_ev_app C1 V B _ _ (b V B (by omega) (by omega)), hx_ev_app C2 _ B _ _ (b' (v :: V) B (by simp only [List.length_cons]; omega) (by omega)), hx_ev_1, hx_es_b]
    have lB : B.length < 330 := by omega
    rcases k6 with rfl | rfl | rfl | rfl | rfl | rfl <;> exact if_pos lB
  · refine hx_WR_tr (hx_WR_tr (c K (by omega)) (c' _ (by simp only [List.length_cons]; omega)) hn hn2) (hx_WR_1 (by omega) ?_) (by omega) (by omega)
    rw [hx_wst_b hn3 (by omega) eS (by omega), hx_cmp a a' hk]
theorem hx_SB_and (h1 : hx_SB S n n1 C1 M1) (h2 : hx_SB S n1 n2 C2 M2) (hn : n ≤ n1) (hn2 : n1 ≤ n2) (hn3 : n2 < 300) (hk : k = 12 ∨ k = 13) (hS : S n2 = hx_enc k 0) (hM1 : M1 ≤ M) (hM2 : M2 + 1 ≤ M) : hx_SB S n (n2 + 1) (C1 ++ C2 ++ [(hx_op k, 0)]) M := fun S' e nm hnm => by
  obtain ⟨v, b, c⟩ := h1 S' (fun j h1 h2 => e j h1 (by omega)) nm hnm
  obtain ⟨w, b', c'⟩ := h2 S' (fun j h1 h2 => e j (by omega) (by omega)) nm hnm
  have eS : S' n2 = hx_enc k 0 := (e n2 (by omega) (by omega)).trans hS
  refine ⟨if k = 13 then v && w else v || w, fun V B h1 h2 => ?_, fun K hK => ?_⟩
  · simp only [List.length_append, List.length_singleton] at h1 h2
    rw [List.append_assoc, hx_ev_app C1 V B _ _ (b V B (by omega) (by omega)), hx_ev_app C2 V _ _ _ (b' V (v :: B) (by omega) (by simp only [List.length_cons]; omega)), hx_ev_1, hx_es_b]
    rcases hk with rfl | rfl <;> rfl
  · refine hx_WR_tr (hx_WR_tr (c K (by omega)) (c' _ (by simp only [List.length_cons]; omega)) hn hn2) (hx_WR_1 (by omega) ?_) (by omega) (by omega)
    rw [hx_wst_b hn3 (by omega) eS (by omega)]
    have q : hl_lim (hl_jn (nI k) (hl_tv v) (hl_tv w)) = hl_tv (if k = 13 then v && w else v || w) := by
      rcases hk with rfl | rfl <;> cases v <;> cases w <;> decide
    rw [q]
theorem hx_SB_not (h : hx_SB S n n1 C M) (hn : n ≤ n1) (hn1 : n1 < 300) (hS : S n1 = hx_enc 14 0) (hM : 1 ≤ M) : hx_SB S n (n1 + 1) (C ++ [(20, 0)]) M := fun S' e nm hnm => by
  obtain ⟨v, b, c⟩ := h S' (fun j h1 h2 => e j h1 (by omega)) nm hnm
  have eS : S' n1 = hx_enc 14 0 := (e n1 hn (by omega)).trans hS
  refine ⟨!v, fun V B h1 h2 => ?_, fun K hK => ?_⟩
  · simp only [List.length_append, List.length_singleton] at h1 h2
    rw [hx_ev_app C V B _ _ (b V B (by omega) (by omega)), hx_ev_1, hx_es_b]
    rfl
  · refine hx_WR_tr (c K hK) (hx_WR_1 (by omega) ?_) hn (by omega)
    rw [hx_wst_e hn1 (by omega) (by omega) eS, if_neg (by decide), if_neg (by decide), if_neg (by decide), if_neg (by decide), if_neg (by decide), if_pos (by rfl)]
    show (nI n1 + 1, hl_psh (if hl_tv v = 0 then 1 else 0) K) = _
    rw [hx_psh (by omega), nI_succ]
    cases v <;> rfl
theorem hx_SN_if (h1 : hx_SB S n n1 C1 M1) (h2 : hx_SN S (n1 + 1) n2 C2 M2) (h3 : hx_SN S (n2 + 1) n3 C3 M3) (hn : n ≤ n1) (hn2 : n1 + 1 ≤ n2) (hn3 : n2 + 1 ≤ n3) (hn4 : n3 ≤ 300) (j1 : S n1 = hx_enc 52 (n2 + 1)) (j2 : S n2 = hx_enc 51 n3) (hM1 : M1 ≤ M) (hM2 : M2 ≤ M) (hM3 : M3 ≤ M) (hM : 1 ≤ M) : hx_SN S n n3 (C1 ++ C2 ++ C3 ++ [(23, 0)]) M := fun S' e nm hnm => by
  obtain ⟨tb, b, c⟩ := h1 S' (fun j h1 h2 => e j h1 (by omega)) nm hnm
  obtain ⟨v, a', b', c'⟩ := h2 S' (fun j h1 h2 => e j (by omega) (by omega)) nm hnm
  obtain ⟨w, a'', b'', c''⟩ := h3 S' (fun j h1 h2 => e j (by omega) h2) nm hnm
  have e1 : S' n1 = hx_enc 52 (n2 + 1) := (e n1 hn (by omega)).trans j1
  have e2 : S' n2 = hx_enc 51 n3 := (e n2 (by omega) (by omega)).trans j2
  refine ⟨if tb = true then v else w, by split; exact a'; exact a'', fun V B h1 h2 => ?_, fun K hK => ?_⟩
  · simp only [List.length_append, List.length_singleton] at h1 h2
    rw [List.append_assoc, List.append_assoc, hx_ev_app C1 V B _ _ (b V B (by omega) (by omega)), hx_ev_app C2 V _ _ _ (b' V (tb :: B) (by omega) (by simp only [List.length_cons]; omega)), hx_ev_app C3 _ _ _ _ (b'' (v :: V) (tb :: B) (by simp only [List.length_cons]; omega) (by simp only [List.length_cons]; omega)), hx_ev_1, hx_es_b]
    rfl
  · have r1 := c K (by omega)
    cases tb with
    | true =>
      have s1 : hx_WR S' nm n1 (n1 + 1) (hl_tv true :: K) K := hx_WR_1 (by omega) (by
        rw [hx_wst_e (by omega) (by omega) (by omega) e1, if_neg (by decide), if_pos (by rfl)]
        show (if hl_tv true = 0 then (nI (n2 + 1), K) else (nI n1 + 1, K)) = _
        rw [if_neg (by decide), nI_succ])
      have s2 : hx_WR S' nm n2 n3 (v.toInt32 :: K) (v.toInt32 :: K) := hx_WR_1 (by omega) (by
        rw [hx_wst_e (by omega) (by omega) (by omega) e2, if_pos (by rfl)])
      rw [if_pos rfl]
      exact hx_WR_tr (hx_WR_tr (hx_WR_tr r1 s1 hn (by omega)) (c' K (by omega)) (by omega) (by omega)) s2 (by omega) (by omega)
    | false =>
      have s1 : hx_WR S' nm n1 (n2 + 1) (hl_tv false :: K) K := hx_WR_1 (by omega) (by
        rw [hx_wst_e (by omega) (by omega) (by omega) e1, if_neg (by decide), if_pos (by rfl)]
        show (if hl_tv false = 0 then (nI (n2 + 1), K) else (nI n1 + 1, K)) = _
        rw [if_pos (by decide)])
      rw [if_neg (by decide)]
      exact hx_WR_tr (hx_WR_tr r1 s1 hn (by omega)) (c'' K (by omega)) (by omega) (by omega)
end HXSEM
