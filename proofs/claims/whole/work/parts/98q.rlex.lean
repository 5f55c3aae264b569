/-! the reference's tokens -/
def hx_pkr : List Nat → Nat
  | [] => 0
  | b :: bs => 256 * hx_pkr bs + b
theorem hx_pkr_inj : ∀ l l' : List Nat, (∀ b ∈ l, 1 ≤ b ∧ b < 256) → (∀ b ∈ l', 1 ≤ b ∧ b < 256) → hx_pkr l = hx_pkr l' → l = l' := by
  intro l
  induction l with
  | nil =>
    intro l' _ h' e
    cases l' with
    | nil => rfl
    | cons b bs =>
      have := h' b List.mem_cons_self
      have e' : 0 = 256 * hx_pkr bs + b := e
      omega
  | cons a as ih =>
    intro l' h h' e
    have ha := h a List.mem_cons_self
    cases l' with
    | nil =>
      have e' : 256 * hx_pkr as + a = 0 := e
      omega
    | cons b bs =>
      have hb := h' b List.mem_cons_self
      have e' : 256 * hx_pkr as + a = 256 * hx_pkr bs + b := e
      have e1 : a = b := by omega
      have e2 : hx_pkr as = hx_pkr bs := by omega
      rw [e1, ih bs (fun x hx => h x (List.mem_cons_of_mem _ hx)) (fun x hx => h' x (List.mem_cons_of_mem _ hx)) e2]
def hx_pkn (t : Nat → Nat) (s : Nat) : Nat → Nat
  | 0 => 0
  | n + 1 => 256 * hx_pkn t s n + t (s + n)
theorem hx_by_snoc {t : Nat → Nat} (n : Nat) : ∀ s, hx_by t s (n + 1) = hx_by t s n ++ [t (s + n)] := by
  induction n with
  | zero => exact fun s => rfl
  | succ n ih =>
    intro s
    show t s :: hx_by t (s + 1) (n + 1) = t s :: (hx_by t (s + 1) n ++ [t (s + (n + 1))])
    rw [ih (s + 1), show s + 1 + n = s + (n + 1) by omega]
theorem hx_pkn_by {t : Nat → Nat} {s : Nat} (n : Nat) : hx_pkn t s n = hx_pkr (hx_by t s n).reverse := by
  induction n with
  | zero => rfl
  | succ n ih =>
    rw [hx_by_snoc, List.reverse_append]
    show 256 * hx_pkn t s n + t (s + n) = 256 * hx_pkr (hx_by t s n).reverse + t (s + n)
    rw [ih]
theorem hx_by_mem {t : Nat → Nat} {b : Nat} (n : Nat) : ∀ s, b ∈ hx_by t s n → ∃ j, s ≤ j ∧ j < s + n ∧ b = t j := by
  induction n with
  | zero => intro s h; cases h
  | succ n ih =>
    intro s h
    rcases List.mem_cons.mp h with q | q
    · exact ⟨s, Nat.le_refl s, by omega, q⟩
    · obtain ⟨j, a, c, e⟩ := ih (s + 1) q
      exact ⟨j, by omega, by omega, e⟩
theorem hx_by_len {t : Nat → Nat} (n : Nat) : ∀ s, (hx_by t s n).length = n := by
  induction n with
  | zero => exact fun _ => rfl
  | succ n ih => intro s; show (hx_by t (s + 1) n).length + 1 = n + 1; rw [ih]
def hx_pw (i : Nat) : Nat := hx_pkr (hx_W.getD i []).reverse
theorem hx_W_b : ∀ i, i < 17 → (∀ b ∈ hx_W.getD i [], 1 ≤ b ∧ b < 256) ∧ (hx_W.getD i []).length ≤ 6 ∧ 0 < hx_pw i ∧ hx_pw i < 2 ^ 50 := by decide
theorem hx_W_inj : ∀ i, i < 17 → ∀ j, j < 17 → hx_pw i = hx_pw j → i = j := by decide
theorem hx_pkn_w {t : Nat → Nat} {s n i : Nat} (hi : i < 17) (ht : ∀ j, s ≤ j → j < s + n → 1 ≤ t j ∧ t j < 256) : hx_pkn t s n = hx_pw i ↔ hx_by t s n = hx_W.getD i [] := by
  obtain ⟨a, -⟩ := hx_W_b i hi
  rw [hx_pkn_by]
  constructor
  · intro h
    have := hx_pkr_inj _ _ (fun b hb => by
      obtain ⟨j, j1, j2, e⟩ := hx_by_mem n s (List.mem_reverse.mp hb)
      rw [e]; exact ht j j1 j2) (fun b hb => a b (List.mem_reverse.mp hb)) h
    exact List.reverse_inj.mp this
  · intro h
    rw [h]
    rfl
theorem hx_pkn_lt {t : Nat → Nat} {s : Nat} (n : Nat) (hn : n ≤ 7) (ht : ∀ j, s ≤ j → j < s + n → t j < 256) : hx_pkn t s n < 256 ^ n := by
  induction n with
  | zero => show 0 < 1; omega
  | succ n ih =>
    have a := ih (by omega) (fun j h1 h2 => ht j h1 (by omega))
    have b := ht (s + n) (by omega) (by omega)
    show 256 * hx_pkn t s n + t (s + n) < 256 ^ (n + 1)
    rw [Nat.pow_succ]
    omega
theorem hx_wk_at {B : List Nat} : ∀ (Ws : List (List Nat)) n k, hx_wk B Ws n = k → k ≠ 22 → n ≤ k ∧ k < n + Ws.length ∧ B = Ws.getD (k - n) [] := by
  intro Ws
  induction Ws with
  | nil => intro n k h hk; exact absurd h.symm hk
  | cons w Ws ih =>
    intro n k h hk
    unfold hx_wk at h
    by_cases z : B = w
    · rw [if_pos z] at h
      refine ⟨by omega, ?_, ?_⟩
      · show k < n + (Ws.length + 1); omega
      · rw [← h, Nat.sub_self]; exact z
    · rw [if_neg z] at h
      obtain ⟨a, b, c⟩ := ih (n + 1) k h hk
      refine ⟨by omega, ?_, ?_⟩
      · show k < n + (Ws.length + 1); omega
      · rw [show k - n = (k - (n + 1)) + 1 by omega]; exact c
theorem hx_wk_no {B : List Nat} : ∀ (Ws : List (List Nat)) n, hx_wk B Ws n = 22 → n + Ws.length ≤ 22 → ∀ i, i < Ws.length → ¬ B = Ws.getD i [] := by
  intro Ws
  induction Ws with
  | nil => intro n _ _ i hi; exact absurd hi (Nat.not_lt_zero i)
  | cons w Ws ih =>
    intro n h hn i hi
    have hn' : n + (Ws.length + 1) ≤ 22 := hn
    unfold hx_wk at h
    by_cases z : B = w
    · rw [if_pos z] at h; omega
    · rw [if_neg z] at h
      cases i with
      | zero => exact z
      | succ i => exact ih (n + 1) h (by omega) i (by have : i + 1 < Ws.length + 1 := hi; omega)
/-- the reference's words for a kind -/
def hx_ch (k : Nat) : Int32 := if k = 20 then 1 else if k = 21 then 0 else if k = 30 then 60 else if k = 31 then 62 else if k = 32 then 61 else if k = 33 then 35 else if k = 34 then 43 else if k = 35 then 45 else if k = 36 then 42 else if k = 37 then 47 else if k = 38 then 40 else if k = 39 then 41 else if k = 40 then 59 else if k = 41 then 63 else if k = 42 then 58 else if k = 43 then 4 else if k = 44 then 5 else 3
def hx_TR (k v : Nat) (tok nu : Int32) (wo : Int64) : Prop := (k < 17 ∧ tok = 2 ∧ wo = Int64.ofNat (hx_pw k)) ∨ (k = 22 ∧ tok = 2 ∧ ∀ i, i < 17 → ¬ wo = Int64.ofNat (hx_pw i)) ∨ (k = 20 ∧ tok = 1 ∧ ∃ n, nu = nI n ∧ n ≤ 1000008 ∧ (v = n ∧ n ≤ 9999 ∨ v = 10000 ∧ 10000 ≤ n)) ∨ ((k = 21 ∨ k = 22 ∨ (30 ≤ k ∧ k ≤ 44)) ∧ tok = hx_ch k)
theorem hx_b64 : ∀ b, b < 256 → (nI b).toInt64 = Int64.ofNat b := by decide +kernel
theorem hx_shl {x b : Nat} (hx : x < 2 ^ 50) (hb : b < 256) : Int64.ofNat x <<< ((8 : Int32).toInt64 &&& 63) ||| (nI b).toInt64 = Int64.ofNat (256 * x + b) := by
  rw [hx_b64 b hb]
  apply Int64.toBitVec_inj.mp
  rw [Int64.toBitVec_or, Int64.toBitVec_shiftLeft]
  have e8 : ((8 : Int32).toInt64 &&& 63).toBitVec.smod 64 = 8#64 := by decide
  rw [e8]
  apply BitVec.eq_of_toNat_eq
  show (BitVec.ofNat 64 x <<< 8#64 ||| BitVec.ofNat 64 b).toNat = (BitVec.ofNat 64 (256 * x + b)).toNat
  have n8 : (8#64).toNat = 8 := rfl
  rw [BitVec.toNat_or, BitVec.shiftLeft_eq', BitVec.toNat_shiftLeft, n8, BitVec.toNat_ofNat, BitVec.toNat_ofNat, BitVec.toNat_ofNat, Nat.mod_eq_of_lt (show x < 2 ^ 64 by omega), Nat.mod_eq_of_lt (show b < 2 ^ 64 by omega), Nat.mod_eq_of_lt (show 256 * x + b < 2 ^ 64 by omega)]
  have sl : x <<< 8 = 256 * x := by rw [Nat.shiftLeft_eq]; omega
  rw [Nat.mod_eq_of_lt (by rw [sl]; omega), ← Nat.shiftLeft_add_eq_or_of_lt (show b < 2 ^ 8 by omega), sl]
section HXRLEX
variable {d N L : Nat} {I I' : Nat → Nat → Int32} {J J' : Nat → Nat → Int64} {t : Nat → Nat}
def hx_TQ (t : Nat → Nat) (L : Nat) (I : Nat → Nat → Int32) : Prop := L ≤ 300 ∧ I 85 7 = nI L ∧ ∀ k, k < 300 → I 89 k = nI (t k) ∧ t k ≤ 255
/-- the reader's own numbers alone change: places 10 to 13 of 85, and the word -/
def hx_f85 (I I' : Nat → Nat → Int32) : Prop := (∀ b, b ≠ 85 → I' b = I b) ∧ ∀ j, (j < 10 ∨ 13 < j) → I' 85 j = I 85 j
def hx_g85 (J J' : Nat → Nat → Int64) : Prop := ∀ b, b ≠ 85 → J' b = J b
theorem hx_f85_rf (I : Nat → Nat → Int32) : hx_f85 I I := ⟨fun _ _ => rfl, fun _ _ => rfl⟩
theorem hx_f85_tr {I1 I2 I3 : Nat → Nat → Int32} (h : hx_f85 I1 I2) (g : hx_f85 I2 I3) : hx_f85 I1 I3 := ⟨fun b hb => (g.1 b hb).trans (h.1 b hb), fun j hj => (g.2 j hj).trans (h.2 j hj)⟩
theorem hx_f85_up {k : Nat} {v : Int32} (hk : 10 ≤ k ∧ k ≤ 13) : hx_f85 I (hl_up I 85 k v) := ⟨fun b hb => hl_up_ne _ _ _ hb, fun j hj => by rw [hl_up_a, if_pos rfl, if_neg (by omega)]⟩
theorem hx_f85.tq (h : hx_f85 I I') (g : hx_TQ t L I) : hx_TQ t L I' := ⟨g.1, by rw [h.2 7 (by omega)]; exact g.2.1, fun k hk => by rw [h.1 89 (by omega)]; exact g.2.2 k hk⟩
theorem hx_vp_j {k j : Nat} {v : Int32} (h : j ≠ k) : hl_up I 85 k v 85 j = I 85 j := by rw [hl_up_a, if_pos rfl, if_neg h]
def hx_ba (t : Nat → Nat) (L k : Nat) : Int32 := if k < L then nI (t k) else -1
theorem hx_s168 {k : Nat} (T : hx_TQ t L I) (hk : k < 1000) : hl_call (d + 1) 168 [.ref 85, .int (nI k)] (hl_g N I J) = some (some (.int (hx_ba t L k)), hl_g N I J) := by
  have L3 := T.1
  rw [hl_e168]
  unfold hx_ba
  by_cases z : k < L
  · have c1 : ¬ nI L ≤ nI k := nI_ge z (by omega)
    have bk : hl_inb (nI k) 300 = true := hl_inb_nI (by omega) (by omega)
    rw [if_pos z]
    simp only [hl_r168_0, hl_r168_1, hl_r168_2, hl_r168_5, hl_r168_8, hl_r168_9, hl_r168_12, hl_r168_13, hl_r168_14, hl_r168_17, hl_r168_18, hl_o_85, hl_p_85_3, hl_p_85_4, hl_p_85_5, hl_p_85_6, hl_p_85_19, hl_p_85_23, hl_p_85_24, hl_p_85_25, hl_p_85_26, hl_p_85_27, hl_p_85_28, hl_p_85_29, hl_p_85_30, hl_p_85_31, hl_p_85_33, hl_p_85_34, hl_p_85_35, hl_p_85_36, hl_p_85_37, hl_a_89, hl_z_89, T.2.1, c1, bk, hl_cq (show k < 10000 by omega), (T.2.2 k (by omega)).1, hl_kill_i, hl_kill_r, hl_kill_n, hl_kill_l, hl_tl_s, hl_tl_n, hl_cal_some, hl_gI, hl_gJ, hl_gsI, hl_gsJ, hl_tv01, if_true, if_false, hl_up_a, hl_row_a, not_true, not_false_eq_true]
  · have c1 : nI L ≤ nI k := nI_le (by omega) (by omega)
    rw [if_neg z]
    simp only [hl_r168_0, hl_r168_1, hl_r168_2, hl_r168_5, hl_r168_8, hl_r168_9, hl_r168_12, hl_r168_13, hl_r168_14, hl_r168_17, hl_r168_18, hl_o_85, hl_p_85_3, hl_p_85_4, hl_p_85_5, hl_p_85_6, hl_p_85_19, hl_p_85_23, hl_p_85_24, hl_p_85_25, hl_p_85_26, hl_p_85_27, hl_p_85_28, hl_p_85_29, hl_p_85_30, hl_p_85_31, hl_p_85_33, hl_p_85_34, hl_p_85_35, hl_p_85_36, hl_p_85_37, T.2.1, c1, hl_kill_i, hl_kill_r, hl_kill_n, hl_kill_l, hl_tl_s, hl_tl_n, hl_cal_some, hl_gI, hl_gJ, hl_gsI, hl_gsJ, hl_tv01, if_true, if_false, hl_up_a, hl_row_a, not_true, not_false_eq_true]
theorem hx_in_n {c a b : Nat} (hc : c < 1000) (ha : a < 1000) (hb : b < 1000) : hl_in (nI c) (nI a) (nI b) = (decide (a ≤ c) && decide (c ≤ b)) := by
  unfold hl_in
  have e1 : (nI a ≤ nI c) = (a ≤ c) := propext ⟨fun h => by rw [Int32.le_iff_toInt_le, hl_tI (by omega), hl_tI (by omega)] at h; omega, fun h => nI_le h (by omega)⟩
  have e2 : (nI c ≤ nI b) = (c ≤ b) := propext ⟨fun h => by rw [Int32.le_iff_toInt_le, hl_tI (by omega), hl_tI (by omega)] at h; omega, fun h => nI_le h (by omega)⟩
  simp only [e1, e2]
theorem hx_in_m {a b : Nat} (ha : a < 1000) : hl_in (-1) (nI a) (nI b) = false := by
  unfold hl_in
  rw [decide_eq_false (fun h => by
    rw [Int32.le_iff_toInt_le, hl_tI (by omega)] at h
    have e : (-1 : Int32).toInt = -1 := rfl
    omega)]
  rfl
def hx_gb (g : Nat → Bool) (t : Nat → Nat) (L k : Nat) : Bool := decide (k < L) && g (t k)
theorem hx_s170 {k : Nat} {w : hl_W} (ht : k < L → t k ≤ 255) : hl_call (d + 2) 170 [.int (hx_ba t L k)] w = some (some (.int (hl_tv (hx_gb hx_dg t L k))), w) := by
  rw [hl_e170]
  have k48 : (48 : Int32) = nI 48 := rfl
  have k57 : (57 : Int32) = nI 57 := rfl
  unfold hx_gb hx_ba
  by_cases z : k < L
  · have := ht z
    rw [if_pos z, decide_eq_true z, Bool.true_and]
    have e : hl_in (nI (t k)) 48 57 = hx_dg (t k) := hx_in_n (a := 48) (b := 57) (by omega) (by omega) (by omega)
    simp only [hl_r170_0, hl_r170_1, hl_r170_3, hl_r170_5, hl_r170_8, hl_s151, e, hl_tv01, hl_kill_i, hl_kill_r, hl_kill_n, hl_kill_l, hl_tl_s, hl_tl_n, hl_cal_some, hl_gI, hl_gJ, hl_gsI, hl_gsJ, hl_tv01, if_true, if_false, hl_up_a, hl_row_a, not_true, not_false_eq_true]
  · rw [if_neg z, decide_eq_false z, Bool.false_and]
    have e : hl_in (-1) 48 57 = false := hx_in_m (a := 48) (b := 57) (by omega)
    simp only [hl_r170_0, hl_r170_1, hl_r170_3, hl_r170_5, hl_r170_8, hl_s151, e, hl_tv_f, true_or, hl_kill_i, hl_kill_r, hl_kill_n, hl_kill_l, hl_tl_s, hl_tl_n, hl_cal_some, hl_gI, hl_gJ, hl_gsI, hl_gsJ, hl_tv01, if_true, if_false, hl_up_a, hl_row_a, not_true, not_false_eq_true]
theorem hx_s169 {k : Nat} {w : hl_W} (ht : k < L → t k ≤ 255) : hl_call (d + 2) 169 [.int (hx_ba t L k)] w = some (some (.int (hl_tv (hx_gb hx_lt t L k))), w) := by
  rw [hl_e169]
  unfold hx_gb hx_ba
  by_cases z : k < L
  · have := ht z
    rw [if_pos z, decide_eq_true z, Bool.true_and]
    have e1 : hl_in (nI (t k)) 97 122 = (decide (97 ≤ t k) && decide (t k ≤ 122)) := hx_in_n (a := 97) (b := 122) (by omega) (by omega) (by omega)
    have e2 : hl_in (nI (t k)) 65 90 = (decide (65 ≤ t k) && decide (t k ≤ 90)) := hx_in_n (a := 65) (b := 90) (by omega) (by omega) (by omega)
    unfold hx_lt
    cases h1 : (decide (97 ≤ t k) && decide (t k ≤ 122)) with
    | true =>
      rw [h1] at e1
      rw [Bool.true_or]
      simp only [hl_r169_0, hl_r169_1, hl_r169_3, hl_r169_5, hl_r169_8, hl_r169_11, hl_r169_12, hl_r169_14, hl_r169_16, hl_r169_19, hl_r169_22, hl_r169_23, hl_r169_26, hl_r169_27, hl_s151, e1, hl_tv_t, hl_10, or_true, hl_kill_i, hl_kill_r, hl_kill_n, hl_kill_l, hl_tl_s, hl_tl_n, hl_cal_some, hl_gI, hl_gJ, hl_gsI, hl_gsJ, hl_tv01, if_true, if_false, hl_up_a, hl_row_a, not_true, not_false_eq_true]
    | false =>
      rw [h1] at e1
      rw [Bool.false_or]
      cases h2 : (decide (65 ≤ t k) && decide (t k ≤ 90)) with
      | true =>
        rw [h2] at e2
        simp only [hl_r169_0, hl_r169_1, hl_r169_3, hl_r169_5, hl_r169_8, hl_r169_11, hl_r169_12, hl_r169_14, hl_r169_16, hl_r169_19, hl_r169_22, hl_r169_23, hl_r169_26, hl_r169_27, hl_s151, e1, e2, hl_tv_t, hl_tv_f, hl_10, or_true, hl_kill_i, hl_kill_r, hl_kill_n, hl_kill_l, hl_tl_s, hl_tl_n, hl_cal_some, hl_gI, hl_gJ, hl_gsI, hl_gsJ, hl_tv01, if_true, if_false, hl_up_a, hl_row_a, not_true, not_false_eq_true]
      | false =>
        rw [h2] at e2
        simp only [hl_r169_0, hl_r169_1, hl_r169_3, hl_r169_5, hl_r169_8, hl_r169_11, hl_r169_12, hl_r169_14, hl_r169_16, hl_r169_19, hl_r169_22, hl_r169_23, hl_r169_26, hl_r169_27, hl_s151, e1, e2, hl_tv_f, true_or, hl_kill_i, hl_kill_r, hl_kill_n, hl_kill_l, hl_tl_s, hl_tl_n, hl_cal_some, hl_gI, hl_gJ, hl_gsI, hl_gsJ, hl_tv01, if_true, if_false, hl_up_a, hl_row_a, not_true, not_false_eq_true]
  · rw [if_neg z, decide_eq_false z, Bool.false_and]
    have e1 : hl_in (-1) 97 122 = false := hx_in_m (a := 97) (b := 122) (by omega)
    have e2 : hl_in (-1) 65 90 = false := hx_in_m (a := 65) (b := 90) (by omega)
    simp only [hl_r169_0, hl_r169_1, hl_r169_3, hl_r169_5, hl_r169_8, hl_r169_11, hl_r169_12, hl_r169_14, hl_r169_16, hl_r169_19, hl_r169_22, hl_r169_23, hl_r169_26, hl_r169_27, hl_s151, e1, e2, hl_tv_f, true_or, hl_kill_i, hl_kill_r, hl_kill_n, hl_kill_l, hl_tl_s, hl_tl_n, hl_cal_some, hl_gI, hl_gJ, hl_gsI, hl_gsJ, hl_tv01, if_true, if_false, hl_up_a, hl_row_a, not_true, not_false_eq_true]
theorem hx_ba_eq {k a : Nat} (ht : k < L → t k ≤ 255) (ha : a < 256) : (hx_ba t L k = nI a) = (k < L ∧ t k = a) := by
  unfold hx_ba
  apply propext
  by_cases z : k < L
  · have := ht z
    rw [if_pos z]
    exact ⟨fun h => ⟨z, (nI_eq (by omega) (by omega)).mp h⟩, fun h => by rw [h.2]⟩
  · rw [if_neg z]
    exact ⟨fun h => absurd h.symm (hx_ni1 (by omega)), fun h => absurd h.1 z⟩
/-- the skip -/
theorem hx_l171a {c1 c2 : Value} (f : Nat) : ∀ (I : Nat → Nat → Int32) (i : Nat), L - i = f → i ≤ L → hx_TQ t L I → I 85 10 = nI i → ∃ I', hl_Run 171 (hl_call (d + 2)) 0 [.ref 85, c1, c2] [] (hl_g N I J) = hl_Run 171 (hl_call (d + 2)) 39 [.ref 85, c1, c2] [] (hl_g N I' J) ∧ I' 85 10 = nI (hx_E hx_sp t L i) ∧ hx_f85 I I' := by
  induction f with
  | zero =>
    intro I i hf hi T h
    have eE := hx_E_no (g := hx_sp) (t := t) (L := L) (p := i) (by omega)
    have s168 := hx_s168 (d := d + 1) (N := N) (J := J) (k := i) T (by have := T.1; omega)
    have q1 : ¬ hx_ba t L i = 32 := by
      have := hx_ba_eq (t := t) (L := L) (k := i) (a := 32) (fun z => by omega) (by omega)
      show ¬ hx_ba t L i = nI 32
      rw [this]; omega
    have q2 : ¬ hx_ba t L i = 10 := by
      have := hx_ba_eq (t := t) (L := L) (k := i) (a := 10) (fun z => by omega) (by omega)
      show ¬ hx_ba t L i = nI 10
      rw [this]; omega
    refine ⟨I, ?_, by rw [eE]; exact h, hx_f85_rf I⟩
    simp only [hl_r171_0, hl_r171_1, hl_r171_2, hl_r171_5, hl_r171_8, hl_r171_10, hl_r171_13, hl_r171_14, hl_r171_15, hl_r171_18, hl_r171_21, hl_r171_23, hl_o_85, hl_p_85_3, hl_p_85_4, hl_p_85_5, hl_p_85_6, hl_p_85_19, hl_p_85_23, hl_p_85_24, hl_p_85_25, hl_p_85_26, hl_p_85_27, hl_p_85_28, hl_p_85_29, hl_p_85_30, hl_p_85_31, hl_p_85_33, hl_p_85_34, hl_p_85_35, hl_p_85_36, hl_p_85_37, h, s168, q1, q2, hl_kill_i, hl_kill_r, hl_kill_n, hl_kill_l, hl_tl_s, hl_tl_n, hl_cal_some, hl_gI, hl_gJ, hl_gsI, hl_gsJ, hl_tv01, if_true, if_false, hl_up_a, hl_row_a, not_true, not_false_eq_true]
  | succ f ih =>
    intro I i hf hi T h
    have L3 := T.1
    have t2 := (T.2.2 i (by omega)).2
    have s168 := hx_s168 (d := d + 1) (N := N) (J := J) (k := i) T (by omega)
    have en : nI i + 1 = nI (i + 1) := (nI_succ i).symm
    have e32 : (hx_ba t L i = 32) = (i < L ∧ t i = 32) := hx_ba_eq (a := 32) (fun _ => t2) (by omega)
    have e10 : (hx_ba t L i = 10) = (i < L ∧ t i = 10) := hx_ba_eq (a := 10) (fun _ => t2) (by omega)
    by_cases z : t i = 32 ∨ t i = 10
    · have zg : hx_sp (t i) = true := by
        unfold hx_sp
        rcases z with z | z
        · rw [decide_eq_true z, Bool.true_or]
        · rw [decide_eq_true (p := t i = 10) z, Bool.or_true]
      have eE := hx_E_go (g := hx_sp) (t := t) (show i < L by omega) zg
      obtain ⟨I1, g0, g1, g2⟩ := ih (hl_up I 85 10 (nI (i + 1))) (i + 1) (by omega) (by omega) ((hx_f85_up (by omega)).tq T) hl_up_at
      refine ⟨I1, ?_, by rw [eE]; exact g1, hx_f85_tr (hx_f85_up (by omega)) g2⟩
      rw [← g0, hl_r171_0]
      by_cases y : hx_ba t L i = 32
      · simp only [hl_r171_1, hl_r171_2, hl_r171_5, hl_r171_8, hl_r171_10, hl_r171_13, hl_r171_14, hl_r171_15, hl_r171_18, hl_r171_21, hl_r171_23, hl_r171_26, hl_r171_27, hl_r171_28, hl_r171_31, hl_r171_32, hl_r171_33, hl_r171_36, hl_o_85, hl_p_85_3, hl_p_85_4, hl_p_85_5, hl_p_85_6, hl_p_85_19, hl_p_85_23, hl_p_85_24, hl_p_85_25, hl_p_85_26, hl_p_85_27, hl_p_85_28, hl_p_85_29, hl_p_85_30, hl_p_85_31, hl_p_85_33, hl_p_85_34, hl_p_85_35, hl_p_85_36, hl_p_85_37, h, s168, y, en, hl_kill_i, hl_kill_r, hl_kill_n, hl_kill_l, hl_tl_s, hl_tl_n, hl_cal_some, hl_gI, hl_gJ, hl_gsI, hl_gsJ, hl_tv01, if_true, if_false, hl_up_a, hl_row_a, not_true, not_false_eq_true]
        try rw [hl_r171_0]
      · have x : hx_ba t L i = 10 := by
          rw [e10]
          rw [e32] at y
          exact ⟨by omega, z.resolve_left (fun w => y ⟨by omega, w⟩)⟩
        have n1032 : ¬ (10 : Int32) = 32 := by decide
        simp only [hl_r171_1, hl_r171_2, hl_r171_5, hl_r171_8, hl_r171_10, hl_r171_13, hl_r171_14, hl_r171_15, hl_r171_18, hl_r171_21, hl_r171_23, hl_r171_26, hl_r171_27, hl_r171_28, hl_r171_31, hl_r171_32, hl_r171_33, hl_r171_36, hl_o_85, hl_p_85_3, hl_p_85_4, hl_p_85_5, hl_p_85_6, hl_p_85_19, hl_p_85_23, hl_p_85_24, hl_p_85_25, hl_p_85_26, hl_p_85_27, hl_p_85_28, hl_p_85_29, hl_p_85_30, hl_p_85_31, hl_p_85_33, hl_p_85_34, hl_p_85_35, hl_p_85_36, hl_p_85_37, h, s168, x, n1032, en, hl_kill_i, hl_kill_r, hl_kill_n, hl_kill_l, hl_tl_s, hl_tl_n, hl_cal_some, hl_gI, hl_gJ, hl_gsI, hl_gsJ, hl_tv01, if_true, if_false, hl_up_a, hl_row_a, not_true, not_false_eq_true]
        try rw [hl_r171_0]
    · have zg : ¬ (i < L ∧ hx_sp (t i) = true) := fun w => by
        have := w.2
        unfold hx_sp at this
        rw [decide_eq_false (fun x => z (.inl x)), decide_eq_false (fun x => z (.inr x))] at this
        cases this
      have eE := hx_E_no (g := hx_sp) (t := t) zg
      have q1 : ¬ hx_ba t L i = 32 := by rw [e32]; exact fun w => z (.inl w.2)
      have q2 : ¬ hx_ba t L i = 10 := by rw [e10]; exact fun w => z (.inr w.2)
      refine ⟨I, ?_, by rw [eE]; exact h, hx_f85_rf I⟩
      simp only [hl_r171_0, hl_r171_1, hl_r171_2, hl_r171_5, hl_r171_8, hl_r171_10, hl_r171_13, hl_r171_14, hl_r171_15, hl_r171_18, hl_r171_21, hl_r171_23, hl_o_85, hl_p_85_3, hl_p_85_4, hl_p_85_5, hl_p_85_6, hl_p_85_19, hl_p_85_23, hl_p_85_24, hl_p_85_25, hl_p_85_26, hl_p_85_27, hl_p_85_28, hl_p_85_29, hl_p_85_30, hl_p_85_31, hl_p_85_33, hl_p_85_34, hl_p_85_35, hl_p_85_36, hl_p_85_37, h, s168, q1, q2, hl_kill_i, hl_kill_r, hl_kill_n, hl_kill_l, hl_tl_s, hl_tl_n, hl_cal_some, hl_gI, hl_gJ, hl_gsI, hl_gsJ, hl_tv01, if_true, if_false, hl_up_a, hl_row_a, not_true, not_false_eq_true]
/-- the number -/
theorem hx_l171d {c1 c2 : Value} (f : Nat) : ∀ (I : Nat → Nat → Int32) (i v : Nat), L - i = f → i ≤ L → v ≤ 1000008 → hx_TQ t L I → I 85 10 = nI i → I 85 13 = nI v → ∃ I', hl_Run 171 (hl_call (d + 2)) 85 [.ref 85, c1, c2] [] (hl_g N I J) = some (none, hl_g N I' J) ∧ I' 85 10 = nI (hx_E hx_dg t L i) ∧ I' 85 13 = nI (hx_vr t (hx_E hx_dg t L i - i) i v) ∧ hx_f85 I I' ∧ I' 85 11 = I 85 11 ∧ I' 85 12 = I 85 12 := by
  induction f with
  | zero =>
    intro I i v hf hi hv T h h13
    have eE := hx_E_no (g := hx_dg) (t := t) (L := L) (p := i) (by omega)
    have s168 := hx_s168 (d := d + 1) (N := N) (J := J) (k := i) T (by have := T.1; omega)
    have s170 := hx_s170 (d := d) (t := t) (L := L) (k := i) (w := hl_g N I J) (fun z => by omega)
    have eg : hx_gb hx_dg t L i = false := by unfold hx_gb; rw [decide_eq_false (by omega)]; rfl
    rw [eg] at s170
    refine ⟨I, ?_, by rw [eE]; exact h, by rw [eE, Nat.sub_self]; exact h13, hx_f85_rf I, rfl, rfl⟩
    simp only [hl_r171_85, hl_r171_86, hl_r171_87, hl_r171_90, hl_r171_93, hl_r171_96, hl_r171_402, hl_o_85, hl_p_85_3, hl_p_85_4, hl_p_85_5, hl_p_85_6, hl_p_85_19, hl_p_85_23, hl_p_85_24, hl_p_85_25, hl_p_85_26, hl_p_85_27, hl_p_85_28, hl_p_85_29, hl_p_85_30, hl_p_85_31, hl_p_85_33, hl_p_85_34, hl_p_85_35, hl_p_85_36, hl_p_85_37, h, s168, s170, hl_tv_f, hl_kill_i, hl_kill_r, hl_kill_n, hl_kill_l, hl_tl_s, hl_tl_n, hl_cal_some, hl_gI, hl_gJ, hl_gsI, hl_gsJ, hl_tv01, if_true, if_false, hl_up_a, hl_row_a, not_true, not_false_eq_true]
  | succ f ih =>
    intro I i v hf hi hv T h h13
    have L3 := T.1
    obtain ⟨t1, t2⟩ := T.2.2 i (by omega)
    have s168 := hx_s168 (d := d + 1) (N := N) (I := I) (J := J) (k := i) T (by omega)
    have s170 := hx_s170 (d := d) (t := t) (L := L) (k := i) (w := hl_g N I J) (fun _ => t2)
    have en : nI i + 1 = nI (i + 1) := (nI_succ i).symm
    have eg : hx_gb hx_dg t L i = hx_dg (t i) := by unfold hx_gb; rw [decide_eq_true (by omega)]; rfl
    rw [eg] at s170
    by_cases z : hx_dg (t i) = true
    · have z' : 48 ≤ t i ∧ t i ≤ 57 := by
        unfold hx_dg at z
        rw [Bool.and_eq_true, decide_eq_true_eq, decide_eq_true_eq] at z
        exact z
      rw [z] at s170
      have eE := hx_E_go (g := hx_dg) (t := t) (show i < L by omega) z
      obtain ⟨a, -, -, -⟩ := hx_E_in (g := hx_dg) (t := t) (L := L) _ (i + 1) rfl
      have eb : hx_ba t L i = nI (t i) := if_pos (by omega)
      have step : ∀ v', v' = (if v < 100000 then 10 * v + (t i - 48) else v) → ∃ I1, hl_Run 171 (hl_call (d + 2)) 85 [.ref 85, c1, c2] [] (hl_g N I J) = hl_Run 171 (hl_call (d + 2)) 85 [.ref 85, c1, c2] [] (hl_g N I1 J) ∧ I1 85 10 = nI (i + 1) ∧ I1 85 13 = nI v' ∧ hx_f85 I I1 ∧ I1 85 11 = I 85 11 ∧ I1 85 12 = I 85 12 := fun v' hv' => by
        by_cases y : v < 100000
        · rw [if_pos y] at hv'
          have c3 : ¬ (100000 : Int32) ≤ nI v := (nI_ge y (by omega) : ¬ nI 100000 ≤ nI v)
          have k10 : (10 : Int32) = nI 10 := rfl
          have k48 : (48 : Int32) = nI 48 := rfl
          have ev : (10 : Int32) * nI v + nI (t i) - 48 = nI v' := by
            rw [k10, nI_mul, nI_add, k48, show 10 * v + t i = v' + 48 by omega, ← nI_add, Int32.add_sub_cancel]
          refine ⟨hl_up (hl_up I 85 13 (nI v')) 85 10 (nI (i + 1)), ?_, hl_up_at, by rw [hx_vp_j (by omega)]; exact hl_up_at, hx_f85_tr (hx_f85_up (by omega)) (hx_f85_up (by omega)), by rw [hx_vp_j (by omega), hx_vp_j (by omega)], by rw [hx_vp_j (by omega), hx_vp_j (by omega)]⟩
          have u10 : hl_up I 85 13 (nI v') 85 10 = nI i := by rw [hx_vp_j (by omega)]; exact h
          rw [eb] at s168 s170
          rw [hl_r171_85]
          simp only [hl_r171_86, hl_r171_87, hl_r171_90, hl_r171_93, hl_r171_96, hl_r171_99, hl_r171_100, hl_r171_103, hl_r171_105, hl_r171_108, hl_r171_109, hl_r171_111, hl_r171_112, hl_r171_115, hl_r171_116, hl_r171_117, hl_r171_118, hl_r171_121, hl_r171_124, hl_r171_125, hl_r171_127, hl_r171_128, hl_r171_131, hl_r171_132, hl_r171_133, hl_r171_136, hl_r171_137, hl_r171_138, hl_r171_141, hl_o_85, hl_p_85_3, hl_p_85_4, hl_p_85_5, hl_p_85_6, hl_p_85_19, hl_p_85_23, hl_p_85_24, hl_p_85_25, hl_p_85_26, hl_p_85_27, hl_p_85_28, hl_p_85_29, hl_p_85_30, hl_p_85_31, hl_p_85_33, hl_p_85_34, hl_p_85_35, hl_p_85_36, hl_p_85_37, h, h13, s168, s170, hl_tv_t, hl_10, c3, ev, u10, en, hl_kill_i, hl_kill_r, hl_kill_n, hl_kill_l, hl_tl_s, hl_tl_n, hl_cal_some, hl_gI, hl_gJ, hl_gsI, hl_gsJ, hl_tv01, if_true, if_false, hl_up_a, hl_row_a, not_true, not_false_eq_true]
          try rw [hl_r171_85]
        · rw [if_neg y] at hv'
          have c3 : (100000 : Int32) ≤ nI v := (nI_le (by omega) (by omega) : nI 100000 ≤ nI v)
          refine ⟨hl_up I 85 10 (nI (i + 1)), ?_, hl_up_at, by rw [hx_vp_j (by omega), hv']; exact h13, hx_f85_up (by omega), hx_vp_j (by omega), hx_vp_j (by omega)⟩
          rw [hl_r171_85]
          simp only [hl_r171_86, hl_r171_87, hl_r171_90, hl_r171_93, hl_r171_96, hl_r171_99, hl_r171_100, hl_r171_103, hl_r171_105, hl_r171_108, hl_r171_109, hl_r171_111, hl_r171_112, hl_r171_115, hl_r171_116, hl_r171_117, hl_r171_118, hl_r171_121, hl_r171_124, hl_r171_125, hl_r171_127, hl_r171_128, hl_r171_131, hl_r171_132, hl_r171_133, hl_r171_136, hl_r171_137, hl_r171_138, hl_r171_141, hl_o_85, hl_p_85_3, hl_p_85_4, hl_p_85_5, hl_p_85_6, hl_p_85_19, hl_p_85_23, hl_p_85_24, hl_p_85_25, hl_p_85_26, hl_p_85_27, hl_p_85_28, hl_p_85_29, hl_p_85_30, hl_p_85_31, hl_p_85_33, hl_p_85_34, hl_p_85_35, hl_p_85_36, hl_p_85_37, h, h13, s168, s170, hl_tv_t, hl_10, c3, en, hl_kill_i, hl_kill_r, hl_kill_n, hl_kill_l, hl_tl_s, hl_tl_n, hl_cal_some, hl_gI, hl_gJ, hl_gsI, hl_gsJ, hl_tv01, if_true, if_false, hl_up_a, hl_row_a, not_true, not_false_eq_true]
          try rw [hl_r171_85]
      obtain ⟨I1, e1, g1, g2, g3, g4, g5⟩ := step _ rfl
      obtain ⟨I2, e2, k1, k2, k3, k4, k5⟩ := ih I1 (i + 1) _ (by omega) (by omega) (by split <;> omega) (g3.tq T) g1 g2
      refine ⟨I2, e1.trans e2, by rw [eE]; exact k1, ?_, hx_f85_tr g3 k3, by rw [k4, g4], by rw [k5, g5]⟩
      rw [eE, show hx_E hx_dg t L (i + 1) - i = (hx_E hx_dg t L (i + 1) - (i + 1)) + 1 by omega]
      exact k2
    · have eE := hx_E_no (g := hx_dg) (t := t) (L := L) (p := i) (fun q => z q.2)
      rw [Bool.not_eq_true] at z
      rw [z] at s170
      refine ⟨I, ?_, by rw [eE]; exact h, by rw [eE, Nat.sub_self]; exact h13, hx_f85_rf I, rfl, rfl⟩
      simp only [hl_r171_85, hl_r171_86, hl_r171_87, hl_r171_90, hl_r171_93, hl_r171_96, hl_r171_402, hl_o_85, hl_p_85_3, hl_p_85_4, hl_p_85_5, hl_p_85_6, hl_p_85_19, hl_p_85_23, hl_p_85_24, hl_p_85_25, hl_p_85_26, hl_p_85_27, hl_p_85_28, hl_p_85_29, hl_p_85_30, hl_p_85_31, hl_p_85_33, hl_p_85_34, hl_p_85_35, hl_p_85_36, hl_p_85_37, h, s168, s170, hl_tv_f, hl_kill_i, hl_kill_r, hl_kill_n, hl_kill_l, hl_tl_s, hl_tl_n, hl_cal_some, hl_gI, hl_gJ, hl_gsI, hl_gsJ, hl_tv01, if_true, if_false, hl_up_a, hl_row_a, not_true, not_false_eq_true]
/-- the word -/
theorem hx_l171w {c1 c2 : Value} {s : Nat} (f : Nat) : ∀ (I : Nat → Nat → Int32) (J : Nat → Nat → Int64) (i : Nat), L - i = f → s ≤ i → i ≤ L → hx_TQ t L I → I 85 10 = nI i → I 85 11 = nI s → J 85 14 = Int64.ofNat (hx_pkn t s (min (i - s) 7)) → ∃ I' J', hl_Run 171 (hl_call (d + 2)) 161 [.ref 85, c1, c2] [] (hl_g N I J) = hl_Run 171 (hl_call (d + 2)) 223 [.ref 85, c1, c2] [] (hl_g N I' J') ∧ I' 85 10 = nI (hx_E hx_lt t L i) ∧ J' 85 14 = Int64.ofNat (hx_pkn t s (min (hx_E hx_lt t L i - s) 7)) ∧ hx_f85 I I' ∧ hx_g85 J J' ∧ I' 85 11 = I 85 11 ∧ I' 85 12 = I 85 12 := by
  induction f with
  | zero =>
    intro I J i hf hs hi T h h11 hw
    have eE := hx_E_no (g := hx_lt) (t := t) (L := L) (p := i) (by omega)
    have s168 := hx_s168 (d := d + 1) (N := N) (J := J) (k := i) T (by have := T.1; omega)
    have s169 := hx_s169 (d := d) (t := t) (L := L) (k := i) (w := hl_g N I J) (fun z => by omega)
    have eg : hx_gb hx_lt t L i = false := by unfold hx_gb; rw [decide_eq_false (by omega)]; rfl
    rw [eg] at s169
    refine ⟨I, J, ?_, by rw [eE]; exact h, by rw [eE]; exact hw, hx_f85_rf I, fun _ _ => rfl, rfl, rfl⟩
    simp only [hl_r171_161, hl_r171_162, hl_r171_163, hl_r171_166, hl_r171_169, hl_r171_172, hl_o_85, hl_p_85_3, hl_p_85_4, hl_p_85_5, hl_p_85_6, hl_p_85_19, hl_p_85_23, hl_p_85_24, hl_p_85_25, hl_p_85_26, hl_p_85_27, hl_p_85_28, hl_p_85_29, hl_p_85_30, hl_p_85_31, hl_p_85_33, hl_p_85_34, hl_p_85_35, hl_p_85_36, hl_p_85_37, h, s168, s169, hl_tv_f, hl_kill_i, hl_kill_r, hl_kill_n, hl_kill_l, hl_tl_s, hl_tl_n, hl_cal_some, hl_gI, hl_gJ, hl_gsI, hl_gsJ, hl_tv01, if_true, if_false, hl_up_a, hl_row_a, not_true, not_false_eq_true]
  | succ f ih =>
    intro I J i hf hs hi T h h11 hw
    have L3 := T.1
    obtain ⟨t1, t2⟩ := T.2.2 i (by omega)
    have s168 := hx_s168 (d := d + 1) (N := N) (I := I) (J := J) (k := i) T (by omega)
    have s169 := hx_s169 (d := d) (t := t) (L := L) (k := i) (w := hl_g N I J) (fun _ => t2)
    have en : nI i + 1 = nI (i + 1) := (nI_succ i).symm
    have eg : hx_gb hx_lt t L i = hx_lt (t i) := by unfold hx_gb; rw [decide_eq_true (by omega)]; rfl
    rw [eg] at s169
    by_cases z : hx_lt (t i) = true
    · rw [z] at s169
      have eE := hx_E_go (g := hx_lt) (t := t) (show i < L by omega) z
      have eb : hx_ba t L i = nI (t i) := if_pos (by omega)
      have esub : nI i - nI s = nI (i - s) := by
        rw [show i = (i - s) + s by omega, ← nI_add, Int32.add_sub_cancel, show (i - s) + s - s = i - s by omega]
      have step : ∃ J1, hl_Run 171 (hl_call (d + 2)) 161 [.ref 85, c1, c2] [] (hl_g N I J) = hl_Run 171 (hl_call (d + 2)) 161 [.ref 85, c1, c2] [] (hl_g N (hl_up I 85 10 (nI (i + 1))) J1) ∧ J1 85 14 = Int64.ofNat (hx_pkn t s (min (i + 1 - s) 7)) ∧ hx_g85 J J1 := by
        by_cases y : i - s < 7
        · have c3 : ¬ (7 : Int32) ≤ nI (i - s) := (nI_ge y (by omega) : ¬ nI 7 ≤ nI (i - s))
          have m1 : min (i - s) 7 = i - s := Nat.min_eq_left (by omega)
          have m2 : min (i + 1 - s) 7 = (i - s) + 1 := by rw [Nat.min_eq_left (by omega)]; omega
          rw [m1] at hw
          have lt := hx_pkn_lt (t := t) (s := s) (i - s) (by omega) (fun j h1 h2 => by have := (T.2.2 j (by omega)).2; omega)
          have lt2 : (256 : Nat) ^ (i - s) ≤ 256 ^ 6 := Nat.pow_le_pow_right (by omega) (by omega)
          have sh := hx_shl (x := hx_pkn t s (i - s)) (b := t i) (by omega) (by omega)
          have ep : 256 * hx_pkn t s (i - s) + t i = hx_pkn t s (i - s + 1) := by
            show _ = 256 * hx_pkn t s (i - s) + t (s + (i - s))
            rw [show s + (i - s) = i by omega]
          rw [ep] at sh
          refine ⟨hl_up J 85 14 (Int64.ofNat (hx_pkn t s (i - s + 1))), ?_, by rw [m2, hl_up_a, if_pos rfl, if_pos rfl], fun b hb => hl_up_ne _ _ _ hb⟩
          rw [eb] at s168 s169
          rw [hl_r171_161]
          simp only [hl_r171_162, hl_r171_163, hl_r171_166, hl_r171_169, hl_r171_172, hl_r171_175, hl_r171_176, hl_r171_179, hl_r171_180, hl_r171_183, hl_r171_184, hl_r171_186, hl_r171_189, hl_r171_190, hl_r171_191, hl_r171_194, hl_r171_196, hl_r171_197, hl_r171_198, hl_r171_199, hl_r171_202, hl_r171_205, hl_r171_206, hl_r171_207, hl_r171_210, hl_r171_211, hl_r171_212, hl_r171_215, hl_r171_216, hl_r171_217, hl_r171_220, hl_o_85, hl_p_85_3, hl_p_85_4, hl_p_85_5, hl_p_85_6, hl_p_85_19, hl_p_85_23, hl_p_85_24, hl_p_85_25, hl_p_85_26, hl_p_85_27, hl_p_85_28, hl_p_85_29, hl_p_85_30, hl_p_85_31, hl_p_85_33, hl_p_85_34, hl_p_85_35, hl_p_85_36, hl_p_85_37, h, h11, hw, s168, s169, hl_tv_t, hl_10, esub, c3, sh, en, hl_kill_i, hl_kill_r, hl_kill_n, hl_kill_l, hl_tl_s, hl_tl_n, hl_cal_some, hl_gI, hl_gJ, hl_gsI, hl_gsJ, hl_tv01, if_true, if_false, hl_up_a, hl_row_a, not_true, not_false_eq_true]
          try rw [hl_r171_161]
        · have c3 : (7 : Int32) ≤ nI (i - s) := (nI_le (by omega) (by omega) : nI 7 ≤ nI (i - s))
          have m1 : min (i - s) 7 = 7 := Nat.min_eq_right (by omega)
          have m2 : min (i + 1 - s) 7 = 7 := Nat.min_eq_right (by omega)
          refine ⟨J, ?_, by rw [m2, ← m1]; exact hw, fun _ _ => rfl⟩
          rw [hl_r171_161]
          simp only [hl_r171_162, hl_r171_163, hl_r171_166, hl_r171_169, hl_r171_172, hl_r171_175, hl_r171_176, hl_r171_179, hl_r171_180, hl_r171_183, hl_r171_184, hl_r171_186, hl_r171_189, hl_r171_190, hl_r171_191, hl_r171_194, hl_r171_196, hl_r171_197, hl_r171_198, hl_r171_199, hl_r171_202, hl_r171_205, hl_r171_206, hl_r171_207, hl_r171_210, hl_r171_211, hl_r171_212, hl_r171_215, hl_r171_216, hl_r171_217, hl_r171_220, hl_o_85, hl_p_85_3, hl_p_85_4, hl_p_85_5, hl_p_85_6, hl_p_85_19, hl_p_85_23, hl_p_85_24, hl_p_85_25, hl_p_85_26, hl_p_85_27, hl_p_85_28, hl_p_85_29, hl_p_85_30, hl_p_85_31, hl_p_85_33, hl_p_85_34, hl_p_85_35, hl_p_85_36, hl_p_85_37, h, h11, s168, s169, hl_tv_t, hl_10, esub, c3, en, hl_kill_i, hl_kill_r, hl_kill_n, hl_kill_l, hl_tl_s, hl_tl_n, hl_cal_some, hl_gI, hl_gJ, hl_gsI, hl_gsJ, hl_tv01, if_true, if_false, hl_up_a, hl_row_a, not_true, not_false_eq_true]
          try rw [hl_r171_161]
      obtain ⟨J1, e1, g1, g2⟩ := step
      obtain ⟨I2, J2, e2, k1, k2, k3, k4, k5, k6⟩ := ih (hl_up I 85 10 (nI (i + 1))) J1 (i + 1) (by omega) (by omega) (by omega) ((hx_f85_up (by omega)).tq T) hl_up_at (by rw [hx_vp_j (by omega)]; exact h11) g1
      exact ⟨I2, J2, e1.trans e2, by rw [eE]; exact k1, by rw [eE]; exact k2, hx_f85_tr (hx_f85_up (by omega)) k3, fun b hb => (k4 b hb).trans (g2 b hb), by rw [k5, hx_vp_j (by omega)], by rw [k6, hx_vp_j (by omega)]⟩
    · have eE := hx_E_no (g := hx_lt) (t := t) (L := L) (p := i) (fun q => z q.2)
      rw [Bool.not_eq_true] at z
      rw [z] at s169
      refine ⟨I, J, ?_, by rw [eE]; exact h, by rw [eE]; exact hw, hx_f85_rf I, fun _ _ => rfl, rfl, rfl⟩
      simp only [hl_r171_161, hl_r171_162, hl_r171_163, hl_r171_166, hl_r171_169, hl_r171_172, hl_o_85, hl_p_85_3, hl_p_85_4, hl_p_85_5, hl_p_85_6, hl_p_85_19, hl_p_85_23, hl_p_85_24, hl_p_85_25, hl_p_85_26, hl_p_85_27, hl_p_85_28, hl_p_85_29, hl_p_85_30, hl_p_85_31, hl_p_85_33, hl_p_85_34, hl_p_85_35, hl_p_85_36, hl_p_85_37, h, s168, s169, hl_tv_f, hl_kill_i, hl_kill_r, hl_kill_n, hl_kill_l, hl_tl_s, hl_tl_n, hl_cal_some, hl_gI, hl_gJ, hl_gsI, hl_gsJ, hl_tv01, if_true, if_false, hl_up_a, hl_row_a, not_true, not_false_eq_true]
end HXRLEX
