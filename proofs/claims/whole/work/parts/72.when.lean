/-! when: sums, and the class's scan beside the reference's -/
theorem hl_sum_z (n : Nat) : hl_sum n (fun _ => 0) = 0 := by
  induction n with
  | zero => rfl
  | succ n ih => show hl_sum n (fun _ => 0) + 0 = 0; rw [ih]; rfl
theorem hl_sum_add (n : Nat) (f g : Nat → Int32) : hl_sum n (fun k => f k + g k) = hl_sum n f + hl_sum n g := by
  induction n with
  | zero => rfl
  | succ n ih =>
    show hl_sum n (fun k => f k + g k) + (f n + g n) = (hl_sum n f + f n) + (hl_sum n g + g n)
    rw [ih]
    ac_rfl
theorem hl_sum_swap (n m : Nat) (F : Nat → Nat → Int32) : hl_sum n (fun i => hl_sum m (fun j => F i j)) = hl_sum m (fun j => hl_sum n (fun i => F i j)) := by
  induction n with
  | zero => exact (hl_sum_z m).symm
  | succ n ih =>
    show hl_sum n (fun i => hl_sum m (fun j => F i j)) + hl_sum m (fun j => F n j) = hl_sum m (fun j => hl_sum n (fun i => F i j) + F n j)
    rw [hl_sum_add, ih]
theorem hl_sum_one {f g : Nat → Int32} {j : Nat} (n : Nat) (hj : j < n) (h : ∀ k, k < n → k ≠ j → f k = g k) : hl_sum n f = hl_sum n g + (f j - g j) := by
  induction n with
  | zero => omega
  | succ n ih =>
    show hl_sum n f + f n = hl_sum n g + g n + (f j - g j)
    by_cases e : j = n
    · subst e
      rw [hl_sum_congr (f := f) (g := g) (fun k hk => h k (by omega) (by omega)), Int32.sub_eq_add_neg]
      have : hl_sum j g + g j + (f j + -g j) = hl_sum j g + f j + (g j + -g j) := by ac_rfl
      rw [this, ← Int32.sub_eq_add_neg, Int32.sub_self, Int32.add_zero]
    · rw [ih (by omega) (fun k hk => h k (by omega)), h n (by omega) (by omega)]
      ac_rfl
theorem hl_sum_B {f : Nat → Int32} {B : Nat} (n : Nat) (h : ∀ k, k < n → 0 ≤ (f k).toInt ∧ (f k).toInt ≤ B) (hB : n * B < 2 ^ 31) : 0 ≤ (hl_sum n f).toInt ∧ (hl_sum n f).toInt ≤ ((n * B : Nat) : Int) := by
  induction n with
  | zero =>
    show 0 ≤ (0 : Int32).toInt ∧ (0 : Int32).toInt ≤ _
    rw [show (0 : Int32).toInt = 0 from rfl]
    omega
  | succ n ih =>
    have e : (n + 1) * B = n * B + B := Nat.succ_mul n B
    obtain ⟨i1, i2⟩ := ih (fun k hk => h k (by omega)) (by omega)
    obtain ⟨h1, h2⟩ := h n (by omega)
    show 0 ≤ (hl_sum n f + f n).toInt ∧ (hl_sum n f + f n).toInt ≤ _
    rw [Int32.toInt_add, Int.bmod_eq_of_le (by omega) (by omega), e]
    omega
def hl_Rg (x : Int32) : Prop := 0 ≤ x.toInt ∧ x.toInt < 1073741824
theorem hl_cmpR {p x y : Int32} (hp : hl_Rg p) (hx : hl_Rg (p + x)) (hy : hl_Rg (p + y)) : (x < y) ↔ (p + x < p + y) := by
  have sub : ∀ z : Int32, hl_Rg (p + z) → z.toInt = (p + z).toInt - p.toInt := fun z hz => by
    have e : z = (p + z) - p := by rw [Int32.add_comm, Int32.add_sub_cancel]
    obtain ⟨a, b⟩ := hz
    obtain ⟨c, d⟩ := hp
    have := congrArg Int32.toInt e
    rw [Int32.toInt_sub, Int.bmod_eq_of_le (by omega) (by omega)] at this
    exact this
  rw [Int32.lt_iff_toInt_lt, Int32.lt_iff_toInt_lt, sub x hx, sub y hy]
  omega
/-- the scans -/
def hl_wi (r : Nat → Int32) (a : Nat) : Nat → Nat → Int32 → Int32 × Int32 × Int32 → Int32 × Int32 × Int32
  | 0, _, _, st => st
  | f + 1, b, s, st => hl_wi r a f (b + 1) (s + r b) (if s + r b < st.2.2 then (nI a, nI b, s + r b) else st)
def hl_wo (r : Nat → Int32) : Nat → Nat → Int32 × Int32 × Int32 → Int32 × Int32 × Int32
  | 0, _, st => st
  | f + 1, a, st => hl_wo r f (a + 1) (hl_wi r a (12 - a) a 0 st)
def hl_vi (V : Nat → Nat → Int32) (a : Nat) : Nat → Nat → Int32 × Int32 × Int32 → Int32 × Int32 × Int32
  | 0, _, st => st
  | f + 1, b, st => hl_vi V a f (b + 1) (if V a b < st.2.2 then (nI a, nI b, V a b) else st)
def hl_vo (V : Nat → Nat → Int32) : Nat → Nat → Int32 × Int32 × Int32 → Int32 × Int32 × Int32
  | 0, _, st => st
  | f + 1, a, st => hl_vo V f (a + 1) (hl_vi V a (12 - a) a st)
theorem hl_wv_i {r : Nat → Int32} {V : Nat → Nat → Int32} {p : Int32} {a : Nat} (hp : hl_Rg p) (f : Nat) : ∀ (b : Nat) (s : Int32) (st : Int32 × Int32 × Int32), b + f = 12 → (∀ k, b ≤ k → k < 12 → V a k = p + hl_sum (k + 1 - b) (fun j => r (b + j)) + s) → (∀ k, b ≤ k → k < 12 → hl_Rg (V a k)) → hl_Rg (p + st.2.2) → hl_vi V a f b (st.1, st.2.1, p + st.2.2) = ((hl_wi r a f b s st).1, (hl_wi r a f b s st).2.1, p + (hl_wi r a f b s st).2.2) ∧ hl_Rg (p + (hl_wi r a f b s st).2.2) := by
  induction f with
  | zero => intro b s st _ _ _ hst; exact ⟨rfl, hst⟩
  | succ f ih =>
    intro b s st hb hV hR hst
    have e1 : V a b = p + (s + r b) := by
      have := hV b (Nat.le_refl b) (by omega)
      rw [show b + 1 - b = 1 by omega] at this
      rw [this]
      show p + (0 + r (b + 0)) + s = _
      rw [Int32.zero_add, Nat.add_zero]
      ac_rfl
    have hRb := hR b (Nat.le_refl b) (by omega)
    rw [e1] at hRb
    have cmp := hl_cmpR hp hRb hst
    have hV' : ∀ k, b + 1 ≤ k → k < 12 → V a k = p + hl_sum (k + 1 - (b + 1)) (fun j => r (b + 1 + j)) + (s + r b) := fun k h1 h2 => by
      rw [hV k (by omega) h2]
      have sh : ∀ n, hl_sum (n + 1) (fun j => r (b + j)) = r b + hl_sum n (fun j => r (b + 1 + j)) := by
        intro n
        induction n with
        | zero => show 0 + r (b + 0) = r b + 0; rw [Int32.zero_add, Int32.add_zero, Nat.add_zero]
        | succ n ihn =>
          show hl_sum (n + 1) (fun j => r (b + j)) + r (b + (n + 1)) = r b + (hl_sum n (fun j => r (b + 1 + j)) + r (b + 1 + n))
          rw [ihn, show b + 1 + n = b + (n + 1) by omega]
          ac_rfl
      rw [show k + 1 - b = (k + 1 - (b + 1)) + 1 by omega, sh]
      ac_rfl
    have hR' : ∀ k, b + 1 ≤ k → k < 12 → hl_Rg (V a k) := fun k h1 h2 => hR k (by omega) h2
    unfold hl_vi hl_wi
    rw [e1]
    by_cases q : s + r b < st.2.2
    · have q' : p + (s + r b) < p + st.2.2 := cmp.mp q
      rw [if_pos q]
      show hl_vi V a f (b + 1) (if p + (s + r b) < p + st.2.2 then (nI a, nI b, p + (s + r b)) else (st.1, st.2.1, p + st.2.2)) = _ ∧ _
      rw [if_pos q']
      exact ih (b + 1) (s + r b) (nI a, nI b, s + r b) (by omega) hV' hR' hRb
    · have q' : ¬ p + (s + r b) < p + st.2.2 := fun z => q (cmp.mpr z)
      rw [if_neg q]
      show hl_vi V a f (b + 1) (if p + (s + r b) < p + st.2.2 then (nI a, nI b, p + (s + r b)) else (st.1, st.2.1, p + st.2.2)) = _ ∧ _
      rw [if_neg q']
      exact ih (b + 1) (s + r b) st (by omega) hV' hR' hst
theorem hl_wv_o {r : Nat → Int32} {V : Nat → Nat → Int32} {p : Int32} (hp : hl_Rg p) (hV : ∀ a k, a ≤ k → k < 12 → V a k = p + hl_sum (k + 1 - a) (fun j => r (a + j))) (hR : ∀ a k, a ≤ k → k < 12 → hl_Rg (V a k)) (f : Nat) : ∀ (a : Nat) (st : Int32 × Int32 × Int32), a + f = 12 → hl_Rg (p + st.2.2) → hl_vo V f a (st.1, st.2.1, p + st.2.2) = ((hl_wo r f a st).1, (hl_wo r f a st).2.1, p + (hl_wo r f a st).2.2) := by
  induction f with
  | zero => intro a st _ _; rfl
  | succ f ih =>
    intro a st ha hst
    obtain ⟨e, hst'⟩ := hl_wv_i (r := r) (V := V) (a := a) hp (12 - a) a 0 st (by omega) (fun k h1 h2 => by rw [hV a k h1 h2, Int32.add_zero]) (fun k h1 h2 => hR a k h1 h2) hst
    unfold hl_vo hl_wo
    rw [e]
    exact ih (a + 1) _ (by omega) hst'
/-- what a month's pay rests on -/
theorem hl_inM_c {I I' : Nat → Nat → Int32} {c h m : Nat} {o : Int32} (h13 : I' 1 13 = I 1 13) (hr : ∀ b, (2 ≤ b ∧ b ≤ 6) ∨ b = 9 ∨ b = 10 ∨ (45 ≤ b ∧ b < 60) → I' b = I b) : hl_inM I' c h m o = hl_inM I c h m o := by
  have eR : hl_rul I' = hl_rul I := by unfold hl_rul; rw [h13]
  have eh : hl_has I' 0 = hl_has I 0 := by
    unfold hl_has
    rw [eR, h13]
    cases h1 : hl_inb (I 1 13) 4 with
    | false => rfl
    | true =>
      obtain ⟨T, hT, e⟩ := hl_inb_of h1 (by decide)
      have eT : hl_rul I = T := by unfold hl_rul; rw [e]; exact nIc (by omega)
      rw [eT, hr (46 + 4 * T) (by omega)]
  unfold hl_inM
  rw [eh, hr 3 (by omega)]
  cases h0 : hl_has I 0 with
  | false => rw [if_pos rfl, if_pos rfl]
  | true =>
    have hl := hl_rul_lt (I := I) (Or.inl h0)
    have ea : hl_ask I' 0 c h m o 0 = hl_ask I 0 c h m o 0 := by
      have eS : I' (45 + 4 * hl_rul I') = I (45 + 4 * hl_rul I) := by rw [eR, hr (45 + 4 * hl_rul I) (by omega)]
      have ep : I' (46 + 4 * hl_rul I') 0 = I (46 + 4 * hl_rul I) 0 := by rw [eR, hr (46 + 4 * hl_rul I) (by omega)]
      have eb : I' (47 + 4 * hl_rul I') 0 = I (47 + 4 * hl_rul I) 0 := by rw [eR, hr (47 + 4 * hl_rul I) (by omega)]
      exact hl_wk_eq 300 eS eb ep (fun j _ => by
        unfold hl_nmf
        rw [hr 3 (by omega), hr 4 (by omega), hr 6 (by omega), hr 10 (by omega), hr 5 (by omega)]) []
    rw [ea]
theorem hl_bnd_B (x : Int32) : 0 ≤ (hl_bnd x 0 9999).toInt ∧ (hl_bnd x 0 9999).toInt ≤ 9999 := by
  have e0 : (0 : Int32).toInt = 0 := rfl
  have e9 : (9999 : Int32).toInt = 9999 := rfl
  unfold hl_bnd
  by_cases h1 : x < 0
  · rw [if_pos h1, e0]; omega
  · rw [if_neg h1]
    by_cases h2 : 9999 < x
    · rw [if_pos h2, e9]; omega
    · rw [if_neg h2]
      rw [Int32.lt_iff_toInt_lt, e0] at h1
      rw [Int32.lt_iff_toInt_lt, e9] at h2
      omega
section HLWHEN
variable {d N W H : Nat} {I Is I' : Nat → Nat → Int32} {J J' : Nat → Nat → Int64} {nh cn : Nat} {g g' : Nat → Int32}
theorem hl_offB2 (hCo : hl_Co N W H Is) (hN : N ≤ 24) {c h : Nat} (hc : c < N) (hh : (h : Int) < hl_Sv Is 86 0) (b : Bool) : -300 ≤ (hl_offv Is c h b).toInt ∧ (hl_offv Is c h b).toInt ≤ 360 := by
  have b1 := hCo.2.1.2.2.2.2.2.2.1 h hh
  have b0 := hCo.2.1.2.1.2
  have b2 := (hCo.2.1.2.2.2.2.2.2.2.2.2.1 c hc).1
  unfold hl_Sv at b1 b2
  rw [← hCo.2.1.1.off (show h < 4 by omega)] at b1
  rw [← show Is 2 c = Is 86 (30 + 7 * c) from hCo.2.1.1.cell (i := 0) hN hc (by omega)] at b2
  unfold hl_offv
  have e60 : (60 : Int32).toInt = 60 := rfl
  have e0 : (0 : Int32).toInt = 0 := rfl
  have s : (Is 9 h - Is 2 c).toInt = (Is 9 h).toInt - (Is 2 c).toInt := by rw [Int32.toInt_sub, Int.bmod_eq_of_le (by omega) (by omega)]
  cases b with
  | false =>
    rw [if_pos rfl, Int32.toInt_add, s, e0, Int.bmod_eq_of_le (by omega) (by omega)]
    omega
  | true =>
    rw [if_neg (by decide), Int32.toInt_add, s, e60, Int.bmod_eq_of_le (by omega) (by omega)]
    omega
theorem hl_inM_B (hCo : hl_Co N W H Is) (hN : N ≤ 24) {c h m : Nat} {o : Int32} (hc : c < N) (ho : -300 ≤ o.toInt ∧ o.toInt ≤ 360) : 0 ≤ (hl_inM Is c h m o).toInt ∧ (hl_inM Is c h m o).toInt ≤ 359640 := by
  unfold hl_inM
  cases hl_has Is 0 with
  | false =>
    rw [if_pos rfl]
    have b := (hCo.2.1.2.2.2.2.2.2.2.2.2.1 c hc).2.1
    unfold hl_Sv at b
    rw [← hCo.people hN hc] at b
    have ab : 0 ≤ (hl_abs o).toInt ∧ (hl_abs o).toInt ≤ 360 := by
      rw [hl_absI (by omega)]
      split <;> omega
    have m1 : 0 ≤ (hl_abs o).toInt * (Is 3 c).toInt := Int.mul_nonneg ab.1 b.1
    have m2 : (hl_abs o).toInt * (Is 3 c).toInt ≤ 360 * 999 := Int.mul_le_mul ab.2 b.2 b.1 (by omega)
    rw [Int32.toInt_mul, Int.bmod_eq_of_le (by omega) (by omega)]
    omega
  | true =>
    rw [if_neg (by decide)]
    have := hl_bnd_B (hl_ask Is 0 c h m o 0)
    omega
/-- what all cells pay in a month -/
def hl_pm (N : Nat) (I : Nat → Nat → Int32) (g : Nat → Int32) (m : Nat) (s : Bool) : Int32 := hl_sum N (fun c => hl_inM I c (g c).toNatClampNeg m (hl_offv I c (g c).toNatClampNeg s))
theorem hl_pm_B (hCo : hl_Co N W H Is) (hN : N ≤ 24) (hs : hl_Sv Is 86 0 = (nh : Int)) (hg : hl_hg N nh g) (m : Nat) (s : Bool) : 0 ≤ (hl_pm N Is g m s).toInt ∧ (hl_pm N Is g m s).toInt ≤ 8631360 := by
  have n4 := hCo.2.1.2.1.2
  have hB : N * 359640 ≤ 8631360 := by
    have := Nat.mul_le_mul_right 359640 hN
    omega
  have := hl_sum_B (B := 359640) N (f := fun c => hl_inM Is c (g c).toNatClampNeg m (hl_offv Is c (g c).toNatClampNeg s)) (fun c hc => by
    obtain ⟨p, p1, p2⟩ := hg c hc
    rw [p2, nIc (by omega)]
    exact hl_inM_B hCo hN hc (hl_offB2 hCo hN hc (by omega) s)) (by omega)
  unfold hl_pm
  omega
/-- the land with another summer -/
def hl_Vw (N : Nat) (I : Nat → Nat → Int32) (x y : Int32) : Nat → Nat → Int32 := hl_up (hl_up (hl_fz (hl_up (hl_up I 1 10 x) 1 11 y) N) 86 4 x) 86 5 y
theorem hl_Vw_cp {x y : Int32} : hl_cp N (hl_Vw N I x y) g = hl_sum 12 (fun m => hl_pm N I g m (hl_smr x y (nI m))) := by
  have e1 : ∀ b, b ≠ 1 → b ≠ 65 → b ≠ 86 → hl_Vw N I x y b = I b := fun b h1 h2 h3 => by
    unfold hl_Vw
    rw [hl_up_ne _ _ _ h3, hl_up_ne _ _ _ h3, hl_fz_ne h2, hl_up_ne _ _ _ h1, hl_up_ne _ _ _ h1]
  unfold hl_cp hl_pm
  rw [hl_sum_swap]
  refine hl_sum_congr (fun c hc => ?_)
  unfold hl_pay
  refine hl_sum_congr (fun m hm => ?_)
  have e2 : hl_sm (hl_Vw N I x y) m = hl_smr x y (nI m) := rfl
  have e3 : ∀ b, hl_offv (hl_Vw N I x y) c (g c).toNatClampNeg b = hl_offv I c (g c).toNatClampNeg b := fun b => by
    unfold hl_offv
    rw [e1 9 (by decide) (by decide) (by decide), e1 2 (by decide) (by decide) (by decide)]
  rw [hl_inM_c (I := I) (show hl_Vw N I x y 1 13 = I 1 13 from rfl) (fun b hb => e1 b (by omega) (by omega) (by omega)), e2, e3]
theorem hl_Vw_tps {x y : Int32} : hl_tps cn (hl_Vw N I x y) g = hl_tps cn I g := hl_sum_congr (fun k _ => by
  unfold hl_tgw
  rfl)
theorem hl_smr_ab {a b m : Nat} (ha : a ≤ b) (hb : b < 12) (hm : m < 12) : hl_smr (nI a) (nI b) (nI m) = (decide (a ≤ m) && decide (m ≤ b)) := by
  unfold hl_smr
  have n1 : ¬ nI a = -1 := fun q => by
    have := congrArg Int32.toInt q
    rw [hl_tI (by omega), show (-1 : Int32).toInt = -1 from rfl] at this
    omega
  rw [if_neg n1, if_pos (nI_le ha (by omega))]
  unfold hl_in
  simp only [nI_leI (show a < 2 ^ 31 by omega) (show m < 2 ^ 31 by omega), nI_leI (show m < 2 ^ 31 by omega) (show b < 2 ^ 31 by omega)]
/-- the price by a summer, out of the plain one -/
theorem hl_Vw_add {a k : Nat} (ha : a ≤ k) (hk : k < 12) : hl_pc N cn (hl_Vw N I (nI a) (nI k)) g = (hl_tps cn I g + hl_sum 12 (fun m => hl_pm N I g m false)) + hl_sum (k + 1 - a) (fun j => hl_pm N I g (a + j) true - hl_pm N I g (a + j) false) := by
  unfold hl_pc
  rw [hl_Vw_cp, hl_Vw_tps]
  have U : ∀ n, a + n ≤ 12 → hl_sum 12 (fun m => hl_pm N I g m (decide (a ≤ m) && decide (m < a + n))) = hl_sum 12 (fun m => hl_pm N I g m false) + hl_sum n (fun j => hl_pm N I g (a + j) true - hl_pm N I g (a + j) false) := by
    intro n
    induction n with
    | zero =>
      intro _
      show _ = _ + 0
      rw [Int32.add_zero]
      refine hl_sum_congr (fun m _ => ?_)
      have : (decide (a ≤ m) && decide (m < a + 0)) = false := by
        by_cases z : a ≤ m
        · rw [decide_eq_true z, decide_eq_false (by omega)]; rfl
        · rw [decide_eq_false z]; rfl
      rw [this]
    | succ n ih =>
      intro hn
      rw [hl_sum_one (j := a + n) (g := fun m => hl_pm N I g m (decide (a ≤ m) && decide (m < a + n))) 12 (by omega) (fun m hm hne => by
        have : (decide (a ≤ m) && decide (m < a + (n + 1))) = (decide (a ≤ m) && decide (m < a + n)) := by
          by_cases z : m < a + n
          · rw [decide_eq_true z, decide_eq_true (show m < a + (n + 1) by omega)]
          · rw [decide_eq_false z, decide_eq_false (show ¬ m < a + (n + 1) by omega)]
        rw [this]), ih (by omega)]
      have t1 : (decide (a ≤ a + n) && decide (a + n < a + (n + 1))) = true := by rw [decide_eq_true (show a ≤ a + n by omega), decide_eq_true (show a + n < a + (n + 1) by omega)]; rfl
      have t2 : (decide (a ≤ a + n) && decide (a + n < a + n)) = false := by rw [decide_eq_false (show ¬ a + n < a + n by omega), Bool.and_false]
      rw [t1, t2, Int32.add_assoc]
      rfl
  have e : hl_sum 12 (fun m => hl_pm N I g m (hl_smr (nI a) (nI k) (nI m))) = hl_sum 12 (fun m => hl_pm N I g m (decide (a ≤ m) && decide (m < a + (k + 1 - a)))) := hl_sum_congr (fun m hm => by
    rw [hl_smr_ab ha hk hm]
    have : decide (m ≤ k) = decide (m < a + (k + 1 - a)) := by
      by_cases z : m ≤ k
      · rw [decide_eq_true z, decide_eq_true (by omega)]
      · rw [decide_eq_false z, decide_eq_false (by omega)]
    rw [this])
  rw [e, U (k + 1 - a) (by omega)]
  ac_rfl
theorem hl_Vw_none {y : Int32} : hl_pc N cn (hl_Vw N I (-1) y) g = hl_tps cn I g + hl_sum 12 (fun m => hl_pm N I g m false) := by
  unfold hl_pc
  rw [hl_Vw_cp, hl_Vw_tps, Int32.add_comm]
  rfl
theorem hl_abs_B {x : Int32} (h : -300 ≤ x.toInt ∧ x.toInt ≤ 300) : 0 ≤ (hl_abs x).toInt ∧ (hl_abs x).toInt ≤ 300 := by
  rw [hl_absI (by omega)]
  split <;> omega
theorem hl_tps_B (hCo : hl_Co N W H Is) (hN : N ≤ 24) (hs : hl_Sv Is 86 0 = (nh : Int)) (ts : hl_Sv Is 86 1 = (cn : Int)) (hg : hl_hg N nh g) : 0 ≤ (hl_tps cn Is g).toInt ∧ (hl_tps cn Is g).toInt ≤ 1188000 := by
  have c40 := hCo.2.1.2.2.1.2
  have hB : cn * 29700 ≤ 1188000 := by omega
  have := hl_sum_B (B := 29700) cn (f := hl_tgw Is g) (fun k hk => by
    obtain ⟨a, b, w, a1, b1, -, w1, w2, ta, tb, tw, -⟩ := hCo.tie hN ts hk
    obtain ⟨p, p1, p2⟩ := hg a a1
    obtain ⟨q, q1, q2⟩ := hg b b1
    have n4 := hCo.2.1.2.1.2
    unfold hl_tgw
    rw [ta, tb, tw, nIc (show a < 2 ^ 31 by omega), nIc (show b < 2 ^ 31 by omega), p2, q2, nIc (show p < 2 ^ 31 by omega), nIc (show q < 2 ^ 31 by omega)]
    obtain ⟨-, o1, o2⟩ := hCo.off4 (show (p : Int) < hl_Sv Is 86 0 by omega)
    obtain ⟨-, o3, o4⟩ := hCo.off4 (show (q : Int) < hl_Sv Is 86 0 by omega)
    have s : (Is 9 p - Is 9 q).toInt = (Is 9 p).toInt - (Is 9 q).toInt := by rw [Int32.toInt_sub, Int.bmod_eq_of_le (by omega) (by omega)]
    have ab := hl_abs_B (x := Is 9 p - Is 9 q) (by rw [s]; omega)
    have ew : (nI w).toInt = (w : Int) := hl_tI (by omega)
    have m1 : 0 ≤ (nI w).toInt * (hl_abs (Is 9 p - Is 9 q)).toInt := Int.mul_nonneg (by omega) ab.1
    have m2 : (nI w).toInt * (hl_abs (Is 9 p - Is 9 q)).toInt ≤ 99 * 300 := Int.mul_le_mul (by omega) ab.2 ab.1 (by omega)
    rw [Int32.toInt_mul, Int.bmod_eq_of_le (by omega) (by omega)]
    omega) (by omega)
  unfold hl_tps
  omega
theorem hl_Vw_R (hCo : hl_Co N W H Is) (hN : N ≤ 24) (hs : hl_Sv Is 86 0 = (nh : Int)) (ts : hl_Sv Is 86 1 = (cn : Int)) (hg : hl_hg N nh g) (x y : Int32) : hl_Rg (hl_pc N cn (hl_Vw N Is x y) g) := by
  unfold hl_pc
  rw [hl_Vw_cp, hl_Vw_tps]
  have b1 := hl_tps_B hCo hN hs ts hg
  have b2 := hl_sum_B (B := 8631360) 12 (f := fun m => hl_pm N Is g m (hl_smr x y (nI m))) (fun m hm => hl_pm_B hCo hN hs hg m _) (by omega)
  unfold hl_Rg
  rw [Int32.toInt_add, Int.bmod_eq_of_le (by omega) (by omega)]
  omega
end HLWHEN
