/-! the invariant as a whole -/
/-- what a cell's pay rests on -/
def hl_PD (I I' : Nat → Nat → Int32) (c : Nat) : Prop := (I' 1 10 = I 1 10 ∧ I' 1 11 = I 1 11 ∧ I' 1 13 = I 1 13) ∧ (I' 2 c = I 2 c ∧ I' 3 c = I 3 c ∧ I' 4 c = I 4 c ∧ I' 5 c = I 5 c ∧ I' 6 c = I 6 c) ∧ I' 9 = I 9 ∧ I' 10 = I 10 ∧ ∀ r, 45 ≤ r → r < 60 → I' r = I r
theorem hl_PD.rul {I I' : Nat → Nat → Int32} {c : Nat} (h : hl_PD I I' c) : hl_rul I' = hl_rul I := by unfold hl_rul; rw [h.1.2.2]
theorem hl_PD.has {I I' : Nat → Nat → Int32} {c : Nat} (h : hl_PD I I' c) (cl : Nat) : hl_has I' cl = hl_has I cl := by
  unfold hl_has
  rw [h.rul, h.1.2.2]
  cases h1 : hl_inb (I 1 13) 4 with
  | false => rfl
  | true =>
    obtain ⟨T, hT, e⟩ := hl_inb_of h1 (by decide)
    have eT : hl_rul I = T := by unfold hl_rul; rw [e]; exact nIc (by omega)
    rw [eT, h.2.2.2.2 (46 + 4 * T) (by omega) (by omega)]
theorem hl_PD.nmf {I I' : Nat → Nat → Int32} {c : Nat} (h : hl_PD I I' c) (hh m : Nat) (o al : Int32) (j : Nat) : hl_nmf I' c hh m o al j = hl_nmf I c hh m o al j := by
  unfold hl_nmf
  rw [h.2.1.2.1, h.2.1.2.2.1, h.2.1.2.2.2.1, h.2.1.2.2.2.2, h.2.2.2.1]
theorem hl_PD.ask {I I' : Nat → Nat → Int32} {c : Nat} (h : hl_PD I I' c) {cl hh m : Nat} {o al : Int32} (hr : hl_rul I < 4) : hl_ask I' cl c hh m o al = hl_ask I cl c hh m o al := by
  have eS : I' (45 + 4 * hl_rul I') = I (45 + 4 * hl_rul I) := by rw [h.rul, h.2.2.2.2 (45 + 4 * hl_rul I) (by omega) (by omega)]
  have ep : I' (46 + 4 * hl_rul I') cl = I (46 + 4 * hl_rul I) cl := by rw [h.rul, h.2.2.2.2 (46 + 4 * hl_rul I) (by omega) (by omega)]
  have eb : I' (47 + 4 * hl_rul I') cl = I (47 + 4 * hl_rul I) cl := by rw [h.rul, h.2.2.2.2 (47 + 4 * hl_rul I) (by omega) (by omega)]
  exact hl_wk_eq 300 eS eb ep (fun j _ => h.nmf hh m o al j) []
theorem hl_PD.inM {I I' : Nat → Nat → Int32} {c : Nat} (h : hl_PD I I' c) (hh m : Nat) (o : Int32) : hl_inM I' c hh m o = hl_inM I c hh m o := by
  unfold hl_inM
  rw [h.has, h.2.1.2.1]
  cases h0 : hl_has I 0 with
  | false => rw [if_pos rfl, if_pos rfl]
  | true => rw [h.ask (hl_rul_lt (Or.inl h0))]
theorem hl_PD.pay {I I' : Nat → Nat → Int32} {c : Nat} (h : hl_PD I I' c) (hh : Nat) : hl_pay I' c hh = hl_pay I c hh := by
  unfold hl_pay
  apply hl_sum_congr
  intro m hm
  rw [h.inM]
  unfold hl_offv hl_sm
  rw [h.2.2.1, h.2.1.1, h.1.1, h.1.2.1]
def hl_Pu (N : Nat) (I : Nat → Nat → Int32) : Prop := ∀ c, c < N → I 65 c = 0 ∨ (I 65 c = 1 ∧ ∀ h : Nat, (h : Int) < hl_Sv I 86 0 → I 64 (4 * c + h) = hl_pay I c h)
def hl_Tp (I : Nat → Nat → Int32) : Prop := ∃ fd, fd ≤ 300 ∧ I 0 6 = nI fd ∧ I 85 7 = nI fd ∧ ∀ k, k < 300 → I 37 k = I 89 k ∧ 0 ≤ (I 89 k).toInt ∧ (I 89 k).toInt ≤ 255
def hl_A9 (N W H : Nat) (I : Nat → Nat → Int32) : Prop := (I 0 0 = nI W ∧ I 0 1 = nI H ∧ I 0 2 = nI N) ∧ (I 85 0 = nI W ∧ I 85 1 = nI H ∧ I 85 2 = nI N) ∧ I 66 0 = nI W ∧ I 38 7 = I 85 8 ∧ I 38 8 = I 85 9
def hl_La (N : Nat) (I : Nat → Nat → Int32) : Prop := hl_LE N I 1 86 ∧ hl_V N (hl_Sv I 86)
def hl_Im (N : Nat) (I : Nat → Nat → Int32) : Prop := hl_LE N I 19 87 ∧ hl_V N (hl_Sv I 87) ∧ hl_Sv I 87 2 ≤ hl_Sv I 86 2
def hl_Inv (TE : (Nat → Nat → Int32) → Nat → Prop) (N W H : Nat) (I : Nat → Nat → Int32) : Prop := hl_A9 N W H I ∧ hl_La N I ∧ hl_Im N I ∧ hl_Tp I ∧ hl_Pu N I ∧ hl_TB I ∧ ∀ T : Nat, (T : Int) < hl_Sv I 86 2 → TE I T
/-- the texts' relation rests on the texts' rows alone -/
def hl_TEc (TE : (Nat → Nat → Int32) → Nat → Prop) : Prop := ∀ (I I' : Nat → Nat → Int32) (T : Nat), I' (45 + 4 * T) = I (45 + 4 * T) → I' (46 + 4 * T) = I (46 + 4 * T) → I' (47 + 4 * T) = I (47 + 4 * T) → (∀ k, 800 * T ≤ k → k < 800 * T + 800 → I' 88 k = I 88 k) → TE I T → TE I' T
theorem hl_Sup {I : Nat → Nat → Int32} {m j0 : Nat} {v : Int32} : hl_Sv (hl_up I m j0 v) m = fun j => if j = j0 then v.toInt else hl_Sv I m j := by
  funext j
  unfold hl_Sv
  simp only [hl_up, if_true]
  split <;> rfl
theorem hl_Sne {I : Nat → Nat → Int32} {m a j0 : Nat} {v : Int32} (h : m ≠ a) : hl_Sv (hl_up I a j0 v) m = hl_Sv I m := by
  funext j
  unfold hl_Sv
  rw [hl_up_ne _ _ _ h]
theorem hl_in_E {x a b : Int32} (h : hl_in x a b = true) : a.toInt ≤ x.toInt ∧ x.toInt ≤ b.toInt := by
  unfold hl_in at h
  rw [Bool.and_eq_true, decide_eq_true_eq, decide_eq_true_eq] at h
  exact ⟨Int32.le_iff_toInt_le.mp h.1, Int32.le_iff_toInt_le.mp h.2⟩
theorem hl_inb_E {x : Int32} {n : Nat} (h : hl_inb x n = true) (hn : n < 2 ^ 31) : 0 ≤ x.toInt ∧ x.toInt < n := by
  obtain ⟨k, hk, rfl⟩ := hl_inb_of h hn
  have e : (nI k).toInt = (k : Int) := Int32.toInt_ofNat_of_lt (by omega)
  rw [e]
  omega
theorem hl_tI {k : Nat} (h : k < 2 ^ 31) : (nI k).toInt = (k : Int) := Int32.toInt_ofNat_of_lt (by omega)
/-- a small number out of its sign and size -/
theorem hl_nat {x : Int32} (h : 0 ≤ x.toInt) : ∃ k, k < 2 ^ 31 ∧ x = nI k ∧ (k : Int) = x.toInt := by
  have := Int32.toInt_lt x
  refine ⟨x.toInt.toNat, by omega, ?_, by omega⟩
  apply Int32.toInt_inj.mp
  rw [hl_tI (by omega)]
  omega
