/-! text: the two sides' texts say the same -/
section HXTEXT3
variable {L p q n m m' T : Nat} {I1 I2 I' : Nat → Nat → Int32} {J : Nat → Nat → Int64} {t : Nat → Nat} {A : List (Nat × Nat × List (Nat × Nat))} {C : List (Nat × Nat)} {S nm : Nat → Int32}
theorem hx_wk_end {e : Nat} {K : List Int32} (he : e ≤ 300) (f : Nat) : hl_wk S nm (nI e) f (nI e) K = K.headD 0 := by
  cases f with
  | zero => rfl
  | succ f =>
    have h : hl_in (nI e) 0 (nI e - 1) = false := by
      rw [hl_in_inb (by omega)]
      cases w : hl_inb (nI e) e with
      | false => rfl
      | true =>
        obtain ⟨j, hj, ej⟩ := hl_inb_of w (by omega)
        have := (nI_eq (a := e) (b := j) (by omega) (by omega)).mp ej
        omega
    show (if hl_in (nI e) 0 (nI e - 1) = true then _ else K.headD 0) = _
    rw [h]; rfl
theorem hx_WR_end {s e : Nat} {v : Int32} (h : hx_WR S nm s e [] [v]) (he : e ≤ 300) : hl_wk S nm (nI e) 300 (nI s) [] = v := by
  obtain ⟨g, hg, w⟩ := h
  have := w e (300 - g) (Nat.le_refl e) he
  rw [show 300 - g + g = 300 by omega] at this
  rw [this]
  exact hx_wk_end he _
theorem hx_nm0 : hl_nmB (fun _ => 0) := fun j _ => by
  have e : (0 : Int32).toInt = 0 := rfl
  show -1000000 ≤ (0 : Int32).toInt ∧ (0 : Int32).toInt ≤ 1000000
  omega
theorem hx_TXof (hT : T < 4) (kx : hx_KX t L m p n A I1) (rx : hx_RX t L (800 * T) m' q C A I2 J) (h45 : ∀ k, k < 300 → I' (45 + 4 * T) k = I1 40 k) (h46 : ∀ k, k < 3 → I' (46 + 4 * T) k = I1 41 k ∧ I' (47 + 4 * T) k = I1 42 k) (h88 : ∀ k, 800 * T ≤ k → k < 800 * T + 800 → I' 88 k = I2 88 k) : hl_TX I' T := by
  intro cl hcl
  obtain ⟨cr, hm, ku, kA, ks⟩ := kx
  obtain ⟨T1, -, -, -, -, rcl, -, ⟨rC, rp⟩, ru, rA, rs⟩ := rx
  have L3 : L ≤ 300 := T1.1
  have n3 : n ≤ 300 := by have := cr.2.2.2.2.2; omega
  have a1 : 800 * T + 1 + 2 * cl = 800 * T + (1 + 2 * cl) := by omega
  have f1 : I' 88 (800 * T + 2 * cl) = I2 88 (800 * T + 2 * cl) := h88 _ (by omega) (by omega)
  have f2 : I' 88 (800 * T + 1 + 2 * cl) = I2 88 (800 * T + 1 + 2 * cl) := h88 _ (by omega) (by omega)
  by_cases ex : ∃ a ∈ A, a.1 = cl
  · obtain ⟨a, ha, hacl⟩ := ex
    obtain ⟨-, -, s, e, se, en, g41, g42, sem⟩ := kA a ha
    obtain ⟨-, len, g1, g2, gC, -⟩ := rA a ha
    rw [hacl] at g41 g42 sem g1 g2
    have n41 : ¬ I' (46 + 4 * T) cl = -1 := by
      rw [(h46 cl hcl).1, g41]
      intro y
      have : (nI s).toInt = (-1 : Int32).toInt := by rw [y]
      rw [hl_tI (by omega)] at this
      have e1 : (-1 : Int32).toInt = -1 := by decide
      omega
    have ag : ∀ j, s ≤ j → j < e → I' (45 + 4 * T) j = I1 40 j := fun j h1 h2 => h45 j (by omega)
    have rr : ∀ nm, hl_rrun (I' 88) nm (800 * T) a.2.2.length a.2.1 [] [] = hx_ev nm a.2.2 [] [] := fun nm => hx_rrun_ev a.2.2 a.2.1 [] [] (fun k hk => by
      have := rcl (a.2.1 + k) (by omega)
      rw [gC k hk] at this
      rw [h88 _ (by omega) (by omega), h88 _ (by omega) (by omega)]
      exact this)
    have p46 := (h46 cl hcl).1
    have p47 := (h46 cl hcl).2
    rw [g41] at p46
    rw [g42] at p47
    by_cases z : cl = 2
    · rw [if_pos z] at sem
      have ne : a.2.2.length ≠ 0 := fun y => by
        obtain ⟨tb, b, -⟩ := sem (I' (45 + 4 * T)) ag (fun _ => 0) hx_nm0
        have e0 : a.2.2 = [] := List.length_eq_zero_iff.mp y
        have b' := b [] [] (by rw [e0]; decide) (by rw [e0]; decide)
        rw [e0] at b'
        have b'' : some (([] : List Int64), ([] : List Bool)) = some ([], [tb]) := b'
        cases b''
      refine Or.inr ⟨n41, a.2.1, a.2.1 + a.2.2.length, by omega, by omega, f1.trans g1, f2.trans g2, fun nm hnm => ?_⟩
      obtain ⟨tb, b, c⟩ := sem (I' (45 + 4 * T)) ag nm hnm
      unfold hl_TV
      rw [if_pos z]
      refine ⟨tb, ?_, ?_⟩
      · rw [Nat.add_sub_cancel_left, rr]
        exact b [] [] (by show 0 + _ ≤ 330; omega) (by show 0 + _ ≤ 330; omega)
      · rw [p46, p47]
        exact hx_WR_end (c [] (by decide)) (by omega)
    · rw [if_neg z] at sem
      have ne : a.2.2.length ≠ 0 := fun y => by
        obtain ⟨v, -, b, -⟩ := sem (I' (45 + 4 * T)) ag (fun _ => 0) hx_nm0
        have e0 : a.2.2 = [] := List.length_eq_zero_iff.mp y
        have b' := b [] [] (by rw [e0]; decide) (by rw [e0]; decide)
        rw [e0] at b'
        have b'' : some (([] : List Int64), ([] : List Bool)) = some ([v], []) := b'
        cases b''
      refine Or.inr ⟨n41, a.2.1, a.2.1 + a.2.2.length, by omega, by omega, f1.trans g1, f2.trans g2, fun nm hnm => ?_⟩
      obtain ⟨v, bd, b, c⟩ := sem (I' (45 + 4 * T)) ag nm hnm
      unfold hl_TV
      rw [if_neg z]
      refine ⟨v, ?_, ?_, bd.1, bd.2⟩
      · rw [Nat.add_sub_cancel_left, rr]
        exact b [] [] (by show 0 + _ ≤ 330; omega) (by show 0 + _ ≤ 330; omega)
      · rw [p46, p47]
        exact hx_WR_end (c [] (by decide)) (by omega)
  · have k0 : hx_sn m cl = false := by
      cases w : hx_sn m cl with
      | false => rfl
      | true => exact absurd (ks cl hcl w) ex
    have r0 : hx_sn m' cl = false := by
      cases w : hx_sn m' cl with
      | false => rfl
      | true => exact absurd (rs cl hcl w) ex
    obtain ⟨u1, u2⟩ := ru cl hcl r0
    exact Or.inl ⟨(h46 cl hcl).1.trans (ku cl hcl k0), 0, Nat.zero_le _, f1.trans u1, f2.trans u2⟩
end HXTEXT3
