/-! the start: what the two texts answer, the law's own reading, the law's first frame -/
def hl_E (B0 : Nat) (sa aV : Nat → Nat) (xs : Nat → Int32) (Ln : Nat) (U : State) : Prop := vk_S 2 hl_lens hl_bys (fun i => sa (1000001 + i)) aV (fun q => B0 ≤ q) U U.heap ∧ va_Z "java/lang/String" "COMPACT_STRINGS" "Z" (.int 1) (fun q => B0 ≤ q) U U.heap ∧ va_Zq "jdk/internal/util/Preconditions" "SIOOBE_FORMATTER" "Ljava/util/function/BiFunction;" (fun q => B0 ≤ q) U U.heap ∧ vk_R "HourLines$Reader" 120 hl_words (sa 1000001) U ∧ vk_R "HourLines$Reader" 136 hl_signs (sa 1000002) U ∧ va_X (sa 1000003) Ln xs U U.heap ∧ sa 1000003 < B0
theorem hl_E_ec {B0 : Nat} {sa aV : Nat → Nat} {xs : Nat → Int32} {Ln : Nat} : hl_EC B0 (hl_E B0 sa aV xs Ln) := by
  refine ⟨fun U U' h1 h2 ⟨a, b, c, d, e, f, g⟩ => ?_, fun s U ⟨a, b, c, d, e, f, g⟩ hW hq => ?_⟩
  · have hal : U.vm.Alike U'.vm := by rw [h1]; exact Vm.Alike.refl _
    unfold hl_E
    rw [h2]
    exact ⟨vk_S.moved hal a, va_Z.moved hal b, va_Zq.moved hal c, vk_R.same h1 d, vk_R.same h1 e, va_X.moved hal f, g⟩
  · have hal : s.vm.Alike U.vm := hW.alike
    have hk : ∀ q : Nat, q < s.heap.size → ¬ B0 ≤ q → U.heap[q]? = s.heap[q]? := fun q _ h => hq q (Nat.not_le.mp h)
    exact ⟨(vk_S.moved hal a).kept hk, (va_Z.moved hal b).kept hk, (va_Zq.moved hal c).kept hk, vk_R.warm hW d, vk_R.warm hW e, (va_X.moved hal f).kept (hq _ g), g⟩
theorem hl_E_et {B0 : Nat} {sa aV : Nat → Nat} {xs : Nat → Int32} {Ln : Nat} : hl_ET B0 (fun i => sa (1000001 + i)) aV (hl_E B0 sa aV xs Ln) := fun _ h _ => ⟨h.1, h.2.1, h.2.2.1⟩
theorem hl_x3_0 : ∀ q ∈ hl_mlL 0, ¬ hl_kd q.2 = 3 := by decide +kernel
theorem hl_x3_1 : ∀ q ∈ hl_mlL 1, ¬ hl_kd q.2 = 3 := by decide +kernel
theorem hl_x3_2 : ∀ q ∈ hl_mlL 2, ¬ hl_kd q.2 = 3 := by decide +kernel
theorem hl_x3_3 : ∀ q ∈ hl_mlL 3, ¬ hl_kd q.2 = 3 := by decide +kernel
theorem hl_x3_4 : ∀ q ∈ hl_mlL 4, ¬ hl_kd q.2 = 3 := by decide +kernel
theorem hl_x3_5 : ∀ q ∈ hl_mlL 5, ¬ hl_kd q.2 = 3 := by decide +kernel
theorem hl_x3_6 : ∀ q ∈ hl_mlL 6, hl_kd q.2 = 3 → q = (122, 265) ∨ q = (127, 266) ∨ q = (138, 267) := by decide +kernel
theorem hl_x3_7 : ∀ q ∈ hl_mlL 7, ¬ hl_kd q.2 = 3 := by decide +kernel
theorem hl_x3_8 : ∀ q ∈ hl_mlL 8, ¬ hl_kd q.2 = 3 := by decide +kernel
theorem hl_x3_9 : ∀ q ∈ hl_mlL 9, ¬ hl_kd q.2 = 3 := by decide +kernel
theorem hl_x3_10 : ∀ q ∈ hl_mlL 10, ¬ hl_kd q.2 = 3 := by decide +kernel
theorem hl_x3_11 : ∀ q ∈ hl_mlL 11, ¬ hl_kd q.2 = 3 := by decide +kernel
theorem hl_x3_12 : ∀ q ∈ hl_mlL 12, ¬ hl_kd q.2 = 3 := by decide +kernel
theorem hl_x3_15 : ∀ q ∈ hl_mlL 15, ¬ hl_kd q.2 = 3 := by decide +kernel
theorem hl_x3 {o ix j : Nat} (h : hl_ml o ix = some j) (hk : hl_kd j = 3) : o = 6 ∧ ((ix = 122 ∧ j = 265) ∨ (ix = 127 ∧ j = 266) ∨ (ix = 138 ∧ j = 267)) := by
  have h1 := hl_lkm h
  match o, h1 with
  | 0, h1 => exact absurd hk (hl_x3_0 _ h1)
  | 1, h1 => exact absurd hk (hl_x3_1 _ h1)
  | 2, h1 => exact absurd hk (hl_x3_2 _ h1)
  | 3, h1 => exact absurd hk (hl_x3_3 _ h1)
  | 4, h1 => exact absurd hk (hl_x3_4 _ h1)
  | 5, h1 => exact absurd hk (hl_x3_5 _ h1)
  | 6, h1 =>
    refine ⟨rfl, ?_⟩
    rcases hl_x3_6 _ h1 hk with q | q | q <;> (cases q; simp)
  | 7, h1 => exact absurd hk (hl_x3_7 _ h1)
  | 8, h1 => exact absurd hk (hl_x3_8 _ h1)
  | 9, h1 => exact absurd hk (hl_x3_9 _ h1)
  | 10, h1 => exact absurd hk (hl_x3_10 _ h1)
  | 11, h1 => exact absurd hk (hl_x3_11 _ h1)
  | 12, h1 => exact absurd hk (hl_x3_12 _ h1)
  | 13, h1 => exact absurd h1 List.not_mem_nil
  | 14, h1 => exact absurd h1 List.not_mem_nil
  | 15, h1 => exact absurd hk (hl_x3_15 _ h1)
  | o + 16, h1 => exact absurd h1 List.not_mem_nil
def hl_tx (i : Nat) : String := if i = 0 then hl_words else hl_signs
theorem hl_tx_of {q : Nat} {s : String} (h : hl_txt q = some s) : ∃ i, i < 2 ∧ q = 1000001 + i ∧ s = hl_tx i := by
  unfold hl_txt at h
  split at h
  · next e => exact ⟨0, by omega, e, by cases h; rfl⟩
  · split at h
    · next e => exact ⟨1, by omega, e, by cases h; rfl⟩
    · cases h
theorem hl_tx_len : ∀ i, i < 2 → (hl_tx i).toList.length = hl_lens.getD i 0 := by decide +kernel
theorem hl_tx_chr : ∀ i, i < 2 → ∀ k, k < hl_lens.getD i 0 → hl_bc i k = hl_chr (hl_tx i) k := by decide +kernel
theorem hl_tx_low : ∀ i, i < 2 → ∀ ch ∈ (hl_tx i).toList, ch.toNat < 128 := by decide +kernel
theorem hl_tx_ix : ∀ i, i < 2 → ∀ n, n < 256 → hl_ixF (nI n).toInt8.toInt32 (hl_bys.getD i []) 0 = (match (hl_tx i).toList.findIdx? (fun ch => ch.toNat == n) with
        | some k => Int32.ofNat k
        | none => -1) := by decide +kernel
theorem hl_ixE {i : Nat} (hi : i < 2) {k : Int32} (h0 : 0 ≤ k) : (if (255 : Int32) < k then -1 else hl_ixF k.toInt8.toInt32 (hl_bys.getD i []) 0) = (match (hl_tx i).toList.findIdx? (fun ch => ch.toNat == k.toNatClampNeg) with
        | some k => Int32.ofNat k
        | none => -1) := by
  obtain ⟨n, hn, rfl⟩ : ∃ n, n < 2 ^ 31 ∧ k = nI n := by
    refine ⟨k.toNatClampNeg, ?_, ?_⟩
    · have := Int32.toInt_lt k
      show k.toInt.toNat < 2 ^ 31
      omega
    · have h9 : (0 : Int32).toInt ≤ k.toInt := Int32.le_iff_toInt_le.mp h0
      have h8 : (0 : Int32).toInt = 0 := rfl
      have := Int32.toInt_lt k
      apply Int32.toInt_inj.mp
      show k.toInt = (Int32.ofNat k.toInt.toNat).toInt
      rw [Int32.toInt_ofNat_of_lt (by omega)]
      omega
  rw [nIc hn]
  by_cases h : n < 256
  · rw [if_neg]
    · exact hl_tx_ix i hi n h
    · exact fun q => nI_ge (a := 255) (b := n) (by
        by_cases e : 255 < n
        · exact e
        · have q2 : nI n ≤ nI 255 := nI_le (by omega) (by decide)
          exact absurd q (Int32.not_lt.mpr q2)) hn (nI_le (by omega) (by decide))
  · rw [if_pos]
    · have : (hl_tx i).toList.findIdx? (fun ch => ch.toNat == n) = none := by
        rw [List.findIdx?_eq_none_iff]
        intro ch hc
        have := hl_tx_low i hi ch hc
        simp
        omega
      rw [this]
    · exact Int32.not_le.mp (show ¬ nI n ≤ nI 255 from nI_ge (by omega) hn)
theorem hl_E_ex {l : Launch} {B0 : Nat} {sa aV : Nat → Nat} {xs : Nat → Int32} {Ln : Nat} : hl_EX l B0 sa (hl_E B0 sa aV xs Ln) := by
  constructor
  · intro p e R s m args below meth c H locs cells slots Q pc ls rest j as v o ix hx hown hts hE hB0 hS hRf hRl hc hs hml hj hk hv hlow hd kk
    have hB1 : B0 ≤ s.heap.size := hB0
    obtain ⟨rfl, hq⟩ := hl_x3 hj hk
    have hV := hE.1
    have had : ∀ i, hl_ad B0 sa (1000001 + i) = sa (1000001 + i) := fun i => if_neg (by omega)
    have hT : hl_ET B0 (fun i => sa (1000001 + i)) aV (hl_E B0 sa aV xs Ln) := hl_E_et
    unfold hl_ext at hv
    split at hv
    · next q =>
      split at hv
      · next he =>
        obtain ⟨rfl, -⟩ : ix = 122 ∧ True := by rcases hq with ⟨h1, -⟩ | ⟨-, h2⟩ | ⟨-, h2⟩ <;> first | exact ⟨h1, trivial⟩ | omega
        cases ht : hl_txt q with
        | none => rw [ht] at hv; cases hv
        | some t =>
          rw [ht] at hv
          obtain ⟨i, hi, rfl, rfl⟩ := hl_tx_of ht
          simp only [Option.map_some, Option.some.injEq] at hv
          subst hv
          rw [hl_tx_len i hi] at kk
          show W p l e R s m args below meth c H locs cells slots Q (F0 m pc ls (([] : List Value).reverse ++ .ref (hl_ad B0 sa (1000001 + i)) :: rest))
          rw [had]
          exact hl_sV (A9 := []) (hl_um_len (aK := fun i => sa (1000001 + i)) (i := i) hi hl_E_ec hT) hx rfl hml hown hts hE hl_E_ec hB1 hS (vk_recv (adK := fun i => sa (1000001 + i)) (i := i) hV hi hS) (by omega) (by omega) (Nat.le_of_ble_eq_true rfl) hc hs hl_uc_len hl_ui_str hl_ul_R122 ⟨hl_us1_len, hl_us2_len⟩ hl_ux_len hlow hd kk
      · cases hv
    · next q k =>
      split at hv
      · next t ht =>
        obtain ⟨i, hi, rfl, rfl⟩ := hl_tx_of ht
        split at hv
        · next he =>
          obtain ⟨rfl, -⟩ : ix = 127 ∧ True := by rcases hq with ⟨-, h2⟩ | ⟨h1, -⟩ | ⟨-, h2⟩ <;> first | exact ⟨h1, trivial⟩ | omega
          split at hv
          · next hin =>
            rw [hl_tx_len i hi] at hin
            simp only [Option.some.injEq] at hv
            subst hv
            have hk1 : k.toNatClampNeg < hl_lens.getD i 0 := by
              unfold hl_inb at hin
              rw [Bool.and_eq_true, decide_eq_true_eq, decide_eq_true_eq] at hin
              exact hin.2
            rw [← hl_tx_chr i hi _ hk1] at kk
            show W p l e R s m args below meth c H locs cells slots Q (F0 m pc ls (([.int k] : List Value).reverse ++ .ref (hl_ad B0 sa (1000001 + i)) :: rest))
            rw [had]
            exact hl_sV (A9 := [.int k]) (hl_um_cha (aK := fun i => sa (1000001 + i)) (i := i) hi hin hl_E_ec hT) hx rfl hml hown hts hE hl_E_ec hB1 hS (vk_recv (adK := fun i => sa (1000001 + i)) (i := i) hV hi hS) (by omega) (by omega) (Nat.le_of_ble_eq_true rfl) hc hs hl_uc_cha hl_ui_str hl_ul_R127 ⟨hl_us1_cha, hl_us2_cha⟩ hl_ux_cha hlow hd kk
          · cases hv
        · split at hv
          · next he =>
            obtain ⟨rfl, -⟩ : ix = 138 ∧ True := by rcases hq with ⟨-, h2⟩ | ⟨-, h2⟩ | ⟨h1, -⟩ <;> first | exact ⟨h1, trivial⟩ | omega
            split at hv
            · next h0 =>
              simp only [Option.some.injEq] at hv
              subst hv
              show W p l e R s m args below meth c H locs cells slots Q (F0 m pc ls (([.int k] : List Value).reverse ++ .ref (hl_ad B0 sa (1000001 + i)) :: rest))
              rw [had]
              exact hl_sV (A9 := [.int k]) (hl_um_io1 (aK := fun i => sa (1000001 + i)) (i := i) hi h0.1 hl_E_ec hT) hx rfl hml hown hts hE hl_E_ec hB1 hS (vk_recv (adK := fun i => sa (1000001 + i)) (i := i) hV hi hS) (by omega) (by omega) (Nat.le_of_ble_eq_true rfl) hc hs hl_uc_io1 hl_ui_str hl_ul_R138 ⟨hl_us1_io1, hl_us2_io1⟩ hl_ux_io1 hlow hd (by
                show W p l e R s m args below meth c H locs cells slots Q (F0 m (pc + 3) ls (.int (if (255 : Int32) < k then -1 else hl_ixF k.toInt8.toInt32 (hl_bys.getD i []) 0) :: rest))
                rw [hl_ixE hi h0.1]
                exact kk)
            · cases hv
          · cases hv
      · cases hv
    · cases hv
  · intro p e R s m args below meth c H locs cells slots Q pc ls rest q o ix hx hown hE hst hd kk
    unfold hl_str at hst
    split at hst
    · next h =>
      obtain ⟨rfl, rfl⟩ := h
      cases hst
      rw [show hl_ad B0 sa 1000001 = sa 1000001 from if_neg (by omega)] at kk
      exact va_ldcS hx rfl hown hE.2.2.2.1 hd kk
    · split at hst
      · next h =>
        obtain ⟨rfl, rfl⟩ := h
        cases hst
        rw [show hl_ad B0 sa 1000002 = sa 1000002 from if_neg (by omega)] at kk
        exact va_ldcS hx rfl hown hE.2.2.2.2.1 hd kk
      · cases hst
/-- the law's own reading of the script -/
theorem hl_c264 {xs : Nat → Int32} {Ln : Nat} {c : hl_C} {w : hl_W} {k : Int32} (hLn : Ln < 2 ^ 31) (hk : hl_inb k 2 = true) : hl_LRun xs Ln 264 c 0 [.ref 1000003, .int k] [] w = some (some (.int (if k < Int32.ofNat Ln then xs k.toNatClampNeg else 0)), w) := by
  rw [hl_q264_0, hl_q264_1, hl_q264_2, hl_q264_3]
  by_cases h : k < Int32.ofNat Ln
  · have h1 : hl_inb k Ln = true := by
      obtain ⟨q, hq, rfl⟩ := hl_inb_of hk (by decide)
      refine hl_inb_nI ?_ hLn
      by_cases e : q < Ln
      · exact e
      · exact absurd h (Int32.not_lt.mpr (nI_le (by omega) (by omega)))
    rw [if_neg (Int32.not_le.mpr h), if_pos h, hl_q264_6, hl_q264_7, hl_q264_8 h1, hl_q264_9, hl_q264_13]
  · rw [if_pos (Int32.not_lt.mp h), if_neg h, hl_q264_12, hl_q264_13]
theorem hl_lok {l : Launch} {B0 : Nat} {sa aV : Nat → Nat} {D : va_G} {cA : Nat → ClassId} {xs : Nat → Int32} {Ln : Nat} (hLn : Ln < 2 ^ 31) (d : Nat) : hl_Ok l B0 sa D cA (hl_E B0 sa aV xs Ln) (d + 1) (hl_lO xs Ln (d + 1)) := by
  intro j as w r h
  unfold hl_lO at h
  split at h
  · next hj =>
    subst hj
    split at h
    · next a k =>
      split at h
      · next hq =>
        obtain ⟨rfl, hk⟩ := hq
        cases h
        refine ⟨⟨Nat.le_refl _, Nat.le_refl _⟩, fun _ => ?_, fun q => absurd q (by decide)⟩
        refine hl_lmeet hl_E_ec hl_E_ex (hl_ok hl_E_ec hl_E_ex d) (hl_jok (by decide) (by decide)) (xs := xs) (Ln := Ln) (fun U hU _ => ⟨hU.2.2.2.2.2.1, hU.2.2.2.2.2.2⟩) (Nat.le_of_ble_eq_true rfl) (hl_LRun_iff.mp (hl_c264 hLn hk))
      · cases h
    · cases h
  · exact hl_ok hl_E_ec hl_E_ex (d + 1) j as w r h
