/-! the same cut with the groups numbered otherwise -/
theorem hx_nd_dec {m k : Nat} (h1 : 1 ≤ k) (h2 : k < m) (h4 : m ≤ 4) (s : Nat) : 2 ≤ hl_nd m s k ∧ (hl_nd m s k - 2) / (m - 1) = s ∧ (hl_nd m s k - 2) % (m - 1) + 1 = k := by
  unfold hl_nd
  rw [if_neg (by omega), if_neg (by omega)]
  match m, h2, h4 with
  | 0, h2, _ => omega
  | 1, h2, _ => omega
  | 2, h2, _ => show 2 ≤ 2 + s * 1 + k - 1 ∧ (2 + s * 1 + k - 1 - 2) / 1 = s ∧ (2 + s * 1 + k - 1 - 2) % 1 + 1 = k; omega
  | 3, h2, _ => show 2 ≤ 2 + s * 2 + k - 1 ∧ (2 + s * 2 + k - 1 - 2) / 2 = s ∧ (2 + s * 2 + k - 1 - 2) % 2 + 1 = k; omega
  | 4, h2, _ => show 2 ≤ 2 + s * 3 + k - 1 ∧ (2 + s * 3 + k - 1 - 2) / 3 = s ∧ (2 + s * 3 + k - 1 - 2) % 3 + 1 = k; omega
  | m + 5, _, h => omega
theorem hx_nd_0 {m s : Nat} : hl_nd m s 0 = 0 := by unfold hl_nd; exact if_pos rfl
theorem hx_nd_m {m s k : Nat} (h0 : k ≠ 0) (h : m ≤ k) : hl_nd m s k = 1 := by unfold hl_nd; rw [if_neg h0, if_pos h]
/-- a node's group and place -/
theorem hx_nd_enc {m u : Nat} (hu : 2 ≤ u) (hm : 2 ≤ m) : hl_nd m ((u - 2) / (m - 1)) ((u - 2) % (m - 1) + 1) = u := by
  have lt := Nat.mod_lt (u - 2) (show m - 1 > 0 by omega)
  have e := Nat.div_add_mod (u - 2) (m - 1)
  unfold hl_nd
  rw [if_neg (by omega), if_neg (by omega), Nat.mul_comm]
  omega
/-- cuts of the one out of cuts of the other -/
def hx_pb (m : Nat) (τ : Nat → Option Nat) (T : Nat → Bool) (u : Nat) : Bool := if u < 2 then T u else if 2 ≤ m then (match τ ((u - 2) / (m - 1)) with | some g => T (hl_nd m g ((u - 2) % (m - 1) + 1)) | none => false) else false
theorem hx_pb_s {m s g k : Nat} {τ : Nat → Option Nat} {T : Nat → Bool} (h4 : m ≤ 4) (h : τ s = some g) : hx_pb m τ T (hl_nd m s k) = T (hl_nd m g k) := by
  by_cases z : k = 0
  · subst z
    rw [hx_nd_0, hx_nd_0]
    unfold hx_pb
    exact if_pos (by omega)
  · by_cases y : m ≤ k
    · rw [hx_nd_m z y, hx_nd_m z y]
      unfold hx_pb
      exact if_pos (by omega)
    · obtain ⟨a, b, c⟩ := hx_nd_dec (show 1 ≤ k by omega) (show k < m by omega) h4 s
      unfold hx_pb
      rw [if_neg (by omega), if_pos (by omega), b, h, c]
theorem hx_pb_n {m s k : Nat} {τ : Nat → Option Nat} {T : Nat → Bool} (h4 : m ≤ 4) (h : τ s = none) (h1 : 1 ≤ k) (h2 : k < m) : hx_pb m τ T (hl_nd m s k) = false := by
  obtain ⟨a, b, c⟩ := hx_nd_dec h1 h2 h4 s
  unfold hx_pb
  rw [if_neg (by omega), if_pos (by omega), b, h]
/-- a sum over the image -/
theorem hx_si_im {σ : Nat → Nat} {n : Nat} (G : Nat) : ∀ f : Nat → Int, (∀ g, g < G → σ g < n) → (∀ g g', g < G → g' < G → σ g = σ g' → g = g') → (∀ s, s < n → (∀ g, g < G → ¬ σ g = s) → f s = 0) → hl_si n f = hl_si G (fun g => f (σ g)) := by
  induction G with
  | zero => exact fun f _ _ h => hl_si_z n (fun k hk => h k hk (fun g hg => absurd hg (Nat.not_lt_zero g)))
  | succ G ih =>
    intro f h1 h2 h3
    have e := ih (fun s => if s = σ G then 0 else f s) (fun g hg => h1 g (by omega)) (fun g g' hg hg' e => h2 g g' (by omega) (by omega) e) (fun s hs h => by
      show (if s = σ G then 0 else f s) = 0
      by_cases z : s = σ G
      · exact if_pos z
      · rw [if_neg z]
        refine h3 s hs (fun g hg => ?_)
        by_cases y : g = G
        · rw [y]; exact fun q => z q.symm
        · exact h g (by omega))
    have o := hl_si_one (f := f) (g := fun s => if s = σ G then 0 else f s) (j := σ G) n (h1 G (by omega)) (fun k _ hk => (if_neg hk).symm)
    have o2 : (if σ G = σ G then (0 : Int) else f (σ G)) = 0 := if_pos rfl
    show hl_si n f = hl_si G (fun g => f (σ g)) + f (σ G)
    have o' : hl_si n f = hl_si n (fun s => if s = σ G then 0 else f s) + (f (σ G) - (if σ G = σ G then (0 : Int) else f (σ G))) := o
    rw [o', o2, e, hl_si_congr (f := fun g => (fun s => if s = σ G then 0 else f s) (σ g)) (g := fun g => f (σ g)) G (fun g hg => if_neg (fun q => by have := h2 g G (by omega) (by omega) q; omega))]
    omega
theorem hx_fs_eq {S T : Nat → Bool} {u v u' v' : Nat} {x : Int} (h1 : S u = T u') (h2 : S v = T v') : hl_fs S u v x = hl_fs T u' v' x := by unfold hl_fs; rw [h1, h2]
section HXREN
variable {B : Int} {m G1 G2 cn : Nat} {σ : Nat → Nat} {τ : Nat → Option Nat} {gp1 gp2 : Nat → Int} {ga1 gb1 ga2 gb2 : Nat → Nat} {wt : Nat → Nat → Int}
/-- the one numbering is the other's by σ; groups without cells pay nothing -/
def hx_rn (m G1 G2 cn : Nat) (σ : Nat → Nat) (τ : Nat → Option Nat) (gp1 gp2 : Nat → Int) (ga1 gb1 ga2 gb2 : Nat → Nat) : Prop := (∀ g, g < G2 → σ g < G1 ∧ τ (σ g) = some g ∧ ∀ k, k < m → gp1 (4 * σ g + k) = gp2 (4 * g + k)) ∧ (∀ s, s < G1 → (∀ g, g < G2 → ¬ σ g = s) → τ s = none ∧ ∀ k, k < m → gp1 (4 * s + k) = 0) ∧ ∀ t, t < cn → ga2 t < G2 ∧ gb2 t < G2 ∧ ga1 t = σ (ga2 t) ∧ gb1 t = σ (gb2 t)
theorem hx_rn_inj (h : hx_rn m G1 G2 cn σ τ gp1 gp2 ga1 gb1 ga2 gb2) {g g' : Nat} (hg : g < G2) (hg' : g' < G2) (e : σ g = σ g') : g = g' := by
  have a := (h.1 g hg).2.1
  have b := (h.1 g' hg').2.1
  rw [e, b] at a
  exact (Option.some.inj a).symm
theorem hx_ch_eq {S T : Nat → Bool} {s g k : Nat} (h : ∀ k, S (hl_nd m s k) = T (hl_nd m g k)) (e : gp1 (4 * s + k) = gp2 (4 * g + k)) : hl_ch B m gp1 s S k = hl_ch B m gp2 g T k := by
  unfold hl_ch
  rw [e, hx_fs_eq (h k) (h (k + 1)), hx_fs_eq (h (k + 1)) (h k)]
theorem hx_ct_eq {S T : Nat → Bool} {w : Nat → Int} {a b a' b' k : Nat} (ha : ∀ k, S (hl_nd m a k) = T (hl_nd m a' k)) (hb : ∀ k, S (hl_nd m b k) = T (hl_nd m b' k)) (he : a = b ↔ a' = b') : hl_ct m a b w S k = hl_ct m a' b' w T k := by
  unfold hl_ct
  rw [hx_fs_eq (ha (k + 1)) (hb (k + 1)), hx_fs_eq (hb (k + 1)) (ha (k + 1))]
  by_cases z : a = b
  · rw [if_pos z, if_pos (he.mp z)]
  · rw [if_neg z, if_neg (fun q => z (he.mpr q))]
theorem hx_CT_pb (h4 : m ≤ 4) (h : hx_rn m G1 G2 cn σ τ gp1 gp2 ga1 gb1 ga2 gb2) (T : Nat → Bool) : hl_CT B m G1 cn gp1 ga1 gb1 wt (hx_pb m τ T) = hl_CT B m G2 cn gp2 ga2 gb2 wt T := by
  have hq := h
  obtain ⟨a, b, c⟩ := h
  unfold hl_CT
  have e1 : hl_si G1 (fun g => hl_si m (hl_ch B m gp1 g (hx_pb m τ T))) = hl_si G2 (fun g => hl_si m (hl_ch B m gp2 g T)) := by
    rw [hx_si_im (σ := σ) G2 (fun g => hl_si m (hl_ch B m gp1 g (hx_pb m τ T))) (fun g hg => (a g hg).1) (fun g g' hg hg' e => hx_rn_inj hq hg hg' e) (fun s hs hn => ?_)]
    · exact hl_si_congr G2 (fun g hg => hl_si_congr m (fun k hk => hx_ch_eq (fun k => hx_pb_s h4 (a g hg).2.1) ((a g hg).2.2 k hk)))
    · obtain ⟨b1, b2⟩ := b s hs hn
      refine hl_si_z m (fun k hk => ?_)
      unfold hl_ch
      rw [b2 k hk]
      have z1 : hl_fs (hx_pb m τ T) (hl_nd m s k) (hl_nd m s (k + 1)) 0 = 0 := by unfold hl_fs; split <;> rfl
      have z2 : hl_fs (hx_pb m τ T) (hl_nd m s (k + 1)) (hl_nd m s k) (if 0 < k ∧ k + 1 < m then B else 0) = 0 := by
        unfold hl_fs
        by_cases y : 0 < k ∧ k + 1 < m
        · rw [hx_pb_n h4 b1 (show 1 ≤ k + 1 by omega) y.2, if_neg (fun q => Bool.noConfusion q.1)]
        · rw [if_neg y]; split <;> rfl
      rw [z1, z2]
      rfl
  rw [e1, hl_si_congr (g := fun t => hl_si (m - 1) (hl_ct m (ga2 t) (gb2 t) (wt t) T)) cn (fun t ht => hl_si_congr (m - 1) (fun k hk => ?_))]
  obtain ⟨c1, c2, c3, c4⟩ := c t ht
  rw [c3, c4]
  exact hx_ct_eq (fun k => hx_pb_s h4 (a _ c1).2.1) (fun k => hx_pb_s h4 (a _ c2).2.1) ⟨fun q => hx_rn_inj hq c1 c2 q, fun q => by rw [q]⟩
/-- back: groups without cells are left out -/
def hx_bk (G2 : Nat) (σ : Nat → Nat) (s : Nat) : Option Nat := if s < G2 then some (σ s) else none
theorem hx_CT_bk (h4 : m ≤ 4) (h : hx_rn m G1 G2 cn σ τ gp1 gp2 ga1 gb1 ga2 gb2) (hB : 0 ≤ B) (hgp : ∀ s k, s < G1 → k < m → 0 ≤ gp1 (4 * s + k)) (S : Nat → Bool) : hl_CT B m G2 cn gp2 ga2 gb2 wt (hx_pb m (hx_bk G2 σ) S) ≤ hl_CT B m G1 cn gp1 ga1 gb1 wt S := by
  have hq := h
  obtain ⟨a, b, c⟩ := h
  have bs : ∀ g, g < G2 → hx_bk G2 σ g = some (σ g) := fun g hg => if_pos hg
  unfold hl_CT
  have e1 : hl_si G2 (fun g => hl_si m (hl_ch B m gp2 g (hx_pb m (hx_bk G2 σ) S))) = hl_si G2 (fun g => hl_si m (hl_ch B m gp1 (σ g) S)) := hl_si_congr G2 (fun g hg => hl_si_congr m (fun k hk => (hx_ch_eq (fun k => (hx_pb_s h4 (bs g hg)).symm) ((a g hg).2.2 k hk)).symm))
  have nn : ∀ s, s < G1 → 0 ≤ hl_si m (hl_ch B m gp1 s S) := fun s hs => hl_si_nn m (fun k hk => by
    unfold hl_ch
    exact Int.add_nonneg (hl_fs_le (hgp s k hs hk) (Int.le_refl _)).1 (hl_fs_le (x := if 0 < k ∧ k + 1 < m then B else 0) (B := B) (by split <;> omega) (by split <;> omega)).1)
  have e2 : hl_si G2 (fun g => hl_si m (hl_ch B m gp1 (σ g) S)) ≤ hl_si G1 (fun s => hl_si m (hl_ch B m gp1 s S)) := by
    have o := hx_si_im (σ := σ) (n := G1) G2 (fun s => if ∃ g, g < G2 ∧ σ g = s then hl_si m (hl_ch B m gp1 s S) else 0) (fun g hg => (a g hg).1) (fun g g' hg hg' e => hx_rn_inj hq hg hg' e) (fun s hs hn => if_neg (fun ⟨g, hg, e⟩ => hn g hg e))
    have o2 := hl_si_congr (f := fun g => (fun s => if ∃ g, g < G2 ∧ σ g = s then hl_si m (hl_ch B m gp1 s S) else 0) (σ g)) (g := fun g => hl_si m (hl_ch B m gp1 (σ g) S)) G2 (fun g hg => if_pos ⟨g, hg, rfl⟩)
    rw [← o2, ← o]
    refine hl_si_le G1 (fun s hs => ?_)
    have := nn s hs
    show (if ∃ g, g < G2 ∧ σ g = s then hl_si m (hl_ch B m gp1 s S) else 0) ≤ _
    split
    · exact Int.le_refl _
    · exact this
  have e3 : hl_si cn (fun t => hl_si (m - 1) (hl_ct m (ga2 t) (gb2 t) (wt t) (hx_pb m (hx_bk G2 σ) S))) = hl_si cn (fun t => hl_si (m - 1) (hl_ct m (ga1 t) (gb1 t) (wt t) S)) := hl_si_congr cn (fun t ht => hl_si_congr (m - 1) (fun k hk => by
    obtain ⟨c1, c2, c3, c4⟩ := c t ht
    rw [c3, c4]
    exact hx_ct_eq (fun k => hx_pb_s h4 (bs _ c1)) (fun k => hx_pb_s h4 (bs _ c2)) ⟨fun q => by rw [q], fun q => hx_rn_inj hq c1 c2 q⟩))
  rw [e1, e3]
  omega
theorem hx_pb_01 {T : Nat → Bool} : hx_pb m τ T 0 = T 0 ∧ hx_pb m τ T 1 = T 1 := ⟨if_pos (by omega), if_pos (by omega)⟩
/-- the least of the least cuts goes over -/
theorem hx_MC_rn (h4 : m ≤ 4) (h : hx_rn m G1 G2 cn σ τ gp1 gp2 ga1 gb1 ga2 gb2) (hB : 0 ≤ B) (hgp : ∀ s k, s < G1 → k < m → 0 ≤ gp1 (4 * s + k)) {F : Int} {R : Nat → Bool} (hM : hl_MC (hl_CT B m G1 cn gp1 ga1 gb1 wt) F R) : hl_MC (hl_CT B m G2 cn gp2 ga2 gb2 wt) F (hx_pb m (hx_bk G2 σ) R) := by
  obtain ⟨r0, r1, r2, r3⟩ := hM
  have p0 : hx_pb m (hx_bk G2 σ) R 0 = true := hx_pb_01.1.trans r0
  have p1 : hx_pb m (hx_bk G2 σ) R 1 = false := hx_pb_01.2.trans r1
  have le := hx_CT_bk (wt := wt) h4 h hB hgp R
  have ge : ∀ T, T 0 = true → T 1 = false → F ≤ hl_CT B m G2 cn gp2 ga2 gb2 wt T := fun T t0 t1 => by
    rw [← hx_CT_pb h4 h T]
    exact (r3 _ (hx_pb_01.1.trans t0) (hx_pb_01.2.trans t1)).1
  refine ⟨p0, p1, ?_, fun T t0 t1 => ⟨ge T t0 t1, fun e u hu => ?_⟩⟩
  · have := ge _ p0 p1
    omega
  · by_cases z : u < 2
    · have c01 : u = 0 ∨ u = 1 := by omega
      rcases c01 with rfl | rfl
      · exact t0
      · rw [p1] at hu; cases hu
    · by_cases m2 : 2 ≤ m
      · have en := hx_nd_enc (show 2 ≤ u by omega) m2
        rw [← en] at hu ⊢
        generalize (u - 2) / (m - 1) = s at hu en ⊢
        generalize (u - 2) % (m - 1) + 1 = k at hu en ⊢
        by_cases y : s < G2
        · rw [hx_pb_s h4 (if_pos y : hx_bk G2 σ s = some (σ s))] at hu
          have e' : hl_CT B m G1 cn gp1 ga1 gb1 wt (hx_pb m τ T) = F := by rw [hx_CT_pb h4 h T]; exact e
          have k1 := (r3 _ (hx_pb_01.1.trans t0) (hx_pb_01.2.trans t1)).2 e' _ hu
          rw [hx_pb_s h4 (h.1 s y).2.1] at k1
          exact k1
        · have nz : ¬ k = 0 := fun q => by rw [q, hx_nd_0] at en; omega
          have nm : ¬ m ≤ k := fun q => by rw [hx_nd_m nz q] at en; omega
          rw [hx_pb_n h4 (if_neg y : hx_bk G2 σ s = none) (by omega) (by omega)] at hu
          cases hu
      · unfold hx_pb at hu
        rw [if_neg z, if_neg m2] at hu
        cases hu
theorem hx_hk_eq {R1 R2 : Nat → Bool} {g s : Nat} (h : ∀ k, R2 (hl_nd m g k) = R1 (hl_nd m s k)) (f : Nat) : ∀ k, hl_hk R2 m g f k = hl_hk R1 m s f k := by
  induction f with
  | zero => exact fun k => rfl
  | succ f ih =>
    intro k
    unfold hl_hk
    rw [h (k + 1), ih (k + 1)]
/-- class and reference -/
theorem hx_two (h4 : m ≤ 4) (h : hx_rn m G1 G2 cn σ τ gp1 gp2 ga1 gb1 ga2 gb2) (hgp : ∀ s k, s < G1 → k < m → 0 ≤ gp1 (4 * s + k)) (hwt : ∀ t k, t < cn → k + 1 < m → 0 ≤ wt t k) {F1 F2 : Int} {R1 R2 : Nat → Bool} (h1 : hl_MC (hl_CT 1000000000 m G1 cn gp1 ga1 gb1 wt) F1 R1) (h2 : hl_MC (hl_CT 40000000000 m G2 cn gp2 ga2 gb2 wt) F2 R2) : (1000000000 ≤ F1 ∧ 1000000000 ≤ F2) ∨ (F1 = F2 ∧ F1 < 1000000000 ∧ ∀ g f k, g < G2 → hl_hk R2 m g f k = hl_hk R1 m (σ g) f k) := by
  have h1' := hx_MC_rn h4 h (by omega) hgp h1
  rcases hl_same_cut (fun g k hg hk => by rw [← (h.1 g hg).2.2 k hk]; exact hgp _ k (h.1 g hg).1 hk) hwt h1' h2 with q | ⟨q1, q2, q3⟩
  · exact .inl q
  · exact .inr ⟨q1, q2, fun g f k hg => hx_hk_eq (fun k => by rw [← q3, hx_pb_s h4 (if_pos hg : hx_bk G2 σ g = some (σ g))]) f k⟩
end HXREN
