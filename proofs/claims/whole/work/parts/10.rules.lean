/-! one equation for each kind of instruction, for runs of the small machine -/
section HLE
variable {j pc pc' len ix t : Nat} {c : hl_C} {L L' st st' rest : List Value} {w w' : hl_W} {ins : Instr}
theorem hl_R_go (hd : decode (hl_b j) pc = .ok (ins, len)) (hl : hl_len ins len = true) (hs : hl_step (hl_o j) (hl_rk j) (hl_kd j == 2) ins pc c L st w = hl_go pc' L' st' w') : hl_Run j c pc L st w = hl_Run j c pc' L' st' w' := by
  rw [hl_Run_at hd hl, hs]
  rfl
theorem hl_R_ret {r : hl_Rt} (hd : decode (hl_b j) pc = .ok (ins, len)) (hl : hl_len ins len = true) (hs : hl_step (hl_o j) (hl_rk j) (hl_kd j == 2) ins pc c L st w = some (.inr r)) : hl_Run j c pc L st w = some r := by
  rw [hl_Run_at hd hl, hs]
  rfl
theorem hl_R_retI {x : Int32} (hd : decode (hl_b j) pc = .ok (.ireturn, 1)) (h : hl_rk j = 0) : hl_Run j c pc L [.int x] w = some (some (.int x), w) := hl_R_ret hd rfl (if_pos (Or.inl h))
theorem hl_R_retZ {x : Int32} (hd : decode (hl_b j) pc = .ok (.ireturn, 1)) (h : hl_rk j = 3) (hx : x = 0 ∨ x = 1) : hl_Run j c pc L [.int x] w = some (some (.int x), w) := hl_R_ret hd rfl (if_pos (Or.inr ⟨h, hx⟩))
theorem hl_R_retJ {x : Int64} (hd : decode (hl_b j) pc = .ok (.lreturn, 1)) (h : hl_rk j = 1) : hl_Run j c pc L [.long x] w = some (some (.long x), w) := hl_R_ret hd rfl (if_pos h)
theorem hl_R_retV (hd : decode (hl_b j) pc = .ok (.return_, 1)) (h : hl_rk j = 2) : hl_Run j c pc L [] w = some (none, w) := hl_R_ret hd rfl (if_pos h)
theorem hl_R_jp {off : Int} (hd : decode (hl_b j) pc = .ok (.goto off, 3)) (ht : hl_tg pc off = some t) : hl_Run j c pc L st w = hl_Run j c t L st w := by
  refine hl_R_go hd rfl ?_
  show hl_jp pc off L st w = _
  unfold hl_jp
  rw [ht]
theorem hl_R_if {q : Prop} {inst : Decidable q} {off : Int} (hd : decode (hl_b j) pc = .ok (ins, len)) (hl : hl_len ins len = true) (hs : hl_step (hl_o j) (hl_rk j) (hl_kd j == 2) ins pc c L st w = hl_if (decide q) pc off L st' w) (ht : hl_tg pc off = some t) : hl_Run j c pc L st w = @ite _ q inst (hl_Run j c t L st' w) (hl_Run j c (pc + 3) L st' w) := by
  rw [hl_Run_at hd hl, hs, hl_if_t ht]
  by_cases h : q
  · rw [if_pos h, if_pos (by simpa using h)]
    rfl
  · rw [if_neg h, if_neg (by simpa using h)]
    rfl
theorem hl_R_getI {a ci k : Nat} (hd : decode (hl_b j) pc = .ok (.getfield ix, 3)) (hfl : hl_fl (hl_o j) ix = some (ci, k)) (hfk : hl_fk ci k = 0 ∨ hl_fk ci k = 3) (h : hl_ob w a ci = true) : hl_Run j c pc L (.ref a :: st) w = hl_Run j c (pc + 3) L (.int (hl_I w a k) :: st) w := by
  refine hl_R_go hd rfl ?_
  show hl_get (hl_o j) ix pc L (.ref a :: st) w = _
  rcases hfk with hfk | hfk <;> simp only [hl_get, hfl, h, hfk, if_true]
theorem hl_R_getJ {a ci k : Nat} (hd : decode (hl_b j) pc = .ok (.getfield ix, 3)) (hfl : hl_fl (hl_o j) ix = some (ci, k)) (hfk : hl_fk ci k = 1) (h : hl_ob w a ci = true) : hl_Run j c pc L (.ref a :: st) w = hl_Run j c (pc + 3) L (.long (hl_J w a k) :: st) w := by
  refine hl_R_go hd rfl ?_
  show hl_get (hl_o j) ix pc L (.ref a :: st) w = _
  simp only [hl_get, hfl, h, hfk, if_true]
theorem hl_R_getP {a ci k : Nat} (hd : decode (hl_b j) pc = .ok (.getfield ix, 3)) (hfl : hl_fl (hl_o j) ix = some (ci, k)) (hfk : hl_fk ci k = 2) (h : hl_ob w a ci = true) : hl_Run j c pc L (.ref a :: st) w = hl_Run j c (pc + 3) L (va_rf (hl_P w a k) :: st) w := by
  refine hl_R_go hd rfl ?_
  show hl_get (hl_o j) ix pc L (.ref a :: st) w = _
  simp only [hl_get, hfl, h, hfk, if_true]
theorem hl_R_putI {a ci k : Nat} {x : Int32} (hd : decode (hl_b j) pc = .ok (.putfield ix, 3)) (hfl : hl_fl (hl_o j) ix = some (ci, k)) (hfk : hl_fk ci k = 0) (hf : hl_fin ci k = false) (h : hl_ob w a ci = true) : hl_Run j c pc L (.int x :: .ref a :: st) w = hl_Run j c (pc + 3) L st (hl_sI w a k x) := by
  refine hl_R_go hd rfl ?_
  show hl_put (hl_o j) (hl_kd j == 2) ix pc L (.int x :: .ref a :: st) w = _
  simp only [hl_put, hfl, h, hfk, hf, true_or, and_self, if_true]
theorem hl_R_putZ {a ci k : Nat} {x : Int32} (hd : decode (hl_b j) pc = .ok (.putfield ix, 3)) (hfl : hl_fl (hl_o j) ix = some (ci, k)) (hfk : hl_fk ci k = 3) (hf : hl_fin ci k = false) (h : hl_ob w a ci = true) (hx : x = 0 ∨ x = 1) : hl_Run j c pc L (.int x :: .ref a :: st) w = hl_Run j c (pc + 3) L st (hl_sI w a k x) := by
  refine hl_R_go hd rfl ?_
  show hl_put (hl_o j) (hl_kd j == 2) ix pc L (.int x :: .ref a :: st) w = _
  simp only [hl_put, hfl, h, hfk, hf, true_or, and_self, if_true, hx]
theorem hl_R_putJ {a ci k : Nat} {x : Int64} (hd : decode (hl_b j) pc = .ok (.putfield ix, 3)) (hfl : hl_fl (hl_o j) ix = some (ci, k)) (hfk : hl_fk ci k = 1) (hf : hl_fin ci k = false) (h : hl_ob w a ci = true) : hl_Run j c pc L (.long x :: .ref a :: st) w = hl_Run j c (pc + 3) L st (hl_sJ w a k x) := by
  refine hl_R_go hd rfl ?_
  show hl_put (hl_o j) (hl_kd j == 2) ix pc L (.long x :: .ref a :: st) w = _
  simp only [hl_put, hfl, h, hfk, hf, true_or, and_self, if_true]
theorem hl_R_iald {a : Nat} {i : Int32} (hd : decode (hl_b j) pc = .ok (.iaload, 1)) (h : hl_ar w a 0 = true) (hi : hl_inb i (hl_k w a).2 = true) : hl_Run j c pc L (.int i :: .ref a :: st) w = hl_Run j c (pc + 1) L (.int (hl_I w a i.toNatClampNeg) :: st) w := by
  refine hl_R_go hd rfl ?_
  simp only [hl_step, h, hi, and_self, if_true]
theorem hl_R_lald {a : Nat} {i : Int32} (hd : decode (hl_b j) pc = .ok (.laload, 1)) (h : hl_ar w a 1 = true) (hi : hl_inb i (hl_k w a).2 = true) : hl_Run j c pc L (.int i :: .ref a :: st) w = hl_Run j c (pc + 1) L (.long (hl_J w a i.toNatClampNeg) :: st) w := by
  refine hl_R_go hd rfl ?_
  simp only [hl_step, h, hi, and_self, if_true]
theorem hl_R_bald {a : Nat} {i : Int32} (hd : decode (hl_b j) pc = .ok (.baload, 1)) (h : hl_ar w a 2 = true) (hi : hl_inb i (hl_k w a).2 = true) : hl_Run j c pc L (.int i :: .ref a :: st) w = hl_Run j c (pc + 1) L (.int (hl_I w a i.toNatClampNeg) :: st) w := by
  refine hl_R_go hd rfl ?_
  simp only [hl_step, h, hi, and_self, if_true]
theorem hl_R_aald {a : Nat} {i : Int32} (hd : decode (hl_b j) pc = .ok (.aaload, 1)) (h : hl_ar w a 3 = true) (hi : hl_inb i (hl_k w a).2 = true) : hl_Run j c pc L (.int i :: .ref a :: st) w = hl_Run j c (pc + 1) L (va_rf (hl_P w a i.toNatClampNeg) :: st) w := by
  refine hl_R_go hd rfl ?_
  simp only [hl_step, h, hi, and_self, if_true]
theorem hl_R_iast {a : Nat} {i x : Int32} (hd : decode (hl_b j) pc = .ok (.iastore, 1)) (h : hl_ar w a 0 = true) (hi : hl_inb i (hl_k w a).2 = true) : hl_Run j c pc L (.int x :: .int i :: .ref a :: st) w = hl_Run j c (pc + 1) L st (hl_sI w a i.toNatClampNeg x) := by
  refine hl_R_go hd rfl ?_
  simp only [hl_step, h, hi, and_self, if_true]
theorem hl_R_last {a : Nat} {i : Int32} {x : Int64} (hd : decode (hl_b j) pc = .ok (.lastore, 1)) (h : hl_ar w a 1 = true) (hi : hl_inb i (hl_k w a).2 = true) : hl_Run j c pc L (.long x :: .int i :: .ref a :: st) w = hl_Run j c (pc + 1) L st (hl_sJ w a i.toNatClampNeg x) := by
  refine hl_R_go hd rfl ?_
  simp only [hl_step, h, hi, and_self, if_true]
theorem hl_R_bast {a : Nat} {i x : Int32} (hd : decode (hl_b j) pc = .ok (.bastore, 1)) (h : hl_ar w a 2 = true) (hi : hl_inb i (hl_k w a).2 = true) (hx : x = 0 ∨ x = 1) : hl_Run j c pc L (.int x :: .int i :: .ref a :: st) w = hl_Run j c (pc + 1) L st (hl_sI w a i.toNatClampNeg x) := by
  refine hl_R_go hd rfl ?_
  simp only [hl_step, h, hi, hx, and_self, if_true]
theorem hl_R_alen {a : Nat} (hd : decode (hl_b j) pc = .ok (.arraylength, 1)) (h : a < hl_n w ∧ (hl_k w a).1 < 4) : hl_Run j c pc L (.ref a :: st) w = hl_Run j c (pc + 1) L (.int (Int32.ofNat (hl_k w a).2) :: st) w := by
  refine hl_R_go hd rfl ?_
  simp only [hl_step, h, and_self, if_true]
theorem hl_R_div {x y : Int32} (hd : decode (hl_b j) pc = .ok (.idiv, 1)) (h : ¬ y = 0) : hl_Run j c pc L (.int y :: .int x :: st) w = hl_Run j c (pc + 1) L (.int (x / y) :: st) w := by
  refine hl_R_go hd rfl ?_
  simp only [hl_step, h, if_false]
theorem hl_R_rem {x y : Int32} (hd : decode (hl_b j) pc = .ok (.irem, 1)) (h : ¬ y = 0) : hl_Run j c pc L (.int y :: .int x :: st) w = hl_Run j c (pc + 1) L (.int (x - x / y * y) :: st) w := by
  refine hl_R_go hd rfl ?_
  simp only [hl_step, h, if_false]
theorem hl_R_ldiv {x y : Int64} (hd : decode (hl_b j) pc = .ok (.ldiv, 1)) (h : ¬ y = 0) : hl_Run j c pc L (.long y :: .long x :: st) w = hl_Run j c (pc + 1) L (.long (x / y) :: st) w := by
  refine hl_R_go hd rfl ?_
  simp only [hl_step, h, if_false]
/-- what a call answers, and how it goes on -/
def hl_cal (r : Option hl_Rt) (f : Option Value → hl_W → Option hl_Rt) : Option hl_Rt := match r with
  | some (v, w) => f v w
  | none => none
theorem hl_cal_some (v : Option Value) (w : hl_W) (f : Option Value → hl_W → Option hl_Rt) : hl_cal (some (v, w)) f = f v w := rfl
theorem hl_R_bk {r : Option hl_Rt} (hd : decode (hl_b j) pc = .ok (ins, len)) (hl : hl_len ins len = true) (hs : hl_step (hl_o j) (hl_rk j) (hl_kd j == 2) ins pc c L st w = hl_bk pc L rest r) : hl_Run j c pc L st w = hl_cal r (fun v w' => hl_Run j c (pc + 3) L (v.toList ++ rest) w') := by
  rw [hl_Run_at hd hl, hs]
  cases r with
  | none => rfl
  | some q => rfl
theorem hl_R_cS {j' : Nat} {as : List Value} (hd : decode (hl_b j) pc = .ok (.invokestatic ix, 3)) (hm : hl_ml (hl_o j) ix = some j') (h2 : ¬ j' = 1) (hk : hl_kd j' = 0) (hl : hl_a j' ≤ st.length) (hr : st.drop (hl_a j') = rest) (ha : (st.take (hl_a j')).reverse = as) (hw : hl_low rest = true) : hl_Run j c pc L st w = hl_cal (c j' as w) (fun v w' => hl_Run j c (pc + 3) L (v.toList ++ rest) w') := by
  refine hl_R_bk hd rfl ?_
  show hl_cS _ _ _ _ _ _ _ = _
  subst hr
  subst ha
  have h4 : ¬ hl_kd j' = 4 := by omega
  simp only [hl_cS, hm, if_neg h2, if_neg h4]
  rw [if_pos ⟨hk, hl, hw⟩]
theorem hl_R_cV {j' a o' : Nat} {as : List Value} (hd : decode (hl_b j) pc = .ok (.invokevirtual ix, 3)) (hm : hl_ml (hl_o j) ix = some j') (hk : hl_kd j' = 1) (ho : hl_o j' = o') (hl : hl_a j' ≤ st.length) (hr : st.drop (hl_a j') = .ref a :: rest) (ha : (st.take (hl_a j')).reverse = as) (hw : hl_low rest = true) (h : hl_ob w a o' = true) : hl_Run j c pc L st w = hl_cal (c j' (.ref a :: as) w) (fun v w' => hl_Run j c (pc + 3) L (v.toList ++ rest) w') := by
  refine hl_R_bk hd rfl ?_
  show hl_cV _ _ _ _ _ _ _ = _
  subst ho
  subst ha
  simp only [hl_cV, hm, hr]
  rw [if_pos ⟨hl, hw⟩, if_pos ⟨hk, h⟩]
theorem hl_R_cX {j' a : Nat} {as : List Value} (hd : decode (hl_b j) pc = .ok (.invokevirtual ix, 3)) (hm : hl_ml (hl_o j) ix = some j') (hk : hl_kd j' = 3) (hl : hl_a j' ≤ st.length) (hr : st.drop (hl_a j') = .ref a :: rest) (ha : (st.take (hl_a j')).reverse = as) (hw : hl_low rest = true) : hl_Run j c pc L st w = hl_cal (c j' (.ref a :: as) w) (fun v w' => hl_Run j c (pc + 3) L (v.toList ++ rest) w') := by
  refine hl_R_bk hd rfl ?_
  show hl_cV _ _ _ _ _ _ _ = _
  subst ha
  have h1 : ¬ (hl_kd j' = 1 ∧ hl_ob w a (hl_o j') = true) := by omega
  simp only [hl_cV, hm, hr]
  rw [if_pos ⟨hl, hw⟩, if_neg h1, if_pos hk]
theorem hl_R_cI {j' a : Nat} {as : List Value} (hd : decode (hl_b j) pc = .ok (.invokespecial ix, 3)) (hm : hl_ml (hl_o j) ix = some j') (h0 : ¬ j' = 0) (hk : hl_kd j' = 2) (hl : hl_a j' ≤ st.length) (hr : st.drop (hl_a j') = .ref a :: rest) (ha : (st.take (hl_a j')).reverse = as) (hw : hl_low rest = true) : hl_Run j c pc L st w = hl_cal (c j' (.ref a :: as) w) (fun v w' => hl_Run j c (pc + 3) L (v.toList ++ rest) w') := by
  refine hl_R_bk hd rfl ?_
  show hl_cI _ _ _ _ _ _ _ = _
  subst ha
  simp only [hl_cI, hm, if_neg h0, hr]
  rw [if_pos ⟨hl, hw, hk⟩]
theorem hl_R_abs {x : Int32} (hd : decode (hl_b j) pc = .ok (.invokestatic ix, 3)) (hm : hl_ml (hl_o j) ix = some 259) (hw : hl_low st = true) : hl_Run j c pc L (.int x :: st) w = hl_Run j c (pc + 3) L (.int (if 0 ≤ x then x else 0 - x) :: st) w := by
  refine hl_R_go hd rfl ?_
  show hl_cS _ _ _ _ _ _ _ = _
  simp only [hl_cS, hm]
  rw [if_neg (by decide), if_pos (by decide +kernel), hl_lib, if_pos rfl]
  simp only [hw, if_true]
theorem hl_R_max {x y : Int32} (hd : decode (hl_b j) pc = .ok (.invokestatic ix, 3)) (hm : hl_ml (hl_o j) ix = some 260) (hw : hl_low st = true) : hl_Run j c pc L (.int y :: .int x :: st) w = hl_Run j c (pc + 3) L (.int (if x < y then y else x) :: st) w := by
  refine hl_R_go hd rfl ?_
  show hl_cS _ _ _ _ _ _ _ = _
  simp only [hl_cS, hm]
  rw [if_neg (by decide), if_pos (by decide +kernel), hl_lib, if_neg (by decide), if_pos rfl]
  simp only [hw, if_true]
theorem hl_R_min {x y : Int32} (hd : decode (hl_b j) pc = .ok (.invokestatic ix, 3)) (hm : hl_ml (hl_o j) ix = some 261) (hw : hl_low st = true) : hl_Run j c pc L (.int y :: .int x :: st) w = hl_Run j c (pc + 3) L (.int (if y < x then y else x) :: st) w := by
  refine hl_R_go hd rfl ?_
  show hl_cS _ _ _ _ _ _ _ = _
  simp only [hl_cS, hm]
  rw [if_neg (by decide), if_pos (by decide +kernel), hl_lib, if_neg (by decide), if_neg (by decide), if_pos rfl]
  simp only [hw, if_true]
theorem hl_R_minJ {x y : Int64} (hd : decode (hl_b j) pc = .ok (.invokestatic ix, 3)) (hm : hl_ml (hl_o j) ix = some 262) (hw : hl_low st = true) : hl_Run j c pc L (.long y :: .long x :: st) w = hl_Run j c (pc + 3) L (.long (if y < x then y else x) :: st) w := by
  refine hl_R_go hd rfl ?_
  show hl_cS _ _ _ _ _ _ _ = _
  simp only [hl_cS, hm]
  rw [if_neg (by decide), if_pos (by decide +kernel), hl_lib, if_neg (by decide), if_neg (by decide), if_neg (by decide), if_pos rfl]
  simp only [hw, if_true]
theorem hl_R_acp {a b : Nat} {sp dp n : Int32} (hd : decode (hl_b j) pc = .ok (.invokestatic ix, 3)) (hm : hl_ml (hl_o j) ix = some 1) (hw : hl_low st = true) (hab : (hl_ar w a 0 = true ∧ hl_ar w b 0 = true) ∨ (hl_ar w a 2 = true ∧ hl_ar w b 2 = true ∧ hl_bits w a sp.toNatClampNeg n.toNatClampNeg = true)) (h1 : ¬ sp < 0) (h2 : ¬ dp < 0) (h3 : ¬ n < 0) (h4 : sp.toNatClampNeg + n.toNatClampNeg ≤ (hl_k w a).2) (h5 : dp.toNatClampNeg + n.toNatClampNeg ≤ (hl_k w b).2) : hl_Run j c pc L (.int n :: .int dp :: .ref b :: .int sp :: .ref a :: st) w = hl_Run j c (pc + 3) L st (hl_copy w a b sp dp n) := by
  refine hl_R_go hd rfl ?_
  show hl_cS _ _ _ _ _ _ _ = _
  simp only [hl_cS, hm, hl_acp, if_true]
  rw [if_pos ⟨hw, hab, h1, h2, h3, h4, h5⟩]
theorem hl_R_swO {x : Int32} {dflt lo hi : Int} {offs : Array Int} (hd : decode (hl_b j) pc = .ok (.tableswitch dflt lo hi offs, len)) (hx : x.toInt < lo ∨ hi < x.toInt) (ht : hl_tg pc dflt = some t) : hl_Run j c pc L (.int x :: st) w = hl_Run j c t L st w := by
  refine hl_R_go hd rfl ?_
  simp only [hl_step]
  rw [if_pos hx, hl_jp, ht]
theorem hl_R_swI {x : Int32} {dflt lo hi off : Int} {offs : Array Int} (hd : decode (hl_b j) pc = .ok (.tableswitch dflt lo hi offs, len)) (hx : ¬ (x.toInt < lo ∨ hi < x.toInt)) (ho : offs[(x.toInt - lo).toNat]? = some off) (ht : hl_tg pc off = some t) : hl_Run j c pc L (.int x :: st) w = hl_Run j c t L st w := by
  refine hl_R_go hd rfl ?_
  simp only [hl_step]
  rw [if_neg hx, ho]
  simp only [hl_jp, ht]
end HLE
/-! locals that are written -/
theorem hl_kill_i (x : Int32) : hl_kill (.int x) = .int x := rfl
theorem hl_kill_r (x : Nat) : hl_kill (.ref x) = .ref x := rfl
theorem hl_kill_n : hl_kill .null = .null := rfl
theorem hl_kill_l (x : Int64) : hl_kill (.long x) = .null := rfl
theorem hl_tl_s (v : Value) (st : List Value) : (some v).toList ++ st = v :: st := rfl
theorem hl_tl_n (st : List Value) : (none : Option Value).toList ++ st = st := rfl
