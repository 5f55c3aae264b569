/-! a small machine of my own: worlds of numbered cells, a step for each instruction, runs, calls by depth -/
/-- how many cells; tag and size of each (0 int[], 1 long[], 2 boolean[], 3 HourLines$Text[], c + 4 an object of class c); references, ints and longs that they hold -/
abbrev hl_W : Type := Nat × (Nat → Nat × Nat) × (Nat → Nat → Option Nat) × (Nat → Nat → Int32) × (Nat → Nat → Int64)
def hl_n (w : hl_W) : Nat := w.1
def hl_k (w : hl_W) : Nat → Nat × Nat := w.2.1
def hl_P (w : hl_W) : Nat → Nat → Option Nat := w.2.2.1
def hl_I (w : hl_W) : Nat → Nat → Int32 := w.2.2.2.1
def hl_J (w : hl_W) : Nat → Nat → Int64 := w.2.2.2.2
def hl_up {α : Type} (f : Nat → Nat → α) (a i : Nat) (v : α) : Nat → Nat → α := fun b j => if b = a then (if j = i then v else f b j) else f b j
def hl_row {α : Type} (f : Nat → Nat → α) (a : Nat) (g : Nat → α) : Nat → Nat → α := fun b j => if b = a then g j else f b j
def hl_sI (w : hl_W) (a i : Nat) (v : Int32) : hl_W := (hl_n w, hl_k w, hl_P w, hl_up (hl_I w) a i v, hl_J w)
def hl_sJ (w : hl_W) (a i : Nat) (v : Int64) : hl_W := (hl_n w, hl_k w, hl_P w, hl_I w, hl_up (hl_J w) a i v)
def hl_sP (w : hl_W) (a i : Nat) (v : Option Nat) : hl_W := (hl_n w, hl_k w, hl_up (hl_P w) a i v, hl_I w, hl_J w)
def hl_rI (w : hl_W) (a : Nat) (g : Nat → Int32) : hl_W := (hl_n w, hl_k w, hl_P w, hl_row (hl_I w) a g, hl_J w)
def hl_new (w : hl_W) (t n : Nat) : hl_W := (hl_n w + 1, fun a => if a = hl_n w then (t, n) else hl_k w a, hl_row (hl_P w) (hl_n w) (fun _ => none), hl_row (hl_I w) (hl_n w) (fun _ => 0), hl_row (hl_J w) (hl_n w) (fun _ => 0))
def hl_sz (w : hl_W) : Nat := ((List.range (hl_n w)).map (fun a => (hl_k w a).2)).sum
def hl_N (ci : Nat) : Nat := match hl_cl[ci]? with
  | some q => q.2.2
  | none => 0
def hl_ob (w : hl_W) (a ci : Nat) : Bool := decide (a < hl_n w) && decide (hl_k w a = (ci + 4, hl_N ci))
def hl_ar (w : hl_W) (a t : Nat) : Bool := decide (a < hl_n w) && decide ((hl_k w a).1 = t)
def hl_inb (i : Int32) (n : Nat) : Bool := decide (¬ i < 0) && decide (i.toNatClampNeg < n)
abbrev hl_S : Type := Nat × List Value × List Value × hl_W
abbrev hl_Rt : Type := Option Value × hl_W
abbrev hl_C : Type := Nat → List Value → hl_W → Option hl_Rt
abbrev hl_O : Type := Option (hl_S ⊕ hl_Rt)
def hl_go (pc : Nat) (L st : List Value) (w : hl_W) : hl_O := some (.inl (pc, L, st, w))
def hl_tg (pc : Nat) (off : Int) : Option Nat := match (pc : Int) + off with
  | .ofNat n => some n
  | .negSucc _ => none
def hl_jp (pc : Nat) (off : Int) (L st : List Value) (w : hl_W) : hl_O := match hl_tg pc off with
  | some t => hl_go t L st w
  | none => none
def hl_if (q : Bool) (pc : Nat) (off : Int) (L st : List Value) (w : hl_W) : hl_O := match hl_tg pc off with
  | some t => if q = true then hl_go t L st w else hl_go (pc + 3) L st w
  | none => none
def hl_ld : List Value → Nat → Value
  | [], _ => .null
  | v :: _, 0 => v
  | _ :: l, i + 1 => hl_ld l i
def hl_kill (v : Value) : Value := match v with
  | .long _ => .null
  | .double _ => .null
  | v => v
def hl_s1 : List Value → Nat → Value → List Value
  | [], _, _ => []
  | _ :: l, 0, v => v :: l
  | x :: l, i + 1, v => (if i = 0 then hl_kill x else x) :: hl_s1 l i v
def hl_s2 : List Value → Nat → Value → List Value
  | [], _, _ => []
  | _ :: l, 0, v => v :: (match l with
    | [] => []
    | _ :: l => .null :: l)
  | x :: l, i + 1, v => (if i = 0 then hl_kill x else x) :: hl_s2 l i v
def hl_lay : List Value → List Value
  | [] => []
  | .long x :: l => .long x :: .null :: hl_lay l
  | .double x :: l => .double x :: .null :: hl_lay l
  | v :: l => v :: hl_lay l
def hl_ent (n : Nat) (vs : List Value) : List Value := hl_lay vs ++ List.replicate (n - (hl_lay vs).length) .null
def hl_low (st : List Value) : Bool := decide ((st.map fun v => v.category).sum ≤ 8)
/-- one word int of a local -/
def hl_lI (pc i : Nat) (L st : List Value) (w : hl_W) : hl_O := match hl_ld L i with
  | .int x => hl_go pc L (.int x :: st) w
  | _ => none
def hl_lJ (pc i : Nat) (L st : List Value) (w : hl_W) : hl_O := match hl_ld L i with
  | .long x => hl_go pc L (.long x :: st) w
  | _ => none
def hl_lA (pc i : Nat) (L st : List Value) (w : hl_W) : hl_O := match hl_ld L i with
  | .ref x => hl_go pc L (.ref x :: st) w
  | _ => none
def hl_pI (pc i : Nat) (L st : List Value) (w : hl_W) : hl_O := match st with
  | .int x :: st => if i < L.length then hl_go pc (hl_s1 L i (.int x)) st w else none
  | _ => none
def hl_pJ (pc i : Nat) (L st : List Value) (w : hl_W) : hl_O := match st with
  | .long x :: st => if i + 1 < L.length then hl_go pc (hl_s2 L i (.long x)) st w else none
  | _ => none
def hl_pA (pc i : Nat) (L st : List Value) (w : hl_W) : hl_O := match st with
  | .ref x :: st => if i < L.length then hl_go pc (hl_s1 L i (.ref x)) st w else none
  | _ => none
def hl_i2 (f : Int32 → Int32 → Int32) (pc : Nat) (L st : List Value) (w : hl_W) : hl_O := match st with
  | .int y :: .int x :: st => hl_go (pc + 1) L (.int (f x y) :: st) w
  | _ => none
def hl_j2 (f : Int64 → Int64 → Int64) (pc : Nat) (L st : List Value) (w : hl_W) : hl_O := match st with
  | .long y :: .long x :: st => hl_go (pc + 1) L (.long (f x y) :: st) w
  | _ => none
def hl_get (o ix pc : Nat) (L st : List Value) (w : hl_W) : hl_O := match st with
  | .ref a :: st => (match hl_fl o ix with
    | some (ci, k) => if hl_ob w a ci = true then (match hl_fk ci k with
      | 0 => hl_go (pc + 3) L (.int (hl_I w a k) :: st) w
      | 1 => hl_go (pc + 3) L (.long (hl_J w a k) :: st) w
      | 2 => hl_go (pc + 3) L (va_rf (hl_P w a k) :: st) w
      | 3 => hl_go (pc + 3) L (.int (hl_I w a k) :: st) w
      | _ => none) else none
    | none => none)
  | _ => none
def hl_put (o : Nat) (ini : Bool) (ix pc : Nat) (L st : List Value) (w : hl_W) : hl_O := match st with
  | v :: .ref a :: st => (match hl_fl o ix with
    | some (ci, k) => if hl_ob w a ci = true ∧ (hl_fin ci k = false ∨ (ini = true ∧ o = ci)) then (match hl_fk ci k with
      | 0 => (match v with
        | .int x => hl_go (pc + 3) L st (hl_sI w a k x)
        | _ => none)
      | 1 => (match v with
        | .long x => hl_go (pc + 3) L st (hl_sJ w a k x)
        | _ => none)
      | 2 => (match v with
        | .ref x => hl_go (pc + 3) L st (hl_sP w a k (some x))
        | _ => none)
      | 3 => (match v with
        | .int x => if x = 0 ∨ x = 1 then hl_go (pc + 3) L st (hl_sI w a k x) else none
        | _ => none)
      | _ => none) else none
    | none => none)
  | _ => none
/-- the copy of a row's part, as the kit's row has it -/
def hl_copy (w : hl_W) (a b : Nat) (sp dp n : Int32) : hl_W := hl_rI w b (va_cpy (hl_I w a) (hl_I w b) sp.toNatClampNeg dp.toNatClampNeg n.toNatClampNeg)
def hl_bits (w : hl_W) (a sp n : Nat) : Bool := (List.range n).all fun i => decide (hl_I w a (sp + i) = 0) || decide (hl_I w a (sp + i) = 1)
def hl_acp (pc : Nat) (L st : List Value) (w : hl_W) : hl_O := match st with
  | .int n :: .int dp :: .ref b :: .int sp :: .ref a :: st =>
    if hl_low st = true ∧ ((hl_ar w a 0 = true ∧ hl_ar w b 0 = true) ∨ (hl_ar w a 2 = true ∧ hl_ar w b 2 = true ∧ hl_bits w a sp.toNatClampNeg n.toNatClampNeg = true)) ∧ ¬ sp < 0 ∧ ¬ dp < 0 ∧ ¬ n < 0 ∧ sp.toNatClampNeg + n.toNatClampNeg ≤ (hl_k w a).2 ∧ dp.toNatClampNeg + n.toNatClampNeg ≤ (hl_k w b).2
    then hl_go (pc + 3) L st (hl_copy w a b sp dp n) else none
  | _ => none
def hl_bk (pc : Nat) (L st : List Value) (r : Option hl_Rt) : hl_O := match r with
  | some (v, w) => hl_go (pc + 3) L (v.toList ++ st) w
  | none => none
/-- abs, max, min of the library -/
def hl_lib (j pc : Nat) (L st : List Value) (w : hl_W) : hl_O :=
  if j = 259 then (match st with
    | .int x :: st => if hl_low st = true then hl_go (pc + 3) L (.int (if 0 ≤ x then x else 0 - x) :: st) w else none
    | _ => none)
  else if j = 260 then (match st with
    | .int y :: .int x :: st => if hl_low st = true then hl_go (pc + 3) L (.int (if x < y then y else x) :: st) w else none
    | _ => none)
  else if j = 261 then (match st with
    | .int y :: .int x :: st => if hl_low st = true then hl_go (pc + 3) L (.int (if y < x then y else x) :: st) w else none
    | _ => none)
  else if j = 262 then (match st with
    | .long y :: .long x :: st => if hl_low st = true then hl_go (pc + 3) L (.long (if y < x then y else x) :: st) w else none
    | _ => none)
  else none
/-- a call's arguments, the last on top; what lies below -/
def hl_cS (o ix pc : Nat) (c : hl_C) (L st : List Value) (w : hl_W) : hl_O := match hl_ml o ix with
  | some j => if j = 1 then hl_acp pc L st w else if hl_kd j = 4 then hl_lib j pc L st w else
    if hl_kd j = 0 ∧ hl_a j ≤ st.length ∧ hl_low (st.drop (hl_a j)) = true then hl_bk pc L (st.drop (hl_a j)) (c j (st.take (hl_a j)).reverse w) else none
  | none => none
def hl_cV (o ix pc : Nat) (c : hl_C) (L st : List Value) (w : hl_W) : hl_O := match hl_ml o ix with
  | some j => (match st.drop (hl_a j) with
    | .ref a :: rest => if hl_a j ≤ st.length ∧ hl_low rest = true then
        (if hl_kd j = 1 ∧ hl_ob w a (hl_o j) = true then hl_bk pc L rest (c j (.ref a :: (st.take (hl_a j)).reverse) w)
        else if hl_kd j = 3 then hl_bk pc L rest (c j (.ref a :: (st.take (hl_a j)).reverse) w)
        else none) else none
    | _ => none)
  | none => none
def hl_cI (o ix pc : Nat) (c : hl_C) (L st : List Value) (w : hl_W) : hl_O := match hl_ml o ix with
  | some j => if j = 0 then (match st with
      | .ref _ :: rest => if hl_low rest = true then hl_go (pc + 3) L rest w else none
      | _ => none) else (match st.drop (hl_a j) with
    | .ref a :: rest => if hl_a j ≤ st.length ∧ hl_low rest = true ∧ hl_kd j = 2 then hl_bk pc L rest (c j (.ref a :: (st.take (hl_a j)).reverse) w) else none
    | _ => none)
  | none => none
/-- the answers of the three library methods on the two texts of the pool -/
def hl_txt (q : Nat) : Option String := if q = 1000001 then some hl_words else if q = 1000002 then some hl_signs else none
def hl_chr (s : String) (i : Nat) : Int32 := Int32.ofNat (((s.toList)[i]?).getD 'a').toNat
def hl_ext (j : Nat) (args : List Value) : Option Value := match args with
  | [.ref q] => if j = 265 then (hl_txt q).map fun s => .int (Int32.ofNat s.toList.length) else none
  | [.ref q, .int i] => (match hl_txt q with
    | some s => if j = 266 then (if hl_inb i s.toList.length = true then some (.int (hl_chr s i.toNatClampNeg)) else none)
      else if j = 267 then (if 0 ≤ i ∧ i ≤ 65535 then some (.int (match s.toList.findIdx? (fun ch => ch.toNat == i.toNatClampNeg) with
        | some k => Int32.ofNat k
        | none => -1)) else none)
      else none
    | none => none)
  | _ => none
def hl_step (o rk : Nat) (ini : Bool) (ins : Instr) (pc : Nat) (c : hl_C) (L st : List Value) (w : hl_W) : hl_O := match ins with
  | .iload_n n => hl_lI (pc + 1) n.val L st w
  | .iload n => hl_lI (pc + 2) n L st w
  | .lload_n n => hl_lJ (pc + 1) n.val L st w
  | .lload n => hl_lJ (pc + 2) n L st w
  | .aload_n n => hl_lA (pc + 1) n.val L st w
  | .aload n => hl_lA (pc + 2) n L st w
  | .istore_n n => hl_pI (pc + 1) n.val L st w
  | .istore n => hl_pI (pc + 2) n L st w
  | .lstore_n n => hl_pJ (pc + 1) n.val L st w
  | .lstore n => hl_pJ (pc + 2) n L st w
  | .astore_n n => hl_pA (pc + 1) n.val L st w
  | .astore n => hl_pA (pc + 2) n L st w
  | .iinc i n => (match hl_ld L i with
    | .int x => if i < L.length then hl_go (pc + 3) (hl_s1 L i (.int (x + Int32.ofInt n))) st w else none
    | _ => none)
  | .iconst n => hl_go (pc + 1) L (.int (Int32.ofInt n) :: st) w
  | .bipush n => hl_go (pc + 2) L (.int (Int8.ofInt n).toInt32 :: st) w
  | .sipush n => hl_go (pc + 3) L (.int (Int16.ofInt n).toInt32 :: st) w
  | .lconst n => hl_go (pc + 1) L (.long (Int64.ofNat n.val) :: st) w
  | .ldc ix => (match hl_ci o ix with
    | some x => hl_go (pc + 2) L (.int x :: st) w
    | none => (match hl_str o ix with
      | some q => hl_go (pc + 2) L (.ref q :: st) w
      | none => none))
  | .ldc_w ix => (match hl_ci o ix with
    | some x => hl_go (pc + 3) L (.int x :: st) w
    | none => none)
  | .ldc2_w ix => (match hl_cj o ix with
    | some x => hl_go (pc + 3) L (.long x :: st) w
    | none => none)
  | .iadd => hl_i2 (fun x y => x + y) pc L st w
  | .isub => hl_i2 (fun x y => x - y) pc L st w
  | .imul => hl_i2 (fun x y => x * y) pc L st w
  | .iand => hl_i2 (fun x y => x &&& y) pc L st w
  | .ior => hl_i2 (fun x y => x ||| y) pc L st w
  | .ixor => hl_i2 (fun x y => x ^^^ y) pc L st w
  | .ishl => hl_i2 (fun x y => x <<< (y &&& 31)) pc L st w
  | .ishr => hl_i2 (fun x y => x >>> (y &&& 31)) pc L st w
  | .iushr => hl_i2 (fun x y => (x.toUInt32 >>> (y.toUInt32 &&& Int32.toUInt32 31)).toInt32) pc L st w
  | .idiv => (match st with
    | .int y :: .int x :: st => if y = 0 then none else hl_go (pc + 1) L (.int (x / y) :: st) w
    | _ => none)
  | .irem => (match st with
    | .int y :: .int x :: st => if y = 0 then none else hl_go (pc + 1) L (.int (x - x / y * y) :: st) w
    | _ => none)
  | .ineg => (match st with
    | .int x :: st => hl_go (pc + 1) L (.int (-x) :: st) w
    | _ => none)
  | .ladd => hl_j2 (fun x y => x + y) pc L st w
  | .lsub => hl_j2 (fun x y => x - y) pc L st w
  | .lmul => hl_j2 (fun x y => x * y) pc L st w
  | .lor => hl_j2 (fun x y => x ||| y) pc L st w
  | .ldiv => (match st with
    | .long y :: .long x :: st => if y = 0 then none else hl_go (pc + 1) L (.long (x / y) :: st) w
    | _ => none)
  | .lneg => (match st with
    | .long x :: st => hl_go (pc + 1) L (.long (-x) :: st) w
    | _ => none)
  | .lshl => (match st with
    | .int y :: .long x :: st => hl_go (pc + 1) L (.long (x <<< (y.toInt64 &&& 63)) :: st) w
    | _ => none)
  | .lcmp => (match st with
    | .long y :: .long x :: st => hl_go (pc + 1) L (.int (lg_cmp x y) :: st) w
    | _ => none)
  | .i2l => (match st with
    | .int x :: st => hl_go (pc + 1) L (.long x.toInt64 :: st) w
    | _ => none)
  | .l2i => (match st with
    | .long x :: st => hl_go (pc + 1) L (.int x.toInt32 :: st) w
    | _ => none)
  | .i2c => (match st with
    | .int x :: st => hl_go (pc + 1) L (.int (x.toUInt32 % 65536).toInt32 :: st) w
    | _ => none)
  | .dup => (match st with
    | .int x :: st => hl_go (pc + 1) L (.int x :: .int x :: st) w
    | .ref x :: st => hl_go (pc + 1) L (.ref x :: .ref x :: st) w
    | _ => none)
  | .dup2 => (match st with
    | .int x :: .ref y :: st => hl_go (pc + 1) L (.int x :: .ref y :: .int x :: .ref y :: st) w
    | _ => none)
  | .pop => (match st with
    | .int _ :: st => hl_go (pc + 1) L st w
    | .ref _ :: st => hl_go (pc + 1) L st w
    | _ => none)
  | .goto off => hl_jp pc off L st w
  | .ifCond .eq off => (match st with
    | .int x :: st => hl_if (decide (x = 0)) pc off L st w
    | _ => none)
  | .ifCond .ne off => (match st with
    | .int x :: st => hl_if (decide (¬ x = 0)) pc off L st w
    | _ => none)
  | .ifCond .lt off => (match st with
    | .int x :: st => hl_if (decide (x < 0)) pc off L st w
    | _ => none)
  | .ifCond .ge off => (match st with
    | .int x :: st => hl_if (decide (0 ≤ x)) pc off L st w
    | _ => none)
  | .ifCond .gt off => (match st with
    | .int x :: st => hl_if (decide (0 < x)) pc off L st w
    | _ => none)
  | .ifCond .le off => (match st with
    | .int x :: st => hl_if (decide (x ≤ 0)) pc off L st w
    | _ => none)
  | .if_icmp .eq off => (match st with
    | .int y :: .int x :: st => hl_if (decide (x = y)) pc off L st w
    | _ => none)
  | .if_icmp .ne off => (match st with
    | .int y :: .int x :: st => hl_if (decide (¬ x = y)) pc off L st w
    | _ => none)
  | .if_icmp .lt off => (match st with
    | .int y :: .int x :: st => hl_if (decide (x < y)) pc off L st w
    | _ => none)
  | .if_icmp .ge off => (match st with
    | .int y :: .int x :: st => hl_if (decide (y ≤ x)) pc off L st w
    | _ => none)
  | .if_icmp .gt off => (match st with
    | .int y :: .int x :: st => hl_if (decide (y < x)) pc off L st w
    | _ => none)
  | .if_icmp .le off => (match st with
    | .int y :: .int x :: st => hl_if (decide (x ≤ y)) pc off L st w
    | _ => none)
  | .tableswitch dflt lo hi offs => (match st with
    | .int x :: st => if x.toInt < lo ∨ hi < x.toInt then hl_jp pc dflt L st w else (match offs[(x.toInt - lo).toNat]? with
      | some off => hl_jp pc off L st w
      | none => none)
    | _ => none)
  | .getfield ix => hl_get o ix pc L st w
  | .putfield ix => hl_put o ini ix pc L st w
  | .iaload => (match st with
    | .int i :: .ref a :: st => if hl_ar w a 0 = true ∧ hl_inb i (hl_k w a).2 = true then hl_go (pc + 1) L (.int (hl_I w a i.toNatClampNeg) :: st) w else none
    | _ => none)
  | .laload => (match st with
    | .int i :: .ref a :: st => if hl_ar w a 1 = true ∧ hl_inb i (hl_k w a).2 = true then hl_go (pc + 1) L (.long (hl_J w a i.toNatClampNeg) :: st) w else none
    | _ => none)
  | .baload => (match st with
    | .int i :: .ref a :: st => if hl_ar w a 2 = true ∧ hl_inb i (hl_k w a).2 = true then hl_go (pc + 1) L (.int (hl_I w a i.toNatClampNeg) :: st) w else none
    | _ => none)
  | .aaload => (match st with
    | .int i :: .ref a :: st => if hl_ar w a 3 = true ∧ hl_inb i (hl_k w a).2 = true then hl_go (pc + 1) L (va_rf (hl_P w a i.toNatClampNeg) :: st) w else none
    | _ => none)
  | .iastore => (match st with
    | .int x :: .int i :: .ref a :: st => if hl_ar w a 0 = true ∧ hl_inb i (hl_k w a).2 = true then hl_go (pc + 1) L st (hl_sI w a i.toNatClampNeg x) else none
    | _ => none)
  | .lastore => (match st with
    | .long x :: .int i :: .ref a :: st => if hl_ar w a 1 = true ∧ hl_inb i (hl_k w a).2 = true then hl_go (pc + 1) L st (hl_sJ w a i.toNatClampNeg x) else none
    | _ => none)
  | .bastore => (match st with
    | .int x :: .int i :: .ref a :: st => if hl_ar w a 2 = true ∧ hl_inb i (hl_k w a).2 = true ∧ (x = 0 ∨ x = 1) then hl_go (pc + 1) L st (hl_sI w a i.toNatClampNeg x) else none
    | _ => none)
  | .aastore => (match st with
    | .ref v :: .int i :: .ref a :: st => if hl_ar w a 3 = true ∧ hl_inb i (hl_k w a).2 = true ∧ hl_ob w v 7 = true then hl_go (pc + 1) L st (hl_sP w a i.toNatClampNeg (some v)) else none
    | _ => none)
  | .arraylength => (match st with
    | .ref a :: st => if a < hl_n w ∧ (hl_k w a).1 < 4 then hl_go (pc + 1) L (.int (Int32.ofNat (hl_k w a).2) :: st) w else none
    | _ => none)
  | .newarray ty => (match st with
    | .int n :: st => if ¬ n < 0 ∧ n.toNatClampNeg ≤ 100000 ∧ hl_n w < 1000000 then (match ty with
      | .int => hl_go (pc + 2) L (.ref (hl_n w) :: st) (hl_new w 0 n.toNatClampNeg)
      | .long => hl_go (pc + 2) L (.ref (hl_n w) :: st) (hl_new w 1 n.toNatClampNeg)
      | .boolean => hl_go (pc + 2) L (.ref (hl_n w) :: st) (hl_new w 2 n.toNatClampNeg)
      | _ => none) else none
    | _ => none)
  | .anewarray ix => (match st with
    | .int n :: st => if ¬ n < 0 ∧ n.toNatClampNeg ≤ 100000 ∧ hl_lc o ix = some 7 ∧ hl_n w < 1000000 then hl_go (pc + 3) L (.ref (hl_n w) :: st) (hl_new w 3 n.toNatClampNeg) else none
    | _ => none)
  | .new ix => (match hl_lc o ix with
    | some ci => if hl_n w < 1000000 then hl_go (pc + 3) L (.ref (hl_n w) :: st) (hl_new w (ci + 4) (hl_N ci)) else none
    | none => none)
  | .invokestatic ix => hl_cS o ix pc c L st w
  | .invokevirtual ix => hl_cV o ix pc c L st w
  | .invokespecial ix => hl_cI o ix pc c L st w
  | .ireturn => (match st with
    | [.int x] => if rk = 0 ∨ (rk = 3 ∧ (x = 0 ∨ x = 1)) then some (.inr (some (.int x), w)) else none
    | _ => none)
  | .lreturn => (match st with
    | [.long x] => if rk = 1 then some (.inr (some (.long x), w)) else none
    | _ => none)
  | .return_ => (match st with
    | [] => if rk = 2 then some (.inr (none, w)) else none
    | _ => none)
  | _ => none
/-- the lengths that the kit's rows know -/
def hl_len (ins : Instr) (len : Nat) : Bool := match ins with
  | .iload _ | .lload _ | .aload _ | .istore _ | .lstore _ | .astore _ | .bipush _ | .ldc _ | .newarray _ => len == 2
  | .iinc _ _ | .sipush _ | .ldc_w _ | .ldc2_w _ | .goto _ | .ifCond _ _ | .if_icmp _ _ | .getfield _ | .putfield _ | .anewarray _ | .new _ | .invokestatic _ | .invokevirtual _ | .invokespecial _ => len == 3
  | .tableswitch _ _ _ _ => true
  | _ => len == 1
def hl_nx (k : Nat → List Value → List Value → hl_W → Option hl_Rt) (x : hl_O) : Option hl_Rt := match x with
  | some (.inl (pc, L, st, w)) => k pc L st w
  | some (.inr r) => some r
  | none => none
def hl_run (j : Nat) (c : hl_C) : Nat → Nat → List Value → List Value → hl_W → Option hl_Rt
  | 0, _, _, _, _ => none
  | n + 1, pc, L, st, w => (match decode (hl_b j) pc with
    | .ok (ins, len) => if hl_len ins len = true then hl_nx (hl_run j c n) (hl_step (hl_o j) (hl_rk j) (hl_kd j == 2) ins pc c L st w) else none
    | .error _ => none)
theorem hl_if_t {q : Bool} {pc t : Nat} {off : Int} {L st : List Value} {w : hl_W} (h : hl_tg pc off = some t) : hl_if q pc off L st w = if q = true then hl_go t L st w else hl_go (pc + 3) L st w := by
  unfold hl_if
  rw [h]
theorem hl_run_s {j n pc : Nat} {c : hl_C} {L st : List Value} {w : hl_W} {r : hl_Rt} (h : hl_run j c n pc L st w = some r) : hl_run j c (n + 1) pc L st w = some r := by
  induction n generalizing pc L st w with
  | zero => simp [hl_run] at h
  | succ n ih =>
    rw [hl_run] at h ⊢
    cases hd : decode (hl_b j) pc with
    | error e => rw [hd] at h; simp at h
    | ok q =>
      obtain ⟨ins, len⟩ := q
      rw [hd] at h
      dsimp only at h ⊢
      split at h
      · next hl =>
        rw [if_pos hl]
        cases hs : hl_step (hl_o j) (hl_rk j) (hl_kd j == 2) ins pc c L st w with
        | none => rw [hs] at h; simp [hl_nx] at h
        | some x =>
          rw [hs] at h
          cases x with
          | inl y =>
            obtain ⟨a, b, d, e⟩ := y
            exact ih h
          | inr y => exact h
      · cases h
theorem hl_run_le {j n m pc : Nat} {c : hl_C} {L st : List Value} {w : hl_W} {r : hl_Rt} (h : hl_run j c n pc L st w = some r) (hm : n ≤ m) : hl_run j c m pc L st w = some r := by
  obtain ⟨k, rfl⟩ := Nat.exists_eq_add_of_le hm
  induction k with
  | zero => exact h
  | succ k ih => exact hl_run_s (ih (Nat.le_add_right _ _))
noncomputable def hl_Run (j : Nat) (c : hl_C) (pc : Nat) (L st : List Value) (w : hl_W) : Option hl_Rt :=
  @dite _ (∃ r, ∃ n, hl_run j c n pc L st w = some r) (Classical.propDecidable _) (fun h => some (Classical.choose h)) (fun _ => none)
theorem hl_Run_iff {j pc : Nat} {c : hl_C} {L st : List Value} {w : hl_W} {r : hl_Rt} : hl_Run j c pc L st w = some r ↔ ∃ n, hl_run j c n pc L st w = some r := by
  unfold hl_Run
  by_cases h : ∃ r, ∃ n, hl_run j c n pc L st w = some r
  · rw [dif_pos h]
    obtain ⟨n, hn⟩ := Classical.choose_spec h
    constructor
    · intro e
      cases e
      exact ⟨n, hn⟩
    · rintro ⟨m, hm⟩
      have h1 := hl_run_le hn (Nat.le_max_left n m)
      have h2 := hl_run_le hm (Nat.le_max_right n m)
      rw [h1] at h2
      exact h2
  · rw [dif_neg h]
    constructor
    · intro e; cases e
    · intro e; exact absurd ⟨r, e⟩ h
theorem hl_Run_at {j pc len : Nat} {c : hl_C} {L st : List Value} {w : hl_W} {ins : Instr} (hd : decode (hl_b j) pc = .ok (ins, len)) (hl : hl_len ins len = true) :
    hl_Run j c pc L st w = hl_nx (hl_Run j c) (hl_step (hl_o j) (hl_rk j) (hl_kd j == 2) ins pc c L st w) := by
  have key : ∀ r, hl_Run j c pc L st w = some r ↔ hl_nx (hl_Run j c) (hl_step (hl_o j) (hl_rk j) (hl_kd j == 2) ins pc c L st w) = some r := by
    intro r
    rw [hl_Run_iff]
    cases hs : hl_step (hl_o j) (hl_rk j) (hl_kd j == 2) ins pc c L st w with
    | none =>
      simp only [hl_nx]
      constructor
      · rintro ⟨n, hn⟩
        cases n with
        | zero => simp [hl_run] at hn
        | succ n => rw [hl_run, hd] at hn; simp [hl, hs, hl_nx] at hn
      · intro e; cases e
    | some x =>
      cases x with
      | inl y =>
        obtain ⟨a, b, d, e⟩ := y
        simp only [hl_nx]
        rw [hl_Run_iff]
        constructor
        · rintro ⟨n, hn⟩
          cases n with
          | zero => simp [hl_run] at hn
          | succ n => rw [hl_run, hd] at hn; simp only [hl, hs, hl_nx, if_true] at hn; exact ⟨n, hn⟩
        · rintro ⟨n, hn⟩
          refine ⟨n + 1, ?_⟩
          rw [hl_run, hd]
          simp only [hl, hs, hl_nx, if_true]
          exact hn
      | inr y =>
        simp only [hl_nx]
        constructor
        · rintro ⟨n, hn⟩
          cases n with
          | zero => simp [hl_run] at hn
          | succ n => rw [hl_run, hd] at hn; simp only [hl, hs, hl_nx, if_true] at hn; exact hn
        · intro e
          refine ⟨1, ?_⟩
          rw [hl_run, hd]
          simp only [hl, hs, hl_nx, if_true]
          exact e
  cases h1 : hl_Run j c pc L st w with
  | some r => exact ((key r).mp h1).symm
  | none =>
    cases h2 : hl_nx (hl_Run j c) (hl_step (hl_o j) (hl_rk j) (hl_kd j == 2) ins pc c L st w) with
    | none => rfl
    | some r => rw [(key r).mpr h2] at h1; cases h1
noncomputable def hl_call : Nat → hl_C
  | 0 => fun _ _ _ => none
  | d + 1 => fun j args w => if hl_kd j = 3 then (if 12 ≤ d + 1 then (hl_ext j args).map (fun v => (some v, w)) else none) else if hl_kd j < 3 ∧ j < 268 ∧ (hl_lay args).length ≤ hl_m j then hl_Run j (hl_call d) 0 (hl_ent (hl_m j) args) [] w else none
/-- with fuel, for worlds that are made -/
def hl_callF (n : Nat) : Nat → hl_C
  | 0 => fun _ _ _ => none
  | d + 1 => fun j args w => if hl_kd j = 3 then (if 12 ≤ d + 1 then (hl_ext j args).map (fun v => (some v, w)) else none) else if hl_kd j < 3 ∧ j < 268 ∧ (hl_lay args).length ≤ hl_m j then hl_run j (hl_callF n d) n 0 (hl_ent (hl_m j) args) [] w else none
/-! projections of written worlds -/
theorem hl_n_sI (w : hl_W) (a i : Nat) (v : Int32) : hl_n (hl_sI w a i v) = hl_n w := rfl
theorem hl_k_sI (w : hl_W) (a i : Nat) (v : Int32) : hl_k (hl_sI w a i v) = hl_k w := rfl
theorem hl_P_sI (w : hl_W) (a i : Nat) (v : Int32) : hl_P (hl_sI w a i v) = hl_P w := rfl
theorem hl_I_sI (w : hl_W) (a i : Nat) (v : Int32) : hl_I (hl_sI w a i v) = hl_up (hl_I w) a i v := rfl
theorem hl_J_sI (w : hl_W) (a i : Nat) (v : Int32) : hl_J (hl_sI w a i v) = hl_J w := rfl
theorem hl_n_sJ (w : hl_W) (a i : Nat) (v : Int64) : hl_n (hl_sJ w a i v) = hl_n w := rfl
theorem hl_k_sJ (w : hl_W) (a i : Nat) (v : Int64) : hl_k (hl_sJ w a i v) = hl_k w := rfl
theorem hl_P_sJ (w : hl_W) (a i : Nat) (v : Int64) : hl_P (hl_sJ w a i v) = hl_P w := rfl
theorem hl_I_sJ (w : hl_W) (a i : Nat) (v : Int64) : hl_I (hl_sJ w a i v) = hl_I w := rfl
theorem hl_J_sJ (w : hl_W) (a i : Nat) (v : Int64) : hl_J (hl_sJ w a i v) = hl_up (hl_J w) a i v := rfl
theorem hl_n_sP (w : hl_W) (a i : Nat) (v : Option Nat) : hl_n (hl_sP w a i v) = hl_n w := rfl
theorem hl_k_sP (w : hl_W) (a i : Nat) (v : Option Nat) : hl_k (hl_sP w a i v) = hl_k w := rfl
theorem hl_n_rI (w : hl_W) (a : Nat) (g : Nat → Int32) : hl_n (hl_rI w a g) = hl_n w := rfl
theorem hl_k_rI (w : hl_W) (a : Nat) (g : Nat → Int32) : hl_k (hl_rI w a g) = hl_k w := rfl
theorem hl_P_rI (w : hl_W) (a : Nat) (g : Nat → Int32) : hl_P (hl_rI w a g) = hl_P w := rfl
theorem hl_I_rI (w : hl_W) (a : Nat) (g : Nat → Int32) : hl_I (hl_rI w a g) = hl_row (hl_I w) a g := rfl
theorem hl_J_rI (w : hl_W) (a : Nat) (g : Nat → Int32) : hl_J (hl_rI w a g) = hl_J w := rfl
