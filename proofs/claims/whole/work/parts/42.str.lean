/-! String's own methods on the pool's two texts (printed by wip/whole/gen_str.py) -/
def hl_lens : List Nat := [82, 13]
def hl_bys : List (List Int32) := [[99, 111, 115, 116, 32, 103, 114, 111, 119, 32, 115, 116, 97, 121, 32, 111, 102, 102, 32, 97, 119, 97, 121, 32, 112, 101, 111, 112, 108, 101, 32, 115, 116, 97, 116, 101, 32, 116, 111, 119, 110, 32, 104, 111, 117, 114, 32, 109, 111, 110, 116, 104, 32, 100, 97, 114, 107, 32, 97, 108, 111, 110, 101, 32, 111, 114, 32, 97, 110, 100, 32, 110, 111, 116, 32, 105, 102, 32, 101, 110, 100, 32], [60, 62, 61, 35, 43, 45, 42, 47, 40, 41, 59, 63, 58]]
def hl_u_lat : MethodName := ⟨"java/lang/String", "isLatin1", "()Z"⟩
def hl_u_cod : MethodName := ⟨"java/lang/String", "coder", "()B"⟩
def hl_u_len : MethodName := ⟨"java/lang/String", "length", "()I"⟩
def hl_u_prc : MethodName := ⟨"jdk/internal/util/Preconditions", "checkIndex", "(IILjava/util/function/BiFunction;)I"⟩
def hl_u_chk : MethodName := ⟨"java/lang/String", "checkIndex", "(II)V"⟩
def hl_u_lch : MethodName := ⟨"java/lang/StringLatin1", "charAt", "([BI)C"⟩
def hl_u_cha : MethodName := ⟨"java/lang/String", "charAt", "(I)C"⟩
def hl_u_can : MethodName := ⟨"java/lang/StringLatin1", "canEncode", "(I)Z"⟩
def hl_u_ioc : MethodName := ⟨"java/lang/StringLatin1", "indexOfChar", "([BIII)I"⟩
def hl_u_lio : MethodName := ⟨"java/lang/StringLatin1", "indexOf", "([BIII)I"⟩
def hl_u_io2 : MethodName := ⟨"java/lang/String", "indexOf", "(II)I"⟩
def hl_u_io1 : MethodName := ⟨"java/lang/String", "indexOf", "(I)I"⟩
theorem hl_ux_lat : hl_u_lat.cls ≠ "java/lang/invoke/MethodHandle" ∧ hl_u_lat.cls ≠ "java/lang/invoke/VarHandle" ∧ (parseMethodDescriptor hl_u_lat.desc).map (fun d => d.parameters.length) = some 0 := by decide +kernel
theorem hl_ux_cod : hl_u_cod.cls ≠ "java/lang/invoke/MethodHandle" ∧ hl_u_cod.cls ≠ "java/lang/invoke/VarHandle" ∧ (parseMethodDescriptor hl_u_cod.desc).map (fun d => d.parameters.length) = some 0 := by decide +kernel
theorem hl_ux_len : hl_u_len.cls ≠ "java/lang/invoke/MethodHandle" ∧ hl_u_len.cls ≠ "java/lang/invoke/VarHandle" ∧ (parseMethodDescriptor hl_u_len.desc).map (fun d => d.parameters.length) = some 0 := by decide +kernel
theorem hl_ux_prc : hl_u_prc.cls ≠ "java/lang/invoke/MethodHandle" ∧ hl_u_prc.cls ≠ "java/lang/invoke/VarHandle" ∧ (parseMethodDescriptor hl_u_prc.desc).map (fun d => d.parameters.length) = some 3 := by decide +kernel
theorem hl_ux_chk : hl_u_chk.cls ≠ "java/lang/invoke/MethodHandle" ∧ hl_u_chk.cls ≠ "java/lang/invoke/VarHandle" ∧ (parseMethodDescriptor hl_u_chk.desc).map (fun d => d.parameters.length) = some 2 := by decide +kernel
theorem hl_ux_lch : hl_u_lch.cls ≠ "java/lang/invoke/MethodHandle" ∧ hl_u_lch.cls ≠ "java/lang/invoke/VarHandle" ∧ (parseMethodDescriptor hl_u_lch.desc).map (fun d => d.parameters.length) = some 2 := by decide +kernel
theorem hl_ux_cha : hl_u_cha.cls ≠ "java/lang/invoke/MethodHandle" ∧ hl_u_cha.cls ≠ "java/lang/invoke/VarHandle" ∧ (parseMethodDescriptor hl_u_cha.desc).map (fun d => d.parameters.length) = some 1 := by decide +kernel
theorem hl_ux_can : hl_u_can.cls ≠ "java/lang/invoke/MethodHandle" ∧ hl_u_can.cls ≠ "java/lang/invoke/VarHandle" ∧ (parseMethodDescriptor hl_u_can.desc).map (fun d => d.parameters.length) = some 1 := by decide +kernel
theorem hl_ux_ioc : hl_u_ioc.cls ≠ "java/lang/invoke/MethodHandle" ∧ hl_u_ioc.cls ≠ "java/lang/invoke/VarHandle" ∧ (parseMethodDescriptor hl_u_ioc.desc).map (fun d => d.parameters.length) = some 4 := by decide +kernel
theorem hl_ux_lio : hl_u_lio.cls ≠ "java/lang/invoke/MethodHandle" ∧ hl_u_lio.cls ≠ "java/lang/invoke/VarHandle" ∧ (parseMethodDescriptor hl_u_lio.desc).map (fun d => d.parameters.length) = some 4 := by decide +kernel
theorem hl_ux_io2 : hl_u_io2.cls ≠ "java/lang/invoke/MethodHandle" ∧ hl_u_io2.cls ≠ "java/lang/invoke/VarHandle" ∧ (parseMethodDescriptor hl_u_io2.desc).map (fun d => d.parameters.length) = some 2 := by decide +kernel
theorem hl_ux_io1 : hl_u_io1.cls ≠ "java/lang/invoke/MethodHandle" ∧ hl_u_io1.cls ≠ "java/lang/invoke/VarHandle" ∧ (parseMethodDescriptor hl_u_io1.desc).map (fun d => d.parameters.length) = some 1 := by decide +kernel
section HLT
variable {p : Program} {l : Launch} {e : Env} {R : Room} {s : State} {m : MethodId} {args : Array Value} {below : List Frame} {meth : Method} {c : Code} {Q : State → Prop} {B0 d : Nat} {E : State → Prop} {H : Heap} {locs : List Loc} {cells slots pc n : Nat} {ls : Array Slot} {rest as : List Value} {y : MethodName} {b cc : ByteArray} {mL ix : Nat} {ret : Option FieldType} {v : Option Value} {own : String}
/-- a method that writes nothing and answers v -/
def hl_SM (l : Launch) (B0 : Nat) (E : State → Prop) (d : Nat) (y : MethodName) (b : ByteArray) (mL : Nat) (ret : Option FieldType) (as : List Value) (v : Option Value) : Prop := Met l y (Cond.code y b mL ret :: hl_G) (hl_rm d 0 0) (va_Pc as (fun U => E U ∧ B0 ≤ U.heap.size)) (fun _ st o t => o = .returned v ∧ t.heap = st.heap) 0 0 (fun _ => False)
theorem hl_sK {st0 : List Value} (hr : va_Run p l e R s m args below meth c H locs cells slots 0 0 (F0 m pc ls st0) rest (fun st o t => o = .returned v ∧ t.heap = st.heap) (fun _ => False)) (kk : W p l e R s m args below meth c H locs cells slots Q (F0 m (pc + 3) ls (v.toList ++ rest))) : W p l e R s m args below meth c H locs cells slots Q (F0 m pc ls st0) := by
  intro T hT X
  obtain ⟨v', st₀, t, T', Lc, h0, X', hL, e1, e2, ⟨hv, hh⟩, st⟩ := hr T hT X
  obtain rfl : v' = v := Outcome.returned.inj hv
  have hLc : Lc = [] := by
    cases Lc with
    | nil => rfl
    | cons q t => exact (hL q List.mem_cons_self).elim
  subst hLc
  rw [List.append_nil] at X'
  obtain ⟨t2, a1, b1⟩ := kk T' (by rw [e1, hh, h0]) X'
  exact ⟨t2, st t2 a1, b1⟩
theorem hl_sBl (hEC : hl_EC B0 E) : FrameBlind (va_Pc as (fun U => E U ∧ B0 ≤ U.heap.size)) := by
  intro a U g mk ⟨h1, h2, h3⟩
  exact ⟨h1, hEC.1 U _ rfl rfl h2, h3⟩
theorem hl_sPr (hEC : hl_EC B0 E) (hE : E s) (hB0 : B0 ≤ s.heap.size) (hS : va_S (fun q => B0 ≤ q) s.heap H locs) : ∀ U : State, U.heap = H → s.WarmedH U.vm → va_Pc as (fun U => E U ∧ B0 ≤ U.heap.size) as.toArray U := by
  intro U hU hW
  refine ⟨rfl, hEC.2 s U hE hW (fun q hq => ?_), ?_⟩
  · rw [hU]
    exact hS.2.1 q (by omega) (by omega)
  · rw [hU]
    exact Nat.le_trans hB0 hS.1
theorem hl_sG (hc : Cond.code y b mL ret ∈ hl_G) : GoodIn hl_G (Cond.code y b mL ret :: hl_G) := by
  intro x hx
  rcases List.mem_cons.mp hx with rfl | hx
  · exact hl_G_good _ hc
  · exact hl_G_good _ hx
theorem hl_sS (hM : hl_SM l B0 E d y b mL ret as v) (hx : p.tables.exec = Jvm.exec) (hb : c.code = cc) (hml : c.maxLocals = ls.size) (hown : s.vm.findClass own = some m.cls) (hts : ∀ x ∈ hl_G, x.before args s = true) (hE : E s) (hEC : hl_EC B0 E) (hB0 : B0 ≤ s.heap.size) (hS : va_S (fun q => B0 ≤ q) s.heap H locs) (hRf : d + 1 ≤ R.frames) (hRl : 64 * d + 64 ≤ R.locals) (hm : mL ≤ 45) (hc : cells ≤ R.cells) (hs : slots ≤ R.slots) (hcode : Cond.code y b mL ret ∈ hl_G) (hini : Cond.initialized y.cls ∈ hl_G) (hlk : Cond.methodLink own ix y ∈ hl_G) (hst : Cond.static y ∈ hl_G) (hdsc : y.cls ≠ "java/lang/invoke/MethodHandle" ∧ y.cls ≠ "java/lang/invoke/VarHandle" ∧ (parseMethodDescriptor y.desc).map (fun d => d.parameters.length) = some as.length) (hlow : (rest.map fun v => v.category).sum ≤ 8) (hd : decode cc pc = .ok (.invokestatic ix, 3)) (kk : W p l e R s m args below meth c H locs cells slots Q (F0 m (pc + 3) ls (v.toList ++ rest))) : W p l e R s m args below meth c H locs cells slots Q (F0 m pc ls (as.reverse ++ rest)) :=
  hl_sK (va_runS (As := as) ⟨hx, hb, hml, hown, hts⟩ hM ⟨callB_of _ hts (hl_sG hcode) rfl rfl rfl (hts _ hini) (hts _ hlk) hdsc ⟨hRf, by show 8 + (mL + 11) + 64 * d ≤ _; omega⟩, hts _ hst⟩ ⟨hl_sBl hEC, hl_sPr hEC hE hB0 hS⟩ rfl rfl rfl rfl (by show 2 * 0 + _ ≤ 8; omega) hd ⟨hc, hs⟩) kk
theorem hl_sV {a : Nat} {A9 : List Value} (hM : hl_SM l B0 E d y b mL ret (.ref a :: A9) v) (hx : p.tables.exec = Jvm.exec) (hb : c.code = cc) (hml : c.maxLocals = ls.size) (hown : s.vm.findClass own = some m.cls) (hts : ∀ x ∈ hl_G, x.before args s = true) (hE : E s) (hEC : hl_EC B0 E) (hB0 : B0 ≤ s.heap.size) (hS : va_S (fun q => B0 ≤ q) s.heap H locs) (hrecv : ∃ cell : Cell, H[a]? = some cell ∧ cell.vm.isStatics = false ∧ s.vm.findClass "java/lang/String" = some cell.cls) (hRf : d + 1 ≤ R.frames) (hRl : 64 * d + 64 ≤ R.locals) (hm : mL ≤ 45) (hc : cells ≤ R.cells) (hs : slots ≤ R.slots) (hcode : Cond.code y b mL ret ∈ hl_G) (hini : Cond.initialized y.cls ∈ hl_G) (hlk : Cond.methodLink own ix y ∈ hl_G) (hst : Cond.instanceMethod y ∈ hl_G ∧ Cond.selects "java/lang/String" y y ∈ hl_G) (hdsc : y.cls ≠ "java/lang/invoke/MethodHandle" ∧ y.cls ≠ "java/lang/invoke/VarHandle" ∧ (parseMethodDescriptor y.desc).map (fun d => d.parameters.length) = some A9.length) (hlow : (rest.map fun v => v.category).sum ≤ 8) (hd : decode cc pc = .ok (.invokevirtual ix, 3)) (kk : W p l e R s m args below meth c H locs cells slots Q (F0 m (pc + 3) ls (v.toList ++ rest))) : W p l e R s m args below meth c H locs cells slots Q (F0 m pc ls (A9.reverse ++ .ref a :: rest)) :=
  hl_sK (va_runV (As := A9) (C := "java/lang/String") ⟨hx, hb, hml, hown, hts⟩ hM ⟨callB_of _ hts (hl_sG hcode) rfl rfl rfl (hts _ hini) (hts _ hlk) hdsc ⟨hRf, by show 8 + (mL + 11) + 64 * d ≤ _; omega⟩, hts _ hst.1, hts _ hst.2⟩ ⟨hl_sBl hEC, hrecv, hl_sPr hEC hE hB0 hS⟩ rfl rfl rfl rfl (by show 2 * 0 + _ ≤ 8; omega) hd ⟨hc, hs⟩) kk
/-- what a start knows of the two texts -/
def hl_ET (B0 : Nat) (aK aV : Nat → Nat) (E : State → Prop) : Prop := ∀ U : State, E U → B0 ≤ U.heap.size → vk_S 2 hl_lens hl_bys aK aV (fun q => B0 ≤ q) U U.heap ∧ va_Z "java/lang/String" "COMPACT_STRINGS" "Z" (.int 1) (fun q => B0 ≤ q) U U.heap ∧ va_Zq "jdk/internal/util/Preconditions" "SIOOBE_FORMATTER" "Ljava/util/function/BiFunction;" (fun q => B0 ≤ q) U U.heap
theorem hl_uc_lat : Cond.code hl_u_lat prog_18_method_154_code 1 (some .boolean) ∈ hl_G := hl_at (i := 699) (by decide +kernel) rfl
theorem hl_us1_lat : Cond.instanceMethod hl_u_lat ∈ hl_G := hl_at (i := 697) (by decide +kernel) rfl
theorem hl_us2_lat : Cond.selects "java/lang/String" hl_u_lat hl_u_lat ∈ hl_G := hl_at (i := 698) (by decide +kernel) rfl
theorem hl_uc_cod : Cond.code hl_u_cod prog_18_method_152_code 1 (some .byte) ∈ hl_G := hl_at (i := 689) (by decide +kernel) rfl
theorem hl_us1_cod : Cond.instanceMethod hl_u_cod ∈ hl_G := hl_at (i := 687) (by decide +kernel) rfl
theorem hl_us2_cod : Cond.selects "java/lang/String" hl_u_cod hl_u_cod ∈ hl_G := hl_at (i := 688) (by decide +kernel) rfl
theorem hl_uc_len : Cond.code hl_u_len prog_18_method_54_code 1 (some .int) ∈ hl_G := hl_at (i := 685) (by decide +kernel) rfl
theorem hl_us1_len : Cond.instanceMethod hl_u_len ∈ hl_G := hl_at (i := 683) (by decide +kernel) rfl
theorem hl_us2_len : Cond.selects "java/lang/String" hl_u_len hl_u_len ∈ hl_G := hl_at (i := 684) (by decide +kernel) rfl
theorem hl_uc_prc : Cond.code hl_u_prc prog_22_method_11_code 3 (some .int) ∈ hl_G := hl_at (i := 710) (by decide +kernel) rfl
theorem hl_us_prc : Cond.static hl_u_prc ∈ hl_G := hl_at (i := 709) (by decide +kernel) rfl
theorem hl_uc_chk : Cond.code hl_u_chk prog_18_method_155_code 2 (none) ∈ hl_G := hl_at (i := 705) (by decide +kernel) rfl
theorem hl_us_chk : Cond.static hl_u_chk ∈ hl_G := hl_at (i := 704) (by decide +kernel) rfl
theorem hl_uc_lch : Cond.code hl_u_lch prog_19_method_2_code 2 (some .char) ∈ hl_G := hl_at (i := 702) (by decide +kernel) rfl
theorem hl_us_lch : Cond.static hl_u_lch ∈ hl_G := hl_at (i := 701) (by decide +kernel) rfl
theorem hl_uc_cha : Cond.code hl_u_cha prog_18_method_56_code 2 (some .char) ∈ hl_G := hl_at (i := 695) (by decide +kernel) rfl
theorem hl_us1_cha : Cond.instanceMethod hl_u_cha ∈ hl_G := hl_at (i := 693) (by decide +kernel) rfl
theorem hl_us2_cha : Cond.selects "java/lang/String" hl_u_cha hl_u_cha ∈ hl_G := hl_at (i := 694) (by decide +kernel) rfl
theorem hl_uc_can : Cond.code hl_u_can prog_19_method_4_code 1 (some .boolean) ∈ hl_G := hl_at (i := 759) (by decide +kernel) rfl
theorem hl_us_can : Cond.static hl_u_can ∈ hl_G := hl_at (i := 758) (by decide +kernel) rfl
theorem hl_uc_ioc : Cond.code hl_u_ioc prog_19_method_23_code 6 (some .int) ∈ hl_G := hl_at (i := 764) (by decide +kernel) rfl
theorem hl_us_ioc : Cond.static hl_u_ioc ∈ hl_G := hl_at (i := 763) (by decide +kernel) rfl
theorem hl_uc_lio : Cond.code hl_u_lio prog_19_method_22_code 4 (some .int) ∈ hl_G := hl_at (i := 756) (by decide +kernel) rfl
theorem hl_us_lio : Cond.static hl_u_lio ∈ hl_G := hl_at (i := 755) (by decide +kernel) rfl
theorem hl_uc_io2 : Cond.code hl_u_io2 prog_18_method_80_code 3 (some .int) ∈ hl_G := hl_at (i := 752) (by decide +kernel) rfl
theorem hl_us1_io2 : Cond.instanceMethod hl_u_io2 ∈ hl_G := hl_at (i := 750) (by decide +kernel) rfl
theorem hl_us2_io2 : Cond.selects "java/lang/String" hl_u_io2 hl_u_io2 ∈ hl_G := hl_at (i := 751) (by decide +kernel) rfl
theorem hl_uc_io1 : Cond.code hl_u_io1 prog_18_method_79_code 2 (some .int) ∈ hl_G := hl_at (i := 748) (by decide +kernel) rfl
theorem hl_us1_io1 : Cond.instanceMethod hl_u_io1 ∈ hl_G := hl_at (i := 746) (by decide +kernel) rfl
theorem hl_us2_io1 : Cond.selects "java/lang/String" hl_u_io1 hl_u_io1 ∈ hl_G := hl_at (i := 747) (by decide +kernel) rfl
theorem hl_ui_str : Cond.initialized "java/lang/String" ∈ hl_G := hl_at (i := 171) (by decide +kernel) rfl
theorem hl_ui_latn : Cond.initialized "java/lang/StringLatin1" ∈ hl_G := hl_at (i := 172) (by decide +kernel) rfl
theorem hl_ui_pre : Cond.initialized "jdk/internal/util/Preconditions" ∈ hl_G := hl_at (i := 173) (by decide +kernel) rfl
theorem hl_ul_S492 : Cond.methodLink "java/lang/String" 492 hl_u_lat ∈ hl_G := hl_at (i := 696) (by decide +kernel) rfl
theorem hl_ul_S335 : Cond.methodLink "java/lang/String" 335 hl_u_cod ∈ hl_G := hl_at (i := 686) (by decide +kernel) rfl
theorem hl_ul_S495 : Cond.methodLink "java/lang/String" 495 hl_u_lch ∈ hl_G := hl_at (i := 700) (by decide +kernel) rfl
theorem hl_ul_L9 : Cond.methodLink "java/lang/StringLatin1" 9 hl_u_chk ∈ hl_G := hl_at (i := 703) (by decide +kernel) rfl
theorem hl_ul_S1059 : Cond.methodLink "java/lang/String" 1059 hl_u_prc ∈ hl_G := hl_at (i := 708) (by decide +kernel) rfl
theorem hl_ul_S633 : Cond.methodLink "java/lang/String" 633 hl_u_io2 ∈ hl_G := hl_at (i := 749) (by decide +kernel) rfl
theorem hl_ul_S505 : Cond.methodLink "java/lang/String" 505 hl_u_len ∈ hl_G := hl_at (i := 753) (by decide +kernel) rfl
theorem hl_ul_S637 : Cond.methodLink "java/lang/String" 637 hl_u_lio ∈ hl_G := hl_at (i := 754) (by decide +kernel) rfl
theorem hl_ul_L88 : Cond.methodLink "java/lang/StringLatin1" 88 hl_u_can ∈ hl_G := hl_at (i := 757) (by decide +kernel) rfl
theorem hl_ul_L95 : Cond.methodLink "java/lang/StringLatin1" 95 hl_u_ioc ∈ hl_G := hl_at (i := 762) (by decide +kernel) rfl
theorem hl_ul_R122 : Cond.methodLink "HourLines$Reader" 122 hl_u_len ∈ hl_G := hl_at (i := 682) (by decide +kernel) rfl
theorem hl_ul_R127 : Cond.methodLink "HourLines$Reader" 127 hl_u_cha ∈ hl_G := hl_at (i := 692) (by decide +kernel) rfl
theorem hl_ul_R138 : Cond.methodLink "HourLines$Reader" 138 hl_u_io1 ∈ hl_G := hl_at (i := 745) (by decide +kernel) rfl
theorem hl_uf_v : Cond.fieldLink "java/lang/String" 9 "java/lang/String" "value" "[B" ∈ hl_G := hl_at (i := 1848) (by decide +kernel) rfl
theorem hl_uf_c : Cond.fieldLink "java/lang/String" 15 "java/lang/String" "coder" "B" ∈ hl_G := hl_at (i := 1849) (by decide +kernel) rfl
theorem hl_uf_k : Cond.fieldLink "java/lang/String" 38 "java/lang/String" "COMPACT_STRINGS" "Z" ∈ hl_G := hl_at (i := 690) (by decide +kernel) rfl
theorem hl_uf_f : Cond.fieldLink "java/lang/String" 1053 "jdk/internal/util/Preconditions" "SIOOBE_FORMATTER" "Ljava/util/function/BiFunction;" ∈ hl_G := hl_at (i := 706) (by decide +kernel) rfl
theorem hl_um_max : Cond.methodLink "java/lang/StringLatin1" 92 Lib.Math.max.name ∈ hl_G := hl_at (i := 760) (by decide +kernel) rfl
theorem hl_um_min : Cond.methodLink "java/lang/StringLatin1" 38 Lib.Math.min.name ∈ hl_G := hl_at (i := 761) (by decide +kernel) rfl
theorem hl_ud_lat_0 : decode prog_18_method_154_code 0 = .ok (.getstatic 38, 3) := by decide +kernel
theorem hl_ud_lat_3 : decode prog_18_method_154_code 3 = .ok (.ifCond .eq 14, 3) := by decide +kernel
theorem hl_ud_lat_6 : decode prog_18_method_154_code 6 = .ok (.aload_n 0, 1) := by decide +kernel
theorem hl_ud_lat_7 : decode prog_18_method_154_code 7 = .ok (.getfield 15, 3) := by decide +kernel
theorem hl_ud_lat_10 : decode prog_18_method_154_code 10 = .ok (.ifCond .ne 7, 3) := by decide +kernel
theorem hl_ud_lat_13 : decode prog_18_method_154_code 13 = .ok (.iconst 1, 1) := by decide +kernel
theorem hl_ud_lat_14 : decode prog_18_method_154_code 14 = .ok (.goto 4, 3) := by decide +kernel
theorem hl_ud_lat_18 : decode prog_18_method_154_code 18 = .ok (.ireturn, 1) := by decide +kernel
theorem hl_ud_cod_0 : decode prog_18_method_152_code 0 = .ok (.getstatic 38, 3) := by decide +kernel
theorem hl_ud_cod_3 : decode prog_18_method_152_code 3 = .ok (.ifCond .eq 10, 3) := by decide +kernel
theorem hl_ud_cod_6 : decode prog_18_method_152_code 6 = .ok (.aload_n 0, 1) := by decide +kernel
theorem hl_ud_cod_7 : decode prog_18_method_152_code 7 = .ok (.getfield 15, 3) := by decide +kernel
theorem hl_ud_cod_10 : decode prog_18_method_152_code 10 = .ok (.goto 4, 3) := by decide +kernel
theorem hl_ud_cod_14 : decode prog_18_method_152_code 14 = .ok (.ireturn, 1) := by decide +kernel
theorem hl_ud_len_0 : decode prog_18_method_54_code 0 = .ok (.aload_n 0, 1) := by decide +kernel
theorem hl_ud_len_1 : decode prog_18_method_54_code 1 = .ok (.getfield 9, 3) := by decide +kernel
theorem hl_ud_len_4 : decode prog_18_method_54_code 4 = .ok (.arraylength, 1) := by decide +kernel
theorem hl_ud_len_5 : decode prog_18_method_54_code 5 = .ok (.aload_n 0, 1) := by decide +kernel
theorem hl_ud_len_6 : decode prog_18_method_54_code 6 = .ok (.invokevirtual 335, 3) := by decide +kernel
theorem hl_ud_len_9 : decode prog_18_method_54_code 9 = .ok (.ishr, 1) := by decide +kernel
theorem hl_ud_len_10 : decode prog_18_method_54_code 10 = .ok (.ireturn, 1) := by decide +kernel
theorem hl_ud_prc_0 : decode prog_22_method_11_code 0 = .ok (.iload_n 0, 1) := by decide +kernel
theorem hl_ud_prc_1 : decode prog_22_method_11_code 1 = .ok (.ifCond .lt 8, 3) := by decide +kernel
theorem hl_ud_prc_4 : decode prog_22_method_11_code 4 = .ok (.iload_n 0, 1) := by decide +kernel
theorem hl_ud_prc_5 : decode prog_22_method_11_code 5 = .ok (.iload_n 1, 1) := by decide +kernel
theorem hl_ud_prc_6 : decode prog_22_method_11_code 6 = .ok (.if_icmp .lt 10, 3) := by decide +kernel
theorem hl_ud_prc_16 : decode prog_22_method_11_code 16 = .ok (.iload_n 0, 1) := by decide +kernel
theorem hl_ud_prc_17 : decode prog_22_method_11_code 17 = .ok (.ireturn, 1) := by decide +kernel
theorem hl_ud_chk_0 : decode prog_18_method_155_code 0 = .ok (.iload_n 0, 1) := by decide +kernel
theorem hl_ud_chk_1 : decode prog_18_method_155_code 1 = .ok (.iload_n 1, 1) := by decide +kernel
theorem hl_ud_chk_2 : decode prog_18_method_155_code 2 = .ok (.getstatic 1053, 3) := by decide +kernel
theorem hl_ud_chk_5 : decode prog_18_method_155_code 5 = .ok (.invokestatic 1059, 3) := by decide +kernel
theorem hl_ud_chk_8 : decode prog_18_method_155_code 8 = .ok (.pop, 1) := by decide +kernel
theorem hl_ud_chk_9 : decode prog_18_method_155_code 9 = .ok (.return_, 1) := by decide +kernel
theorem hl_ud_lch_0 : decode prog_19_method_2_code 0 = .ok (.iload_n 1, 1) := by decide +kernel
theorem hl_ud_lch_1 : decode prog_19_method_2_code 1 = .ok (.aload_n 0, 1) := by decide +kernel
theorem hl_ud_lch_2 : decode prog_19_method_2_code 2 = .ok (.arraylength, 1) := by decide +kernel
theorem hl_ud_lch_3 : decode prog_19_method_2_code 3 = .ok (.invokestatic 9, 3) := by decide +kernel
theorem hl_ud_lch_6 : decode prog_19_method_2_code 6 = .ok (.aload_n 0, 1) := by decide +kernel
theorem hl_ud_lch_7 : decode prog_19_method_2_code 7 = .ok (.iload_n 1, 1) := by decide +kernel
theorem hl_ud_lch_8 : decode prog_19_method_2_code 8 = .ok (.baload, 1) := by decide +kernel
theorem hl_ud_lch_9 : decode prog_19_method_2_code 9 = .ok (.sipush 255, 3) := by decide +kernel
theorem hl_ud_lch_12 : decode prog_19_method_2_code 12 = .ok (.iand, 1) := by decide +kernel
theorem hl_ud_lch_13 : decode prog_19_method_2_code 13 = .ok (.i2c, 1) := by decide +kernel
theorem hl_ud_lch_14 : decode prog_19_method_2_code 14 = .ok (.ireturn, 1) := by decide +kernel
theorem hl_ud_cha_0 : decode prog_18_method_56_code 0 = .ok (.aload_n 0, 1) := by decide +kernel
theorem hl_ud_cha_1 : decode prog_18_method_56_code 1 = .ok (.invokevirtual 492, 3) := by decide +kernel
theorem hl_ud_cha_4 : decode prog_18_method_56_code 4 = .ok (.ifCond .eq 12, 3) := by decide +kernel
theorem hl_ud_cha_7 : decode prog_18_method_56_code 7 = .ok (.aload_n 0, 1) := by decide +kernel
theorem hl_ud_cha_8 : decode prog_18_method_56_code 8 = .ok (.getfield 9, 3) := by decide +kernel
theorem hl_ud_cha_11 : decode prog_18_method_56_code 11 = .ok (.iload_n 1, 1) := by decide +kernel
theorem hl_ud_cha_12 : decode prog_18_method_56_code 12 = .ok (.invokestatic 495, 3) := by decide +kernel
theorem hl_ud_cha_15 : decode prog_18_method_56_code 15 = .ok (.ireturn, 1) := by decide +kernel
theorem hl_ud_can_0 : decode prog_19_method_4_code 0 = .ok (.iload_n 0, 1) := by decide +kernel
theorem hl_ud_can_1 : decode prog_19_method_4_code 1 = .ok (.ifCond .lt 14, 3) := by decide +kernel
theorem hl_ud_can_4 : decode prog_19_method_4_code 4 = .ok (.iload_n 0, 1) := by decide +kernel
theorem hl_ud_can_5 : decode prog_19_method_4_code 5 = .ok (.sipush 255, 3) := by decide +kernel
theorem hl_ud_can_8 : decode prog_19_method_4_code 8 = .ok (.if_icmp .gt 7, 3) := by decide +kernel
theorem hl_ud_can_11 : decode prog_19_method_4_code 11 = .ok (.iconst 1, 1) := by decide +kernel
theorem hl_ud_can_12 : decode prog_19_method_4_code 12 = .ok (.goto 4, 3) := by decide +kernel
theorem hl_ud_can_15 : decode prog_19_method_4_code 15 = .ok (.iconst 0, 1) := by decide +kernel
theorem hl_ud_can_16 : decode prog_19_method_4_code 16 = .ok (.ireturn, 1) := by decide +kernel
theorem hl_ud_ioc_0 : decode prog_19_method_23_code 0 = .ok (.iload_n 1, 1) := by decide +kernel
theorem hl_ud_ioc_1 : decode prog_19_method_23_code 1 = .ok (.i2b, 1) := by decide +kernel
theorem hl_ud_ioc_2 : decode prog_19_method_23_code 2 = .ok (.istore 4, 2) := by decide +kernel
theorem hl_ud_ioc_4 : decode prog_19_method_23_code 4 = .ok (.iload_n 2, 1) := by decide +kernel
theorem hl_ud_ioc_5 : decode prog_19_method_23_code 5 = .ok (.istore 5, 2) := by decide +kernel
theorem hl_ud_ioc_7 : decode prog_19_method_23_code 7 = .ok (.iload 5, 2) := by decide +kernel
theorem hl_ud_ioc_9 : decode prog_19_method_23_code 9 = .ok (.iload_n 3, 1) := by decide +kernel
theorem hl_ud_ioc_10 : decode prog_19_method_23_code 10 = .ok (.if_icmp .ge 21, 3) := by decide +kernel
theorem hl_ud_ioc_13 : decode prog_19_method_23_code 13 = .ok (.aload_n 0, 1) := by decide +kernel
theorem hl_ud_ioc_14 : decode prog_19_method_23_code 14 = .ok (.iload 5, 2) := by decide +kernel
theorem hl_ud_ioc_16 : decode prog_19_method_23_code 16 = .ok (.baload, 1) := by decide +kernel
theorem hl_ud_ioc_17 : decode prog_19_method_23_code 17 = .ok (.iload 4, 2) := by decide +kernel
theorem hl_ud_ioc_19 : decode prog_19_method_23_code 19 = .ok (.if_icmp .ne 6, 3) := by decide +kernel
theorem hl_ud_ioc_22 : decode prog_19_method_23_code 22 = .ok (.iload 5, 2) := by decide +kernel
theorem hl_ud_ioc_24 : decode prog_19_method_23_code 24 = .ok (.ireturn, 1) := by decide +kernel
theorem hl_ud_ioc_25 : decode prog_19_method_23_code 25 = .ok (.iinc 5 1, 3) := by decide +kernel
theorem hl_ud_ioc_28 : decode prog_19_method_23_code 28 = .ok (.goto (-21), 3) := by decide +kernel
theorem hl_ud_ioc_31 : decode prog_19_method_23_code 31 = .ok (.iconst (-1), 1) := by decide +kernel
theorem hl_ud_ioc_32 : decode prog_19_method_23_code 32 = .ok (.ireturn, 1) := by decide +kernel
theorem hl_ud_lio_0 : decode prog_19_method_22_code 0 = .ok (.iload_n 1, 1) := by decide +kernel
theorem hl_ud_lio_1 : decode prog_19_method_22_code 1 = .ok (.invokestatic 88, 3) := by decide +kernel
theorem hl_ud_lio_4 : decode prog_19_method_22_code 4 = .ok (.ifCond .ne 5, 3) := by decide +kernel
theorem hl_ud_lio_7 : decode prog_19_method_22_code 7 = .ok (.iconst (-1), 1) := by decide +kernel
theorem hl_ud_lio_8 : decode prog_19_method_22_code 8 = .ok (.ireturn, 1) := by decide +kernel
theorem hl_ud_lio_9 : decode prog_19_method_22_code 9 = .ok (.iload_n 2, 1) := by decide +kernel
theorem hl_ud_lio_10 : decode prog_19_method_22_code 10 = .ok (.iconst 0, 1) := by decide +kernel
theorem hl_ud_lio_11 : decode prog_19_method_22_code 11 = .ok (.invokestatic 92, 3) := by decide +kernel
theorem hl_ud_lio_14 : decode prog_19_method_22_code 14 = .ok (.istore_n 2, 1) := by decide +kernel
theorem hl_ud_lio_15 : decode prog_19_method_22_code 15 = .ok (.iload_n 3, 1) := by decide +kernel
theorem hl_ud_lio_16 : decode prog_19_method_22_code 16 = .ok (.aload_n 0, 1) := by decide +kernel
theorem hl_ud_lio_17 : decode prog_19_method_22_code 17 = .ok (.arraylength, 1) := by decide +kernel
theorem hl_ud_lio_18 : decode prog_19_method_22_code 18 = .ok (.invokestatic 38, 3) := by decide +kernel
theorem hl_ud_lio_21 : decode prog_19_method_22_code 21 = .ok (.istore_n 3, 1) := by decide +kernel
theorem hl_ud_lio_22 : decode prog_19_method_22_code 22 = .ok (.iload_n 2, 1) := by decide +kernel
theorem hl_ud_lio_23 : decode prog_19_method_22_code 23 = .ok (.iload_n 3, 1) := by decide +kernel
theorem hl_ud_lio_24 : decode prog_19_method_22_code 24 = .ok (.if_icmp .lt 5, 3) := by decide +kernel
theorem hl_ud_lio_29 : decode prog_19_method_22_code 29 = .ok (.aload_n 0, 1) := by decide +kernel
theorem hl_ud_lio_30 : decode prog_19_method_22_code 30 = .ok (.iload_n 1, 1) := by decide +kernel
theorem hl_ud_lio_31 : decode prog_19_method_22_code 31 = .ok (.iload_n 2, 1) := by decide +kernel
theorem hl_ud_lio_32 : decode prog_19_method_22_code 32 = .ok (.iload_n 3, 1) := by decide +kernel
theorem hl_ud_lio_33 : decode prog_19_method_22_code 33 = .ok (.invokestatic 95, 3) := by decide +kernel
theorem hl_ud_lio_36 : decode prog_19_method_22_code 36 = .ok (.ireturn, 1) := by decide +kernel
theorem hl_ud_io2_0 : decode prog_18_method_80_code 0 = .ok (.aload_n 0, 1) := by decide +kernel
theorem hl_ud_io2_1 : decode prog_18_method_80_code 1 = .ok (.invokevirtual 492, 3) := by decide +kernel
theorem hl_ud_io2_4 : decode prog_18_method_80_code 4 = .ok (.ifCond .eq 19, 3) := by decide +kernel
theorem hl_ud_io2_7 : decode prog_18_method_80_code 7 = .ok (.aload_n 0, 1) := by decide +kernel
theorem hl_ud_io2_8 : decode prog_18_method_80_code 8 = .ok (.getfield 9, 3) := by decide +kernel
theorem hl_ud_io2_11 : decode prog_18_method_80_code 11 = .ok (.iload_n 1, 1) := by decide +kernel
theorem hl_ud_io2_12 : decode prog_18_method_80_code 12 = .ok (.iload_n 2, 1) := by decide +kernel
theorem hl_ud_io2_13 : decode prog_18_method_80_code 13 = .ok (.aload_n 0, 1) := by decide +kernel
theorem hl_ud_io2_14 : decode prog_18_method_80_code 14 = .ok (.invokevirtual 505, 3) := by decide +kernel
theorem hl_ud_io2_17 : decode prog_18_method_80_code 17 = .ok (.invokestatic 637, 3) := by decide +kernel
theorem hl_ud_io2_20 : decode prog_18_method_80_code 20 = .ok (.goto 16, 3) := by decide +kernel
theorem hl_ud_io2_36 : decode prog_18_method_80_code 36 = .ok (.ireturn, 1) := by decide +kernel
theorem hl_ud_io1_0 : decode prog_18_method_79_code 0 = .ok (.aload_n 0, 1) := by decide +kernel
theorem hl_ud_io1_1 : decode prog_18_method_79_code 1 = .ok (.iload_n 1, 1) := by decide +kernel
theorem hl_ud_io1_2 : decode prog_18_method_79_code 2 = .ok (.iconst 0, 1) := by decide +kernel
theorem hl_ud_io1_3 : decode prog_18_method_79_code 3 = .ok (.invokevirtual 633, 3) := by decide +kernel
theorem hl_ud_io1_6 : decode prog_18_method_79_code 6 = .ok (.ireturn, 1) := by decide +kernel
theorem hl_um_lat {aK aV : Nat → Nat} {i : Nat} (hi : i < 2) (hEC : hl_EC B0 E) (hT : hl_ET B0 aK aV E) : hl_SM l B0 E 0 hl_u_lat prog_18_method_154_code 1 (some .boolean) [.ref (aK i)] (some (.int 1)) := by
  refine Met.ofW (cc := prog_18_method_154_code) (maxL := 1) (ret := some .boolean) (by decide +kernel) rfl ?_
  intro p e s m args below meth c s₁ B hml hP
  obtain ⟨rfl, hE, hB0⟩ := hP
  have hts0 := atoms_spec (ws := Cond.code hl_u_lat prog_18_method_154_code 1 (some .boolean) :: hl_G) B.pre
  have hts : ∀ x ∈ hl_G, x.before ([.ref (aK i)] : List Value).toArray s = true := fun x hx => hts0 x (List.mem_cons_of_mem _ hx)
  have hown : s.vm.findClass "java/lang/String" = some m.cls := findClass_of_methodNamed B.named
  have hx := B.exec
  have hb := B.bytes
  have hr := B.returns
  have hlocks := B.notSynchronized
  obtain ⟨hV, hZ, hZq⟩ := hT s hE hB0
  have hS : va_S (fun q => B0 ≤ q) s.heap s.heap [] := va_S.rf
  have hl := lv_entry ([.ref (aK i)]) (n := 1) (Nat.le_of_ble_eq_true rfl)
  rw [lg_entry_eq]
  generalize (lg_sl ([.ref (aK i)]) ++ List.replicate (1 - (lg_sl ([.ref (aK i)])).length) Slot.unset).toArray = ls at hl ⊢
  have hl : lv_has ls 1 [(0, .ref (aK i))] := hl
  have hls : c.maxLocals = ls.size := hml.trans hl.1.symm
  refine va_gets (C := "java/lang/String") (n := "COMPACT_STRINGS") (d := "Z") (v := .int 1) hx hb hZ hS hown (hts _ hl_uf_k) (fun _ h => h) hl_ud_lat_0 ?_
  refine lv_if_eq hx hb hl_ud_lat_3 (tgt := 17) rfl (fun q => absurd q (by decide)) (fun _ => ?_)
  refine lv_aload_n hx hb hl_ud_lat_6 rfl (lv_at hl 0 rfl) ?_
  refine vk_getf hx hb (hV.1 i hi).2.1 hS hown (hts _ hl_uf_c) (fun _ h => h) hl_ud_lat_7 ?_
  refine lv_if_ne hx hb hl_ud_lat_10 (tgt := 17) rfl (fun q => absurd rfl q) (fun _ => ?_)
  refine lv_iconst (v := 1) hx hb hl_ud_lat_13 (by decide) ?_
  refine lv_goto hx hb hl_ud_lat_14 (tgt := 18) rfl ?_
  exact W.zret (ty := .boolean) hx hb hr (rfl) (fun t ht _ => ⟨rfl, ht⟩) (fun q h => by cases h) hl_ud_lat_18
theorem hl_um_cod {aK aV : Nat → Nat} {i : Nat} (hi : i < 2) (hEC : hl_EC B0 E) (hT : hl_ET B0 aK aV E) : hl_SM l B0 E 0 hl_u_cod prog_18_method_152_code 1 (some .byte) [.ref (aK i)] (some (.int 0)) := by
  refine Met.ofW (cc := prog_18_method_152_code) (maxL := 1) (ret := some .byte) (by decide +kernel) rfl ?_
  intro p e s m args below meth c s₁ B hml hP
  obtain ⟨rfl, hE, hB0⟩ := hP
  have hts0 := atoms_spec (ws := Cond.code hl_u_cod prog_18_method_152_code 1 (some .byte) :: hl_G) B.pre
  have hts : ∀ x ∈ hl_G, x.before ([.ref (aK i)] : List Value).toArray s = true := fun x hx => hts0 x (List.mem_cons_of_mem _ hx)
  have hown : s.vm.findClass "java/lang/String" = some m.cls := findClass_of_methodNamed B.named
  have hx := B.exec
  have hb := B.bytes
  have hr := B.returns
  have hlocks := B.notSynchronized
  obtain ⟨hV, hZ, hZq⟩ := hT s hE hB0
  have hS : va_S (fun q => B0 ≤ q) s.heap s.heap [] := va_S.rf
  have hl := lv_entry ([.ref (aK i)]) (n := 1) (Nat.le_of_ble_eq_true rfl)
  rw [lg_entry_eq]
  generalize (lg_sl ([.ref (aK i)]) ++ List.replicate (1 - (lg_sl ([.ref (aK i)])).length) Slot.unset).toArray = ls at hl ⊢
  have hl : lv_has ls 1 [(0, .ref (aK i))] := hl
  have hls : c.maxLocals = ls.size := hml.trans hl.1.symm
  refine va_gets (C := "java/lang/String") (n := "COMPACT_STRINGS") (d := "Z") (v := .int 1) hx hb hZ hS hown (hts _ hl_uf_k) (fun _ h => h) hl_ud_cod_0 ?_
  refine lv_if_eq hx hb hl_ud_cod_3 (tgt := 13) rfl (fun q => absurd q (by decide)) (fun _ => ?_)
  refine lv_aload_n hx hb hl_ud_cod_6 rfl (lv_at hl 0 rfl) ?_
  refine vk_getf hx hb (hV.1 i hi).2.1 hS hown (hts _ hl_uf_c) (fun _ h => h) hl_ud_cod_7 ?_
  refine lv_goto hx hb hl_ud_cod_10 (tgt := 14) rfl ?_
  exact W.zret (ty := .byte) hx hb hr (rfl) (fun t ht _ => ⟨rfl, ht⟩) (fun q h => by cases h) hl_ud_cod_14
theorem hl_shr0 : ∀ i, i < 2 → Int32.ofNat (hl_lens.getD i 0) >>> ((0 : Int32) &&& 31) = Int32.ofNat (hl_lens.getD i 0) := by decide
theorem hl_um_len {aK aV : Nat → Nat} {i : Nat} (hi : i < 2) (hEC : hl_EC B0 E) (hT : hl_ET B0 aK aV E) : hl_SM l B0 E 1 hl_u_len prog_18_method_54_code 1 (some .int) [.ref (aK i)] (some (.int (Int32.ofNat (hl_lens.getD i 0)))) := by
  refine Met.ofW (cc := prog_18_method_54_code) (maxL := 1) (ret := some .int) (by decide +kernel) rfl ?_
  intro p e s m args below meth c s₁ B hml hP
  obtain ⟨rfl, hE, hB0⟩ := hP
  have hts0 := atoms_spec (ws := Cond.code hl_u_len prog_18_method_54_code 1 (some .int) :: hl_G) B.pre
  have hts : ∀ x ∈ hl_G, x.before ([.ref (aK i)] : List Value).toArray s = true := fun x hx => hts0 x (List.mem_cons_of_mem _ hx)
  have hown : s.vm.findClass "java/lang/String" = some m.cls := findClass_of_methodNamed B.named
  have hx := B.exec
  have hb := B.bytes
  have hr := B.returns
  have hlocks := B.notSynchronized
  obtain ⟨hV, hZ, hZq⟩ := hT s hE hB0
  have hS : va_S (fun q => B0 ≤ q) s.heap s.heap [] := va_S.rf
  have hl := lv_entry ([.ref (aK i)]) (n := 1) (Nat.le_of_ble_eq_true rfl)
  rw [lg_entry_eq]
  generalize (lg_sl ([.ref (aK i)]) ++ List.replicate (1 - (lg_sl ([.ref (aK i)])).length) Slot.unset).toArray = ls at hl ⊢
  have hl : lv_has ls 1 [(0, .ref (aK i))] := hl
  have hls : c.maxLocals = ls.size := hml.trans hl.1.symm
  refine lv_aload_n hx hb hl_ud_len_0 rfl (lv_at hl 0 rfl) ?_
  refine vk_getf hx hb (hV.1 i hi).2.2.1 hS hown (hts _ hl_uf_v) (fun _ h => h) hl_ud_len_1 ?_
  refine va_tlen hx hb (hV.1 i hi).2.2.2 hS rfl hl_ud_len_4 ?_
  refine lv_aload_n hx hb hl_ud_len_5 rfl (lv_at hl 0 rfl) ?_
  refine hl_sV (A9 := []) (hl_um_cod hi hEC hT) hx hb hls hown hts hE hEC hB0 hS (vk_recv hV hi hS) (Nat.le_of_ble_eq_true rfl) (Nat.le_of_ble_eq_true rfl) (Nat.le_of_ble_eq_true rfl) (Nat.zero_le _) (Nat.zero_le _) hl_uc_cod hl_ui_str hl_ul_S335 ⟨hl_us1_cod, hl_us2_cod⟩ hl_ux_cod (Nat.le_of_ble_eq_true rfl) hl_ud_len_6 ?_
  refine lv_ishr hx hb hl_ud_len_9 ?_
  rw [hl_shr0 i hi]
  exact W.iret hx hb hr (fun t ht _ => ⟨rfl, ht⟩) (fun q h => by cases h) hl_ud_len_10
theorem hl_um_prcn {aK aV : Nat → Nat} {k n : Int32} (h0 : ¬ k < 0) (h1 : k < n) (hEC : hl_EC B0 E) (hT : hl_ET B0 aK aV E) : hl_SM l B0 E 0 hl_u_prc prog_22_method_11_code 3 (some .int) [.int k, .int n, .null] (some (.int k)) := by
  refine Met.ofW (cc := prog_22_method_11_code) (maxL := 3) (ret := some .int) (by decide +kernel) rfl ?_
  intro p e s m args below meth c s₁ B hml hP
  obtain ⟨rfl, hE, hB0⟩ := hP
  have hts0 := atoms_spec (ws := Cond.code hl_u_prc prog_22_method_11_code 3 (some .int) :: hl_G) B.pre
  have hts : ∀ x ∈ hl_G, x.before ([.int k, .int n, .null] : List Value).toArray s = true := fun x hx => hts0 x (List.mem_cons_of_mem _ hx)
  have hown : s.vm.findClass "jdk/internal/util/Preconditions" = some m.cls := findClass_of_methodNamed B.named
  have hx := B.exec
  have hb := B.bytes
  have hr := B.returns
  have hlocks := B.notSynchronized
  obtain ⟨hV, hZ, hZq⟩ := hT s hE hB0
  have hS : va_S (fun q => B0 ≤ q) s.heap s.heap [] := va_S.rf
  have hl := lv_entry ([.int k, .int n, .null]) (n := 3) (Nat.le_of_ble_eq_true rfl)
  rw [lg_entry_eq]
  generalize (lg_sl ([.int k, .int n, .null]) ++ List.replicate (3 - (lg_sl ([.int k, .int n, .null])).length) Slot.unset).toArray = ls at hl ⊢
  have hl : lv_has ls 3 [(0, .int k), (1, .int n), (2, .null)] := hl
  have hls : c.maxLocals = ls.size := hml.trans hl.1.symm
  refine lv_iload_n hx hb hl_ud_prc_0 rfl (lv_at hl 0 rfl) ?_
  refine lv_if_lt hx hb hl_ud_prc_1 (tgt := 9) rfl (fun q => absurd q h0) (fun _ => ?_)
  refine lv_iload_n hx hb hl_ud_prc_4 rfl (lv_at hl 0 rfl) ?_
  refine lv_iload_n hx hb hl_ud_prc_5 rfl (lv_at hl 1 rfl) ?_
  refine lv_icmp_lt hx hb hl_ud_prc_6 (tgt := 16) rfl (fun _ => ?_) (fun q => absurd h1 q)
  refine lv_iload_n hx hb hl_ud_prc_16 rfl (lv_at hl 0 rfl) ?_
  exact W.iret hx hb hr (fun t ht _ => ⟨rfl, ht⟩) (fun q h => by cases h) hl_ud_prc_17
theorem hl_um_prcr {aK aV : Nat → Nat} {k n : Int32} {f : Nat} (h0 : ¬ k < 0) (h1 : k < n) (hEC : hl_EC B0 E) (hT : hl_ET B0 aK aV E) : hl_SM l B0 E 0 hl_u_prc prog_22_method_11_code 3 (some .int) [.int k, .int n, .ref f] (some (.int k)) := by
  refine Met.ofW (cc := prog_22_method_11_code) (maxL := 3) (ret := some .int) (by decide +kernel) rfl ?_
  intro p e s m args below meth c s₁ B hml hP
  obtain ⟨rfl, hE, hB0⟩ := hP
  have hts0 := atoms_spec (ws := Cond.code hl_u_prc prog_22_method_11_code 3 (some .int) :: hl_G) B.pre
  have hts : ∀ x ∈ hl_G, x.before ([.int k, .int n, .ref f] : List Value).toArray s = true := fun x hx => hts0 x (List.mem_cons_of_mem _ hx)
  have hown : s.vm.findClass "jdk/internal/util/Preconditions" = some m.cls := findClass_of_methodNamed B.named
  have hx := B.exec
  have hb := B.bytes
  have hr := B.returns
  have hlocks := B.notSynchronized
  obtain ⟨hV, hZ, hZq⟩ := hT s hE hB0
  have hS : va_S (fun q => B0 ≤ q) s.heap s.heap [] := va_S.rf
  have hl := lv_entry ([.int k, .int n, .ref f]) (n := 3) (Nat.le_of_ble_eq_true rfl)
  rw [lg_entry_eq]
  generalize (lg_sl ([.int k, .int n, .ref f]) ++ List.replicate (3 - (lg_sl ([.int k, .int n, .ref f])).length) Slot.unset).toArray = ls at hl ⊢
  have hl : lv_has ls 3 [(0, .int k), (1, .int n), (2, .ref f)] := hl
  have hls : c.maxLocals = ls.size := hml.trans hl.1.symm
  refine lv_iload_n hx hb hl_ud_prc_0 rfl (lv_at hl 0 rfl) ?_
  refine lv_if_lt hx hb hl_ud_prc_1 (tgt := 9) rfl (fun q => absurd q h0) (fun _ => ?_)
  refine lv_iload_n hx hb hl_ud_prc_4 rfl (lv_at hl 0 rfl) ?_
  refine lv_iload_n hx hb hl_ud_prc_5 rfl (lv_at hl 1 rfl) ?_
  refine lv_icmp_lt hx hb hl_ud_prc_6 (tgt := 16) rfl (fun _ => ?_) (fun q => absurd h1 q)
  refine lv_iload_n hx hb hl_ud_prc_16 rfl (lv_at hl 0 rfl) ?_
  exact W.iret hx hb hr (fun t ht _ => ⟨rfl, ht⟩) (fun q h => by cases h) hl_ud_prc_17
theorem hl_um_chk {aK aV : Nat → Nat} {k n : Int32} (h0 : ¬ k < 0) (h1 : k < n) (hEC : hl_EC B0 E) (hT : hl_ET B0 aK aV E) : hl_SM l B0 E 1 hl_u_chk prog_18_method_155_code 2 (none) [.int k, .int n] (none) := by
  refine Met.ofW (cc := prog_18_method_155_code) (maxL := 2) (ret := none) (by decide +kernel) rfl ?_
  intro p e s m args below meth c s₁ B hml hP
  obtain ⟨rfl, hE, hB0⟩ := hP
  have hts0 := atoms_spec (ws := Cond.code hl_u_chk prog_18_method_155_code 2 (none) :: hl_G) B.pre
  have hts : ∀ x ∈ hl_G, x.before ([.int k, .int n] : List Value).toArray s = true := fun x hx => hts0 x (List.mem_cons_of_mem _ hx)
  have hown : s.vm.findClass "java/lang/String" = some m.cls := findClass_of_methodNamed B.named
  have hx := B.exec
  have hb := B.bytes
  have hr := B.returns
  have hlocks := B.notSynchronized
  obtain ⟨hV, hZ, hZq⟩ := hT s hE hB0
  have hS : va_S (fun q => B0 ≤ q) s.heap s.heap [] := va_S.rf
  have hl := lv_entry ([.int k, .int n]) (n := 2) (Nat.le_of_ble_eq_true rfl)
  rw [lg_entry_eq]
  generalize (lg_sl ([.int k, .int n]) ++ List.replicate (2 - (lg_sl ([.int k, .int n])).length) Slot.unset).toArray = ls at hl ⊢
  have hl : lv_has ls 2 [(0, .int k), (1, .int n)] := hl
  have hls : c.maxLocals = ls.size := hml.trans hl.1.symm
  refine lv_iload_n hx hb hl_ud_chk_0 rfl (lv_at hl 0 rfl) ?_
  refine lv_iload_n hx hb hl_ud_chk_1 rfl (lv_at hl 1 rfl) ?_
  rcases hZq with hZf | ⟨t9, hZf⟩
  · refine va_gets hx hb hZf hS hown (hts _ hl_uf_f) (fun _ h => h) hl_ud_chk_2 ?_
    refine hl_sS (as := [.int k, .int n, .null]) (hl_um_prcn h0 h1 hEC hT) hx hb hls hown hts hE hEC hB0 hS (Nat.le_of_ble_eq_true rfl) (Nat.le_of_ble_eq_true rfl) (Nat.le_of_ble_eq_true rfl) (Nat.zero_le _) (Nat.zero_le _) hl_uc_prc hl_ui_pre hl_ul_S1059 hl_us_prc hl_ux_prc (Nat.le_of_ble_eq_true rfl) hl_ud_chk_5 ?_
    refine lv_pop hx hb hl_ud_chk_8 rfl ?_
    exact W.vret hx hb hr (fun t ht _ => ⟨rfl, ht⟩) (fun q h => by cases h) hl_ud_chk_9
  · refine va_gets hx hb hZf hS hown (hts _ hl_uf_f) (fun _ h => h) hl_ud_chk_2 ?_
    refine hl_sS (as := [.int k, .int n, .ref t9]) (hl_um_prcr h0 h1 hEC hT) hx hb hls hown hts hE hEC hB0 hS (Nat.le_of_ble_eq_true rfl) (Nat.le_of_ble_eq_true rfl) (Nat.le_of_ble_eq_true rfl) (Nat.zero_le _) (Nat.zero_le _) hl_uc_prc hl_ui_pre hl_ul_S1059 hl_us_prc hl_ux_prc (Nat.le_of_ble_eq_true rfl) hl_ud_chk_5 ?_
    refine lv_pop hx hb hl_ud_chk_8 rfl ?_
    exact W.vret hx hb hr (fun t ht _ => ⟨rfl, ht⟩) (fun q h => by cases h) hl_ud_chk_9
def hl_bc (i k : Nat) : Int32 := (((hl_bys.getD i []).getD k 0 &&& 255).toUInt32 % 65536).toInt32
theorem hl_bc_ok : ∀ i, i < 2 → ∀ k, k < hl_lens.getD i 0 → narrow .char (.int (hl_bc i k)) = .int (hl_bc i k) := by decide +kernel
theorem hl_len9 : ∀ i, i < 2 → hl_lens.getD i 0 < 2 ^ 31 := by decide
theorem hl_ltn {i : Nat} {k : Int32} (hi : i < 2) (h : hl_inb k (hl_lens.getD i 0) = true) : k < Int32.ofNat (hl_lens.getD i 0) := by
  obtain ⟨q, hq, rfl⟩ := hl_inb_of h (hl_len9 i hi)
  exact Int32.not_le.mp (nI_ge hq (hl_len9 i hi))
theorem hl_um_lch {aK aV : Nat → Nat} {i : Nat} (hi : i < 2) {k : Int32} (hk : hl_inb k (hl_lens.getD i 0) = true) (hEC : hl_EC B0 E) (hT : hl_ET B0 aK aV E) : hl_SM l B0 E 2 hl_u_lch prog_19_method_2_code 2 (some .char) [.ref (aV i), .int k] (some (.int (hl_bc i k.toNatClampNeg))) := by
  refine Met.ofW (cc := prog_19_method_2_code) (maxL := 2) (ret := some .char) (by decide +kernel) rfl ?_
  intro p e s m args below meth c s₁ B hml hP
  obtain ⟨rfl, hE, hB0⟩ := hP
  have hts0 := atoms_spec (ws := Cond.code hl_u_lch prog_19_method_2_code 2 (some .char) :: hl_G) B.pre
  have hts : ∀ x ∈ hl_G, x.before ([.ref (aV i), .int k] : List Value).toArray s = true := fun x hx => hts0 x (List.mem_cons_of_mem _ hx)
  have hown : s.vm.findClass "java/lang/StringLatin1" = some m.cls := findClass_of_methodNamed B.named
  have hx := B.exec
  have hb := B.bytes
  have hr := B.returns
  have hlocks := B.notSynchronized
  obtain ⟨hV, hZ, hZq⟩ := hT s hE hB0
  have hS : va_S (fun q => B0 ≤ q) s.heap s.heap [] := va_S.rf
  have hl := lv_entry ([.ref (aV i), .int k]) (n := 2) (Nat.le_of_ble_eq_true rfl)
  rw [lg_entry_eq]
  generalize (lg_sl ([.ref (aV i), .int k]) ++ List.replicate (2 - (lg_sl ([.ref (aV i), .int k])).length) Slot.unset).toArray = ls at hl ⊢
  have hl : lv_has ls 2 [(0, .ref (aV i)), (1, .int k)] := hl
  have hls : c.maxLocals = ls.size := hml.trans hl.1.symm
  have hkn : k < Int32.ofNat (hl_lens.getD i 0) := hl_ltn hi hk
  unfold hl_inb at hk
  rw [Bool.and_eq_true, decide_eq_true_eq, decide_eq_true_eq] at hk
  obtain ⟨hk0, hk1⟩ := hk
  refine lv_iload_n hx hb hl_ud_lch_0 rfl (lv_at hl 1 rfl) ?_
  refine lv_aload_n hx hb hl_ud_lch_1 rfl (lv_at hl 0 rfl) ?_
  refine va_tlen hx hb (hV.1 i hi).2.2.2 hS rfl hl_ud_lch_2 ?_
  refine hl_sS (as := [.int k, .int (Int32.ofNat (hl_lens.getD i 0))]) (hl_um_chk hk0 hkn hEC hT) hx hb hls hown hts hE hEC hB0 hS (Nat.le_of_ble_eq_true rfl) (Nat.le_of_ble_eq_true rfl) (Nat.le_of_ble_eq_true rfl) (Nat.zero_le _) (Nat.zero_le _) hl_uc_chk hl_ui_str hl_ul_L9 hl_us_chk hl_ux_chk (Nat.le_of_ble_eq_true rfl) hl_ud_lch_3 ?_
  refine lv_aload_n hx hb hl_ud_lch_6 rfl (lv_at hl 0 rfl) ?_
  refine lv_iload_n hx hb hl_ud_lch_7 rfl (lv_at hl 1 rfl) ?_
  refine va_tb hx hb (hV.1 i hi).2.2.2 hS (i := k) (fun q => ?_) rfl hl_ud_lch_8 ?_
  · rcases q with q | q
    · exact hk0 q
    · exact absurd hk1 (Nat.not_lt.mpr q)
  refine lv_sipush (v := 255) hx hb hl_ud_lch_9 (by decide) ?_
  refine lv_iand hx hb hl_ud_lch_12 ?_
  refine lv_i2c hx hb hl_ud_lch_13 rfl ?_
  exact W.zret (ty := .char) hx hb hr (hl_bc_ok i hi _ hk1) (fun t ht _ => ⟨rfl, ht⟩) (fun q h => by cases h) hl_ud_lch_14
theorem hl_um_cha {aK aV : Nat → Nat} {i : Nat} (hi : i < 2) {k : Int32} (hk : hl_inb k (hl_lens.getD i 0) = true) (hEC : hl_EC B0 E) (hT : hl_ET B0 aK aV E) : hl_SM l B0 E 3 hl_u_cha prog_18_method_56_code 2 (some .char) [.ref (aK i), .int k] (some (.int (hl_bc i k.toNatClampNeg))) := by
  refine Met.ofW (cc := prog_18_method_56_code) (maxL := 2) (ret := some .char) (by decide +kernel) rfl ?_
  intro p e s m args below meth c s₁ B hml hP
  obtain ⟨rfl, hE, hB0⟩ := hP
  have hts0 := atoms_spec (ws := Cond.code hl_u_cha prog_18_method_56_code 2 (some .char) :: hl_G) B.pre
  have hts : ∀ x ∈ hl_G, x.before ([.ref (aK i), .int k] : List Value).toArray s = true := fun x hx => hts0 x (List.mem_cons_of_mem _ hx)
  have hown : s.vm.findClass "java/lang/String" = some m.cls := findClass_of_methodNamed B.named
  have hx := B.exec
  have hb := B.bytes
  have hr := B.returns
  have hlocks := B.notSynchronized
  obtain ⟨hV, hZ, hZq⟩ := hT s hE hB0
  have hS : va_S (fun q => B0 ≤ q) s.heap s.heap [] := va_S.rf
  have hl := lv_entry ([.ref (aK i), .int k]) (n := 2) (Nat.le_of_ble_eq_true rfl)
  rw [lg_entry_eq]
  generalize (lg_sl ([.ref (aK i), .int k]) ++ List.replicate (2 - (lg_sl ([.ref (aK i), .int k])).length) Slot.unset).toArray = ls at hl ⊢
  have hl : lv_has ls 2 [(0, .ref (aK i)), (1, .int k)] := hl
  have hls : c.maxLocals = ls.size := hml.trans hl.1.symm
  refine lv_aload_n hx hb hl_ud_cha_0 rfl (lv_at hl 0 rfl) ?_
  refine hl_sV (A9 := []) (hl_um_lat hi hEC hT) hx hb hls hown hts hE hEC hB0 hS (vk_recv hV hi hS) (Nat.le_of_ble_eq_true rfl) (Nat.le_of_ble_eq_true rfl) (Nat.le_of_ble_eq_true rfl) (Nat.zero_le _) (Nat.zero_le _) hl_uc_lat hl_ui_str hl_ul_S492 ⟨hl_us1_lat, hl_us2_lat⟩ hl_ux_lat (Nat.le_of_ble_eq_true rfl) hl_ud_cha_1 ?_
  refine lv_if_eq hx hb hl_ud_cha_4 (tgt := 16) rfl (fun q => absurd q (by decide)) (fun _ => ?_)
  refine lv_aload_n hx hb hl_ud_cha_7 rfl (lv_at hl 0 rfl) ?_
  refine vk_getf hx hb (hV.1 i hi).2.2.1 hS hown (hts _ hl_uf_v) (fun _ h => h) hl_ud_cha_8 ?_
  refine lv_iload_n hx hb hl_ud_cha_11 rfl (lv_at hl 1 rfl) ?_
  refine hl_sS (as := [.ref (aV i), .int k]) (hl_um_lch hi hk hEC hT) hx hb hls hown hts hE hEC hB0 hS (Nat.le_of_ble_eq_true rfl) (Nat.le_of_ble_eq_true rfl) (Nat.le_of_ble_eq_true rfl) (Nat.zero_le _) (Nat.zero_le _) hl_uc_lch hl_ui_latn hl_ul_S495 hl_us_lch hl_ux_lch (Nat.le_of_ble_eq_true rfl) hl_ud_cha_12 ?_
  have hk1 : k.toNatClampNeg < hl_lens.getD i 0 := by
    unfold hl_inb at hk
    rw [Bool.and_eq_true, decide_eq_true_eq, decide_eq_true_eq] at hk
    exact hk.2
  exact W.zret (ty := .char) hx hb hr (hl_bc_ok i hi _ hk1) (fun t ht _ => ⟨rfl, ht⟩) (fun q h => by cases h) hl_ud_cha_15
theorem hl_um_can {aK aV : Nat → Nat} {k : Int32} (h0 : 0 ≤ k) (hEC : hl_EC B0 E) (hT : hl_ET B0 aK aV E) : hl_SM l B0 E 0 hl_u_can prog_19_method_4_code 1 (some .boolean) [.int k] (some (.int (if (255 : Int32) < k then 0 else 1))) := by
  refine Met.ofW (cc := prog_19_method_4_code) (maxL := 1) (ret := some .boolean) (by decide +kernel) rfl ?_
  intro p e s m args below meth c s₁ B hml hP
  obtain ⟨rfl, hE, hB0⟩ := hP
  have hts0 := atoms_spec (ws := Cond.code hl_u_can prog_19_method_4_code 1 (some .boolean) :: hl_G) B.pre
  have hts : ∀ x ∈ hl_G, x.before ([.int k] : List Value).toArray s = true := fun x hx => hts0 x (List.mem_cons_of_mem _ hx)
  have hown : s.vm.findClass "java/lang/StringLatin1" = some m.cls := findClass_of_methodNamed B.named
  have hx := B.exec
  have hb := B.bytes
  have hr := B.returns
  have hlocks := B.notSynchronized
  obtain ⟨hV, hZ, hZq⟩ := hT s hE hB0
  have hS : va_S (fun q => B0 ≤ q) s.heap s.heap [] := va_S.rf
  have hl := lv_entry ([.int k]) (n := 1) (Nat.le_of_ble_eq_true rfl)
  rw [lg_entry_eq]
  generalize (lg_sl ([.int k]) ++ List.replicate (1 - (lg_sl ([.int k])).length) Slot.unset).toArray = ls at hl ⊢
  have hl : lv_has ls 1 [(0, .int k)] := hl
  have hls : c.maxLocals = ls.size := hml.trans hl.1.symm
  refine lv_iload_n hx hb hl_ud_can_0 rfl (lv_at hl 0 rfl) ?_
  refine lv_if_lt hx hb hl_ud_can_1 (tgt := 15) rfl (fun q => absurd h0 (Int32.not_le.mpr q)) (fun _ => ?_)
  refine lv_iload_n hx hb hl_ud_can_4 rfl (lv_at hl 0 rfl) ?_
  refine lv_sipush (v := 255) hx hb hl_ud_can_5 (by decide) ?_
  refine lv_icmp_gt hx hb hl_ud_can_8 (tgt := 15) rfl (fun q => ?_) (fun q => ?_)
  · rw [if_pos q]
    refine lv_iconst (v := 0) hx hb hl_ud_can_15 (by decide) ?_
    exact W.zret (ty := .boolean) hx hb hr (rfl) (fun t ht _ => ⟨rfl, ht⟩) (fun q h => by cases h) hl_ud_can_16
  · rw [if_neg q]
    refine lv_iconst (v := 1) hx hb hl_ud_can_11 (by decide) ?_
    refine lv_goto hx hb hl_ud_can_12 (tgt := 16) rfl ?_
    exact W.zret (ty := .boolean) hx hb hr (rfl) (fun t ht _ => ⟨rfl, ht⟩) (fun q h => by cases h) hl_ud_can_16
def hl_ixF (c : Int32) : List Int32 → Nat → Int32
  | [], _ => -1
  | x :: xs, k => if x = c then nI k else hl_ixF c xs (k + 1)
theorem hl_blen : ∀ i, i < 2 → (hl_bys.getD i []).length = hl_lens.getD i 0 := by decide
theorem hl_um_ioc {aK aV : Nat → Nat} {i : Nat} (hi : i < 2) {k : Int32} (hEC : hl_EC B0 E) (hT : hl_ET B0 aK aV E) : hl_SM l B0 E 0 hl_u_ioc prog_19_method_23_code 6 (some .int) [.ref (aV i), .int k, .int 0, .int (Int32.ofNat (hl_lens.getD i 0))] (some (.int (hl_ixF k.toInt8.toInt32 (hl_bys.getD i []) 0))) := by
  refine Met.ofW (cc := prog_19_method_23_code) (maxL := 6) (ret := some .int) (by decide +kernel) rfl ?_
  intro p e s m args below meth c s₁ B hml hP
  obtain ⟨rfl, hE, hB0⟩ := hP
  have hts0 := atoms_spec (ws := Cond.code hl_u_ioc prog_19_method_23_code 6 (some .int) :: hl_G) B.pre
  have hts : ∀ x ∈ hl_G, x.before ([.ref (aV i), .int k, .int 0, .int (Int32.ofNat (hl_lens.getD i 0))] : List Value).toArray s = true := fun x hx => hts0 x (List.mem_cons_of_mem _ hx)
  have hown : s.vm.findClass "java/lang/StringLatin1" = some m.cls := findClass_of_methodNamed B.named
  have hx := B.exec
  have hb := B.bytes
  have hr := B.returns
  have hlocks := B.notSynchronized
  obtain ⟨hV, hZ, hZq⟩ := hT s hE hB0
  have hS : va_S (fun q => B0 ≤ q) s.heap s.heap [] := va_S.rf
  have hl := lv_entry ([.ref (aV i), .int k, .int 0, .int (Int32.ofNat (hl_lens.getD i 0))]) (n := 6) (Nat.le_of_ble_eq_true rfl)
  rw [lg_entry_eq]
  generalize (lg_sl ([.ref (aV i), .int k, .int 0, .int (Int32.ofNat (hl_lens.getD i 0))]) ++ List.replicate (6 - (lg_sl ([.ref (aV i), .int k, .int 0, .int (Int32.ofNat (hl_lens.getD i 0))])).length) Slot.unset).toArray = ls at hl ⊢
  have hl : lv_has ls 6 [(0, .ref (aV i)), (1, .int k), (2, .int 0), (3, .int (Int32.ofNat (hl_lens.getD i 0)))] := hl
  have hls : c.maxLocals = ls.size := hml.trans hl.1.symm
  refine lv_iload_n hx hb hl_ud_ioc_0 rfl (lv_at hl 1 rfl) ?_
  refine lv_i2b hx hb hl_ud_ioc_1 rfl ?_
  refine lv_istore (lv' := [(4, .int k.toInt8.toInt32), (0, .ref (aV i)), (1, .int k), (2, .int 0), (3, .int (Int32.ofNat (hl_lens.getD i 0)))]) hx hb hl_ud_ioc_2 hl (by decide) rfl (fun ls hl => ?_)
  refine lv_iload_n hx hb hl_ud_ioc_4 rfl (lv_at hl 3 rfl) ?_
  refine lv_istore (lv' := [(5, .int 0), (4, .int k.toInt8.toInt32), (0, .ref (aV i)), (1, .int k), (2, .int 0), (3, .int (Int32.ofNat (hl_lens.getD i 0)))]) hx hb hl_ud_ioc_5 hl (by decide) rfl (fun ls hl => ?_)
  have hl : lv_has ls 6 [(5, .int (nI 0)), (4, .int k.toInt8.toInt32), (0, .ref (aV i)), (3, .int (Int32.ofNat (hl_lens.getD i 0)))] := lv_sub hl [0, 1, 2, 5] rfl
  have key : ∀ (L : List Int32) (q : Nat) (ls : Array Slot), q + L.length = hl_lens.getD i 0 → (hl_bys.getD i []).drop q = L → hl_ixF k.toInt8.toInt32 L q = hl_ixF k.toInt8.toInt32 (hl_bys.getD i []) 0 → lv_has ls 6 [(5, .int (nI q)), (4, .int k.toInt8.toInt32), (0, .ref (aV i)), (3, .int (Int32.ofNat (hl_lens.getD i 0)))] → W p l e (headSpec (Cond.code hl_u_ioc prog_19_method_23_code 6 (some .int) :: hl_G) (hl_rm 0 0 0)).room s m ([.ref (aV i), .int k, .int 0, .int (Int32.ofNat (hl_lens.getD i 0))] : List Value).toArray below meth c s.heap [] 0 0 (MQ below (fun _ st o t => o = .returned (some (.int (hl_ixF k.toInt8.toInt32 (hl_bys.getD i []) 0))) ∧ t.heap = st.heap) ([.ref (aV i), .int k, .int 0, .int (Int32.ofNat (hl_lens.getD i 0))] : List Value).toArray s 0 0 (fun _ => False)) (F0 m 7 ls []) := by
    intro L
    induction L with
    | nil =>
      intro q ls hq hd he hl
      have eq9 : q = hl_lens.getD i 0 := by simpa using hq
      subst eq9
      refine lv_iload hx hb hl_ud_ioc_7 (lv_at hl 0 rfl) ?_
      refine lv_iload_n hx hb hl_ud_ioc_9 rfl (lv_at hl 3 rfl) ?_
      refine lv_icmp_ge hx hb hl_ud_ioc_10 (tgt := 31) rfl (fun _ => ?_) (fun q => absurd (Int32.le_refl _) q)
      refine lv_iconst (v := -1) hx hb hl_ud_ioc_31 (by decide) ?_
      rw [← he]
      exact W.iret hx hb hr (fun t ht _ => ⟨rfl, ht⟩) (fun q h => by cases h) hl_ud_ioc_32
    | cons x L ih =>
      intro q ls hq hd he hl
      have hq1 : q < hl_lens.getD i 0 := by rw [List.length_cons] at hq; omega
      have h9 := hl_len9 i hi
      have hx9 : (hl_bys.getD i []).getD q 0 = x := by
        have := congrArg (fun z => z[0]?) hd
        simp only [List.getElem?_drop, Nat.add_zero, List.getElem?_cons_zero] at this
        rw [List.getD_eq_getElem?_getD, this]
        rfl
      refine lv_iload hx hb hl_ud_ioc_7 (lv_at hl 0 rfl) ?_
      refine lv_iload_n hx hb hl_ud_ioc_9 rfl (lv_at hl 3 rfl) ?_
      refine lv_icmp_ge hx hb hl_ud_ioc_10 (tgt := 31) rfl (fun z => absurd z (nI_ge hq1 h9)) (fun _ => ?_)
      refine lv_aload_n hx hb hl_ud_ioc_13 rfl (lv_at hl 2 rfl) ?_
      refine lv_iload hx hb hl_ud_ioc_14 (lv_at hl 0 rfl) ?_
      refine va_tb (v := .int x) hx hb (hV.1 i hi).2.2.2 hS (i := nI q) (fun z => ?_) (by rw [nIc (by omega)]; exact congrArg Value.int hx9) hl_ud_ioc_16 ?_
      · rcases z with z | z
        · exact absurd z (by have := (show hl_inb (nI q) (hl_lens.getD i 0) = true from hl_inb_nI hq1 h9); unfold hl_inb at this; rw [Bool.and_eq_true, decide_eq_true_eq] at this; exact this.1)
        · rw [nIc (by omega)] at z; exact absurd hq1 (Nat.not_lt.mpr z)
      refine lv_iload hx hb hl_ud_ioc_17 (lv_at hl 1 rfl) ?_
      refine lv_icmp_ne hx hb hl_ud_ioc_19 (tgt := 25) rfl (fun z => ?_) (fun z => ?_)
      · refine lv_iinc (k := 0) (v := nI (q + 1)) (lv' := [(5, .int (nI (q + 1))), (4, .int k.toInt8.toInt32), (0, .ref (aV i)), (3, .int (Int32.ofNat (hl_lens.getD i 0)))]) hx hb hl_ud_ioc_25 hl rfl (nI_succ q).symm (by decide) rfl (fun ls hl => ?_)
        refine lv_goto hx hb hl_ud_ioc_28 (tgt := 7) rfl ?_
        refine ih (q + 1) ls (by rw [List.length_cons] at hq; omega) ?_ ?_ hl
        · have := congrArg (List.drop 1) hd
          rw [List.drop_drop] at this
          exact this
        · rw [← he, hl_ixF, if_neg z]
      · have z1 : x = k.toInt8.toInt32 := z
        refine lv_iload hx hb hl_ud_ioc_22 (lv_at hl 0 rfl) ?_
        rw [← he, hl_ixF, if_pos z1]
        exact W.iret hx hb hr (fun t ht _ => ⟨rfl, ht⟩) (fun q h => by cases h) hl_ud_ioc_24
  exact key _ 0 ls (by rw [Nat.zero_add]; exact hl_blen i hi) rfl rfl hl
theorem hl_lpos : ∀ i, i < 2 → (0 : Int32) < Int32.ofNat (hl_lens.getD i 0) := by decide
theorem hl_um_lio {aK aV : Nat → Nat} {i : Nat} (hi : i < 2) {k : Int32} (h0 : 0 ≤ k) (hEC : hl_EC B0 E) (hT : hl_ET B0 aK aV E) : hl_SM l B0 E 1 hl_u_lio prog_19_method_22_code 4 (some .int) [.ref (aV i), .int k, .int 0, .int (Int32.ofNat (hl_lens.getD i 0))] (some (.int (if (255 : Int32) < k then -1 else hl_ixF k.toInt8.toInt32 (hl_bys.getD i []) 0))) := by
  refine Met.ofW (cc := prog_19_method_22_code) (maxL := 4) (ret := some .int) (by decide +kernel) rfl ?_
  intro p e s m args below meth c s₁ B hml hP
  obtain ⟨rfl, hE, hB0⟩ := hP
  have hts0 := atoms_spec (ws := Cond.code hl_u_lio prog_19_method_22_code 4 (some .int) :: hl_G) B.pre
  have hts : ∀ x ∈ hl_G, x.before ([.ref (aV i), .int k, .int 0, .int (Int32.ofNat (hl_lens.getD i 0))] : List Value).toArray s = true := fun x hx => hts0 x (List.mem_cons_of_mem _ hx)
  have hown : s.vm.findClass "java/lang/StringLatin1" = some m.cls := findClass_of_methodNamed B.named
  have hx := B.exec
  have hb := B.bytes
  have hr := B.returns
  have hlocks := B.notSynchronized
  obtain ⟨hV, hZ, hZq⟩ := hT s hE hB0
  have hS : va_S (fun q => B0 ≤ q) s.heap s.heap [] := va_S.rf
  have hl := lv_entry ([.ref (aV i), .int k, .int 0, .int (Int32.ofNat (hl_lens.getD i 0))]) (n := 4) (Nat.le_of_ble_eq_true rfl)
  rw [lg_entry_eq]
  generalize (lg_sl ([.ref (aV i), .int k, .int 0, .int (Int32.ofNat (hl_lens.getD i 0))]) ++ List.replicate (4 - (lg_sl ([.ref (aV i), .int k, .int 0, .int (Int32.ofNat (hl_lens.getD i 0))])).length) Slot.unset).toArray = ls at hl ⊢
  have hl : lv_has ls 4 [(0, .ref (aV i)), (1, .int k), (2, .int 0), (3, .int (Int32.ofNat (hl_lens.getD i 0)))] := hl
  have hls : c.maxLocals = ls.size := hml.trans hl.1.symm
  refine lv_iload_n hx hb hl_ud_lio_0 rfl (lv_at hl 1 rfl) ?_
  refine hl_sS (as := [.int k]) (hl_um_can h0 hEC hT) hx hb hls hown hts hE hEC hB0 hS (Nat.le_of_ble_eq_true rfl) (Nat.le_of_ble_eq_true rfl) (Nat.le_of_ble_eq_true rfl) (Nat.zero_le _) (Nat.zero_le _) hl_uc_can hl_ui_latn hl_ul_L88 hl_us_can hl_ux_can (Nat.le_of_ble_eq_true rfl) hl_ud_lio_1 ?_
  by_cases h1 : (255 : Int32) < k
  · rw [if_pos h1, if_pos h1]
    refine lv_if_ne hx hb hl_ud_lio_4 (tgt := 9) rfl (fun q => absurd rfl q) (fun _ => ?_)
    refine lv_iconst (v := -1) hx hb hl_ud_lio_7 (by decide) ?_
    exact W.iret hx hb hr (fun t ht _ => ⟨rfl, ht⟩) (fun q h => by cases h) hl_ud_lio_8
  · rw [if_neg h1, if_neg h1]
    refine lv_if_ne hx hb hl_ud_lio_4 (tgt := 9) rfl (fun _ => ?_) (fun q => absurd q (by decide))
    refine lv_iload_n hx hb hl_ud_lio_9 rfl (lv_at hl 2 rfl) ?_
    refine lv_iconst (v := 0) hx hb hl_ud_lio_10 (by decide) ?_
    refine va_mmax hx hb hls hown (hts _ hl_um_max) (hts _ hl_mw260.2.1) (hts _ hl_mwi) (hts _ hl_mw260.2.2) (Nat.le_of_ble_eq_true rfl) (Nat.le_of_ble_eq_true rfl) (Nat.zero_le _) (Nat.zero_le _) hl_ud_lio_11 ?_
    refine lv_istore_n (lv' := [(2, .int 0), (0, .ref (aV i)), (1, .int k), (3, .int (Int32.ofNat (hl_lens.getD i 0)))]) hx hb hl_ud_lio_14 rfl hl (by decide) rfl (fun ls hl => ?_)
    have hls : c.maxLocals = ls.size := hml.trans hl.1.symm
    refine lv_iload_n hx hb hl_ud_lio_15 rfl (lv_at hl 3 rfl) ?_
    refine lv_aload_n hx hb hl_ud_lio_16 rfl (lv_at hl 1 rfl) ?_
    refine va_tlen hx hb (hV.1 i hi).2.2.2 hS rfl hl_ud_lio_17 ?_
    refine va_mmin hx hb hls hown (hts _ hl_um_min) (hts _ hl_mw261.2.1) (hts _ hl_mwi) (hts _ hl_mw261.2.2) (Nat.le_of_ble_eq_true rfl) (Nat.le_of_ble_eq_true rfl) (Nat.zero_le _) (Nat.zero_le _) hl_ud_lio_18 ?_
    rw [if_neg (fun q : Int32.ofNat (hl_lens.getD i 0) < Int32.ofNat (hl_lens.getD i 0) => Int32.lt_irrefl q)]
    refine lv_istore_n (lv' := [(3, .int (Int32.ofNat (hl_lens.getD i 0))), (2, .int 0), (0, .ref (aV i)), (1, .int k)]) hx hb hl_ud_lio_21 rfl hl (by decide) rfl (fun ls hl => ?_)
    have hls : c.maxLocals = ls.size := hml.trans hl.1.symm
    refine lv_iload_n hx hb hl_ud_lio_22 rfl (lv_at hl 1 rfl) ?_
    refine lv_iload_n hx hb hl_ud_lio_23 rfl (lv_at hl 0 rfl) ?_
    refine lv_icmp_lt hx hb hl_ud_lio_24 (tgt := 29) rfl (fun _ => ?_) (fun q => absurd (hl_lpos i hi) q)
    refine lv_aload_n hx hb hl_ud_lio_29 rfl (lv_at hl 2 rfl) ?_
    refine lv_iload_n hx hb hl_ud_lio_30 rfl (lv_at hl 3 rfl) ?_
    refine lv_iload_n hx hb hl_ud_lio_31 rfl (lv_at hl 1 rfl) ?_
    refine lv_iload_n hx hb hl_ud_lio_32 rfl (lv_at hl 0 rfl) ?_
    refine hl_sS (as := [.ref (aV i), .int k, .int 0, .int (Int32.ofNat (hl_lens.getD i 0))]) (hl_um_ioc hi hEC hT) hx hb hls hown hts hE hEC hB0 hS (Nat.le_of_ble_eq_true rfl) (Nat.le_of_ble_eq_true rfl) (Nat.le_of_ble_eq_true rfl) (Nat.zero_le _) (Nat.zero_le _) hl_uc_ioc hl_ui_latn hl_ul_L95 hl_us_ioc hl_ux_ioc (Nat.le_of_ble_eq_true rfl) hl_ud_lio_33 ?_
    exact W.iret hx hb hr (fun t ht _ => ⟨rfl, ht⟩) (fun q h => by cases h) hl_ud_lio_36
theorem hl_um_io2 {aK aV : Nat → Nat} {i : Nat} (hi : i < 2) {k : Int32} (h0 : 0 ≤ k) (hEC : hl_EC B0 E) (hT : hl_ET B0 aK aV E) : hl_SM l B0 E 2 hl_u_io2 prog_18_method_80_code 3 (some .int) [.ref (aK i), .int k, .int 0] (some (.int (if (255 : Int32) < k then -1 else hl_ixF k.toInt8.toInt32 (hl_bys.getD i []) 0))) := by
  refine Met.ofW (cc := prog_18_method_80_code) (maxL := 3) (ret := some .int) (by decide +kernel) rfl ?_
  intro p e s m args below meth c s₁ B hml hP
  obtain ⟨rfl, hE, hB0⟩ := hP
  have hts0 := atoms_spec (ws := Cond.code hl_u_io2 prog_18_method_80_code 3 (some .int) :: hl_G) B.pre
  have hts : ∀ x ∈ hl_G, x.before ([.ref (aK i), .int k, .int 0] : List Value).toArray s = true := fun x hx => hts0 x (List.mem_cons_of_mem _ hx)
  have hown : s.vm.findClass "java/lang/String" = some m.cls := findClass_of_methodNamed B.named
  have hx := B.exec
  have hb := B.bytes
  have hr := B.returns
  have hlocks := B.notSynchronized
  obtain ⟨hV, hZ, hZq⟩ := hT s hE hB0
  have hS : va_S (fun q => B0 ≤ q) s.heap s.heap [] := va_S.rf
  have hl := lv_entry ([.ref (aK i), .int k, .int 0]) (n := 3) (Nat.le_of_ble_eq_true rfl)
  rw [lg_entry_eq]
  generalize (lg_sl ([.ref (aK i), .int k, .int 0]) ++ List.replicate (3 - (lg_sl ([.ref (aK i), .int k, .int 0])).length) Slot.unset).toArray = ls at hl ⊢
  have hl : lv_has ls 3 [(0, .ref (aK i)), (1, .int k), (2, .int 0)] := hl
  have hls : c.maxLocals = ls.size := hml.trans hl.1.symm
  refine lv_aload_n hx hb hl_ud_io2_0 rfl (lv_at hl 0 rfl) ?_
  refine hl_sV (A9 := []) (hl_um_lat hi hEC hT) hx hb hls hown hts hE hEC hB0 hS (vk_recv hV hi hS) (Nat.le_of_ble_eq_true rfl) (Nat.le_of_ble_eq_true rfl) (Nat.le_of_ble_eq_true rfl) (Nat.zero_le _) (Nat.zero_le _) hl_uc_lat hl_ui_str hl_ul_S492 ⟨hl_us1_lat, hl_us2_lat⟩ hl_ux_lat (Nat.le_of_ble_eq_true rfl) hl_ud_io2_1 ?_
  refine lv_if_eq hx hb hl_ud_io2_4 (tgt := 23) rfl (fun q => absurd q (by decide)) (fun _ => ?_)
  refine lv_aload_n hx hb hl_ud_io2_7 rfl (lv_at hl 0 rfl) ?_
  refine vk_getf hx hb (hV.1 i hi).2.2.1 hS hown (hts _ hl_uf_v) (fun _ h => h) hl_ud_io2_8 ?_
  refine lv_iload_n hx hb hl_ud_io2_11 rfl (lv_at hl 1 rfl) ?_
  refine lv_iload_n hx hb hl_ud_io2_12 rfl (lv_at hl 2 rfl) ?_
  refine lv_aload_n hx hb hl_ud_io2_13 rfl (lv_at hl 0 rfl) ?_
  refine hl_sV (A9 := []) (hl_um_len hi hEC hT) hx hb hls hown hts hE hEC hB0 hS (vk_recv hV hi hS) (Nat.le_of_ble_eq_true rfl) (Nat.le_of_ble_eq_true rfl) (Nat.le_of_ble_eq_true rfl) (Nat.zero_le _) (Nat.zero_le _) hl_uc_len hl_ui_str hl_ul_S505 ⟨hl_us1_len, hl_us2_len⟩ hl_ux_len (Nat.le_of_ble_eq_true rfl) hl_ud_io2_14 ?_
  refine hl_sS (as := [.ref (aV i), .int k, .int 0, .int (Int32.ofNat (hl_lens.getD i 0))]) (hl_um_lio hi h0 hEC hT) hx hb hls hown hts hE hEC hB0 hS (Nat.le_of_ble_eq_true rfl) (Nat.le_of_ble_eq_true rfl) (Nat.le_of_ble_eq_true rfl) (Nat.zero_le _) (Nat.zero_le _) hl_uc_lio hl_ui_latn hl_ul_S637 hl_us_lio hl_ux_lio (Nat.le_of_ble_eq_true rfl) hl_ud_io2_17 ?_
  refine lv_goto hx hb hl_ud_io2_20 (tgt := 36) rfl ?_
  exact W.iret hx hb hr (fun t ht _ => ⟨rfl, ht⟩) (fun q h => by cases h) hl_ud_io2_36
theorem hl_um_io1 {aK aV : Nat → Nat} {i : Nat} (hi : i < 2) {k : Int32} (h0 : 0 ≤ k) (hEC : hl_EC B0 E) (hT : hl_ET B0 aK aV E) : hl_SM l B0 E 3 hl_u_io1 prog_18_method_79_code 2 (some .int) [.ref (aK i), .int k] (some (.int (if (255 : Int32) < k then -1 else hl_ixF k.toInt8.toInt32 (hl_bys.getD i []) 0))) := by
  refine Met.ofW (cc := prog_18_method_79_code) (maxL := 2) (ret := some .int) (by decide +kernel) rfl ?_
  intro p e s m args below meth c s₁ B hml hP
  obtain ⟨rfl, hE, hB0⟩ := hP
  have hts0 := atoms_spec (ws := Cond.code hl_u_io1 prog_18_method_79_code 2 (some .int) :: hl_G) B.pre
  have hts : ∀ x ∈ hl_G, x.before ([.ref (aK i), .int k] : List Value).toArray s = true := fun x hx => hts0 x (List.mem_cons_of_mem _ hx)
  have hown : s.vm.findClass "java/lang/String" = some m.cls := findClass_of_methodNamed B.named
  have hx := B.exec
  have hb := B.bytes
  have hr := B.returns
  have hlocks := B.notSynchronized
  obtain ⟨hV, hZ, hZq⟩ := hT s hE hB0
  have hS : va_S (fun q => B0 ≤ q) s.heap s.heap [] := va_S.rf
  have hl := lv_entry ([.ref (aK i), .int k]) (n := 2) (Nat.le_of_ble_eq_true rfl)
  rw [lg_entry_eq]
  generalize (lg_sl ([.ref (aK i), .int k]) ++ List.replicate (2 - (lg_sl ([.ref (aK i), .int k])).length) Slot.unset).toArray = ls at hl ⊢
  have hl : lv_has ls 2 [(0, .ref (aK i)), (1, .int k)] := hl
  have hls : c.maxLocals = ls.size := hml.trans hl.1.symm
  refine lv_aload_n hx hb hl_ud_io1_0 rfl (lv_at hl 0 rfl) ?_
  refine lv_iload_n hx hb hl_ud_io1_1 rfl (lv_at hl 1 rfl) ?_
  refine lv_iconst (v := 0) hx hb hl_ud_io1_2 (by decide) ?_
  refine hl_sV (A9 := [.int k, .int 0]) (hl_um_io2 hi h0 hEC hT) hx hb hls hown hts hE hEC hB0 hS (vk_recv hV hi hS) (Nat.le_of_ble_eq_true rfl) (Nat.le_of_ble_eq_true rfl) (Nat.le_of_ble_eq_true rfl) (Nat.zero_le _) (Nat.zero_le _) hl_uc_io2 hl_ui_str hl_ul_S633 ⟨hl_us1_io2, hl_us2_io2⟩ hl_ux_io2 (Nat.le_of_ble_eq_true rfl) hl_ud_io1_3 ?_
  exact W.iret hx hb hr (fun t ht _ => ⟨rfl, ht⟩) (fun q h => by cases h) hl_ud_io1_6
end HLT
