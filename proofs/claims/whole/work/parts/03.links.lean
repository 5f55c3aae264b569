/-! what the tables of the claim say of my tables (printed by wip/whole/gen_tables3.py) -/
def hl_G : List Cond := lw_tbl.filter goodWord
theorem hl_inG {x : Cond} (h : x ∈ lw_tbl) (g : goodWord x = true) : x ∈ hl_G := List.mem_filter.mpr ⟨h, g⟩
theorem hl_G_good : ∀ x ∈ hl_G, x ∈ hl_G ∧ ((x.onTables && x.keeps) = true ∨ ∃ ty, x = .arrayClass ty) := fun x h => ⟨h, good_of_word (List.mem_filter.mp h).2⟩
theorem hl_at {i : Nat} {x : Cond} (h : lw_tbl[i]? = some x) (g : goodWord x = true) : x ∈ hl_G := hl_inG (List.mem_of_getElem? h) g
def hl_nest : List Cond := [
  .methodLinkNest "HourLines$Drift" 66 ⟨"HourLines$Purse", "payOf", "(II)I"⟩ "HourLines",
  .methodLinkNest "HourLines$Drift" 76 ⟨"HourLines$Ties", "payOfCell", "(II[I[I)I"⟩ "HourLines",
  .methodLinkNest "HourLines$Drift" 84 ⟨"HourLines$Worker", "has", "(I)Z"⟩ "HourLines",
  .methodLinkNest "HourLines$Drift" 89 ⟨"HourLines$Ties", "aloneAt", "(I[I)I"⟩ "HourLines",
  .methodLinkNest "HourLines$Drift" 93 ⟨"HourLines$Land", "inSummer", "(I)Z"⟩ "HourLines",
  .methodLinkNest "HourLines$Drift" 96 ⟨"HourLines$Worker", "ask", "(IIIIZI)I"⟩ "HourLines",
  .methodLinkNest "HourLines$Land" 42 ⟨"HourLines$Ties", "<init>", "()V"⟩ "HourLines",
  .methodLinkNest "HourLines$Land" 49 ⟨"HourLines$Trains", "<init>", "()V"⟩ "HourLines",
  .methodLinkNest "HourLines$Land" 76 ⟨"HourLines$Ties", "copyFrom", "(LHourLines$Ties;)V"⟩ "HourLines",
  .methodLinkNest "HourLines$Land" 80 ⟨"HourLines$Trains", "copyFrom", "(LHourLines$Trains;)V"⟩ "HourLines",
  .methodLinkNest "HourLines$Land" 83 ⟨"HourLines", "within", "(III)Z"⟩ "HourLines",
  .methodLinkNest "HourLines$Network" 37 ⟨"HourLines", "bounded", "(III)I"⟩ "HourLines",
  .methodLinkNest "HourLines$Network" 48 ⟨"HourLines", "within", "(III)Z"⟩ "HourLines",
  .methodLinkNest "HourLines$Parter" 11 ⟨"HourLines$Network", "<init>", "()V"⟩ "HourLines",
  .methodLinkNest "HourLines$Parter" 60 ⟨"HourLines$Network", "clear", "(I)V"⟩ "HourLines",
  .methodLinkNest "HourLines$Parter" 79 ⟨"HourLines$Network", "fill", "()J"⟩ "HourLines",
  .methodLinkNest "HourLines$Parter" 102 ⟨"HourLines$Purse", "payOf", "(II)I"⟩ "HourLines",
  .methodLinkNest "HourLines$Parter" 110 ⟨"HourLines$Network", "join", "(IIJJ)V"⟩ "HourLines",
  .methodLinkNest "HourLines$Parter" 126 ⟨"HourLines$Network", "reached", "(I)Z"⟩ "HourLines",
  .methodLinkNest "HourLines$Purse" 40 ⟨"HourLines$Land", "inSummer", "(I)Z"⟩ "HourLines",
  .methodLinkNest "HourLines$Purse" 50 ⟨"HourLines$Worker", "has", "(I)Z"⟩ "HourLines",
  .methodLinkNest "HourLines$Purse" 55 ⟨"HourLines$Land", "offOf", "(IIZ)I"⟩ "HourLines",
  .methodLinkNest "HourLines$Purse" 68 ⟨"HourLines$Worker", "ask", "(IIIIZI)I"⟩ "HourLines",
  .methodLinkNest "HourLines$Purse" 72 ⟨"HourLines", "bounded", "(III)I"⟩ "HourLines",
  .methodLinkNest "HourLines$Reader" 11 ⟨"HourLines$Text", "<init>", "()V"⟩ "HourLines",
  .methodLinkNest "HourLines$Reader" 35 ⟨"HourLines$Text", "clear", "()V"⟩ "HourLines",
  .methodLinkNest "HourLines$Reader" 47 ⟨"HourLines", "within", "(III)Z"⟩ "HourLines",
  .methodLinkNest "HourLines$Reader" 55 ⟨"HourLines$Text", "has", "(I)Z"⟩ "HourLines",
  .methodLinkNest "HourLines$Reader" 77 ⟨"HourLines$Text", "add", "(II)I"⟩ "HourLines",
  .methodLinkNest "HourLines$Reader" 99 ⟨"HourLines$Text", "aimHere", "(I)V"⟩ "HourLines",
  .methodLinkNest "HourLines$Text" 31 ⟨"HourLines", "within", "(III)Z"⟩ "HourLines",
  .methodLinkNest "HourLines$Worker" 32 ⟨"HourLines", "within", "(III)Z"⟩ "HourLines",
  .methodLinkNest "HourLines$Worker" 36 ⟨"HourLines$Text", "has", "(I)Z"⟩ "HourLines",
  .methodLinkNest "HourLines$Worker" 43 ⟨"HourLines$Land", "offOf", "(IIZ)I"⟩ "HourLines",
  .methodLinkNest "HourLines$Worker" 63 ⟨"HourLines$Land", "darkOf", "(III)I"⟩ "HourLines",
  .methodLinkNest "HourLines$Worker" 80 ⟨"HourLines$Text", "kindAt", "(I)I"⟩ "HourLines",
  .methodLinkNest "HourLines$Worker" 83 ⟨"HourLines$Text", "valueAt", "(I)I"⟩ "HourLines",
  .methodLinkNest "HourLines" 25 ⟨"HourLines$Land", "<init>", "(I)V"⟩ "HourLines",
  .methodLinkNest "HourLines" 41 ⟨"HourLines$Reader", "<init>", "([I)V"⟩ "HourLines",
  .methodLinkNest "HourLines" 54 ⟨"HourLines$Text", "<init>", "()V"⟩ "HourLines",
  .methodLinkNest "HourLines" 57 ⟨"HourLines$Worker", "<init>", "(LHourLines$Land;[LHourLines$Text;)V"⟩ "HourLines",
  .methodLinkNest "HourLines" 66 ⟨"HourLines$Purse", "<init>", "(LHourLines$Land;LHourLines$Worker;)V"⟩ "HourLines",
  .methodLinkNest "HourLines" 75 ⟨"HourLines$Pieces", "<init>", "(II)V"⟩ "HourLines",
  .methodLinkNest "HourLines" 84 ⟨"HourLines$Parter", "<init>", "(LHourLines$Land;LHourLines$Purse;)V"⟩ "HourLines",
  .methodLinkNest "HourLines" 93 ⟨"HourLines$Drift", "<init>", "(LHourLines$Land;LHourLines$Purse;LHourLines$Worker;)V"⟩ "HourLines",
  .methodLinkNest "HourLines" 130 ⟨"HourLines$Purse", "forget", "(I)V"⟩ "HourLines",
  .methodLinkNest "HourLines" 137 ⟨"HourLines$Ties", "add", "(III)I"⟩ "HourLines",
  .methodLinkNest "HourLines" 148 ⟨"HourLines$Purse", "forgetAll", "()V"⟩ "HourLines",
  .methodLinkNest "HourLines" 180 ⟨"HourLines$Reader", "read", "(I)V"⟩ "HourLines",
  .methodLinkNest "HourLines" 190 ⟨"HourLines$Text", "copyFrom", "(LHourLines$Text;)V"⟩ "HourLines",
  .methodLinkNest "HourLines" 201 ⟨"HourLines$Land", "inSummer", "(I)Z"⟩ "HourLines",
  .methodLinkNest "HourLines" 204 ⟨"HourLines$Land", "offOf", "(IIZ)I"⟩ "HourLines",
  .methodLinkNest "HourLines" 208 ⟨"HourLines$Land", "darkOf", "(III)I"⟩ "HourLines",
  .methodLinkNest "HourLines" 211 ⟨"HourLines$Purse", "refresh", "()V"⟩ "HourLines",
  .methodLinkNest "HourLines" 214 ⟨"HourLines$Purse", "payOf", "(II)I"⟩ "HourLines",
  .methodLinkNest "HourLines" 218 ⟨"HourLines$Pieces", "trace", "([I)V"⟩ "HourLines",
  .methodLinkNest "HourLines" 225 ⟨"HourLines$Purse", "payOfAll", "([I)I"⟩ "HourLines",
  .methodLinkNest "HourLines" 228 ⟨"HourLines$Ties", "payBy", "([I[I)I"⟩ "HourLines",
  .methodLinkNest "HourLines" 232 ⟨"HourLines$Pieces", "count", "()I"⟩ "HourLines",
  .methodLinkNest "HourLines" 236 ⟨"HourLines$Land", "dividedStates", "()I"⟩ "HourLines",
  .methodLinkNest "HourLines" 239 ⟨"HourLines$Pieces", "firstAstray", "([I[I)I"⟩ "HourLines",
  .methodLinkNest "HourLines" 245 ⟨"HourLines$Parter", "solve", "(IZII)I"⟩ "HourLines",
  .methodLinkNest "HourLines" 254 ⟨"HourLines$Ties", "countCut", "([I)I"⟩ "HourLines",
  .methodLinkNest "HourLines" 257 ⟨"HourLines$Ties", "cutTie", "([II)I"⟩ "HourLines",
  .methodLinkNest "HourLines" 261 ⟨"HourLines$Parter", "leastSet", "(IZ)I"⟩ "HourLines",
  .methodLinkNest "HourLines" 268 ⟨"HourLines$Purse", "payOfAllBy", "(I)I"⟩ "HourLines",
  .methodLinkNest "HourLines" 272 ⟨"HourLines$Purse", "leastPayOf", "(I)I"⟩ "HourLines",
  .methodLinkNest "HourLines" 275 ⟨"HourLines$Drift", "run", "()V"⟩ "HourLines",
  .methodLinkNest "HourLines" 292 ⟨"HourLines$Purse", "payOfMonth", "(IZ)I"⟩ "HourLines",
  .methodLinkNest "HourLines" 299 ⟨"HourLines$Trains", "add", "(III)I"⟩ "HourLines",
  .methodLinkNest "HourLines" 304 ⟨"HourLines$Trains", "clockAt", "(II[I[I)I"⟩ "HourLines",
  .methodLinkNest "HourLines" 308 ⟨"HourLines$Trains", "firstEarly", "(I[I[I)I"⟩ "HourLines",
  .methodLinkNest "HourLines" 323 ⟨"HourLines$Ties", "sparedByBoth", "(I[I[I)I"⟩ "HourLines",
  .methodLinkNest "HourLines" 326 ⟨"HourLines$Land", "copyFrom", "(LHourLines$Land;)V"⟩ "HourLines",
  .methodLinkNest "HourLines" 335 ⟨"HourLines$Worker", "has", "(I)Z"⟩ "HourLines",
  .methodLinkNest "HourLines" 338 ⟨"HourLines$Ties", "aloneAt", "(I[I)I"⟩ "HourLines",
  .methodLinkNest "HourLines" 342 ⟨"HourLines$Worker", "ask", "(IIIIZI)I"⟩ "HourLines",
  .fieldLinkNest "HourLines$Drift" 23 "HourLines$Land" "sun" "[I" "HourLines",
  .fieldLinkNest "HourLines$Drift" 32 "HourLines$Land" "parting" "[I" "HourLines",
  .fieldLinkNest "HourLines$Drift" 52 "HourLines$Land" "kept" "[I" "HourLines",
  .fieldLinkNest "HourLines$Drift" 63 "HourLines$Land" "hours" "I" "HourLines",
  .fieldLinkNest "HourLines$Drift" 69 "HourLines$Land" "ties" "LHourLines$Ties;" "HourLines",
  .fieldLinkNest "HourLines$Drift" 73 "HourLines$Land" "offset" "[I" "HourLines",
  .fieldLinkNest "HourLines$Parter" 30 "HourLines$Land" "sun" "[I" "HourLines",
  .fieldLinkNest "HourLines$Parter" 66 "HourLines$Land" "ties" "LHourLines$Ties;" "HourLines",
  .fieldLinkNest "HourLines$Parter" 70 "HourLines$Ties" "count" "I" "HourLines",
  .fieldLinkNest "HourLines$Parter" 93 "HourLines$Land" "hours" "I" "HourLines",
  .fieldLinkNest "HourLines$Parter" 96 "HourLines$Land" "state" "[I" "HourLines",
  .fieldLinkNest "HourLines$Parter" 99 "HourLines$Land" "kept" "[I" "HourLines",
  .fieldLinkNest "HourLines$Parter" 114 "HourLines$Ties" "one" "[I" "HourLines",
  .fieldLinkNest "HourLines$Parter" 117 "HourLines$Ties" "other" "[I" "HourLines",
  .fieldLinkNest "HourLines$Parter" 120 "HourLines$Land" "offset" "[I" "HourLines",
  .fieldLinkNest "HourLines$Parter" 123 "HourLines$Ties" "weight" "[I" "HourLines",
  .fieldLinkNest "HourLines$Purse" 19 "HourLines$Land" "sun" "[I" "HourLines",
  .fieldLinkNest "HourLines$Purse" 32 "HourLines$Land" "hours" "I" "HourLines",
  .fieldLinkNest "HourLines$Purse" 65 "HourLines$Land" "people" "[I" "HourLines",
  .fieldLinkNest "HourLines$Purse" 82 "HourLines$Land" "parting" "[I" "HourLines",
  .fieldLinkNest "HourLines$Reader" 59 "HourLines$Text" "first" "[I" "HourLines",
  .fieldLinkNest "HourLines$Reader" 62 "HourLines$Text" "length" "I" "HourLines",
  .fieldLinkNest "HourLines$Reader" 69 "HourLines$Text" "behind" "[I" "HourLines",
  .fieldLinkNest "HourLines$Worker" 26 "HourLines$Land" "ruling" "I" "HourLines",
  .fieldLinkNest "HourLines$Worker" 53 "HourLines$Land" "people" "[I" "HourLines",
  .fieldLinkNest "HourLines$Worker" 56 "HourLines$Land" "state" "[I" "HourLines",
  .fieldLinkNest "HourLines$Worker" 59 "HourLines$Land" "town" "[Z" "HourLines",
  .fieldLinkNest "HourLines$Worker" 67 "HourLines$Text" "first" "[I" "HourLines",
  .fieldLinkNest "HourLines$Worker" 70 "HourLines$Text" "behind" "[I" "HourLines",
  .fieldLinkNest "HourLines" 114 "HourLines$Land" "sun" "[I" "HourLines",
  .fieldLinkNest "HourLines" 117 "HourLines$Land" "people" "[I" "HourLines",
  .fieldLinkNest "HourLines" 120 "HourLines$Land" "state" "[I" "HourLines",
  .fieldLinkNest "HourLines" 123 "HourLines$Land" "begin" "[I" "HourLines",
  .fieldLinkNest "HourLines" 126 "HourLines$Land" "town" "[Z" "HourLines",
  .fieldLinkNest "HourLines" 133 "HourLines$Land" "ties" "LHourLines$Ties;" "HourLines",
  .fieldLinkNest "HourLines" 142 "HourLines$Land" "hours" "I" "HourLines",
  .fieldLinkNest "HourLines" 145 "HourLines$Land" "offset" "[I" "HourLines",
  .fieldLinkNest "HourLines" 154 "HourLines$Land" "rise" "[I" "HourLines",
  .fieldLinkNest "HourLines" 157 "HourLines$Land" "summerFrom" "I" "HourLines",
  .fieldLinkNest "HourLines" 160 "HourLines$Land" "summerTo" "I" "HourLines",
  .fieldLinkNest "HourLines" 166 "HourLines$Land" "kept" "[I" "HourLines",
  .fieldLinkNest "HourLines" 169 "HourLines$Land" "parting" "[I" "HourLines",
  .fieldLinkNest "HourLines" 178 "HourLines$Land" "texts" "I" "HourLines",
  .fieldLinkNest "HourLines" 183 "HourLines$Reader" "fault" "I" "HourLines",
  .fieldLinkNest "HourLines" 186 "HourLines$Reader" "draft" "LHourLines$Text;" "HourLines",
  .fieldLinkNest "HourLines" 194 "HourLines$Reader" "place" "I" "HourLines",
  .fieldLinkNest "HourLines" 197 "HourLines$Land" "ruling" "I" "HourLines",
  .fieldLinkNest "HourLines" 249 "HourLines$Parter" "hourOf" "[I" "HourLines",
  .fieldLinkNest "HourLines" 252 "HourLines$Ties" "count" "I" "HourLines",
  .fieldLinkNest "HourLines" 265 "HourLines$Parter" "leastPrice" "I" "HourLines",
  .fieldLinkNest "HourLines" 278 "HourLines$Drift" "hourOf" "[I" "HourLines",
  .fieldLinkNest "HourLines" 279 "HourLines$Drift" "rounds" "I" "HourLines",
  .fieldLinkNest "HourLines" 282 "HourLines$Drift" "changes" "I" "HourLines",
  .fieldLinkNest "HourLines" 295 "HourLines$Land" "trains" "LHourLines$Trains;" "HourLines",
  .fieldLinkNest "HourLines" 302 "HourLines$Trains" "count" "[I" "HourLines"]
theorem hl_nest_in : ∀ x ∈ hl_nest, x ∈ lw_tbl := by
  intro x hx
  simp only [hl_nest, List.mem_cons, List.not_mem_nil, or_false] at hx
  rcases hx with h | h | h | h | h | h | h | h | h | h | h | h | h | h | h | h | h | h | h | h | h | h | h | h | h | h | h | h | h | h | h | h | h | h | h | h | h | h | h | h | h | h | h | h | h | h | h | h | h | h | h | h | h | h | h | h | h | h | h | h | h | h | h | h | h | h | h | h | h | h | h | h | h | h | h | h | h | h | h | h | h | h | h | h | h | h | h | h | h | h | h | h | h | h | h | h | h | h | h | h | h | h | h | h | h | h | h | h | h | h | h | h | h | h | h | h | h | h | h | h | h | h | h | h | h | h | h | h | h | h | h | h
  · exact h ▸ List.mem_of_getElem? (i := 1187) (by decide +kernel)
  · exact h ▸ List.mem_of_getElem? (i := 1188) (by decide +kernel)
  · exact h ▸ List.mem_of_getElem? (i := 1172) (by decide +kernel)
  · exact h ▸ List.mem_of_getElem? (i := 1173) (by decide +kernel)
  · exact h ▸ List.mem_of_getElem? (i := 1181) (by decide +kernel)
  · exact h ▸ List.mem_of_getElem? (i := 1182) (by decide +kernel)
  · exact h ▸ List.mem_of_getElem? (i := 197) (by decide +kernel)
  · exact h ▸ List.mem_of_getElem? (i := 223) (by decide +kernel)
  · exact h ▸ List.mem_of_getElem? (i := 1269) (by decide +kernel)
  · exact h ▸ List.mem_of_getElem? (i := 1274) (by decide +kernel)
  · exact h ▸ List.mem_of_getElem? (i := 887) (by decide +kernel)
  · exact h ▸ List.mem_of_getElem? (i := 1044) (by decide +kernel)
  · exact h ▸ List.mem_of_getElem? (i := 1057) (by decide +kernel)
  · exact h ▸ List.mem_of_getElem? (i := 449) (by decide +kernel)
  · exact h ▸ List.mem_of_getElem? (i := 1040) (by decide +kernel)
  · exact h ▸ List.mem_of_getElem? (i := 1066) (by decide +kernel)
  · exact h ▸ List.mem_of_getElem? (i := 1038) (by decide +kernel)
  · exact h ▸ List.mem_of_getElem? (i := 1053) (by decide +kernel)
  · exact h ▸ List.mem_of_getElem? (i := 1099) (by decide +kernel)
  · exact h ▸ List.mem_of_getElem? (i := 909) (by decide +kernel)
  · exact h ▸ List.mem_of_getElem? (i := 914) (by decide +kernel)
  · exact h ▸ List.mem_of_getElem? (i := 920) (by decide +kernel)
  · exact h ▸ List.mem_of_getElem? (i := 924) (by decide +kernel)
  · exact h ▸ List.mem_of_getElem? (i := 959) (by decide +kernel)
  · exact h ▸ List.mem_of_getElem? (i := 331) (by decide +kernel)
  · exact h ▸ List.mem_of_getElem? (i := 666) (by decide +kernel)
  · exact h ▸ List.mem_of_getElem? (i := 804) (by decide +kernel)
  · exact h ▸ List.mem_of_getElem? (i := 809) (by decide +kernel)
  · exact h ▸ List.mem_of_getElem? (i := 825) (by decide +kernel)
  · exact h ▸ List.mem_of_getElem? (i := 853) (by decide +kernel)
  · exact h ▸ List.mem_of_getElem? (i := 857) (by decide +kernel)
  · exact h ▸ List.mem_of_getElem? (i := 918) (by decide +kernel)
  · exact h ▸ List.mem_of_getElem? (i := 919) (by decide +kernel)
  · exact h ▸ List.mem_of_getElem? (i := 929) (by decide +kernel)
  · exact h ▸ List.mem_of_getElem? (i := 931) (by decide +kernel)
  · exact h ▸ List.mem_of_getElem? (i := 936) (by decide +kernel)
  · exact h ▸ List.mem_of_getElem? (i := 937) (by decide +kernel)
  · exact h ▸ List.mem_of_getElem? (i := 191) (by decide +kernel)
  · exact h ▸ List.mem_of_getElem? (i := 325) (by decide +kernel)
  · exact h ▸ List.mem_of_getElem? (i := 386) (by decide +kernel)
  · exact h ▸ List.mem_of_getElem? (i := 389) (by decide +kernel)
  · exact h ▸ List.mem_of_getElem? (i := 411) (by decide +kernel)
  · exact h ▸ List.mem_of_getElem? (i := 430) (by decide +kernel)
  · exact h ▸ List.mem_of_getElem? (i := 443) (by decide +kernel)
  · exact h ▸ List.mem_of_getElem? (i := 517) (by decide +kernel)
  · exact h ▸ List.mem_of_getElem? (i := 603) (by decide +kernel)
  · exact h ▸ List.mem_of_getElem? (i := 611) (by decide +kernel)
  · exact h ▸ List.mem_of_getElem? (i := 619) (by decide +kernel)
  · exact h ▸ List.mem_of_getElem? (i := 662) (by decide +kernel)
  · exact h ▸ List.mem_of_getElem? (i := 862) (by decide +kernel)
  · exact h ▸ List.mem_of_getElem? (i := 883) (by decide +kernel)
  · exact h ▸ List.mem_of_getElem? (i := 888) (by decide +kernel)
  · exact h ▸ List.mem_of_getElem? (i := 892) (by decide +kernel)
  · exact h ▸ List.mem_of_getElem? (i := 901) (by decide +kernel)
  · exact h ▸ List.mem_of_getElem? (i := 960) (by decide +kernel)
  · exact h ▸ List.mem_of_getElem? (i := 968) (by decide +kernel)
  · exact h ▸ List.mem_of_getElem? (i := 985) (by decide +kernel)
  · exact h ▸ List.mem_of_getElem? (i := 990) (by decide +kernel)
  · exact h ▸ List.mem_of_getElem? (i := 995) (by decide +kernel)
  · exact h ▸ List.mem_of_getElem? (i := 999) (by decide +kernel)
  · exact h ▸ List.mem_of_getElem? (i := 1007) (by decide +kernel)
  · exact h ▸ List.mem_of_getElem? (i := 1022) (by decide +kernel)
  · exact h ▸ List.mem_of_getElem? (i := 1111) (by decide +kernel)
  · exact h ▸ List.mem_of_getElem? (i := 1119) (by decide +kernel)
  · exact h ▸ List.mem_of_getElem? (i := 1127) (by decide +kernel)
  · exact h ▸ List.mem_of_getElem? (i := 1142) (by decide +kernel)
  · exact h ▸ List.mem_of_getElem? (i := 1150) (by decide +kernel)
  · exact h ▸ List.mem_of_getElem? (i := 1159) (by decide +kernel)
  · exact h ▸ List.mem_of_getElem? (i := 1202) (by decide +kernel)
  · exact h ▸ List.mem_of_getElem? (i := 1210) (by decide +kernel)
  · exact h ▸ List.mem_of_getElem? (i := 1218) (by decide +kernel)
  · exact h ▸ List.mem_of_getElem? (i := 1226) (by decide +kernel)
  · exact h ▸ List.mem_of_getElem? (i := 1255) (by decide +kernel)
  · exact h ▸ List.mem_of_getElem? (i := 1264) (by decide +kernel)
  · exact h ▸ List.mem_of_getElem? (i := 1243) (by decide +kernel)
  · exact h ▸ List.mem_of_getElem? (i := 1244) (by decide +kernel)
  · exact h ▸ List.mem_of_getElem? (i := 1245) (by decide +kernel)
  · exact h ▸ List.mem_of_getElem? (i := 240) (by decide +kernel)
  · exact h ▸ List.mem_of_getElem? (i := 261) (by decide +kernel)
  · exact h ▸ List.mem_of_getElem? (i := 257) (by decide +kernel)
  · exact h ▸ List.mem_of_getElem? (i := 270) (by decide +kernel)
  · exact h ▸ List.mem_of_getElem? (i := 287) (by decide +kernel)
  · exact h ▸ List.mem_of_getElem? (i := 266) (by decide +kernel)
  · exact h ▸ List.mem_of_getElem? (i := 241) (by decide +kernel)
  · exact h ▸ List.mem_of_getElem? (i := 285) (by decide +kernel)
  · exact h ▸ List.mem_of_getElem? (i := 208) (by decide +kernel)
  · exact h ▸ List.mem_of_getElem? (i := 269) (by decide +kernel)
  · exact h ▸ List.mem_of_getElem? (i := 250) (by decide +kernel)
  · exact h ▸ List.mem_of_getElem? (i := 258) (by decide +kernel)
  · exact h ▸ List.mem_of_getElem? (i := 202) (by decide +kernel)
  · exact h ▸ List.mem_of_getElem? (i := 204) (by decide +kernel)
  · exact h ▸ List.mem_of_getElem? (i := 267) (by decide +kernel)
  · exact h ▸ List.mem_of_getElem? (i := 206) (by decide +kernel)
  · exact h ▸ List.mem_of_getElem? (i := 239) (by decide +kernel)
  · exact h ▸ List.mem_of_getElem? (i := 272) (by decide +kernel)
  · exact h ▸ List.mem_of_getElem? (i := 246) (by decide +kernel)
  · exact h ▸ List.mem_of_getElem? (i := 263) (by decide +kernel)
  · exact h ▸ List.mem_of_getElem? (i := 337) (by decide +kernel)
  · exact h ▸ List.mem_of_getElem? (i := 343) (by decide +kernel)
  · exact h ▸ List.mem_of_getElem? (i := 340) (by decide +kernel)
  · exact h ▸ List.mem_of_getElem? (i := 282) (by decide +kernel)
  · exact h ▸ List.mem_of_getElem? (i := 245) (by decide +kernel)
  · exact h ▸ List.mem_of_getElem? (i := 249) (by decide +kernel)
  · exact h ▸ List.mem_of_getElem? (i := 255) (by decide +kernel)
  · exact h ▸ List.mem_of_getElem? (i := 338) (by decide +kernel)
  · exact h ▸ List.mem_of_getElem? (i := 341) (by decide +kernel)
  · exact h ▸ List.mem_of_getElem? (i := 242) (by decide +kernel)
  · exact h ▸ List.mem_of_getElem? (i := 244) (by decide +kernel)
  · exact h ▸ List.mem_of_getElem? (i := 248) (by decide +kernel)
  · exact h ▸ List.mem_of_getElem? (i := 252) (by decide +kernel)
  · exact h ▸ List.mem_of_getElem? (i := 254) (by decide +kernel)
  · exact h ▸ List.mem_of_getElem? (i := 286) (by decide +kernel)
  · exact h ▸ List.mem_of_getElem? (i := 271) (by decide +kernel)
  · exact h ▸ List.mem_of_getElem? (i := 265) (by decide +kernel)
  · exact h ▸ List.mem_of_getElem? (i := 274) (by decide +kernel)
  · exact h ▸ List.mem_of_getElem? (i := 276) (by decide +kernel)
  · exact h ▸ List.mem_of_getElem? (i := 278) (by decide +kernel)
  · exact h ▸ List.mem_of_getElem? (i := 259) (by decide +kernel)
  · exact h ▸ List.mem_of_getElem? (i := 262) (by decide +kernel)
  · exact h ▸ List.mem_of_getElem? (i := 280) (by decide +kernel)
  · exact h ▸ List.mem_of_getElem? (i := 362) (by decide +kernel)
  · exact h ▸ List.mem_of_getElem? (i := 355) (by decide +kernel)
  · exact h ▸ List.mem_of_getElem? (i := 364) (by decide +kernel)
  · exact h ▸ List.mem_of_getElem? (i := 283) (by decide +kernel)
  · exact h ▸ List.mem_of_getElem? (i := 492) (by decide +kernel)
  · exact h ▸ List.mem_of_getElem? (i := 209) (by decide +kernel)
  · exact h ▸ List.mem_of_getElem? (i := 497) (by decide +kernel)
  · exact h ▸ List.mem_of_getElem? (i := 525) (by decide +kernel)
  · exact h ▸ List.mem_of_getElem? (i := 527) (by decide +kernel)
  · exact h ▸ List.mem_of_getElem? (i := 529) (by decide +kernel)
  · exact h ▸ List.mem_of_getElem? (i := 289) (by decide +kernel)
  · exact h ▸ List.mem_of_getElem? (i := 230) (by decide +kernel)
/-- a field's link: the class, its place, and how the claim's tables have it -/
def hl_fOK (o ix ci k : Nat) : Prop := ∃ (C : String) (T : u_T) (N : Nat), hl_cl[ci]? = some (C, T, N) ∧ k < N ∧ (T k).1 = C ∧ (Cond.fieldLink (hl_R o) ix C (T k).2.1 (T k).2.2.1 ∈ hl_G ∨ ∃ host, Cond.fieldLinkNest (hl_R o) ix C (T k).2.1 (T k).2.2.1 host ∈ hl_nest ∧ o ≠ ci)
theorem hl_fok_0 : ∀ e ∈ hl_flL 0, hl_fOK 0 e.1 e.2.1 e.2.2 := by
  unfold hl_flL
  exact List.forall_mem_cons.mpr ⟨⟨_, _, _, rfl, (by decide), rfl, .inl (hl_at (i := 521) (by decide +kernel) rfl)⟩,
    List.forall_mem_cons.mpr ⟨⟨_, _, _, rfl, (by decide), rfl, .inl (hl_at (i := 522) (by decide +kernel) rfl)⟩,
    List.forall_mem_cons.mpr ⟨⟨_, _, _, rfl, (by decide), rfl, .inl (hl_at (i := 523) (by decide +kernel) rfl)⟩,
    List.forall_mem_cons.mpr ⟨⟨_, _, _, rfl, (by decide), rfl, .inr ⟨"HourLines", List.mem_of_getElem? (i := 77) (by decide +kernel), by decide⟩⟩,
    List.forall_mem_cons.mpr ⟨⟨_, _, _, rfl, (by decide), rfl, .inl (hl_at (i := 524) (by decide +kernel) rfl)⟩,
    List.forall_mem_cons.mpr ⟨⟨_, _, _, rfl, (by decide), rfl, .inr ⟨"HourLines", List.mem_of_getElem? (i := 78) (by decide +kernel), by decide⟩⟩,
    List.forall_mem_cons.mpr ⟨⟨_, _, _, rfl, (by decide), rfl, .inl (hl_at (i := 528) (by decide +kernel) rfl)⟩,
    List.forall_mem_cons.mpr ⟨⟨_, _, _, rfl, (by decide), rfl, .inl (hl_at (i := 526) (by decide +kernel) rfl)⟩,
    List.forall_mem_cons.mpr ⟨⟨_, _, _, rfl, (by decide), rfl, .inr ⟨"HourLines", List.mem_of_getElem? (i := 79) (by decide +kernel), by decide⟩⟩,
    List.forall_mem_cons.mpr ⟨⟨_, _, _, rfl, (by decide), rfl, .inr ⟨"HourLines", List.mem_of_getElem? (i := 80) (by decide +kernel), by decide⟩⟩,
    List.forall_mem_cons.mpr ⟨⟨_, _, _, rfl, (by decide), rfl, .inr ⟨"HourLines", List.mem_of_getElem? (i := 81) (by decide +kernel), by decide⟩⟩,
    List.forall_mem_cons.mpr ⟨⟨_, _, _, rfl, (by decide), rfl, .inr ⟨"HourLines", List.mem_of_getElem? (i := 82) (by decide +kernel), by decide⟩⟩,
    fun _ h => absurd h List.not_mem_nil⟩⟩⟩⟩⟩⟩⟩⟩⟩⟩⟩⟩
theorem hl_fok_1 : ∀ e ∈ hl_flL 1, hl_fOK 1 e.1 e.2.1 e.2.2 := by
  unfold hl_flL
  exact List.forall_mem_cons.mpr ⟨⟨_, _, _, rfl, (by decide), rfl, .inl (hl_at (i := 238) (by decide +kernel) rfl)⟩,
    List.forall_mem_cons.mpr ⟨⟨_, _, _, rfl, (by decide), rfl, .inl (hl_at (i := 243) (by decide +kernel) rfl)⟩,
    List.forall_mem_cons.mpr ⟨⟨_, _, _, rfl, (by decide), rfl, .inl (hl_at (i := 247) (by decide +kernel) rfl)⟩,
    List.forall_mem_cons.mpr ⟨⟨_, _, _, rfl, (by decide), rfl, .inl (hl_at (i := 251) (by decide +kernel) rfl)⟩,
    List.forall_mem_cons.mpr ⟨⟨_, _, _, rfl, (by decide), rfl, .inl (hl_at (i := 253) (by decide +kernel) rfl)⟩,
    List.forall_mem_cons.mpr ⟨⟨_, _, _, rfl, (by decide), rfl, .inl (hl_at (i := 256) (by decide +kernel) rfl)⟩,
    List.forall_mem_cons.mpr ⟨⟨_, _, _, rfl, (by decide), rfl, .inl (hl_at (i := 260) (by decide +kernel) rfl)⟩,
    List.forall_mem_cons.mpr ⟨⟨_, _, _, rfl, (by decide), rfl, .inl (hl_at (i := 264) (by decide +kernel) rfl)⟩,
    List.forall_mem_cons.mpr ⟨⟨_, _, _, rfl, (by decide), rfl, .inl (hl_at (i := 273) (by decide +kernel) rfl)⟩,
    List.forall_mem_cons.mpr ⟨⟨_, _, _, rfl, (by decide), rfl, .inl (hl_at (i := 284) (by decide +kernel) rfl)⟩,
    List.forall_mem_cons.mpr ⟨⟨_, _, _, rfl, (by decide), rfl, .inl (hl_at (i := 288) (by decide +kernel) rfl)⟩,
    List.forall_mem_cons.mpr ⟨⟨_, _, _, rfl, (by decide), rfl, .inl (hl_at (i := 275) (by decide +kernel) rfl)⟩,
    List.forall_mem_cons.mpr ⟨⟨_, _, _, rfl, (by decide), rfl, .inl (hl_at (i := 277) (by decide +kernel) rfl)⟩,
    List.forall_mem_cons.mpr ⟨⟨_, _, _, rfl, (by decide), rfl, .inl (hl_at (i := 281) (by decide +kernel) rfl)⟩,
    List.forall_mem_cons.mpr ⟨⟨_, _, _, rfl, (by decide), rfl, .inl (hl_at (i := 268) (by decide +kernel) rfl)⟩,
    List.forall_mem_cons.mpr ⟨⟨_, _, _, rfl, (by decide), rfl, .inl (hl_at (i := 279) (by decide +kernel) rfl)⟩,
    fun _ h => absurd h List.not_mem_nil⟩⟩⟩⟩⟩⟩⟩⟩⟩⟩⟩⟩⟩⟩⟩⟩
theorem hl_fok_2 : ∀ e ∈ hl_flL 2, hl_fOK 2 e.1 e.2.1 e.2.2 := by
  unfold hl_flL
  exact List.forall_mem_cons.mpr ⟨⟨_, _, _, rfl, (by decide), rfl, .inl (hl_at (i := 455) (by decide +kernel) rfl)⟩,
    List.forall_mem_cons.mpr ⟨⟨_, _, _, rfl, (by decide), rfl, .inl (hl_at (i := 456) (by decide +kernel) rfl)⟩,
    List.forall_mem_cons.mpr ⟨⟨_, _, _, rfl, (by decide), rfl, .inl (hl_at (i := 457) (by decide +kernel) rfl)⟩,
    List.forall_mem_cons.mpr ⟨⟨_, _, _, rfl, (by decide), rfl, .inl (hl_at (i := 458) (by decide +kernel) rfl)⟩,
    List.forall_mem_cons.mpr ⟨⟨_, _, _, rfl, (by decide), rfl, .inl (hl_at (i := 459) (by decide +kernel) rfl)⟩,
    List.forall_mem_cons.mpr ⟨⟨_, _, _, rfl, (by decide), rfl, .inl (hl_at (i := 460) (by decide +kernel) rfl)⟩,
    List.forall_mem_cons.mpr ⟨⟨_, _, _, rfl, (by decide), rfl, .inl (hl_at (i := 461) (by decide +kernel) rfl)⟩,
    List.forall_mem_cons.mpr ⟨⟨_, _, _, rfl, (by decide), rfl, .inl (hl_at (i := 462) (by decide +kernel) rfl)⟩,
    List.forall_mem_cons.mpr ⟨⟨_, _, _, rfl, (by decide), rfl, .inl (hl_at (i := 453) (by decide +kernel) rfl)⟩,
    List.forall_mem_cons.mpr ⟨⟨_, _, _, rfl, (by decide), rfl, .inl (hl_at (i := 454) (by decide +kernel) rfl)⟩,
    fun _ h => absurd h List.not_mem_nil⟩⟩⟩⟩⟩⟩⟩⟩⟩⟩
theorem hl_fok_3 : ∀ e ∈ hl_flL 3, hl_fOK 3 e.1 e.2.1 e.2.2 := by
  unfold hl_flL
  exact List.forall_mem_cons.mpr ⟨⟨_, _, _, rfl, (by decide), rfl, .inl (hl_at (i := 490) (by decide +kernel) rfl)⟩,
    List.forall_mem_cons.mpr ⟨⟨_, _, _, rfl, (by decide), rfl, .inl (hl_at (i := 494) (by decide +kernel) rfl)⟩,
    List.forall_mem_cons.mpr ⟨⟨_, _, _, rfl, (by decide), rfl, .inl (hl_at (i := 488) (by decide +kernel) rfl)⟩,
    List.forall_mem_cons.mpr ⟨⟨_, _, _, rfl, (by decide), rfl, .inl (hl_at (i := 489) (by decide +kernel) rfl)⟩,
    List.forall_mem_cons.mpr ⟨⟨_, _, _, rfl, (by decide), rfl, .inr ⟨"HourLines", List.mem_of_getElem? (i := 83) (by decide +kernel), by decide⟩⟩,
    List.forall_mem_cons.mpr ⟨⟨_, _, _, rfl, (by decide), rfl, .inl (hl_at (i := 491) (by decide +kernel) rfl)⟩,
    List.forall_mem_cons.mpr ⟨⟨_, _, _, rfl, (by decide), rfl, .inl (hl_at (i := 493) (by decide +kernel) rfl)⟩,
    List.forall_mem_cons.mpr ⟨⟨_, _, _, rfl, (by decide), rfl, .inl (hl_at (i := 495) (by decide +kernel) rfl)⟩,
    List.forall_mem_cons.mpr ⟨⟨_, _, _, rfl, (by decide), rfl, .inr ⟨"HourLines", List.mem_of_getElem? (i := 84) (by decide +kernel), by decide⟩⟩,
    List.forall_mem_cons.mpr ⟨⟨_, _, _, rfl, (by decide), rfl, .inr ⟨"HourLines", List.mem_of_getElem? (i := 85) (by decide +kernel), by decide⟩⟩,
    List.forall_mem_cons.mpr ⟨⟨_, _, _, rfl, (by decide), rfl, .inr ⟨"HourLines", List.mem_of_getElem? (i := 86) (by decide +kernel), by decide⟩⟩,
    List.forall_mem_cons.mpr ⟨⟨_, _, _, rfl, (by decide), rfl, .inr ⟨"HourLines", List.mem_of_getElem? (i := 87) (by decide +kernel), by decide⟩⟩,
    List.forall_mem_cons.mpr ⟨⟨_, _, _, rfl, (by decide), rfl, .inr ⟨"HourLines", List.mem_of_getElem? (i := 88) (by decide +kernel), by decide⟩⟩,
    List.forall_mem_cons.mpr ⟨⟨_, _, _, rfl, (by decide), rfl, .inr ⟨"HourLines", List.mem_of_getElem? (i := 89) (by decide +kernel), by decide⟩⟩,
    List.forall_mem_cons.mpr ⟨⟨_, _, _, rfl, (by decide), rfl, .inr ⟨"HourLines", List.mem_of_getElem? (i := 90) (by decide +kernel), by decide⟩⟩,
    List.forall_mem_cons.mpr ⟨⟨_, _, _, rfl, (by decide), rfl, .inr ⟨"HourLines", List.mem_of_getElem? (i := 91) (by decide +kernel), by decide⟩⟩,
    List.forall_mem_cons.mpr ⟨⟨_, _, _, rfl, (by decide), rfl, .inr ⟨"HourLines", List.mem_of_getElem? (i := 92) (by decide +kernel), by decide⟩⟩,
    List.forall_mem_cons.mpr ⟨⟨_, _, _, rfl, (by decide), rfl, .inl (hl_at (i := 496) (by decide +kernel) rfl)⟩,
    fun _ h => absurd h List.not_mem_nil⟩⟩⟩⟩⟩⟩⟩⟩⟩⟩⟩⟩⟩⟩⟩⟩⟩⟩
theorem hl_fok_4 : ∀ e ∈ hl_flL 4, hl_fOK 4 e.1 e.2.1 e.2.2 := by
  unfold hl_flL
  exact List.forall_mem_cons.mpr ⟨⟨_, _, _, rfl, (by decide), rfl, .inl (hl_at (i := 434) (by decide +kernel) rfl)⟩,
    List.forall_mem_cons.mpr ⟨⟨_, _, _, rfl, (by decide), rfl, .inl (hl_at (i := 435) (by decide +kernel) rfl)⟩,
    fun _ h => absurd h List.not_mem_nil⟩⟩
theorem hl_fok_5 : ∀ e ∈ hl_flL 5, hl_fOK 5 e.1 e.2.1 e.2.2 := by
  unfold hl_flL
  exact List.forall_mem_cons.mpr ⟨⟨_, _, _, rfl, (by decide), rfl, .inl (hl_at (i := 415) (by decide +kernel) rfl)⟩,
    List.forall_mem_cons.mpr ⟨⟨_, _, _, rfl, (by decide), rfl, .inl (hl_at (i := 416) (by decide +kernel) rfl)⟩,
    List.forall_mem_cons.mpr ⟨⟨_, _, _, rfl, (by decide), rfl, .inr ⟨"HourLines", List.mem_of_getElem? (i := 93) (by decide +kernel), by decide⟩⟩,
    List.forall_mem_cons.mpr ⟨⟨_, _, _, rfl, (by decide), rfl, .inl (hl_at (i := 417) (by decide +kernel) rfl)⟩,
    List.forall_mem_cons.mpr ⟨⟨_, _, _, rfl, (by decide), rfl, .inl (hl_at (i := 418) (by decide +kernel) rfl)⟩,
    List.forall_mem_cons.mpr ⟨⟨_, _, _, rfl, (by decide), rfl, .inr ⟨"HourLines", List.mem_of_getElem? (i := 94) (by decide +kernel), by decide⟩⟩,
    List.forall_mem_cons.mpr ⟨⟨_, _, _, rfl, (by decide), rfl, .inr ⟨"HourLines", List.mem_of_getElem? (i := 95) (by decide +kernel), by decide⟩⟩,
    List.forall_mem_cons.mpr ⟨⟨_, _, _, rfl, (by decide), rfl, .inr ⟨"HourLines", List.mem_of_getElem? (i := 96) (by decide +kernel), by decide⟩⟩,
    fun _ h => absurd h List.not_mem_nil⟩⟩⟩⟩⟩⟩⟩⟩
theorem hl_fok_6 : ∀ e ∈ hl_flL 6, hl_fOK 6 e.1 e.2.1 e.2.2 := by
  unfold hl_flL
  exact List.forall_mem_cons.mpr ⟨⟨_, _, _, rfl, (by decide), rfl, .inl (hl_at (i := 354) (by decide +kernel) rfl)⟩,
    List.forall_mem_cons.mpr ⟨⟨_, _, _, rfl, (by decide), rfl, .inl (hl_at (i := 361) (by decide +kernel) rfl)⟩,
    List.forall_mem_cons.mpr ⟨⟨_, _, _, rfl, (by decide), rfl, .inl (hl_at (i := 363) (by decide +kernel) rfl)⟩,
    List.forall_mem_cons.mpr ⟨⟨_, _, _, rfl, (by decide), rfl, .inl (hl_at (i := 353) (by decide +kernel) rfl)⟩,
    List.forall_mem_cons.mpr ⟨⟨_, _, _, rfl, (by decide), rfl, .inl (hl_at (i := 356) (by decide +kernel) rfl)⟩,
    List.forall_mem_cons.mpr ⟨⟨_, _, _, rfl, (by decide), rfl, .inl (hl_at (i := 358) (by decide +kernel) rfl)⟩,
    List.forall_mem_cons.mpr ⟨⟨_, _, _, rfl, (by decide), rfl, .inl (hl_at (i := 359) (by decide +kernel) rfl)⟩,
    List.forall_mem_cons.mpr ⟨⟨_, _, _, rfl, (by decide), rfl, .inr ⟨"HourLines", List.mem_of_getElem? (i := 97) (by decide +kernel), by decide⟩⟩,
    List.forall_mem_cons.mpr ⟨⟨_, _, _, rfl, (by decide), rfl, .inr ⟨"HourLines", List.mem_of_getElem? (i := 98) (by decide +kernel), by decide⟩⟩,
    List.forall_mem_cons.mpr ⟨⟨_, _, _, rfl, (by decide), rfl, .inr ⟨"HourLines", List.mem_of_getElem? (i := 99) (by decide +kernel), by decide⟩⟩,
    List.forall_mem_cons.mpr ⟨⟨_, _, _, rfl, (by decide), rfl, .inl (hl_at (i := 360) (by decide +kernel) rfl)⟩,
    List.forall_mem_cons.mpr ⟨⟨_, _, _, rfl, (by decide), rfl, .inl (hl_at (i := 357) (by decide +kernel) rfl)⟩,
    fun _ h => absurd h List.not_mem_nil⟩⟩⟩⟩⟩⟩⟩⟩⟩⟩⟩⟩
theorem hl_fok_7 : ∀ e ∈ hl_flL 7, hl_fOK 7 e.1 e.2.1 e.2.2 := by
  unfold hl_flL
  exact List.forall_mem_cons.mpr ⟨⟨_, _, _, rfl, (by decide), rfl, .inl (hl_at (i := 335) (by decide +kernel) rfl)⟩,
    List.forall_mem_cons.mpr ⟨⟨_, _, _, rfl, (by decide), rfl, .inl (hl_at (i := 336) (by decide +kernel) rfl)⟩,
    List.forall_mem_cons.mpr ⟨⟨_, _, _, rfl, (by decide), rfl, .inl (hl_at (i := 339) (by decide +kernel) rfl)⟩,
    List.forall_mem_cons.mpr ⟨⟨_, _, _, rfl, (by decide), rfl, .inl (hl_at (i := 342) (by decide +kernel) rfl)⟩,
    fun _ h => absurd h List.not_mem_nil⟩⟩⟩⟩
theorem hl_fok_8 : ∀ e ∈ hl_flL 8, hl_fOK 8 e.1 e.2.1 e.2.2 := by
  unfold hl_flL
  exact List.forall_mem_cons.mpr ⟨⟨_, _, _, rfl, (by decide), rfl, .inl (hl_at (i := 201) (by decide +kernel) rfl)⟩,
    List.forall_mem_cons.mpr ⟨⟨_, _, _, rfl, (by decide), rfl, .inl (hl_at (i := 203) (by decide +kernel) rfl)⟩,
    List.forall_mem_cons.mpr ⟨⟨_, _, _, rfl, (by decide), rfl, .inl (hl_at (i := 205) (by decide +kernel) rfl)⟩,
    List.forall_mem_cons.mpr ⟨⟨_, _, _, rfl, (by decide), rfl, .inl (hl_at (i := 207) (by decide +kernel) rfl)⟩,
    fun _ h => absurd h List.not_mem_nil⟩⟩⟩⟩
theorem hl_fok_9 : ∀ e ∈ hl_flL 9, hl_fOK 9 e.1 e.2.1 e.2.2 := by
  unfold hl_flL
  exact List.forall_mem_cons.mpr ⟨⟨_, _, _, rfl, (by decide), rfl, .inl (hl_at (i := 227) (by decide +kernel) rfl)⟩,
    List.forall_mem_cons.mpr ⟨⟨_, _, _, rfl, (by decide), rfl, .inl (hl_at (i := 228) (by decide +kernel) rfl)⟩,
    List.forall_mem_cons.mpr ⟨⟨_, _, _, rfl, (by decide), rfl, .inl (hl_at (i := 229) (by decide +kernel) rfl)⟩,
    fun _ h => absurd h List.not_mem_nil⟩⟩⟩
theorem hl_fok_10 : ∀ e ∈ hl_flL 10, hl_fOK 10 e.1 e.2.1 e.2.2 := by
  unfold hl_flL
  exact List.forall_mem_cons.mpr ⟨⟨_, _, _, rfl, (by decide), rfl, .inl (hl_at (i := 395) (by decide +kernel) rfl)⟩,
    List.forall_mem_cons.mpr ⟨⟨_, _, _, rfl, (by decide), rfl, .inl (hl_at (i := 396) (by decide +kernel) rfl)⟩,
    List.forall_mem_cons.mpr ⟨⟨_, _, _, rfl, (by decide), rfl, .inl (hl_at (i := 393) (by decide +kernel) rfl)⟩,
    List.forall_mem_cons.mpr ⟨⟨_, _, _, rfl, (by decide), rfl, .inl (hl_at (i := 394) (by decide +kernel) rfl)⟩,
    List.forall_mem_cons.mpr ⟨⟨_, _, _, rfl, (by decide), rfl, .inr ⟨"HourLines", List.mem_of_getElem? (i := 100) (by decide +kernel), by decide⟩⟩,
    List.forall_mem_cons.mpr ⟨⟨_, _, _, rfl, (by decide), rfl, .inr ⟨"HourLines", List.mem_of_getElem? (i := 101) (by decide +kernel), by decide⟩⟩,
    List.forall_mem_cons.mpr ⟨⟨_, _, _, rfl, (by decide), rfl, .inr ⟨"HourLines", List.mem_of_getElem? (i := 102) (by decide +kernel), by decide⟩⟩,
    List.forall_mem_cons.mpr ⟨⟨_, _, _, rfl, (by decide), rfl, .inr ⟨"HourLines", List.mem_of_getElem? (i := 103) (by decide +kernel), by decide⟩⟩,
    List.forall_mem_cons.mpr ⟨⟨_, _, _, rfl, (by decide), rfl, .inr ⟨"HourLines", List.mem_of_getElem? (i := 104) (by decide +kernel), by decide⟩⟩,
    List.forall_mem_cons.mpr ⟨⟨_, _, _, rfl, (by decide), rfl, .inr ⟨"HourLines", List.mem_of_getElem? (i := 105) (by decide +kernel), by decide⟩⟩,
    List.forall_mem_cons.mpr ⟨⟨_, _, _, rfl, (by decide), rfl, .inl (hl_at (i := 397) (by decide +kernel) rfl)⟩,
    fun _ h => absurd h List.not_mem_nil⟩⟩⟩⟩⟩⟩⟩⟩⟩⟩⟩
theorem hl_fok_11 : ∀ e ∈ hl_flL 11, hl_fOK 11 e.1 e.2.1 e.2.2 := by
  unfold hl_flL
  exact List.forall_mem_cons.mpr ⟨⟨_, _, _, rfl, (by decide), rfl, .inl (hl_at (i := 543) (by decide +kernel) rfl)⟩,
    List.forall_mem_cons.mpr ⟨⟨_, _, _, rfl, (by decide), rfl, .inl (hl_at (i := 544) (by decide +kernel) rfl)⟩,
    List.forall_mem_cons.mpr ⟨⟨_, _, _, rfl, (by decide), rfl, .inl (hl_at (i := 545) (by decide +kernel) rfl)⟩,
    List.forall_mem_cons.mpr ⟨⟨_, _, _, rfl, (by decide), rfl, .inl (hl_at (i := 546) (by decide +kernel) rfl)⟩,
    List.forall_mem_cons.mpr ⟨⟨_, _, _, rfl, (by decide), rfl, .inl (hl_at (i := 547) (by decide +kernel) rfl)⟩,
    List.forall_mem_cons.mpr ⟨⟨_, _, _, rfl, (by decide), rfl, .inl (hl_at (i := 548) (by decide +kernel) rfl)⟩,
    List.forall_mem_cons.mpr ⟨⟨_, _, _, rfl, (by decide), rfl, .inl (hl_at (i := 550) (by decide +kernel) rfl)⟩,
    List.forall_mem_cons.mpr ⟨⟨_, _, _, rfl, (by decide), rfl, .inl (hl_at (i := 551) (by decide +kernel) rfl)⟩,
    List.forall_mem_cons.mpr ⟨⟨_, _, _, rfl, (by decide), rfl, .inl (hl_at (i := 552) (by decide +kernel) rfl)⟩,
    List.forall_mem_cons.mpr ⟨⟨_, _, _, rfl, (by decide), rfl, .inl (hl_at (i := 553) (by decide +kernel) rfl)⟩,
    List.forall_mem_cons.mpr ⟨⟨_, _, _, rfl, (by decide), rfl, .inl (hl_at (i := 554) (by decide +kernel) rfl)⟩,
    List.forall_mem_cons.mpr ⟨⟨_, _, _, rfl, (by decide), rfl, .inl (hl_at (i := 555) (by decide +kernel) rfl)⟩,
    List.forall_mem_cons.mpr ⟨⟨_, _, _, rfl, (by decide), rfl, .inl (hl_at (i := 556) (by decide +kernel) rfl)⟩,
    List.forall_mem_cons.mpr ⟨⟨_, _, _, rfl, (by decide), rfl, .inl (hl_at (i := 557) (by decide +kernel) rfl)⟩,
    List.forall_mem_cons.mpr ⟨⟨_, _, _, rfl, (by decide), rfl, .inl (hl_at (i := 558) (by decide +kernel) rfl)⟩,
    List.forall_mem_cons.mpr ⟨⟨_, _, _, rfl, (by decide), rfl, .inr ⟨"HourLines", List.mem_of_getElem? (i := 106) (by decide +kernel), by decide⟩⟩,
    List.forall_mem_cons.mpr ⟨⟨_, _, _, rfl, (by decide), rfl, .inr ⟨"HourLines", List.mem_of_getElem? (i := 107) (by decide +kernel), by decide⟩⟩,
    List.forall_mem_cons.mpr ⟨⟨_, _, _, rfl, (by decide), rfl, .inr ⟨"HourLines", List.mem_of_getElem? (i := 108) (by decide +kernel), by decide⟩⟩,
    List.forall_mem_cons.mpr ⟨⟨_, _, _, rfl, (by decide), rfl, .inr ⟨"HourLines", List.mem_of_getElem? (i := 109) (by decide +kernel), by decide⟩⟩,
    List.forall_mem_cons.mpr ⟨⟨_, _, _, rfl, (by decide), rfl, .inr ⟨"HourLines", List.mem_of_getElem? (i := 110) (by decide +kernel), by decide⟩⟩,
    List.forall_mem_cons.mpr ⟨⟨_, _, _, rfl, (by decide), rfl, .inr ⟨"HourLines", List.mem_of_getElem? (i := 111) (by decide +kernel), by decide⟩⟩,
    List.forall_mem_cons.mpr ⟨⟨_, _, _, rfl, (by decide), rfl, .inr ⟨"HourLines", List.mem_of_getElem? (i := 112) (by decide +kernel), by decide⟩⟩,
    List.forall_mem_cons.mpr ⟨⟨_, _, _, rfl, (by decide), rfl, .inr ⟨"HourLines", List.mem_of_getElem? (i := 113) (by decide +kernel), by decide⟩⟩,
    List.forall_mem_cons.mpr ⟨⟨_, _, _, rfl, (by decide), rfl, .inr ⟨"HourLines", List.mem_of_getElem? (i := 114) (by decide +kernel), by decide⟩⟩,
    List.forall_mem_cons.mpr ⟨⟨_, _, _, rfl, (by decide), rfl, .inr ⟨"HourLines", List.mem_of_getElem? (i := 115) (by decide +kernel), by decide⟩⟩,
    List.forall_mem_cons.mpr ⟨⟨_, _, _, rfl, (by decide), rfl, .inr ⟨"HourLines", List.mem_of_getElem? (i := 116) (by decide +kernel), by decide⟩⟩,
    List.forall_mem_cons.mpr ⟨⟨_, _, _, rfl, (by decide), rfl, .inr ⟨"HourLines", List.mem_of_getElem? (i := 117) (by decide +kernel), by decide⟩⟩,
    List.forall_mem_cons.mpr ⟨⟨_, _, _, rfl, (by decide), rfl, .inr ⟨"HourLines", List.mem_of_getElem? (i := 118) (by decide +kernel), by decide⟩⟩,
    List.forall_mem_cons.mpr ⟨⟨_, _, _, rfl, (by decide), rfl, .inl (hl_at (i := 549) (by decide +kernel) rfl)⟩,
    List.forall_mem_cons.mpr ⟨⟨_, _, _, rfl, (by decide), rfl, .inr ⟨"HourLines", List.mem_of_getElem? (i := 119) (by decide +kernel), by decide⟩⟩,
    List.forall_mem_cons.mpr ⟨⟨_, _, _, rfl, (by decide), rfl, .inr ⟨"HourLines", List.mem_of_getElem? (i := 120) (by decide +kernel), by decide⟩⟩,
    List.forall_mem_cons.mpr ⟨⟨_, _, _, rfl, (by decide), rfl, .inr ⟨"HourLines", List.mem_of_getElem? (i := 121) (by decide +kernel), by decide⟩⟩,
    List.forall_mem_cons.mpr ⟨⟨_, _, _, rfl, (by decide), rfl, .inr ⟨"HourLines", List.mem_of_getElem? (i := 122) (by decide +kernel), by decide⟩⟩,
    List.forall_mem_cons.mpr ⟨⟨_, _, _, rfl, (by decide), rfl, .inr ⟨"HourLines", List.mem_of_getElem? (i := 123) (by decide +kernel), by decide⟩⟩,
    List.forall_mem_cons.mpr ⟨⟨_, _, _, rfl, (by decide), rfl, .inr ⟨"HourLines", List.mem_of_getElem? (i := 124) (by decide +kernel), by decide⟩⟩,
    List.forall_mem_cons.mpr ⟨⟨_, _, _, rfl, (by decide), rfl, .inr ⟨"HourLines", List.mem_of_getElem? (i := 125) (by decide +kernel), by decide⟩⟩,
    List.forall_mem_cons.mpr ⟨⟨_, _, _, rfl, (by decide), rfl, .inr ⟨"HourLines", List.mem_of_getElem? (i := 126) (by decide +kernel), by decide⟩⟩,
    List.forall_mem_cons.mpr ⟨⟨_, _, _, rfl, (by decide), rfl, .inr ⟨"HourLines", List.mem_of_getElem? (i := 127) (by decide +kernel), by decide⟩⟩,
    List.forall_mem_cons.mpr ⟨⟨_, _, _, rfl, (by decide), rfl, .inr ⟨"HourLines", List.mem_of_getElem? (i := 128) (by decide +kernel), by decide⟩⟩,
    List.forall_mem_cons.mpr ⟨⟨_, _, _, rfl, (by decide), rfl, .inr ⟨"HourLines", List.mem_of_getElem? (i := 129) (by decide +kernel), by decide⟩⟩,
    List.forall_mem_cons.mpr ⟨⟨_, _, _, rfl, (by decide), rfl, .inr ⟨"HourLines", List.mem_of_getElem? (i := 130) (by decide +kernel), by decide⟩⟩,
    List.forall_mem_cons.mpr ⟨⟨_, _, _, rfl, (by decide), rfl, .inr ⟨"HourLines", List.mem_of_getElem? (i := 131) (by decide +kernel), by decide⟩⟩,
    fun _ h => absurd h List.not_mem_nil⟩⟩⟩⟩⟩⟩⟩⟩⟩⟩⟩⟩⟩⟩⟩⟩⟩⟩⟩⟩⟩⟩⟩⟩⟩⟩⟩⟩⟩⟩⟩⟩⟩⟩⟩⟩⟩⟩⟩⟩⟩⟩
theorem hl_fok_12 : ∀ e ∈ hl_flL 12, hl_fOK 12 e.1 e.2.1 e.2.2 := by
  unfold hl_flL
  exact List.forall_mem_cons.mpr ⟨⟨_, _, _, rfl, (by decide), rfl, .inl (hl_at (i := 1306) (by decide +kernel) rfl)⟩,
    List.forall_mem_cons.mpr ⟨⟨_, _, _, rfl, (by decide), rfl, .inl (hl_at (i := 1307) (by decide +kernel) rfl)⟩,
    List.forall_mem_cons.mpr ⟨⟨_, _, _, rfl, (by decide), rfl, .inl (hl_at (i := 1308) (by decide +kernel) rfl)⟩,
    List.forall_mem_cons.mpr ⟨⟨_, _, _, rfl, (by decide), rfl, .inl (hl_at (i := 1309) (by decide +kernel) rfl)⟩,
    List.forall_mem_cons.mpr ⟨⟨_, _, _, rfl, (by decide), rfl, .inl (hl_at (i := 1311) (by decide +kernel) rfl)⟩,
    List.forall_mem_cons.mpr ⟨⟨_, _, _, rfl, (by decide), rfl, .inl (hl_at (i := 1312) (by decide +kernel) rfl)⟩,
    List.forall_mem_cons.mpr ⟨⟨_, _, _, rfl, (by decide), rfl, .inl (hl_at (i := 1321) (by decide +kernel) rfl)⟩,
    List.forall_mem_cons.mpr ⟨⟨_, _, _, rfl, (by decide), rfl, .inl (hl_at (i := 1325) (by decide +kernel) rfl)⟩,
    List.forall_mem_cons.mpr ⟨⟨_, _, _, rfl, (by decide), rfl, .inl (hl_at (i := 1326) (by decide +kernel) rfl)⟩,
    List.forall_mem_cons.mpr ⟨⟨_, _, _, rfl, (by decide), rfl, .inl (hl_at (i := 1327) (by decide +kernel) rfl)⟩,
    List.forall_mem_cons.mpr ⟨⟨_, _, _, rfl, (by decide), rfl, .inl (hl_at (i := 1328) (by decide +kernel) rfl)⟩,
    List.forall_mem_cons.mpr ⟨⟨_, _, _, rfl, (by decide), rfl, .inl (hl_at (i := 1329) (by decide +kernel) rfl)⟩,
    List.forall_mem_cons.mpr ⟨⟨_, _, _, rfl, (by decide), rfl, .inl (hl_at (i := 1330) (by decide +kernel) rfl)⟩,
    List.forall_mem_cons.mpr ⟨⟨_, _, _, rfl, (by decide), rfl, .inl (hl_at (i := 1331) (by decide +kernel) rfl)⟩,
    List.forall_mem_cons.mpr ⟨⟨_, _, _, rfl, (by decide), rfl, .inl (hl_at (i := 1332) (by decide +kernel) rfl)⟩,
    List.forall_mem_cons.mpr ⟨⟨_, _, _, rfl, (by decide), rfl, .inl (hl_at (i := 1333) (by decide +kernel) rfl)⟩,
    List.forall_mem_cons.mpr ⟨⟨_, _, _, rfl, (by decide), rfl, .inl (hl_at (i := 1335) (by decide +kernel) rfl)⟩,
    List.forall_mem_cons.mpr ⟨⟨_, _, _, rfl, (by decide), rfl, .inl (hl_at (i := 1336) (by decide +kernel) rfl)⟩,
    List.forall_mem_cons.mpr ⟨⟨_, _, _, rfl, (by decide), rfl, .inl (hl_at (i := 1337) (by decide +kernel) rfl)⟩,
    List.forall_mem_cons.mpr ⟨⟨_, _, _, rfl, (by decide), rfl, .inl (hl_at (i := 1338) (by decide +kernel) rfl)⟩,
    List.forall_mem_cons.mpr ⟨⟨_, _, _, rfl, (by decide), rfl, .inl (hl_at (i := 1339) (by decide +kernel) rfl)⟩,
    List.forall_mem_cons.mpr ⟨⟨_, _, _, rfl, (by decide), rfl, .inl (hl_at (i := 1303) (by decide +kernel) rfl)⟩,
    List.forall_mem_cons.mpr ⟨⟨_, _, _, rfl, (by decide), rfl, .inl (hl_at (i := 1304) (by decide +kernel) rfl)⟩,
    List.forall_mem_cons.mpr ⟨⟨_, _, _, rfl, (by decide), rfl, .inl (hl_at (i := 1305) (by decide +kernel) rfl)⟩,
    List.forall_mem_cons.mpr ⟨⟨_, _, _, rfl, (by decide), rfl, .inl (hl_at (i := 1310) (by decide +kernel) rfl)⟩,
    List.forall_mem_cons.mpr ⟨⟨_, _, _, rfl, (by decide), rfl, .inl (hl_at (i := 1313) (by decide +kernel) rfl)⟩,
    List.forall_mem_cons.mpr ⟨⟨_, _, _, rfl, (by decide), rfl, .inl (hl_at (i := 1314) (by decide +kernel) rfl)⟩,
    List.forall_mem_cons.mpr ⟨⟨_, _, _, rfl, (by decide), rfl, .inl (hl_at (i := 1315) (by decide +kernel) rfl)⟩,
    List.forall_mem_cons.mpr ⟨⟨_, _, _, rfl, (by decide), rfl, .inl (hl_at (i := 1316) (by decide +kernel) rfl)⟩,
    List.forall_mem_cons.mpr ⟨⟨_, _, _, rfl, (by decide), rfl, .inl (hl_at (i := 1317) (by decide +kernel) rfl)⟩,
    List.forall_mem_cons.mpr ⟨⟨_, _, _, rfl, (by decide), rfl, .inl (hl_at (i := 1318) (by decide +kernel) rfl)⟩,
    List.forall_mem_cons.mpr ⟨⟨_, _, _, rfl, (by decide), rfl, .inl (hl_at (i := 1319) (by decide +kernel) rfl)⟩,
    List.forall_mem_cons.mpr ⟨⟨_, _, _, rfl, (by decide), rfl, .inl (hl_at (i := 1322) (by decide +kernel) rfl)⟩,
    List.forall_mem_cons.mpr ⟨⟨_, _, _, rfl, (by decide), rfl, .inl (hl_at (i := 1323) (by decide +kernel) rfl)⟩,
    List.forall_mem_cons.mpr ⟨⟨_, _, _, rfl, (by decide), rfl, .inl (hl_at (i := 1324) (by decide +kernel) rfl)⟩,
    List.forall_mem_cons.mpr ⟨⟨_, _, _, rfl, (by decide), rfl, .inl (hl_at (i := 1320) (by decide +kernel) rfl)⟩,
    List.forall_mem_cons.mpr ⟨⟨_, _, _, rfl, (by decide), rfl, .inl (hl_at (i := 1334) (by decide +kernel) rfl)⟩,
    fun _ h => absurd h List.not_mem_nil⟩⟩⟩⟩⟩⟩⟩⟩⟩⟩⟩⟩⟩⟩⟩⟩⟩⟩⟩⟩⟩⟩⟩⟩⟩⟩⟩⟩⟩⟩⟩⟩⟩⟩⟩⟩⟩
/-- a call's link -/
def hl_mOK (o ix j : Nat) : Prop := Cond.methodLink (hl_R o) ix (hl_y j) ∈ hl_G ∨ ∃ host, Cond.methodLinkNest (hl_R o) ix (hl_y j) host ∈ hl_nest ∧ hl_kd j < 3
theorem hl_mok_0 : ∀ e ∈ hl_mlL 0, hl_mOK 0 e.1 e.2 := by
  unfold hl_mlL
  exact List.forall_mem_cons.mpr ⟨.inl (hl_at (i := 520) (by decide +kernel) rfl),
    List.forall_mem_cons.mpr ⟨.inl (hl_at (i := 1163) (by decide +kernel) rfl),
    List.forall_mem_cons.mpr ⟨.inl (hl_at (i := 1164) (by decide +kernel) rfl),
    List.forall_mem_cons.mpr ⟨.inl (hl_at (i := 1168) (by decide +kernel) rfl),
    List.forall_mem_cons.mpr ⟨.inl (hl_at (i := 1183) (by decide +kernel) rfl),
    List.forall_mem_cons.mpr ⟨.inr ⟨"HourLines", List.mem_of_getElem? (i := 0) (by decide +kernel), by decide +kernel⟩,
    List.forall_mem_cons.mpr ⟨.inr ⟨"HourLines", List.mem_of_getElem? (i := 1) (by decide +kernel), by decide +kernel⟩,
    List.forall_mem_cons.mpr ⟨.inr ⟨"HourLines", List.mem_of_getElem? (i := 2) (by decide +kernel), by decide +kernel⟩,
    List.forall_mem_cons.mpr ⟨.inr ⟨"HourLines", List.mem_of_getElem? (i := 3) (by decide +kernel), by decide +kernel⟩,
    List.forall_mem_cons.mpr ⟨.inr ⟨"HourLines", List.mem_of_getElem? (i := 4) (by decide +kernel), by decide +kernel⟩,
    List.forall_mem_cons.mpr ⟨.inr ⟨"HourLines", List.mem_of_getElem? (i := 5) (by decide +kernel), by decide +kernel⟩,
    fun _ h => absurd h List.not_mem_nil⟩⟩⟩⟩⟩⟩⟩⟩⟩⟩⟩
theorem hl_mok_1 : ∀ e ∈ hl_mlL 1, hl_mOK 1 e.1 e.2 := by
  unfold hl_mlL
  exact List.forall_mem_cons.mpr ⟨.inl (hl_at (i := 194) (by decide +kernel) rfl),
    List.forall_mem_cons.mpr ⟨.inr ⟨"HourLines", List.mem_of_getElem? (i := 6) (by decide +kernel), by decide +kernel⟩,
    List.forall_mem_cons.mpr ⟨.inr ⟨"HourLines", List.mem_of_getElem? (i := 7) (by decide +kernel), by decide +kernel⟩,
    List.forall_mem_cons.mpr ⟨.inl (hl_at (i := 1268) (by decide +kernel) rfl),
    List.forall_mem_cons.mpr ⟨.inr ⟨"HourLines", List.mem_of_getElem? (i := 8) (by decide +kernel), by decide +kernel⟩,
    List.forall_mem_cons.mpr ⟨.inr ⟨"HourLines", List.mem_of_getElem? (i := 9) (by decide +kernel), by decide +kernel⟩,
    List.forall_mem_cons.mpr ⟨.inr ⟨"HourLines", List.mem_of_getElem? (i := 10) (by decide +kernel), by decide +kernel⟩,
    List.forall_mem_cons.mpr ⟨.inl (hl_at (i := 896) (by decide +kernel) rfl),
    List.forall_mem_cons.mpr ⟨.inl (hl_at (i := 1003) (by decide +kernel) rfl),
    fun _ h => absurd h List.not_mem_nil⟩⟩⟩⟩⟩⟩⟩⟩⟩
theorem hl_mok_2 : ∀ e ∈ hl_mlL 2, hl_mOK 2 e.1 e.2 := by
  unfold hl_mlL
  exact List.forall_mem_cons.mpr ⟨.inl (hl_at (i := 452) (by decide +kernel) rfl),
    List.forall_mem_cons.mpr ⟨.inr ⟨"HourLines", List.mem_of_getElem? (i := 11) (by decide +kernel), by decide +kernel⟩,
    List.forall_mem_cons.mpr ⟨.inr ⟨"HourLines", List.mem_of_getElem? (i := 12) (by decide +kernel), by decide +kernel⟩,
    List.forall_mem_cons.mpr ⟨.inl (hl_at (i := 1058) (by decide +kernel) rfl),
    List.forall_mem_cons.mpr ⟨.inl (hl_at (i := 1070) (by decide +kernel) rfl),
    List.forall_mem_cons.mpr ⟨.inl (hl_at (i := 1078) (by decide +kernel) rfl),
    List.forall_mem_cons.mpr ⟨.inl (hl_at (i := 1079) (by decide +kernel) rfl),
    List.forall_mem_cons.mpr ⟨.inl (hl_at (i := 1074) (by decide +kernel) rfl),
    List.forall_mem_cons.mpr ⟨.inl (hl_at (i := 1084) (by decide +kernel) rfl),
    List.forall_mem_cons.mpr ⟨.inl (hl_at (i := 1091) (by decide +kernel) rfl),
    List.forall_mem_cons.mpr ⟨.inl (hl_at (i := 1088) (by decide +kernel) rfl),
    fun _ h => absurd h List.not_mem_nil⟩⟩⟩⟩⟩⟩⟩⟩⟩⟩⟩
theorem hl_mok_3 : ∀ e ∈ hl_mlL 3, hl_mOK 3 e.1 e.2 := by
  unfold hl_mlL
  exact List.forall_mem_cons.mpr ⟨.inl (hl_at (i := 446) (by decide +kernel) rfl),
    List.forall_mem_cons.mpr ⟨.inr ⟨"HourLines", List.mem_of_getElem? (i := 13) (by decide +kernel), by decide +kernel⟩,
    List.forall_mem_cons.mpr ⟨.inl (hl_at (i := 485) (by decide +kernel) rfl),
    List.forall_mem_cons.mpr ⟨.inl (hl_at (i := 1026) (by decide +kernel) rfl),
    List.forall_mem_cons.mpr ⟨.inl (hl_at (i := 1030) (by decide +kernel) rfl),
    List.forall_mem_cons.mpr ⟨.inr ⟨"HourLines", List.mem_of_getElem? (i := 14) (by decide +kernel), by decide +kernel⟩,
    List.forall_mem_cons.mpr ⟨.inl (hl_at (i := 1045) (by decide +kernel) rfl),
    List.forall_mem_cons.mpr ⟨.inl (hl_at (i := 1062) (by decide +kernel) rfl),
    List.forall_mem_cons.mpr ⟨.inr ⟨"HourLines", List.mem_of_getElem? (i := 15) (by decide +kernel), by decide +kernel⟩,
    List.forall_mem_cons.mpr ⟨.inl (hl_at (i := 1034) (by decide +kernel) rfl),
    List.forall_mem_cons.mpr ⟨.inl (hl_at (i := 1095) (by decide +kernel) rfl),
    List.forall_mem_cons.mpr ⟨.inr ⟨"HourLines", List.mem_of_getElem? (i := 16) (by decide +kernel), by decide +kernel⟩,
    List.forall_mem_cons.mpr ⟨.inl (hl_at (i := 1049) (by decide +kernel) rfl),
    List.forall_mem_cons.mpr ⟨.inr ⟨"HourLines", List.mem_of_getElem? (i := 17) (by decide +kernel), by decide +kernel⟩,
    List.forall_mem_cons.mpr ⟨.inr ⟨"HourLines", List.mem_of_getElem? (i := 18) (by decide +kernel), by decide +kernel⟩,
    List.forall_mem_cons.mpr ⟨.inl (hl_at (i := 1131) (by decide +kernel) rfl),
    List.forall_mem_cons.mpr ⟨.inl (hl_at (i := 1137) (by decide +kernel) rfl),
    fun _ h => absurd h List.not_mem_nil⟩⟩⟩⟩⟩⟩⟩⟩⟩⟩⟩⟩⟩⟩⟩⟩⟩
theorem hl_mok_4 : ∀ e ∈ hl_mlL 4, hl_mOK 4 e.1 e.2 := by
  unfold hl_mlL
  exact List.forall_mem_cons.mpr ⟨.inl (hl_at (i := 433) (by decide +kernel) rfl),
    List.forall_mem_cons.mpr ⟨.inl (hl_at (i := 972) (by decide +kernel) rfl),
    List.forall_mem_cons.mpr ⟨.inl (hl_at (i := 976) (by decide +kernel) rfl),
    List.forall_mem_cons.mpr ⟨.inl (hl_at (i := 980) (by decide +kernel) rfl),
    List.forall_mem_cons.mpr ⟨.inl (hl_at (i := 1011) (by decide +kernel) rfl),
    fun _ h => absurd h List.not_mem_nil⟩⟩⟩⟩⟩
theorem hl_mok_5 : ∀ e ∈ hl_mlL 5, hl_mOK 5 e.1 e.2 := by
  unfold hl_mlL
  exact List.forall_mem_cons.mpr ⟨.inl (hl_at (i := 414) (by decide +kernel) rfl),
    List.forall_mem_cons.mpr ⟨.inl (hl_at (i := 905) (by decide +kernel) rfl),
    List.forall_mem_cons.mpr ⟨.inr ⟨"HourLines", List.mem_of_getElem? (i := 19) (by decide +kernel), by decide +kernel⟩,
    List.forall_mem_cons.mpr ⟨.inl (hl_at (i := 910) (by decide +kernel) rfl),
    List.forall_mem_cons.mpr ⟨.inr ⟨"HourLines", List.mem_of_getElem? (i := 20) (by decide +kernel), by decide +kernel⟩,
    List.forall_mem_cons.mpr ⟨.inr ⟨"HourLines", List.mem_of_getElem? (i := 21) (by decide +kernel), by decide +kernel⟩,
    List.forall_mem_cons.mpr ⟨.inl (hl_at (i := 921) (by decide +kernel) rfl),
    List.forall_mem_cons.mpr ⟨.inr ⟨"HourLines", List.mem_of_getElem? (i := 22) (by decide +kernel), by decide +kernel⟩,
    List.forall_mem_cons.mpr ⟨.inr ⟨"HourLines", List.mem_of_getElem? (i := 23) (by decide +kernel), by decide +kernel⟩,
    List.forall_mem_cons.mpr ⟨.inl (hl_at (i := 989) (by decide +kernel) rfl),
    List.forall_mem_cons.mpr ⟨.inl (hl_at (i := 1154) (by decide +kernel) rfl),
    fun _ h => absurd h List.not_mem_nil⟩⟩⟩⟩⟩⟩⟩⟩⟩⟩⟩
theorem hl_mok_6 : ∀ e ∈ hl_mlL 6, hl_mOK 6 e.1 e.2 := by
  unfold hl_mlL
  exact List.forall_mem_cons.mpr ⟨.inl (hl_at (i := 328) (by decide +kernel) rfl),
    List.forall_mem_cons.mpr ⟨.inr ⟨"HourLines", List.mem_of_getElem? (i := 24) (by decide +kernel), by decide +kernel⟩,
    List.forall_mem_cons.mpr ⟨.inr ⟨"HourLines", List.mem_of_getElem? (i := 25) (by decide +kernel), by decide +kernel⟩,
    List.forall_mem_cons.mpr ⟨.inl (hl_at (i := 670) (by decide +kernel) rfl),
    List.forall_mem_cons.mpr ⟨.inl (hl_at (i := 800) (by decide +kernel) rfl),
    List.forall_mem_cons.mpr ⟨.inr ⟨"HourLines", List.mem_of_getElem? (i := 26) (by decide +kernel), by decide +kernel⟩,
    List.forall_mem_cons.mpr ⟨.inl (hl_at (i := 805) (by decide +kernel) rfl),
    List.forall_mem_cons.mpr ⟨.inr ⟨"HourLines", List.mem_of_getElem? (i := 27) (by decide +kernel), by decide +kernel⟩,
    List.forall_mem_cons.mpr ⟨.inl (hl_at (i := 813) (by decide +kernel) rfl),
    List.forall_mem_cons.mpr ⟨.inl (hl_at (i := 829) (by decide +kernel) rfl),
    List.forall_mem_cons.mpr ⟨.inl (hl_at (i := 845) (by decide +kernel) rfl),
    List.forall_mem_cons.mpr ⟨.inl (hl_at (i := 817) (by decide +kernel) rfl),
    List.forall_mem_cons.mpr ⟨.inr ⟨"HourLines", List.mem_of_getElem? (i := 28) (by decide +kernel), by decide +kernel⟩,
    List.forall_mem_cons.mpr ⟨.inl (hl_at (i := 821) (by decide +kernel) rfl),
    List.forall_mem_cons.mpr ⟨.inl (hl_at (i := 833) (by decide +kernel) rfl),
    List.forall_mem_cons.mpr ⟨.inl (hl_at (i := 837) (by decide +kernel) rfl),
    List.forall_mem_cons.mpr ⟨.inl (hl_at (i := 841) (by decide +kernel) rfl),
    List.forall_mem_cons.mpr ⟨.inl (hl_at (i := 849) (by decide +kernel) rfl),
    List.forall_mem_cons.mpr ⟨.inr ⟨"HourLines", List.mem_of_getElem? (i := 29) (by decide +kernel), by decide +kernel⟩,
    List.forall_mem_cons.mpr ⟨.inl (hl_at (i := 674) (by decide +kernel) rfl),
    List.forall_mem_cons.mpr ⟨.inl (hl_at (i := 677) (by decide +kernel) rfl),
    List.forall_mem_cons.mpr ⟨.inl (hl_at (i := 730) (by decide +kernel) rfl),
    List.forall_mem_cons.mpr ⟨.inl (hl_at (i := 733) (by decide +kernel) rfl),
    List.forall_mem_cons.mpr ⟨.inl (hl_at (i := 740) (by decide +kernel) rfl),
    List.forall_mem_cons.mpr ⟨.inl (hl_at (i := 682) (by decide +kernel) rfl),
    List.forall_mem_cons.mpr ⟨.inl (hl_at (i := 692) (by decide +kernel) rfl),
    List.forall_mem_cons.mpr ⟨.inl (hl_at (i := 737) (by decide +kernel) rfl),
    List.forall_mem_cons.mpr ⟨.inl (hl_at (i := 745) (by decide +kernel) rfl),
    fun _ h => absurd h List.not_mem_nil⟩⟩⟩⟩⟩⟩⟩⟩⟩⟩⟩⟩⟩⟩⟩⟩⟩⟩⟩⟩⟩⟩⟩⟩⟩⟩⟩⟩
theorem hl_mok_7 : ∀ e ∈ hl_mlL 7, hl_mOK 7 e.1 e.2 := by
  unfold hl_mlL
  exact List.forall_mem_cons.mpr ⟨.inl (hl_at (i := 334) (by decide +kernel) rfl),
    List.forall_mem_cons.mpr ⟨.inl (hl_at (i := 866) (by decide +kernel) rfl),
    List.forall_mem_cons.mpr ⟨.inr ⟨"HourLines", List.mem_of_getElem? (i := 30) (by decide +kernel), by decide +kernel⟩,
    List.forall_mem_cons.mpr ⟨.inl (hl_at (i := 858) (by decide +kernel) rfl),
    fun _ h => absurd h List.not_mem_nil⟩⟩⟩⟩
theorem hl_mok_8 : ∀ e ∈ hl_mlL 8, hl_mOK 8 e.1 e.2 := by
  unfold hl_mlL
  exact List.forall_mem_cons.mpr ⟨.inl (hl_at (i := 200) (by decide +kernel) rfl),
    List.forall_mem_cons.mpr ⟨.inl (hl_at (i := 1273) (by decide +kernel) rfl),
    List.forall_mem_cons.mpr ⟨.inl (hl_at (i := 994) (by decide +kernel) rfl),
    List.forall_mem_cons.mpr ⟨.inl (hl_at (i := 1177) (by decide +kernel) rfl),
    List.forall_mem_cons.mpr ⟨.inl (hl_at (i := 1259) (by decide +kernel) rfl),
    List.forall_mem_cons.mpr ⟨.inl (hl_at (i := 1115) (by decide +kernel) rfl),
    fun _ h => absurd h List.not_mem_nil⟩⟩⟩⟩⟩⟩
theorem hl_mok_9 : ∀ e ∈ hl_mlL 9, hl_mOK 9 e.1 e.2 := by
  unfold hl_mlL
  exact List.forall_mem_cons.mpr ⟨.inl (hl_at (i := 226) (by decide +kernel) rfl),
    List.forall_mem_cons.mpr ⟨.inl (hl_at (i := 1278) (by decide +kernel) rfl),
    List.forall_mem_cons.mpr ⟨.inl (hl_at (i := 1230) (by decide +kernel) rfl),
    fun _ h => absurd h List.not_mem_nil⟩⟩⟩
theorem hl_mok_10 : ∀ e ∈ hl_mlL 10, hl_mOK 10 e.1 e.2 := by
  unfold hl_mlL
  exact List.forall_mem_cons.mpr ⟨.inl (hl_at (i := 392) (by decide +kernel) rfl),
    List.forall_mem_cons.mpr ⟨.inr ⟨"HourLines", List.mem_of_getElem? (i := 31) (by decide +kernel), by decide +kernel⟩,
    List.forall_mem_cons.mpr ⟨.inr ⟨"HourLines", List.mem_of_getElem? (i := 32) (by decide +kernel), by decide +kernel⟩,
    List.forall_mem_cons.mpr ⟨.inl (hl_at (i := 928) (by decide +kernel) rfl),
    List.forall_mem_cons.mpr ⟨.inr ⟨"HourLines", List.mem_of_getElem? (i := 33) (by decide +kernel), by decide +kernel⟩,
    List.forall_mem_cons.mpr ⟨.inl (hl_at (i := 930) (by decide +kernel) rfl),
    List.forall_mem_cons.mpr ⟨.inr ⟨"HourLines", List.mem_of_getElem? (i := 34) (by decide +kernel), by decide +kernel⟩,
    List.forall_mem_cons.mpr ⟨.inl (hl_at (i := 932) (by decide +kernel) rfl),
    List.forall_mem_cons.mpr ⟨.inr ⟨"HourLines", List.mem_of_getElem? (i := 35) (by decide +kernel), by decide +kernel⟩,
    List.forall_mem_cons.mpr ⟨.inr ⟨"HourLines", List.mem_of_getElem? (i := 36) (by decide +kernel), by decide +kernel⟩,
    List.forall_mem_cons.mpr ⟨.inl (hl_at (i := 941) (by decide +kernel) rfl),
    List.forall_mem_cons.mpr ⟨.inl (hl_at (i := 945) (by decide +kernel) rfl),
    List.forall_mem_cons.mpr ⟨.inl (hl_at (i := 949) (by decide +kernel) rfl),
    List.forall_mem_cons.mpr ⟨.inl (hl_at (i := 952) (by decide +kernel) rfl),
    fun _ h => absurd h List.not_mem_nil⟩⟩⟩⟩⟩⟩⟩⟩⟩⟩⟩⟩⟩⟩
theorem hl_mok_11 : ∀ e ∈ hl_mlL 11, hl_mOK 11 e.1 e.2 := by
  unfold hl_mlL
  exact List.forall_mem_cons.mpr ⟨.inl (hl_at (i := 183) (by decide +kernel) rfl),
    List.forall_mem_cons.mpr ⟨.inl (hl_at (i := 186) (by decide +kernel) rfl),
    List.forall_mem_cons.mpr ⟨.inr ⟨"HourLines", List.mem_of_getElem? (i := 37) (by decide +kernel), by decide +kernel⟩,
    List.forall_mem_cons.mpr ⟨.inr ⟨"HourLines", List.mem_of_getElem? (i := 38) (by decide +kernel), by decide +kernel⟩,
    List.forall_mem_cons.mpr ⟨.inr ⟨"HourLines", List.mem_of_getElem? (i := 39) (by decide +kernel), by decide +kernel⟩,
    List.forall_mem_cons.mpr ⟨.inr ⟨"HourLines", List.mem_of_getElem? (i := 40) (by decide +kernel), by decide +kernel⟩,
    List.forall_mem_cons.mpr ⟨.inr ⟨"HourLines", List.mem_of_getElem? (i := 41) (by decide +kernel), by decide +kernel⟩,
    List.forall_mem_cons.mpr ⟨.inr ⟨"HourLines", List.mem_of_getElem? (i := 42) (by decide +kernel), by decide +kernel⟩,
    List.forall_mem_cons.mpr ⟨.inr ⟨"HourLines", List.mem_of_getElem? (i := 43) (by decide +kernel), by decide +kernel⟩,
    List.forall_mem_cons.mpr ⟨.inr ⟨"HourLines", List.mem_of_getElem? (i := 44) (by decide +kernel), by decide +kernel⟩,
    List.forall_mem_cons.mpr ⟨.inl (hl_at (i := 596) (by decide +kernel) rfl),
    List.forall_mem_cons.mpr ⟨.inl (hl_at (i := 600) (by decide +kernel) rfl),
    List.forall_mem_cons.mpr ⟨.inr ⟨"HourLines", List.mem_of_getElem? (i := 45) (by decide +kernel), by decide +kernel⟩,
    List.forall_mem_cons.mpr ⟨.inr ⟨"HourLines", List.mem_of_getElem? (i := 46) (by decide +kernel), by decide +kernel⟩,
    List.forall_mem_cons.mpr ⟨.inr ⟨"HourLines", List.mem_of_getElem? (i := 47) (by decide +kernel), by decide +kernel⟩,
    List.forall_mem_cons.mpr ⟨.inl (hl_at (i := 627) (by decide +kernel) rfl),
    List.forall_mem_cons.mpr ⟨.inl (hl_at (i := 638) (by decide +kernel) rfl),
    List.forall_mem_cons.mpr ⟨.inl (hl_at (i := 650) (by decide +kernel) rfl),
    List.forall_mem_cons.mpr ⟨.inr ⟨"HourLines", List.mem_of_getElem? (i := 48) (by decide +kernel), by decide +kernel⟩,
    List.forall_mem_cons.mpr ⟨.inr ⟨"HourLines", List.mem_of_getElem? (i := 49) (by decide +kernel), by decide +kernel⟩,
    List.forall_mem_cons.mpr ⟨.inr ⟨"HourLines", List.mem_of_getElem? (i := 50) (by decide +kernel), by decide +kernel⟩,
    List.forall_mem_cons.mpr ⟨.inr ⟨"HourLines", List.mem_of_getElem? (i := 51) (by decide +kernel), by decide +kernel⟩,
    List.forall_mem_cons.mpr ⟨.inr ⟨"HourLines", List.mem_of_getElem? (i := 52) (by decide +kernel), by decide +kernel⟩,
    List.forall_mem_cons.mpr ⟨.inr ⟨"HourLines", List.mem_of_getElem? (i := 53) (by decide +kernel), by decide +kernel⟩,
    List.forall_mem_cons.mpr ⟨.inr ⟨"HourLines", List.mem_of_getElem? (i := 54) (by decide +kernel), by decide +kernel⟩,
    List.forall_mem_cons.mpr ⟨.inr ⟨"HourLines", List.mem_of_getElem? (i := 55) (by decide +kernel), by decide +kernel⟩,
    List.forall_mem_cons.mpr ⟨.inl (hl_at (i := 981) (by decide +kernel) rfl),
    List.forall_mem_cons.mpr ⟨.inr ⟨"HourLines", List.mem_of_getElem? (i := 56) (by decide +kernel), by decide +kernel⟩,
    List.forall_mem_cons.mpr ⟨.inr ⟨"HourLines", List.mem_of_getElem? (i := 57) (by decide +kernel), by decide +kernel⟩,
    List.forall_mem_cons.mpr ⟨.inr ⟨"HourLines", List.mem_of_getElem? (i := 58) (by decide +kernel), by decide +kernel⟩,
    List.forall_mem_cons.mpr ⟨.inr ⟨"HourLines", List.mem_of_getElem? (i := 59) (by decide +kernel), by decide +kernel⟩,
    List.forall_mem_cons.mpr ⟨.inr ⟨"HourLines", List.mem_of_getElem? (i := 60) (by decide +kernel), by decide +kernel⟩,
    List.forall_mem_cons.mpr ⟨.inl (hl_at (i := 1018) (by decide +kernel) rfl),
    List.forall_mem_cons.mpr ⟨.inr ⟨"HourLines", List.mem_of_getElem? (i := 61) (by decide +kernel), by decide +kernel⟩,
    List.forall_mem_cons.mpr ⟨.inr ⟨"HourLines", List.mem_of_getElem? (i := 62) (by decide +kernel), by decide +kernel⟩,
    List.forall_mem_cons.mpr ⟨.inr ⟨"HourLines", List.mem_of_getElem? (i := 63) (by decide +kernel), by decide +kernel⟩,
    List.forall_mem_cons.mpr ⟨.inr ⟨"HourLines", List.mem_of_getElem? (i := 64) (by decide +kernel), by decide +kernel⟩,
    List.forall_mem_cons.mpr ⟨.inr ⟨"HourLines", List.mem_of_getElem? (i := 65) (by decide +kernel), by decide +kernel⟩,
    List.forall_mem_cons.mpr ⟨.inr ⟨"HourLines", List.mem_of_getElem? (i := 66) (by decide +kernel), by decide +kernel⟩,
    List.forall_mem_cons.mpr ⟨.inr ⟨"HourLines", List.mem_of_getElem? (i := 67) (by decide +kernel), by decide +kernel⟩,
    List.forall_mem_cons.mpr ⟨.inl (hl_at (i := 1197) (by decide +kernel) rfl),
    List.forall_mem_cons.mpr ⟨.inr ⟨"HourLines", List.mem_of_getElem? (i := 68) (by decide +kernel), by decide +kernel⟩,
    List.forall_mem_cons.mpr ⟨.inr ⟨"HourLines", List.mem_of_getElem? (i := 69) (by decide +kernel), by decide +kernel⟩,
    List.forall_mem_cons.mpr ⟨.inr ⟨"HourLines", List.mem_of_getElem? (i := 70) (by decide +kernel), by decide +kernel⟩,
    List.forall_mem_cons.mpr ⟨.inr ⟨"HourLines", List.mem_of_getElem? (i := 71) (by decide +kernel), by decide +kernel⟩,
    List.forall_mem_cons.mpr ⟨.inl (hl_at (i := 1235) (by decide +kernel) rfl),
    List.forall_mem_cons.mpr ⟨.inl (hl_at (i := 1246) (by decide +kernel) rfl),
    List.forall_mem_cons.mpr ⟨.inl (hl_at (i := 1254) (by decide +kernel) rfl),
    List.forall_mem_cons.mpr ⟨.inr ⟨"HourLines", List.mem_of_getElem? (i := 72) (by decide +kernel), by decide +kernel⟩,
    List.forall_mem_cons.mpr ⟨.inr ⟨"HourLines", List.mem_of_getElem? (i := 73) (by decide +kernel), by decide +kernel⟩,
    List.forall_mem_cons.mpr ⟨.inl (hl_at (i := 1287) (by decide +kernel) rfl),
    List.forall_mem_cons.mpr ⟨.inl (hl_at (i := 1239) (by decide +kernel) rfl),
    List.forall_mem_cons.mpr ⟨.inr ⟨"HourLines", List.mem_of_getElem? (i := 74) (by decide +kernel), by decide +kernel⟩,
    List.forall_mem_cons.mpr ⟨.inr ⟨"HourLines", List.mem_of_getElem? (i := 75) (by decide +kernel), by decide +kernel⟩,
    List.forall_mem_cons.mpr ⟨.inr ⟨"HourLines", List.mem_of_getElem? (i := 76) (by decide +kernel), by decide +kernel⟩,
    fun _ h => absurd h List.not_mem_nil⟩⟩⟩⟩⟩⟩⟩⟩⟩⟩⟩⟩⟩⟩⟩⟩⟩⟩⟩⟩⟩⟩⟩⟩⟩⟩⟩⟩⟩⟩⟩⟩⟩⟩⟩⟩⟩⟩⟩⟩⟩⟩⟩⟩⟩⟩⟩⟩⟩⟩⟩⟩⟩⟩⟩
theorem hl_mok_12 : ∀ e ∈ hl_mlL 12, hl_mOK 12 e.1 e.2 := by
  unfold hl_mlL
  exact List.forall_mem_cons.mpr ⟨.inl (hl_at (i := 1299) (by decide +kernel) rfl),
    List.forall_mem_cons.mpr ⟨.inl (hl_at (i := 1300) (by decide +kernel) rfl),
    List.forall_mem_cons.mpr ⟨.inl (hl_at (i := 1425) (by decide +kernel) rfl),
    List.forall_mem_cons.mpr ⟨.inl (hl_at (i := 1421) (by decide +kernel) rfl),
    List.forall_mem_cons.mpr ⟨.inl (hl_at (i := 1436) (by decide +kernel) rfl),
    List.forall_mem_cons.mpr ⟨.inl (hl_at (i := 1444) (by decide +kernel) rfl),
    List.forall_mem_cons.mpr ⟨.inl (hl_at (i := 1455) (by decide +kernel) rfl),
    List.forall_mem_cons.mpr ⟨.inl (hl_at (i := 1467) (by decide +kernel) rfl),
    List.forall_mem_cons.mpr ⟨.inl (hl_at (i := 1487) (by decide +kernel) rfl),
    List.forall_mem_cons.mpr ⟨.inl (hl_at (i := 1491) (by decide +kernel) rfl),
    List.forall_mem_cons.mpr ⟨.inl (hl_at (i := 1495) (by decide +kernel) rfl),
    List.forall_mem_cons.mpr ⟨.inl (hl_at (i := 1509) (by decide +kernel) rfl),
    List.forall_mem_cons.mpr ⟨.inl (hl_at (i := 1575) (by decide +kernel) rfl),
    List.forall_mem_cons.mpr ⟨.inl (hl_at (i := 1540) (by decide +kernel) rfl),
    List.forall_mem_cons.mpr ⟨.inl (hl_at (i := 1552) (by decide +kernel) rfl),
    List.forall_mem_cons.mpr ⟨.inl (hl_at (i := 1548) (by decide +kernel) rfl),
    List.forall_mem_cons.mpr ⟨.inl (hl_at (i := 1532) (by decide +kernel) rfl),
    List.forall_mem_cons.mpr ⟨.inl (hl_at (i := 1528) (by decide +kernel) rfl),
    List.forall_mem_cons.mpr ⟨.inl (hl_at (i := 1556) (by decide +kernel) rfl),
    List.forall_mem_cons.mpr ⟨.inl (hl_at (i := 1483) (by decide +kernel) rfl),
    List.forall_mem_cons.mpr ⟨.inl (hl_at (i := 1568) (by decide +kernel) rfl),
    List.forall_mem_cons.mpr ⟨.inl (hl_at (i := 1560) (by decide +kernel) rfl),
    List.forall_mem_cons.mpr ⟨.inl (hl_at (i := 1578) (by decide +kernel) rfl),
    List.forall_mem_cons.mpr ⟨.inl (hl_at (i := 1512) (by decide +kernel) rfl),
    List.forall_mem_cons.mpr ⟨.inl (hl_at (i := 1583) (by decide +kernel) rfl),
    List.forall_mem_cons.mpr ⟨.inl (hl_at (i := 1536) (by decide +kernel) rfl),
    List.forall_mem_cons.mpr ⟨.inl (hl_at (i := 1543) (by decide +kernel) rfl),
    List.forall_mem_cons.mpr ⟨.inl (hl_at (i := 1524) (by decide +kernel) rfl),
    List.forall_mem_cons.mpr ⟨.inl (hl_at (i := 1520) (by decide +kernel) rfl),
    List.forall_mem_cons.mpr ⟨.inl (hl_at (i := 1564) (by decide +kernel) rfl),
    List.forall_mem_cons.mpr ⟨.inl (hl_at (i := 1506) (by decide +kernel) rfl),
    List.forall_mem_cons.mpr ⟨.inl (hl_at (i := 1572) (by decide +kernel) rfl),
    List.forall_mem_cons.mpr ⟨.inl (hl_at (i := 1502) (by decide +kernel) rfl),
    List.forall_mem_cons.mpr ⟨.inl (hl_at (i := 1516) (by decide +kernel) rfl),
    List.forall_mem_cons.mpr ⟨.inl (hl_at (i := 1498) (by decide +kernel) rfl),
    List.forall_mem_cons.mpr ⟨.inl (hl_at (i := 1479) (by decide +kernel) rfl),
    List.forall_mem_cons.mpr ⟨.inl (hl_at (i := 1642) (by decide +kernel) rfl),
    List.forall_mem_cons.mpr ⟨.inl (hl_at (i := 1639) (by decide +kernel) rfl),
    List.forall_mem_cons.mpr ⟨.inl (hl_at (i := 1647) (by decide +kernel) rfl),
    List.forall_mem_cons.mpr ⟨.inl (hl_at (i := 1604) (by decide +kernel) rfl),
    List.forall_mem_cons.mpr ⟨.inl (hl_at (i := 1608) (by decide +kernel) rfl),
    List.forall_mem_cons.mpr ⟨.inl (hl_at (i := 1600) (by decide +kernel) rfl),
    List.forall_mem_cons.mpr ⟨.inl (hl_at (i := 1612) (by decide +kernel) rfl),
    List.forall_mem_cons.mpr ⟨.inl (hl_at (i := 1628) (by decide +kernel) rfl),
    List.forall_mem_cons.mpr ⟨.inl (hl_at (i := 1624) (by decide +kernel) rfl),
    List.forall_mem_cons.mpr ⟨.inl (hl_at (i := 1631) (by decide +kernel) rfl),
    List.forall_mem_cons.mpr ⟨.inl (hl_at (i := 1635) (by decide +kernel) rfl),
    List.forall_mem_cons.mpr ⟨.inl (hl_at (i := 1620) (by decide +kernel) rfl),
    List.forall_mem_cons.mpr ⟨.inl (hl_at (i := 1679) (by decide +kernel) rfl),
    List.forall_mem_cons.mpr ⟨.inl (hl_at (i := 1671) (by decide +kernel) rfl),
    List.forall_mem_cons.mpr ⟨.inl (hl_at (i := 1675) (by decide +kernel) rfl),
    List.forall_mem_cons.mpr ⟨.inl (hl_at (i := 1663) (by decide +kernel) rfl),
    List.forall_mem_cons.mpr ⟨.inl (hl_at (i := 1695) (by decide +kernel) rfl),
    List.forall_mem_cons.mpr ⟨.inl (hl_at (i := 1655) (by decide +kernel) rfl),
    List.forall_mem_cons.mpr ⟨.inl (hl_at (i := 1659) (by decide +kernel) rfl),
    List.forall_mem_cons.mpr ⟨.inl (hl_at (i := 1667) (by decide +kernel) rfl),
    List.forall_mem_cons.mpr ⟨.inl (hl_at (i := 1683) (by decide +kernel) rfl),
    List.forall_mem_cons.mpr ⟨.inl (hl_at (i := 1687) (by decide +kernel) rfl),
    List.forall_mem_cons.mpr ⟨.inl (hl_at (i := 1691) (by decide +kernel) rfl),
    List.forall_mem_cons.mpr ⟨.inl (hl_at (i := 1720) (by decide +kernel) rfl),
    List.forall_mem_cons.mpr ⟨.inl (hl_at (i := 1724) (by decide +kernel) rfl),
    List.forall_mem_cons.mpr ⟨.inl (hl_at (i := 1711) (by decide +kernel) rfl),
    List.forall_mem_cons.mpr ⟨.inl (hl_at (i := 1716) (by decide +kernel) rfl),
    List.forall_mem_cons.mpr ⟨.inl (hl_at (i := 1729) (by decide +kernel) rfl),
    List.forall_mem_cons.mpr ⟨.inl (hl_at (i := 1733) (by decide +kernel) rfl),
    List.forall_mem_cons.mpr ⟨.inl (hl_at (i := 1737) (by decide +kernel) rfl),
    List.forall_mem_cons.mpr ⟨.inl (hl_at (i := 1703) (by decide +kernel) rfl),
    List.forall_mem_cons.mpr ⟨.inl (hl_at (i := 1707) (by decide +kernel) rfl),
    List.forall_mem_cons.mpr ⟨.inl (hl_at (i := 1759) (by decide +kernel) rfl),
    List.forall_mem_cons.mpr ⟨.inl (hl_at (i := 1755) (by decide +kernel) rfl),
    List.forall_mem_cons.mpr ⟨.inl (hl_at (i := 1766) (by decide +kernel) rfl),
    List.forall_mem_cons.mpr ⟨.inl (hl_at (i := 1782) (by decide +kernel) rfl),
    List.forall_mem_cons.mpr ⟨.inl (hl_at (i := 1790) (by decide +kernel) rfl),
    List.forall_mem_cons.mpr ⟨.inl (hl_at (i := 1778) (by decide +kernel) rfl),
    List.forall_mem_cons.mpr ⟨.inl (hl_at (i := 1786) (by decide +kernel) rfl),
    List.forall_mem_cons.mpr ⟨.inl (hl_at (i := 1807) (by decide +kernel) rfl),
    List.forall_mem_cons.mpr ⟨.inl (hl_at (i := 1814) (by decide +kernel) rfl),
    List.forall_mem_cons.mpr ⟨.inl (hl_at (i := 1826) (by decide +kernel) rfl),
    fun _ h => absurd h List.not_mem_nil⟩⟩⟩⟩⟩⟩⟩⟩⟩⟩⟩⟩⟩⟩⟩⟩⟩⟩⟩⟩⟩⟩⟩⟩⟩⟩⟩⟩⟩⟩⟩⟩⟩⟩⟩⟩⟩⟩⟩⟩⟩⟩⟩⟩⟩⟩⟩⟩⟩⟩⟩⟩⟩⟩⟩⟩⟩⟩⟩⟩⟩⟩⟩⟩⟩⟩⟩⟩⟩⟩⟩⟩⟩⟩⟩⟩⟩⟩
theorem hl_mok_15 : ∀ e ∈ hl_mlL 15, hl_mOK 15 e.1 e.2 := by
  unfold hl_mlL
  exact List.forall_mem_cons.mpr ⟨.inl (hl_at (i := 1291) (by decide +kernel) rfl),
    List.forall_mem_cons.mpr ⟨.inl (hl_at (i := 180) (by decide +kernel) rfl),
    List.forall_mem_cons.mpr ⟨.inl (hl_at (i := 1296) (by decide +kernel) rfl),
    List.forall_mem_cons.mpr ⟨.inl (hl_at (i := 592) (by decide +kernel) rfl),
    List.forall_mem_cons.mpr ⟨.inl (hl_at (i := 1417) (by decide +kernel) rfl),
    List.forall_mem_cons.mpr ⟨.inl (hl_at (i := 607) (by decide +kernel) rfl),
    List.forall_mem_cons.mpr ⟨.inl (hl_at (i := 1428) (by decide +kernel) rfl),
    List.forall_mem_cons.mpr ⟨.inl (hl_at (i := 615) (by decide +kernel) rfl),
    List.forall_mem_cons.mpr ⟨.inl (hl_at (i := 1432) (by decide +kernel) rfl),
    List.forall_mem_cons.mpr ⟨.inl (hl_at (i := 623) (by decide +kernel) rfl),
    List.forall_mem_cons.mpr ⟨.inl (hl_at (i := 1440) (by decide +kernel) rfl),
    List.forall_mem_cons.mpr ⟨.inl (hl_at (i := 630) (by decide +kernel) rfl),
    List.forall_mem_cons.mpr ⟨.inl (hl_at (i := 1447) (by decide +kernel) rfl),
    List.forall_mem_cons.mpr ⟨.inl (hl_at (i := 634) (by decide +kernel) rfl),
    List.forall_mem_cons.mpr ⟨.inl (hl_at (i := 1451) (by decide +kernel) rfl),
    List.forall_mem_cons.mpr ⟨.inl (hl_at (i := 642) (by decide +kernel) rfl),
    List.forall_mem_cons.mpr ⟨.inl (hl_at (i := 1459) (by decide +kernel) rfl),
    List.forall_mem_cons.mpr ⟨.inl (hl_at (i := 646) (by decide +kernel) rfl),
    List.forall_mem_cons.mpr ⟨.inl (hl_at (i := 1463) (by decide +kernel) rfl),
    List.forall_mem_cons.mpr ⟨.inl (hl_at (i := 654) (by decide +kernel) rfl),
    List.forall_mem_cons.mpr ⟨.inl (hl_at (i := 1471) (by decide +kernel) rfl),
    List.forall_mem_cons.mpr ⟨.inl (hl_at (i := 658) (by decide +kernel) rfl),
    List.forall_mem_cons.mpr ⟨.inl (hl_at (i := 1475) (by decide +kernel) rfl),
    List.forall_mem_cons.mpr ⟨.inl (hl_at (i := 870) (by decide +kernel) rfl),
    List.forall_mem_cons.mpr ⟨.inl (hl_at (i := 1587) (by decide +kernel) rfl),
    List.forall_mem_cons.mpr ⟨.inl (hl_at (i := 874) (by decide +kernel) rfl),
    List.forall_mem_cons.mpr ⟨.inl (hl_at (i := 1591) (by decide +kernel) rfl),
    List.forall_mem_cons.mpr ⟨.inl (hl_at (i := 878) (by decide +kernel) rfl),
    List.forall_mem_cons.mpr ⟨.inl (hl_at (i := 1595) (by decide +kernel) rfl),
    List.forall_mem_cons.mpr ⟨.inl (hl_at (i := 897) (by decide +kernel) rfl),
    List.forall_mem_cons.mpr ⟨.inl (hl_at (i := 1616) (by decide +kernel) rfl),
    List.forall_mem_cons.mpr ⟨.inl (hl_at (i := 964) (by decide +kernel) rfl),
    List.forall_mem_cons.mpr ⟨.inl (hl_at (i := 1651) (by decide +kernel) rfl),
    List.forall_mem_cons.mpr ⟨.inl (hl_at (i := 1014) (by decide +kernel) rfl),
    List.forall_mem_cons.mpr ⟨.inl (hl_at (i := 1699) (by decide +kernel) rfl),
    List.forall_mem_cons.mpr ⟨.inl (hl_at (i := 1103) (by decide +kernel) rfl),
    List.forall_mem_cons.mpr ⟨.inl (hl_at (i := 1743) (by decide +kernel) rfl),
    List.forall_mem_cons.mpr ⟨.inl (hl_at (i := 1107) (by decide +kernel) rfl),
    List.forall_mem_cons.mpr ⟨.inl (hl_at (i := 1747) (by decide +kernel) rfl),
    List.forall_mem_cons.mpr ⟨.inl (hl_at (i := 1123) (by decide +kernel) rfl),
    List.forall_mem_cons.mpr ⟨.inl (hl_at (i := 1751) (by decide +kernel) rfl),
    List.forall_mem_cons.mpr ⟨.inl (hl_at (i := 1138) (by decide +kernel) rfl),
    List.forall_mem_cons.mpr ⟨.inl (hl_at (i := 1762) (by decide +kernel) rfl),
    List.forall_mem_cons.mpr ⟨.inl (hl_at (i := 1146) (by decide +kernel) rfl),
    List.forall_mem_cons.mpr ⟨.inl (hl_at (i := 1770) (by decide +kernel) rfl),
    List.forall_mem_cons.mpr ⟨.inl (hl_at (i := 1155) (by decide +kernel) rfl),
    List.forall_mem_cons.mpr ⟨.inl (hl_at (i := 1774) (by decide +kernel) rfl),
    List.forall_mem_cons.mpr ⟨.inl (hl_at (i := 1192) (by decide +kernel) rfl),
    List.forall_mem_cons.mpr ⟨.inl (hl_at (i := 1794) (by decide +kernel) rfl),
    List.forall_mem_cons.mpr ⟨.inl (hl_at (i := 1198) (by decide +kernel) rfl),
    List.forall_mem_cons.mpr ⟨.inl (hl_at (i := 1799) (by decide +kernel) rfl),
    List.forall_mem_cons.mpr ⟨.inl (hl_at (i := 1206) (by decide +kernel) rfl),
    List.forall_mem_cons.mpr ⟨.inl (hl_at (i := 1803) (by decide +kernel) rfl),
    List.forall_mem_cons.mpr ⟨.inl (hl_at (i := 1214) (by decide +kernel) rfl),
    List.forall_mem_cons.mpr ⟨.inl (hl_at (i := 1810) (by decide +kernel) rfl),
    List.forall_mem_cons.mpr ⟨.inl (hl_at (i := 1222) (by decide +kernel) rfl),
    List.forall_mem_cons.mpr ⟨.inl (hl_at (i := 1818) (by decide +kernel) rfl),
    List.forall_mem_cons.mpr ⟨.inl (hl_at (i := 1231) (by decide +kernel) rfl),
    List.forall_mem_cons.mpr ⟨.inl (hl_at (i := 1822) (by decide +kernel) rfl),
    List.forall_mem_cons.mpr ⟨.inl (hl_at (i := 1250) (by decide +kernel) rfl),
    List.forall_mem_cons.mpr ⟨.inl (hl_at (i := 1832) (by decide +kernel) rfl),
    List.forall_mem_cons.mpr ⟨.inl (hl_at (i := 1260) (by decide +kernel) rfl),
    List.forall_mem_cons.mpr ⟨.inl (hl_at (i := 1836) (by decide +kernel) rfl),
    List.forall_mem_cons.mpr ⟨.inl (hl_at (i := 1279) (by decide +kernel) rfl),
    List.forall_mem_cons.mpr ⟨.inl (hl_at (i := 1840) (by decide +kernel) rfl),
    List.forall_mem_cons.mpr ⟨.inl (hl_at (i := 1283) (by decide +kernel) rfl),
    List.forall_mem_cons.mpr ⟨.inl (hl_at (i := 1844) (by decide +kernel) rfl),
    fun _ h => absurd h List.not_mem_nil⟩⟩⟩⟩⟩⟩⟩⟩⟩⟩⟩⟩⟩⟩⟩⟩⟩⟩⟩⟩⟩⟩⟩⟩⟩⟩⟩⟩⟩⟩⟩⟩⟩⟩⟩⟩⟩⟩⟩⟩⟩⟩⟩⟩⟩⟩⟩⟩⟩⟩⟩⟩⟩⟩⟩⟩⟩⟩⟩⟩⟩⟩⟩⟩⟩⟩⟩
theorem hl_ci_ok_2 : ∀ e ∈ hl_ciL 2, Cond.constant (hl_R 2) e.1 e.2 ∈ hl_G := by
  unfold hl_ciL
  exact List.forall_mem_cons.mpr ⟨hl_at (i := 1083) (by decide +kernel) rfl,
    fun _ h => absurd h List.not_mem_nil⟩
theorem hl_ci_ok_3 : ∀ e ∈ hl_ciL 3, Cond.constant (hl_R 3) e.1 e.2 ∈ hl_G := by
  unfold hl_ciL
  exact fun _ h => absurd h List.not_mem_nil
theorem hl_ci_ok_10 : ∀ e ∈ hl_ciL 10, Cond.constant (hl_R 10) e.1 e.2 ∈ hl_G := by
  unfold hl_ciL
  exact List.forall_mem_cons.mpr ⟨hl_at (i := 956) (by decide +kernel) rfl,
    List.forall_mem_cons.mpr ⟨hl_at (i := 958) (by decide +kernel) rfl,
    fun _ h => absurd h List.not_mem_nil⟩⟩
theorem hl_ci_ok_11 : ∀ e ∈ hl_ciL 11, Cond.constant (hl_R 11) e.1 e.2 ∈ hl_G := by
  unfold hl_ciL
  exact List.forall_mem_cons.mpr ⟨hl_at (i := 882) (by decide +kernel) rfl,
    List.forall_mem_cons.mpr ⟨hl_at (i := 1196) (by decide +kernel) rfl,
    fun _ h => absurd h List.not_mem_nil⟩⟩
theorem hl_ci_ok_12 : ∀ e ∈ hl_ciL 12, Cond.constant (hl_R 12) e.1 e.2 ∈ hl_G := by
  unfold hl_ciL
  exact List.forall_mem_cons.mpr ⟨hl_at (i := 1494) (by decide +kernel) rfl,
    List.forall_mem_cons.mpr ⟨hl_at (i := 1599) (by decide +kernel) rfl,
    List.forall_mem_cons.mpr ⟨hl_at (i := 1798) (by decide +kernel) rfl,
    fun _ h => absurd h List.not_mem_nil⟩⟩⟩
theorem hl_ci_ok_14 : ∀ e ∈ hl_ciL 14, Cond.constant (hl_R 14) e.1 e.2 ∈ hl_G := by
  unfold hl_ciL
  exact List.forall_mem_cons.mpr ⟨hl_at (i := 1134) (by decide +kernel) rfl,
    List.forall_mem_cons.mpr ⟨hl_at (i := 1135) (by decide +kernel) rfl,
    List.forall_mem_cons.mpr ⟨hl_at (i := 1136) (by decide +kernel) rfl,
    fun _ h => absurd h List.not_mem_nil⟩⟩⟩
theorem hl_cj_ok_2 : ∀ e ∈ hl_cjL 2, Cond.constantLong (hl_R 2) e.1 e.2 ∈ hl_G := by
  unfold hl_cjL
  exact fun _ h => absurd h List.not_mem_nil
theorem hl_cj_ok_3 : ∀ e ∈ hl_cjL 3, Cond.constantLong (hl_R 3) e.1 e.2 ∈ hl_G := by
  unfold hl_cjL
  exact List.forall_mem_cons.mpr ⟨hl_at (i := 1039) (by decide +kernel) rfl,
    fun _ h => absurd h List.not_mem_nil⟩
theorem hl_cj_ok_10 : ∀ e ∈ hl_cjL 10, Cond.constantLong (hl_R 10) e.1 e.2 ∈ hl_G := by
  unfold hl_cjL
  exact List.forall_mem_cons.mpr ⟨hl_at (i := 955) (by decide +kernel) rfl,
    List.forall_mem_cons.mpr ⟨hl_at (i := 957) (by decide +kernel) rfl,
    fun _ h => absurd h List.not_mem_nil⟩⟩
theorem hl_cj_ok_11 : ∀ e ∈ hl_cjL 11, Cond.constantLong (hl_R 11) e.1 e.2 ∈ hl_G := by
  unfold hl_cjL
  exact fun _ h => absurd h List.not_mem_nil
theorem hl_cj_ok_12 : ∀ e ∈ hl_cjL 12, Cond.constantLong (hl_R 12) e.1 e.2 ∈ hl_G := by
  unfold hl_cjL
  exact List.forall_mem_cons.mpr ⟨hl_at (i := 1582) (by decide +kernel) rfl,
    List.forall_mem_cons.mpr ⟨hl_at (i := 1547) (by decide +kernel) rfl,
    List.forall_mem_cons.mpr ⟨hl_at (i := 1645) (by decide +kernel) rfl,
    List.forall_mem_cons.mpr ⟨hl_at (i := 1646) (by decide +kernel) rfl,
    List.forall_mem_cons.mpr ⟨hl_at (i := 1650) (by decide +kernel) rfl,
    List.forall_mem_cons.mpr ⟨hl_at (i := 1728) (by decide +kernel) rfl,
    List.forall_mem_cons.mpr ⟨hl_at (i := 1741) (by decide +kernel) rfl,
    List.forall_mem_cons.mpr ⟨hl_at (i := 1715) (by decide +kernel) rfl,
    List.forall_mem_cons.mpr ⟨hl_at (i := 1742) (by decide +kernel) rfl,
    List.forall_mem_cons.mpr ⟨hl_at (i := 1830) (by decide +kernel) rfl,
    List.forall_mem_cons.mpr ⟨hl_at (i := 1831) (by decide +kernel) rfl,
    fun _ h => absurd h List.not_mem_nil⟩⟩⟩⟩⟩⟩⟩⟩⟩⟩⟩
theorem hl_cj_ok_14 : ∀ e ∈ hl_cjL 14, Cond.constantLong (hl_R 14) e.1 e.2 ∈ hl_G := by
  unfold hl_cjL
  exact fun _ h => absurd h List.not_mem_nil
theorem hl_lc_ok_1 : ∀ e ∈ hl_lcL 1, ∃ C T N, hl_cl[e.2]? = some (C, T, N) ∧ Cond.classLink (hl_R 1) e.1 C ∈ hl_G := by
  unfold hl_lcL
  exact List.forall_mem_cons.mpr ⟨⟨_, _, _, rfl, hl_at (i := 195) (by decide +kernel) rfl⟩,
    List.forall_mem_cons.mpr ⟨⟨_, _, _, rfl, hl_at (i := 221) (by decide +kernel) rfl⟩,
    fun _ h => absurd h List.not_mem_nil⟩⟩
theorem hl_lc_ok_3 : ∀ e ∈ hl_lcL 3, ∃ C T N, hl_cl[e.2]? = some (C, T, N) ∧ Cond.classLink (hl_R 3) e.1 C ∈ hl_G := by
  unfold hl_lcL
  exact List.forall_mem_cons.mpr ⟨⟨_, _, _, rfl, hl_at (i := 447) (by decide +kernel) rfl⟩,
    fun _ h => absurd h List.not_mem_nil⟩
theorem hl_lc_ok_6 : ∀ e ∈ hl_lcL 6, ∃ C T N, hl_cl[e.2]? = some (C, T, N) ∧ Cond.classLink (hl_R 6) e.1 C ∈ hl_G := by
  unfold hl_lcL
  exact List.forall_mem_cons.mpr ⟨⟨_, _, _, rfl, hl_at (i := 329) (by decide +kernel) rfl⟩,
    fun _ h => absurd h List.not_mem_nil⟩
theorem hl_lc_ok_11 : ∀ e ∈ hl_lcL 11, ∃ C T N, hl_cl[e.2]? = some (C, T, N) ∧ Cond.classLink (hl_R 11) e.1 C ∈ hl_G := by
  unfold hl_lcL
  exact List.forall_mem_cons.mpr ⟨⟨_, _, _, rfl, hl_at (i := 189) (by decide +kernel) rfl⟩,
    List.forall_mem_cons.mpr ⟨⟨_, _, _, rfl, hl_at (i := 323) (by decide +kernel) rfl⟩,
    List.forall_mem_cons.mpr ⟨⟨_, _, _, rfl, hl_at (i := 384) (by decide +kernel) rfl⟩,
    List.forall_mem_cons.mpr ⟨⟨_, _, _, rfl, hl_at (i := 387) (by decide +kernel) rfl⟩,
    List.forall_mem_cons.mpr ⟨⟨_, _, _, rfl, hl_at (i := 409) (by decide +kernel) rfl⟩,
    List.forall_mem_cons.mpr ⟨⟨_, _, _, rfl, hl_at (i := 428) (by decide +kernel) rfl⟩,
    List.forall_mem_cons.mpr ⟨⟨_, _, _, rfl, hl_at (i := 441) (by decide +kernel) rfl⟩,
    List.forall_mem_cons.mpr ⟨⟨_, _, _, rfl, hl_at (i := 515) (by decide +kernel) rfl⟩,
    fun _ h => absurd h List.not_mem_nil⟩⟩⟩⟩⟩⟩⟩⟩
theorem hl_lc_ok_15 : ∀ e ∈ hl_lcL 15, ∃ C T N, hl_cl[e.2]? = some (C, T, N) ∧ Cond.classLink (hl_R 15) e.1 C ∈ hl_G := by
  unfold hl_lcL
  exact List.forall_mem_cons.mpr ⟨⟨_, _, _, rfl, hl_at (i := 178) (by decide +kernel) rfl⟩,
    List.forall_mem_cons.mpr ⟨⟨_, _, _, rfl, hl_at (i := 1294) (by decide +kernel) rfl⟩,
    fun _ h => absurd h List.not_mem_nil⟩⟩
