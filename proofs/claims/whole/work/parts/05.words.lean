theorem w_t {w : Cond} (i : Nat) (h : tables_1[i]? = some w) (ho : okw w = true) : w ∈ w_tbl := w_in (List.mem_append_right _ (List.mem_of_getElem? h)) ho
theorem w_s {w : Cond} (i : Nat) (h : (k2_sels lw_privs)[i]? = some w) (ho : okw w = true) : w ∈ w_tbl := w_in (List.mem_append_left _ (List.mem_of_getElem? h)) ho
theorem w_all {ws : List Cond} (ps : List Nat) (hp : ws = ps.filterMap (fun i => tables_1[i]?)) (h : ws.all okw = true) : ∀ w ∈ ws, w ∈ w_tbl := by
  intro w hw
  have h1 := List.all_eq_true.mp h w hw
  rw [hp] at hw
  obtain ⟨i, -, hi⟩ := List.mem_filterMap.mp hw
  exact w_t i hi h1
theorem ini_L : Cond.initialized "LandTakenLaw" ∈ w_tbl := w_t 0 (by decide +kernel) rfl
theorem ini_X6 : Cond.initialized "LandTaken" ∈ w_tbl := w_t 1 (by decide +kernel) rfl
theorem ini_X2 : Cond.initialized "LandTaken$Land" ∈ w_tbl := w_t 2 (by decide +kernel) rfl
theorem ini_X5 : Cond.initialized "LandTaken$Split" ∈ w_tbl := w_t 3 (by decide +kernel) rfl
theorem ini_X1 : Cond.initialized "LandTaken$Field" ∈ w_tbl := w_t 4 (by decide +kernel) rfl
theorem ini_X4 : Cond.initialized "LandTaken$Prices" ∈ w_tbl := w_t 5 (by decide +kernel) rfl
theorem ini_X7 : Cond.initialized "LandTakenModel" ∈ w_tbl := w_t 6 (by decide +kernel) rfl
theorem ini_X3 : Cond.initialized "LandTaken$Order" ∈ w_tbl := w_t 7 (by decide +kernel) rfl
theorem ini_X0 : Cond.initialized "LandTaken$Case" ∈ w_tbl := w_t 8 (by decide +kernel) rfl
theorem ini_J9 : Cond.initialized "java/lang/Math" ∈ w_tbl := w_t 9 (by decide +kernel) rfl
theorem cl_L_7 : Cond.classLink "LandTakenLaw" 7 "LandTaken" ∈ w_tbl := w_t 10 (by decide +kernel) rfl
theorem in_X6 : Cond.instantiable "LandTaken" 11 ∈ w_tbl := w_t 11 (by decide +kernel) rfl
theorem ml_L_9 : Cond.methodLink "LandTakenLaw" 9 ⟨"LandTaken", "<init>", "()V"⟩ ∈ w_tbl := w_t 12 (by decide +kernel) rfl
theorem ml_X6_3 : Cond.methodLink "LandTaken" 3 ⟨"java/lang/Object", "<init>", "()V"⟩ ∈ w_tbl := w_t 15 (by decide +kernel) rfl
theorem cl_X6_9 : Cond.classLink "LandTaken" 9 "LandTaken$Land" ∈ w_tbl := w_t 18 (by decide +kernel) rfl
theorem in_X2 : Cond.instantiable "LandTaken$Land" 7 ∈ w_tbl := w_t 19 (by decide +kernel) rfl
theorem mn_X6_11 : Cond.methodLinkNest "LandTaken" 11 ⟨"LandTaken$Land", "<init>", "()V"⟩ "LandTaken" ∈ w_tbl := w_t 20 (by decide +kernel) rfl
theorem ml_X2_3 : Cond.methodLink "LandTaken$Land" 3 ⟨"java/lang/Object", "<init>", "()V"⟩ ∈ w_tbl := w_t 23 (by decide +kernel) rfl
theorem fl_X2_28 : Cond.fieldLink "LandTaken$Land" 28 "LandTaken$Land" "wide" "I" ∈ w_tbl := w_t 24 (by decide +kernel) rfl
theorem fl_X6_336 : Cond.fieldLink "LandTaken" 336 "LandTaken$Land" "wide" "I" ∈ w_tbl := w_t 25 (by decide +kernel) rfl
theorem fl_X2_32 : Cond.fieldLink "LandTaken$Land" 32 "LandTaken$Land" "high" "I" ∈ w_tbl := w_t 26 (by decide +kernel) rfl
theorem fl_X6_342 : Cond.fieldLink "LandTaken" 342 "LandTaken$Land" "high" "I" ∈ w_tbl := w_t 27 (by decide +kernel) rfl
theorem fl_X2_9 : Cond.fieldLink "LandTaken$Land" 9 "LandTaken$Land" "owner" "[I" ∈ w_tbl := w_t 28 (by decide +kernel) rfl
theorem fl_X6_80 : Cond.fieldLink "LandTaken" 80 "LandTaken$Land" "owner" "[I" ∈ w_tbl := w_t 29 (by decide +kernel) rfl
theorem fl_X2_15 : Cond.fieldLink "LandTaken$Land" 15 "LandTaken$Land" "soil" "[I" ∈ w_tbl := w_t 30 (by decide +kernel) rfl
theorem fl_X6_83 : Cond.fieldLink "LandTaken" 83 "LandTaken$Land" "soil" "[I" ∈ w_tbl := w_t 31 (by decide +kernel) rfl
theorem fl_X2_18 : Cond.fieldLink "LandTaken$Land" 18 "LandTaken$Land" "isLane" "[Z" ∈ w_tbl := w_t 32 (by decide +kernel) rfl
theorem fl_X6_86 : Cond.fieldLink "LandTaken" 86 "LandTaken$Land" "isLane" "[Z" ∈ w_tbl := w_t 33 (by decide +kernel) rfl
theorem fl_X2_22 : Cond.fieldLink "LandTaken$Land" 22 "LandTaken$Land" "inLine" "[Z" ∈ w_tbl := w_t 34 (by decide +kernel) rfl
theorem fl_X6_131 : Cond.fieldLink "LandTaken" 131 "LandTaken$Land" "inLine" "[Z" ∈ w_tbl := w_t 35 (by decide +kernel) rfl
theorem fl_X2_25 : Cond.fieldLink "LandTaken$Land" 25 "LandTaken$Land" "takenBy" "[I" ∈ w_tbl := w_t 36 (by decide +kernel) rfl
theorem ar_int : Cond.arrayClass .int ∈ w_tbl := w_t 52 (by decide +kernel) rfl
theorem ar_boolean : Cond.arrayClass .boolean ∈ w_tbl := w_t 53 (by decide +kernel) rfl
theorem cl_X6_16 : Cond.classLink "LandTaken" 16 "LandTaken$Split" ∈ w_tbl := w_t 54 (by decide +kernel) rfl
theorem in_X5 : Cond.instantiable "LandTaken$Split" 7 ∈ w_tbl := w_t 55 (by decide +kernel) rfl
theorem mn_X6_18 : Cond.methodLinkNest "LandTaken" 18 ⟨"LandTaken$Split", "<init>", "()V"⟩ "LandTaken" ∈ w_tbl := w_t 56 (by decide +kernel) rfl
theorem ml_X5_3 : Cond.methodLink "LandTaken$Split" 3 ⟨"java/lang/Object", "<init>", "()V"⟩ ∈ w_tbl := w_t 59 (by decide +kernel) rfl
theorem fl_X5_28 : Cond.fieldLink "LandTaken$Split" 28 "LandTaken$Split" "number" "I" ∈ w_tbl := w_t 60 (by decide +kernel) rfl
theorem fl_X6_280 : Cond.fieldLink "LandTaken" 280 "LandTaken$Split" "number" "I" ∈ w_tbl := w_t 61 (by decide +kernel) rfl
theorem fl_X5_46 : Cond.fieldLink "LandTaken$Split" 46 "LandTaken$Split" "main" "I" ∈ w_tbl := w_t 62 (by decide +kernel) rfl
theorem fl_X6_259 : Cond.fieldLink "LandTaken" 259 "LandTaken$Split" "main" "I" ∈ w_tbl := w_t 63 (by decide +kernel) rfl
theorem fl_X5_9 : Cond.fieldLink "LandTaken$Split" 9 "LandTaken$Split" "pieceAt" "[I" ∈ w_tbl := w_t 64 (by decide +kernel) rfl
theorem fl_X5_15 : Cond.fieldLink "LandTaken$Split" 15 "LandTaken$Split" "size" "[I" ∈ w_tbl := w_t 65 (by decide +kernel) rfl
theorem fl_X5_18 : Cond.fieldLink "LandTaken$Split" 18 "LandTaken$Split" "first" "[I" ∈ w_tbl := w_t 66 (by decide +kernel) rfl
theorem fl_X5_21 : Cond.fieldLink "LandTaken$Split" 21 "LandTaken$Split" "way" "[Z" ∈ w_tbl := w_t 67 (by decide +kernel) rfl
theorem fl_X5_25 : Cond.fieldLink "LandTaken$Split" 25 "LandTaken$Split" "queue" "[I" ∈ w_tbl := w_t 68 (by decide +kernel) rfl
theorem cl_X6_23 : Cond.classLink "LandTaken" 23 "LandTaken$Field" ∈ w_tbl := w_t 84 (by decide +kernel) rfl
theorem ao_X1 : Cond.arrayOver (.object "LandTaken$Field") ∈ w_tbl := w_t 85 (by decide +kernel) rfl
theorem in_X1 : Cond.instantiable "LandTaken$Field" 5 ∈ w_tbl := w_t 86 (by decide +kernel) rfl
theorem mn_X6_29 : Cond.methodLinkNest "LandTaken" 29 ⟨"LandTaken$Field", "<init>", "()V"⟩ "LandTaken" ∈ w_tbl := w_t 87 (by decide +kernel) rfl
theorem ml_X1_3 : Cond.methodLink "LandTaken$Field" 3 ⟨"java/lang/Object", "<init>", "()V"⟩ ∈ w_tbl := w_t 90 (by decide +kernel) rfl
theorem fl_X1_22 : Cond.fieldLink "LandTaken$Field" 22 "LandTaken$Field" "housePlace" "I" ∈ w_tbl := w_t 91 (by decide +kernel) rfl
theorem fl_X6_90 : Cond.fieldLink "LandTaken" 90 "LandTaken$Field" "housePlace" "I" ∈ w_tbl := w_t 92 (by decide +kernel) rfl
theorem fl_X1_26 : Cond.fieldLink "LandTaken$Field" 26 "LandTaken$Field" "rightCount" "I" ∈ w_tbl := w_t 93 (by decide +kernel) rfl
theorem fl_X6_286 : Cond.fieldLink "LandTaken" 286 "LandTaken$Field" "rightCount" "I" ∈ w_tbl := w_t 94 (by decide +kernel) rfl
theorem fl_X1_9 : Cond.fieldLink "LandTaken$Field" 9 "LandTaken$Field" "kind" "[I" ∈ w_tbl := w_t 95 (by decide +kernel) rfl
theorem fl_X6_289 : Cond.fieldLink "LandTaken" 289 "LandTaken$Field" "kind" "[I" ∈ w_tbl := w_t 96 (by decide +kernel) rfl
theorem fl_X1_15 : Cond.fieldLink "LandTaken$Field" 15 "LandTaken$Field" "amount" "[I" ∈ w_tbl := w_t 97 (by decide +kernel) rfl
theorem fl_X6_296 : Cond.fieldLink "LandTaken" 296 "LandTaken$Field" "amount" "[I" ∈ w_tbl := w_t 98 (by decide +kernel) rfl
theorem fl_X1_18 : Cond.fieldLink "LandTaken$Field" 18 "LandTaken$Field" "debtLeft" "[J" ∈ w_tbl := w_t 99 (by decide +kernel) rfl
theorem fl_X6_292 : Cond.fieldLink "LandTaken" 292 "LandTaken$Field" "debtLeft" "[J" ∈ w_tbl := w_t 100 (by decide +kernel) rfl
theorem ar_long : Cond.arrayClass .long ∈ w_tbl := w_t 112 (by decide +kernel) rfl
theorem cl_X6_30 : Cond.classLink "LandTaken" 30 "LandTaken$Prices" ∈ w_tbl := w_t 113 (by decide +kernel) rfl
theorem ao_X4 : Cond.arrayOver (.object "LandTaken$Prices") ∈ w_tbl := w_t 114 (by decide +kernel) rfl
theorem in_X4 : Cond.instantiable "LandTaken$Prices" 3 ∈ w_tbl := w_t 115 (by decide +kernel) rfl
theorem mn_X6_36 : Cond.methodLinkNest "LandTaken" 36 ⟨"LandTaken$Prices", "<init>", "()V"⟩ "LandTaken" ∈ w_tbl := w_t 116 (by decide +kernel) rfl
theorem ml_X4_3 : Cond.methodLink "LandTaken$Prices" 3 ⟨"java/lang/Object", "<init>", "()V"⟩ ∈ w_tbl := w_t 119 (by decide +kernel) rfl
theorem fl_X4_18 : Cond.fieldLink "LandTaken$Prices" 18 "LandTaken$Prices" "dayCount" "I" ∈ w_tbl := w_t 120 (by decide +kernel) rfl
theorem fl_X4_9 : Cond.fieldLink "LandTaken$Prices" 9 "LandTaken$Prices" "from" "[I" ∈ w_tbl := w_t 121 (by decide +kernel) rfl
theorem fl_X4_15 : Cond.fieldLink "LandTaken$Prices" 15 "LandTaken$Prices" "value" "[I" ∈ w_tbl := w_t 122 (by decide +kernel) rfl
theorem cl_X6_44 : Cond.classLink "LandTaken" 44 "LandTaken$Order" ∈ w_tbl := w_t 130 (by decide +kernel) rfl
theorem ao_X3 : Cond.arrayOver (.object "LandTaken$Order") ∈ w_tbl := w_t 131 (by decide +kernel) rfl
theorem ml_X6_50 : Cond.methodLink "LandTaken" 50 ⟨"LandTaken$Land", "renew", "(II)V"⟩ ∈ w_tbl := w_t 132 (by decide +kernel) rfl
theorem fl_X6_12 : Cond.fieldLink "LandTaken" 12 "LandTaken" "land" "LLandTaken$Land;" ∈ w_tbl := w_t 136 (by decide +kernel) rfl
theorem fl_X6_19 : Cond.fieldLink "LandTaken" 19 "LandTaken" "split" "LLandTaken$Split;" ∈ w_tbl := w_t 137 (by decide +kernel) rfl
theorem fl_X6_25 : Cond.fieldLink "LandTaken" 25 "LandTaken" "fields" "[LLandTaken$Field;" ∈ w_tbl := w_t 138 (by decide +kernel) rfl
theorem fl_X6_58 : Cond.fieldLink "LandTaken" 58 "LandTaken" "fieldCount" "I" ∈ w_tbl := w_t 139 (by decide +kernel) rfl
theorem fl_X6_32 : Cond.fieldLink "LandTaken" 32 "LandTaken" "prices" "[LLandTaken$Prices;" ∈ w_tbl := w_t 140 (by decide +kernel) rfl
theorem fl_X6_37 : Cond.fieldLink "LandTaken" 37 "LandTaken" "pricesToday" "[I" ∈ w_tbl := w_t 141 (by decide +kernel) rfl
theorem fl_X6_41 : Cond.fieldLink "LandTaken" 41 "LandTaken" "rates" "[I" ∈ w_tbl := w_t 142 (by decide +kernel) rfl
theorem fl_X6_121 : Cond.fieldLink "LandTaken" 121 "LandTaken" "today" "I" ∈ w_tbl := w_t 143 (by decide +kernel) rfl
theorem fl_X6_46 : Cond.fieldLink "LandTaken" 46 "LandTaken" "orders" "[LLandTaken$Order;" ∈ w_tbl := w_t 144 (by decide +kernel) rfl
theorem fl_X6_100 : Cond.fieldLink "LandTaken" 100 "LandTaken" "orderCount" "I" ∈ w_tbl := w_t 145 (by decide +kernel) rfl
theorem fl_X6_103 : Cond.fieldLink "LandTaken" 103 "LandTaken" "undoneCount" "I" ∈ w_tbl := w_t 146 (by decide +kernel) rfl
theorem ml_L_13 : Cond.methodLink "LandTakenLaw" 13 ⟨"LandTaken", "map", "(II)I"⟩ ∈ w_tbl := w_t 170 (by decide +kernel) rfl
theorem ml_X6_54 : Cond.methodLink "LandTaken" 54 ⟨"LandTaken", "wasOrderMade", "()Z"⟩ ∈ w_tbl := w_t 174 (by decide +kernel) rfl
theorem ml_L_18 : Cond.methodLink "LandTakenLaw" 18 ⟨"LandTaken", "field", "()I"⟩ ∈ w_tbl := w_t 178 (by decide +kernel) rfl
theorem ml_X6_62 : Cond.methodLink "LandTaken" 62 ⟨"LandTaken$Field", "clear", "()V"⟩ ∈ w_tbl := w_t 182 (by decide +kernel) rfl
theorem ml_L_23 : Cond.methodLink "LandTakenLaw" 23 ⟨"LandTaken", "cell", "(IIII)I"⟩ ∈ w_tbl := w_t 186 (by decide +kernel) rfl
theorem ml_X6_65 : Cond.methodLink "LandTaken" 65 ⟨"LandTaken$Land", "at", "(II)I"⟩ ∈ w_tbl := w_t 190 (by decide +kernel) rfl
theorem ml_X6_69 : Cond.methodLink "LandTaken" 69 ⟨"LandTaken", "isField", "(I)Z"⟩ ∈ w_tbl := w_t 194 (by decide +kernel) rfl
theorem ml_X6_73 : Cond.methodLink "LandTaken" 73 ⟨"LandTaken", "isSoil", "(I)Z"⟩ ∈ w_tbl := w_t 198 (by decide +kernel) rfl
theorem ml_X6_76 : Cond.methodLink "LandTaken" 76 ⟨"LandTaken", "pullDownHouse", "(I)V"⟩ ∈ w_tbl := w_t 201 (by decide +kernel) rfl
theorem ml_L_28 : Cond.methodLink "LandTakenLaw" 28 ⟨"LandTaken", "lane", "(II)I"⟩ ∈ w_tbl := w_t 205 (by decide +kernel) rfl
theorem ml_L_32 : Cond.methodLink "LandTakenLaw" 32 ⟨"LandTaken", "house", "(III)I"⟩ ∈ w_tbl := w_t 209 (by decide +kernel) rfl
theorem ml_L_37 : Cond.methodLink "LandTakenLaw" 37 ⟨"LandTaken", "right", "(III)I"⟩ ∈ w_tbl := w_t 213 (by decide +kernel) rfl
theorem ml_X6_93 : Cond.methodLink "LandTaken" 93 ⟨"LandTaken", "isAmount", "(II)Z"⟩ ∈ w_tbl := w_t 217 (by decide +kernel) rfl
theorem ki_X6_106 : Cond.constant "LandTaken" 106 (1000000) ∈ w_tbl := w_t 220 (by decide +kernel) rfl
theorem ml_X6_97 : Cond.methodLink "LandTaken" 97 ⟨"LandTaken$Field", "addRight", "(II)I"⟩ ∈ w_tbl := w_t 221 (by decide +kernel) rfl
theorem ml_L_41 : Cond.methodLink "LandTakenLaw" 41 ⟨"LandTaken", "price", "(III)I"⟩ ∈ w_tbl := w_t 225 (by decide +kernel) rfl
theorem ml_X6_107 : Cond.methodLink "LandTaken" 107 ⟨"LandTaken", "isDay", "(I)Z"⟩ ∈ w_tbl := w_t 229 (by decide +kernel) rfl
theorem ki_X6_110 : Cond.constant "LandTaken" 110 (100000) ∈ w_tbl := w_t 232 (by decide +kernel) rfl
theorem ml_X6_111 : Cond.methodLink "LandTaken" 111 ⟨"LandTaken$Prices", "put", "(II)I"⟩ ∈ w_tbl := w_t 233 (by decide +kernel) rfl
theorem ml_L_45 : Cond.methodLink "LandTakenLaw" 45 ⟨"LandTaken", "costs", "(II)I"⟩ ∈ w_tbl := w_t 237 (by decide +kernel) rfl
theorem ml_X6_114 : Cond.methodLink "LandTaken" 114 ⟨"LandTaken$Prices", "on", "(I)I"⟩ ∈ w_tbl := w_t 241 (by decide +kernel) rfl
theorem ml_L_49 : Cond.methodLink "LandTakenLaw" 49 ⟨"LandTaken", "rate", "(II)I"⟩ ∈ w_tbl := w_t 245 (by decide +kernel) rfl
theorem fl_X6_118 : Cond.fieldLink "LandTaken" 118 "LandTaken" "MOST_RATE" "[I" ∈ w_tbl := w_t 249 (by decide +kernel) rfl
theorem ml_L_53 : Cond.methodLink "LandTakenLaw" 53 ⟨"LandTaken", "days", "(I)I"⟩ ∈ w_tbl := w_t 251 (by decide +kernel) rfl
theorem ml_L_58 : Cond.methodLink "LandTakenLaw" 58 ⟨"LandTaken", "line", "(IIZ)I"⟩ ∈ w_tbl := w_t 255 (by decide +kernel) rfl
theorem ml_X6_124 : Cond.methodLink "LandTaken" 124 ⟨"LandTaken", "openOrder", "()LLandTaken$Order;"⟩ ∈ w_tbl := w_t 259 (by decide +kernel) rfl
theorem ml_X6_177 : Cond.methodLink "LandTaken" 177 ⟨"LandTaken", "latestOrder", "()LLandTaken$Order;"⟩ ∈ w_tbl := w_t 263 (by decide +kernel) rfl
theorem ml_X6_199 : Cond.methodLink "LandTaken" 199 ⟨"LandTaken", "orderAt", "(I)LLandTaken$Order;"⟩ ∈ w_tbl := w_t 267 (by decide +kernel) rfl
theorem ml_X6_180 : Cond.methodLink "LandTaken" 180 ⟨"LandTaken$Order", "isDone", "()Z"⟩ ∈ w_tbl := w_t 271 (by decide +kernel) rfl
theorem ml_X3_32 : Cond.methodLink "LandTaken$Order" 32 ⟨"LandTaken$Order", "caseAt", "(I)LLandTaken$Case;"⟩ ∈ w_tbl := w_t 275 (by decide +kernel) rfl
theorem ml_X6_128 : Cond.methodLink "LandTaken" 128 ⟨"LandTaken$Land", "isTaken", "(I)Z"⟩ ∈ w_tbl := w_t 279 (by decide +kernel) rfl
theorem ml_L_63 : Cond.methodLink "LandTakenLaw" 63 ⟨"LandTaken", "make", "()I"⟩ ∈ w_tbl := w_t 283 (by decide +kernel) rfl
theorem ml_X6_134 : Cond.methodLink "LandTaken" 134 ⟨"LandTaken", "touchesField", "()Z"⟩ ∈ w_tbl := w_t 287 (by decide +kernel) rfl
theorem ml_X6_141 : Cond.methodLink "LandTaken" 141 ⟨"LandTaken$Land", "cellsInLine", "(I)I"⟩ ∈ w_tbl := w_t 291 (by decide +kernel) rfl
theorem ml_X2_45 : Cond.methodLink "LandTaken$Land" 45 ⟨"LandTaken$Land", "isInLineOf", "(II)Z"⟩ ∈ w_tbl := w_t 295 (by decide +kernel) rfl
theorem in_X3 : Cond.instantiable "LandTaken$Order" 4 ∈ w_tbl := w_t 299 (by decide +kernel) rfl
theorem mn_X6_137 : Cond.methodLinkNest "LandTaken" 137 ⟨"LandTaken$Order", "<init>", "()V"⟩ "LandTaken" ∈ w_tbl := w_t 300 (by decide +kernel) rfl
theorem ml_X3_3 : Cond.methodLink "LandTaken$Order" 3 ⟨"java/lang/Object", "<init>", "()V"⟩ ∈ w_tbl := w_t 303 (by decide +kernel) rfl
theorem cl_X3_9 : Cond.classLink "LandTaken$Order" 9 "LandTaken$Case" ∈ w_tbl := w_t 304 (by decide +kernel) rfl
theorem ao_X0 : Cond.arrayOver (.object "LandTaken$Case") ∈ w_tbl := w_t 305 (by decide +kernel) rfl
theorem fl_X3_17 : Cond.fieldLink "LandTaken$Order" 17 "LandTaken$Order" "madeOn" "I" ∈ w_tbl := w_t 306 (by decide +kernel) rfl
theorem fl_X6_364 : Cond.fieldLink "LandTaken" 364 "LandTaken$Order" "madeOn" "I" ∈ w_tbl := w_t 307 (by decide +kernel) rfl
theorem fl_X3_21 : Cond.fieldLink "LandTaken$Order" 21 "LandTaken$Order" "noticeDays" "I" ∈ w_tbl := w_t 308 (by decide +kernel) rfl
theorem fl_X3_24 : Cond.fieldLink "LandTaken$Order" 24 "LandTaken$Order" "caseCount" "I" ∈ w_tbl := w_t 309 (by decide +kernel) rfl
theorem fl_X6_147 : Cond.fieldLink "LandTaken" 147 "LandTaken$Order" "caseCount" "I" ∈ w_tbl := w_t 310 (by decide +kernel) rfl
theorem fl_X3_11 : Cond.fieldLink "LandTaken$Order" 11 "LandTaken$Order" "cases" "[LLandTaken$Case;" ∈ w_tbl := w_t 311 (by decide +kernel) rfl
theorem ml_X6_138 : Cond.methodLink "LandTaken" 138 ⟨"LandTaken$Order", "begin", "(II)V"⟩ ∈ w_tbl := w_t 321 (by decide +kernel) rfl
theorem ml_X6_144 : Cond.methodLink "LandTaken" 144 ⟨"LandTaken$Order", "addCase", "(II)V"⟩ ∈ w_tbl := w_t 325 (by decide +kernel) rfl
theorem in_X0 : Cond.instantiable "LandTaken$Case" 16 ∈ w_tbl := w_t 329 (by decide +kernel) rfl
theorem mn_X3_27 : Cond.methodLinkNest "LandTaken$Order" 27 ⟨"LandTaken$Case", "<init>", "()V"⟩ "LandTaken" ∈ w_tbl := w_t 330 (by decide +kernel) rfl
theorem ml_X0_3 : Cond.methodLink "LandTaken$Case" 3 ⟨"java/lang/Object", "<init>", "()V"⟩ ∈ w_tbl := w_t 333 (by decide +kernel) rfl
theorem fl_X0_15 : Cond.fieldLink "LandTaken$Case" 15 "LandTaken$Case" "fieldNumber" "I" ∈ w_tbl := w_t 334 (by decide +kernel) rfl
theorem fl_X3_43 : Cond.fieldLink "LandTaken$Order" 43 "LandTaken$Case" "fieldNumber" "I" ∈ w_tbl := w_t 335 (by decide +kernel) rfl
theorem fl_X6_212 : Cond.fieldLink "LandTaken" 212 "LandTaken$Case" "fieldNumber" "I" ∈ w_tbl := w_t 336 (by decide +kernel) rfl
theorem fl_X0_19 : Cond.fieldLink "LandTaken$Case" 19 "LandTaken$Case" "cells" "I" ∈ w_tbl := w_t 337 (by decide +kernel) rfl
theorem fl_X0_22 : Cond.fieldLink "LandTaken$Case" 22 "LandTaken$Case" "state" "I" ∈ w_tbl := w_t 338 (by decide +kernel) rfl
theorem fl_X3_40 : Cond.fieldLink "LandTaken$Order" 40 "LandTaken$Case" "state" "I" ∈ w_tbl := w_t 339 (by decide +kernel) rfl
theorem fl_X6_154 : Cond.fieldLink "LandTaken" 154 "LandTaken$Case" "state" "I" ∈ w_tbl := w_t 340 (by decide +kernel) rfl
theorem fl_X0_25 : Cond.fieldLink "LandTaken$Case" 25 "LandTaken$Case" "enteredOn" "I" ∈ w_tbl := w_t 341 (by decide +kernel) rfl
theorem fl_X0_28 : Cond.fieldLink "LandTaken$Case" 28 "LandTaken$Case" "interestRate" "I" ∈ w_tbl := w_t 342 (by decide +kernel) rfl
theorem fl_X0_31 : Cond.fieldLink "LandTaken$Case" 31 "LandTaken$Case" "countedTo" "I" ∈ w_tbl := w_t 343 (by decide +kernel) rfl
theorem fl_X0_34 : Cond.fieldLink "LandTaken$Case" 34 "LandTaken$Case" "landWorth" "J" ∈ w_tbl := w_t 344 (by decide +kernel) rfl
theorem fl_X6_233 : Cond.fieldLink "LandTaken" 233 "LandTaken$Case" "landWorth" "J" ∈ w_tbl := w_t 345 (by decide +kernel) rfl
theorem fl_X0_38 : Cond.fieldLink "LandTaken$Case" 38 "LandTaken$Case" "loss" "J" ∈ w_tbl := w_t 346 (by decide +kernel) rfl
theorem fl_X3_46 : Cond.fieldLink "LandTaken$Order" 46 "LandTaken$Case" "loss" "J" ∈ w_tbl := w_t 347 (by decide +kernel) rfl
theorem fl_X6_250 : Cond.fieldLink "LandTaken" 250 "LandTaken$Case" "loss" "J" ∈ w_tbl := w_t 348 (by decide +kernel) rfl
theorem fl_X0_41 : Cond.fieldLink "LandTaken$Case" 41 "LandTaken$Case" "fence" "J" ∈ w_tbl := w_t 349 (by decide +kernel) rfl
theorem fl_X6_256 : Cond.fieldLink "LandTaken" 256 "LandTaken$Case" "fence" "J" ∈ w_tbl := w_t 350 (by decide +kernel) rfl
theorem fl_X0_44 : Cond.fieldLink "LandTaken$Case" 44 "LandTaken$Case" "better" "J" ∈ w_tbl := w_t 351 (by decide +kernel) rfl
theorem fl_X6_271 : Cond.fieldLink "LandTaken" 271 "LandTaken$Case" "better" "J" ∈ w_tbl := w_t 352 (by decide +kernel) rfl
theorem fl_X0_47 : Cond.fieldLink "LandTaken$Case" 47 "LandTaken$Case" "due" "J" ∈ w_tbl := w_t 353 (by decide +kernel) rfl
theorem fl_X6_274 : Cond.fieldLink "LandTaken" 274 "LandTaken$Case" "due" "J" ∈ w_tbl := w_t 354 (by decide +kernel) rfl
theorem fl_X0_50 : Cond.fieldLink "LandTaken$Case" 50 "LandTaken$Case" "paid" "J" ∈ w_tbl := w_t 355 (by decide +kernel) rfl
theorem fl_X6_185 : Cond.fieldLink "LandTaken" 185 "LandTaken$Case" "paid" "J" ∈ w_tbl := w_t 356 (by decide +kernel) rfl
theorem fl_X0_53 : Cond.fieldLink "LandTaken$Case" 53 "LandTaken$Case" "interestKept" "J" ∈ w_tbl := w_t 357 (by decide +kernel) rfl
theorem fl_X0_56 : Cond.fieldLink "LandTaken$Case" 56 "LandTaken$Case" "interestPaid" "J" ∈ w_tbl := w_t 358 (by decide +kernel) rfl
theorem fl_X6_189 : Cond.fieldLink "LandTaken" 189 "LandTaken$Case" "interestPaid" "J" ∈ w_tbl := w_t 359 (by decide +kernel) rfl
theorem fl_X0_59 : Cond.fieldLink "LandTaken$Case" 59 "LandTaken$Case" "ownerGets" "J" ∈ w_tbl := w_t 360 (by decide +kernel) rfl
theorem fl_X6_302 : Cond.fieldLink "LandTaken" 302 "LandTaken$Case" "ownerGets" "J" ∈ w_tbl := w_t 361 (by decide +kernel) rfl
theorem fl_X0_9 : Cond.fieldLink "LandTaken$Case" 9 "LandTaken$Case" "rightGets" "[J" ∈ w_tbl := w_t 362 (by decide +kernel) rfl
theorem fl_X6_299 : Cond.fieldLink "LandTaken" 299 "LandTaken$Case" "rightGets" "[J" ∈ w_tbl := w_t 363 (by decide +kernel) rfl
theorem ml_X3_28 : Cond.methodLink "LandTaken$Order" 28 ⟨"LandTaken$Case", "begin", "(II)V"⟩ ∈ w_tbl := w_t 397 (by decide +kernel) rfl
theorem ml_L_67 : Cond.methodLink "LandTakenLaw" 67 ⟨"LandTaken", "object", "(I)I"⟩ ∈ w_tbl := w_t 401 (by decide +kernel) rfl
theorem ml_X6_150 : Cond.methodLink "LandTaken" 150 ⟨"LandTaken$Order", "caseAt", "(I)LLandTaken$Case;"⟩ ∈ w_tbl := w_t 405 (by decide +kernel) rfl
theorem ml_X6_159 : Cond.methodLink "LandTaken" 159 ⟨"LandTaken$Order", "noticeEnd", "()I"⟩ ∈ w_tbl := w_t 406 (by decide +kernel) rfl
theorem ml_L_71 : Cond.methodLink "LandTakenLaw" 71 ⟨"LandTaken", "hear", "(IZ)I"⟩ ∈ w_tbl := w_t 410 (by decide +kernel) rfl
theorem ml_X6_163 : Cond.methodLink "LandTaken" 163 ⟨"LandTaken", "emptyLineIfDone", "(LLandTaken$Order;)V"⟩ ∈ w_tbl := w_t 414 (by decide +kernel) rfl
theorem ml_X6_203 : Cond.methodLink "LandTaken" 203 ⟨"LandTaken$Land", "emptyLine", "()V"⟩ ∈ w_tbl := w_t 418 (by decide +kernel) rfl
theorem ml_L_76 : Cond.methodLink "LandTakenLaw" 76 ⟨"LandTaken", "enter", "()I"⟩ ∈ w_tbl := w_t 422 (by decide +kernel) rfl
theorem ml_X6_167 : Cond.methodLink "LandTaken" 167 ⟨"LandTaken$Order", "hasReady", "()Z"⟩ ∈ w_tbl := w_t 426 (by decide +kernel) rfl
theorem ml_X3_36 : Cond.methodLink "LandTaken$Order" 36 ⟨"LandTaken$Case", "isReady", "()Z"⟩ ∈ w_tbl := w_t 430 (by decide +kernel) rfl
theorem ml_X6_170 : Cond.methodLink "LandTaken" 170 ⟨"LandTaken", "takeReadyCells", "(LLandTaken$Order;)V"⟩ ∈ w_tbl := w_t 434 (by decide +kernel) rfl
theorem ml_X6_206 : Cond.methodLink "LandTaken" 206 ⟨"LandTaken$Land", "takeLine", "(II)V"⟩ ∈ w_tbl := w_t 438 (by decide +kernel) rfl
theorem ml_X6_209 : Cond.methodLink "LandTaken" 209 ⟨"LandTaken$Case", "isReady", "()Z"⟩ ∈ w_tbl := w_t 442 (by decide +kernel) rfl
theorem ml_X6_173 : Cond.methodLink "LandTaken" 173 ⟨"LandTaken", "settleReadyCases", "(LLandTaken$Order;)I"⟩ ∈ w_tbl := w_t 443 (by decide +kernel) rfl
theorem ml_X6_215 : Cond.methodLink "LandTaken" 215 ⟨"LandTaken", "assess", "(LLandTaken$Case;LLandTaken$Field;)V"⟩ ∈ w_tbl := w_t 447 (by decide +kernel) rfl
theorem ml_X6_225 : Cond.methodLink "LandTaken" 225 ⟨"LandTaken$Split", "find", "(LLandTaken$Land;II)V"⟩ ∈ w_tbl := w_t 451 (by decide +kernel) rfl
theorem ml_X5_32 : Cond.methodLink "LandTaken$Split" 32 ⟨"LandTaken$Land", "isKept", "(II)Z"⟩ ∈ w_tbl := w_t 455 (by decide +kernel) rfl
theorem ml_X5_38 : Cond.methodLink "LandTaken$Split" 38 ⟨"LandTaken$Split", "spread", "(LLandTaken$Land;II)V"⟩ ∈ w_tbl := w_t 459 (by decide +kernel) rfl
theorem ml_X5_49 : Cond.methodLink "LandTaken$Split" 49 ⟨"LandTaken$Land", "beside", "(II)I"⟩ ∈ w_tbl := w_t 463 (by decide +kernel) rfl
theorem fn_X2_35 : Cond.fieldLinkNest "LandTaken$Land" 35 "LandTaken" "STEP_X" "[I" "LandTaken" ∈ w_tbl := w_t 467 (by decide +kernel) rfl
theorem fn_X2_38 : Cond.fieldLinkNest "LandTaken$Land" 38 "LandTaken" "STEP_Y" "[I" "LandTaken" ∈ w_tbl := w_t 469 (by decide +kernel) rfl
theorem ml_X2_41 : Cond.methodLink "LandTaken$Land" 41 ⟨"LandTaken$Land", "at", "(II)I"⟩ ∈ w_tbl := w_t 471 (by decide +kernel) rfl
theorem ml_X5_53 : Cond.methodLink "LandTaken$Split" 53 ⟨"LandTaken$Land", "isOpenLane", "(I)Z"⟩ ∈ w_tbl := w_t 472 (by decide +kernel) rfl
theorem ml_X5_42 : Cond.methodLink "LandTaken$Split" 42 ⟨"LandTaken$Split", "chosenMain", "(I)I"⟩ ∈ w_tbl := w_t 476 (by decide +kernel) rfl
theorem ml_X6_229 : Cond.methodLink "LandTaken" 229 ⟨"LandTaken$Land", "worthInLine", "(I[I)J"⟩ ∈ w_tbl := w_t 480 (by decide +kernel) rfl
theorem ml_X2_53 : Cond.methodLink "LandTaken$Land" 53 ⟨"LandTaken$Land", "priceAt", "(I[I)I"⟩ ∈ w_tbl := w_t 484 (by decide +kernel) rfl
theorem ml_X6_236 : Cond.methodLink "LandTaken" 236 ⟨"LandTaken", "lossOfPieces", "()J"⟩ ∈ w_tbl := w_t 488 (by decide +kernel) rfl
theorem ml_X6_277 : Cond.methodLink "LandTaken" 277 ⟨"LandTaken$Split", "hasWay", "(I)Z"⟩ ∈ w_tbl := w_t 492 (by decide +kernel) rfl
theorem ml_X6_262 : Cond.methodLink "LandTaken" 262 ⟨"LandTaken$Split", "worth", "(ILLandTaken$Land;[I)J"⟩ ∈ w_tbl := w_t 496 (by decide +kernel) rfl
theorem ml_X5_57 : Cond.methodLink "LandTaken$Split" 57 ⟨"LandTaken$Land", "priceAt", "(I[I)I"⟩ ∈ w_tbl := w_t 500 (by decide +kernel) rfl
theorem kl_X6_266 : Cond.constantLong "LandTaken" 266 (1000) ∈ w_tbl := w_t 501 (by decide +kernel) rfl
theorem ml_X6_240 : Cond.methodLink "LandTaken" 240 ⟨"LandTaken", "lossBefore", "(I)J"⟩ ∈ w_tbl := w_t 502 (by decide +kernel) rfl
theorem ml_X6_283 : Cond.methodLink "LandTaken" 283 ⟨"LandTaken$Order", "lossOf", "(I)J"⟩ ∈ w_tbl := w_t 506 (by decide +kernel) rfl
theorem ml_X6_244 : Cond.methodLink "LandTaken" 244 ⟨"java/lang/Math", "max", "(JJ)J"⟩ ∈ w_tbl := w_t 510 (by decide +kernel) rfl
theorem ml_X6_253 : Cond.methodLink "LandTaken" 253 ⟨"LandTaken$Land", "fenceSides", "(I)I"⟩ ∈ w_tbl := w_t 513 (by decide +kernel) rfl
theorem ml_X2_57 : Cond.methodLink "LandTaken$Land" 57 ⟨"LandTaken$Land", "keptSides", "(II)I"⟩ ∈ w_tbl := w_t 517 (by decide +kernel) rfl
theorem ml_X2_60 : Cond.methodLink "LandTaken$Land" 60 ⟨"LandTaken$Land", "beside", "(II)I"⟩ ∈ w_tbl := w_t 521 (by decide +kernel) rfl
theorem ml_X2_63 : Cond.methodLink "LandTaken$Land" 63 ⟨"LandTaken$Land", "isKept", "(II)Z"⟩ ∈ w_tbl := w_t 522 (by decide +kernel) rfl
theorem ml_X6_268 : Cond.methodLink "LandTaken" 268 ⟨"java/lang/Math", "min", "(JJ)J"⟩ ∈ w_tbl := w_t 523 (by decide +kernel) rfl
theorem ml_X6_219 : Cond.methodLink "LandTaken" 219 ⟨"LandTaken", "share", "(LLandTaken$Case;LLandTaken$Field;)V"⟩ ∈ w_tbl := w_t 526 (by decide +kernel) rfl
theorem ml_X6_222 : Cond.methodLink "LandTaken" 222 ⟨"LandTaken$Case", "enterOn", "(II)V"⟩ ∈ w_tbl := w_t 530 (by decide +kernel) rfl
theorem ml_L_80 : Cond.methodLink "LandTakenLaw" 80 ⟨"LandTaken", "undo", "()J"⟩ ∈ w_tbl := w_t 534 (by decide +kernel) rfl
theorem kl_X6_183 : Cond.constantLong "LandTaken" 183 (-103) ∈ w_tbl := w_t 538 (by decide +kernel) rfl
theorem ml_X6_192 : Cond.methodLink "LandTaken" 192 ⟨"LandTaken", "oweDebtsAgain", "(LLandTaken$Case;)V"⟩ ∈ w_tbl := w_t 539 (by decide +kernel) rfl
theorem ml_X6_196 : Cond.methodLink "LandTaken" 196 ⟨"LandTaken$Land", "giveBack", "(I)V"⟩ ∈ w_tbl := w_t 543 (by decide +kernel) rfl
theorem ml_L_87 : Cond.methodLink "LandTakenLaw" 87 ⟨"LandTaken", "pay", "(IIJ)J"⟩ ∈ w_tbl := w_t 547 (by decide +kernel) rfl
theorem ml_X6_305 : Cond.methodLink "LandTaken" 305 ⟨"LandTaken", "caseOf", "(II)LLandTaken$Case;"⟩ ∈ w_tbl := w_t 551 (by decide +kernel) rfl
theorem kl_X6_309 : Cond.constantLong "LandTaken" 309 (-101) ∈ w_tbl := w_t 555 (by decide +kernel) rfl
theorem kl_X6_311 : Cond.constantLong "LandTaken" 311 (1000000000) ∈ w_tbl := w_t 556 (by decide +kernel) rfl
theorem kl_X6_313 : Cond.constantLong "LandTaken" 313 (-102) ∈ w_tbl := w_t 557 (by decide +kernel) rfl
theorem ml_X6_315 : Cond.methodLink "LandTaken" 315 ⟨"LandTaken$Case", "receive", "(JI)J"⟩ ∈ w_tbl := w_t 558 (by decide +kernel) rfl
theorem ml_X0_68 : Cond.methodLink "LandTaken$Case" 68 ⟨"LandTaken$Case", "interestOn", "(I)J"⟩ ∈ w_tbl := w_t 562 (by decide +kernel) rfl
theorem ml_X0_62 : Cond.methodLink "LandTaken$Case" 62 ⟨"LandTaken$Case", "owed", "()J"⟩ ∈ w_tbl := w_t 566 (by decide +kernel) rfl
theorem kl_X0_66 : Cond.constantLong "LandTaken$Case" 66 (1000000) ∈ w_tbl := w_t 570 (by decide +kernel) rfl
theorem ml_X0_72 : Cond.methodLink "LandTaken$Case" 72 ⟨"java/lang/Math", "min", "(JJ)J"⟩ ∈ w_tbl := w_t 571 (by decide +kernel) rfl
theorem ml_L_92 : Cond.methodLink "LandTakenLaw" 92 ⟨"LandTaken", "told", "(III)J"⟩ ∈ w_tbl := w_t 572 (by decide +kernel) rfl
theorem ml_X6_319 : Cond.methodLink "LandTaken" 319 ⟨"LandTaken$Case", "tell", "(II)J"⟩ ∈ w_tbl := w_t 576 (by decide +kernel) rfl
theorem ml_L_97 : Cond.methodLink "LandTakenLaw" 97 ⟨"LandTaken", "gets", "(III)J"⟩ ∈ w_tbl := w_t 580 (by decide +kernel) rfl
theorem ml_L_101 : Cond.methodLink "LandTakenLaw" 101 ⟨"LandTaken", "look", "(III)I"⟩ ∈ w_tbl := w_t 584 (by decide +kernel) rfl
theorem ml_L_105 : Cond.methodLink "LandTakenLaw" 105 ⟨"LandTaken", "pieces", "(I)I"⟩ ∈ w_tbl := w_t 588 (by decide +kernel) rfl
theorem ml_L_109 : Cond.methodLink "LandTakenLaw" 109 ⟨"LandTaken", "piece", "(III)I"⟩ ∈ w_tbl := w_t 592 (by decide +kernel) rfl
theorem ml_X6_323 : Cond.methodLink "LandTaken" 323 ⟨"LandTaken$Split", "tell", "(II)I"⟩ ∈ w_tbl := w_t 596 (by decide +kernel) rfl
theorem ml_L_113 : Cond.methodLink "LandTakenLaw" 113 ⟨"LandTaken", "count", "(I)I"⟩ ∈ w_tbl := w_t 600 (by decide +kernel) rfl
theorem ml_X6_325 : Cond.methodLink "LandTaken" 325 ⟨"LandTaken$Land", "cellsTaken", "()I"⟩ ∈ w_tbl := w_t 604 (by decide +kernel) rfl
theorem ml_X2_49 : Cond.methodLink "LandTaken$Land" 49 ⟨"LandTaken$Land", "isTaken", "(I)Z"⟩ ∈ w_tbl := w_t 608 (by decide +kernel) rfl
theorem ml_X6_328 : Cond.methodLink "LandTaken" 328 ⟨"LandTaken$Land", "cellsChosen", "()I"⟩ ∈ w_tbl := w_t 609 (by decide +kernel) rfl
theorem ml_X6_331 : Cond.methodLink "LandTaken" 331 ⟨"LandTaken", "casesOfLatest", "()I"⟩ ∈ w_tbl := w_t 613 (by decide +kernel) rfl
theorem ml_L_117 : Cond.methodLink "LandTakenLaw" 117 ⟨"LandTaken", "digest", "()J"⟩ ∈ w_tbl := w_t 617 (by decide +kernel) rfl
theorem kl_X6_334 : Cond.constantLong "LandTaken" 334 (127) ∈ w_tbl := w_t 621 (by decide +kernel) rfl
theorem ml_X6_339 : Cond.methodLink "LandTaken" 339 ⟨"LandTaken", "mixed", "(JJ)J"⟩ ∈ w_tbl := w_t 622 (by decide +kernel) rfl
theorem kl_X6_358 : Cond.constantLong "LandTaken" 358 (31) ∈ w_tbl := w_t 625 (by decide +kernel) rfl
theorem ml_X6_345 : Cond.methodLink "LandTaken" 345 ⟨"LandTaken", "mixedCells", "(J)J"⟩ ∈ w_tbl := w_t 626 (by decide +kernel) rfl
theorem ml_X6_360 : Cond.methodLink "LandTaken" 360 ⟨"LandTaken", "look", "(III)I"⟩ ∈ w_tbl := w_t 630 (by decide +kernel) rfl
theorem ml_X6_349 : Cond.methodLink "LandTaken" 349 ⟨"LandTaken", "mixedFields", "(J)J"⟩ ∈ w_tbl := w_t 631 (by decide +kernel) rfl
theorem ml_X6_352 : Cond.methodLink "LandTaken" 352 ⟨"LandTaken", "mixedOrders", "(J)J"⟩ ∈ w_tbl := w_t 635 (by decide +kernel) rfl
theorem ml_X6_367 : Cond.methodLink "LandTaken" 367 ⟨"LandTaken", "told", "(III)J"⟩ ∈ w_tbl := w_t 639 (by decide +kernel) rfl
theorem ml_X6_355 : Cond.methodLink "LandTaken" 355 ⟨"LandTaken", "count", "(I)I"⟩ ∈ w_tbl := w_t 640 (by decide +kernel) rfl
theorem cl_L_10 : Cond.classLink "LandTakenLaw" 10 "LandTakenModel" ∈ w_tbl := w_t 641 (by decide +kernel) rfl
theorem in_X7 : Cond.instantiable "LandTakenModel" 46 ∈ w_tbl := w_t 642 (by decide +kernel) rfl
theorem ml_L_12 : Cond.methodLink "LandTakenLaw" 12 ⟨"LandTakenModel", "<init>", "()V"⟩ ∈ w_tbl := w_t 643 (by decide +kernel) rfl
theorem ml_X7_1 : Cond.methodLink "LandTakenModel" 1 ⟨"java/lang/Object", "<init>", "()V"⟩ ∈ w_tbl := w_t 646 (by decide +kernel) rfl
theorem ml_X7_127 : Cond.methodLink "LandTakenModel" 127 ⟨"LandTakenModel", "fresh", "()V"⟩ ∈ w_tbl := w_t 647 (by decide +kernel) rfl
theorem fl_X7_7 : Cond.fieldLink "LandTakenModel" 7 "LandTakenModel" "width" "I" ∈ w_tbl := w_t 651 (by decide +kernel) rfl
theorem fl_X7_13 : Cond.fieldLink "LandTakenModel" 13 "LandTakenModel" "height" "I" ∈ w_tbl := w_t 652 (by decide +kernel) rfl
theorem fl_X7_16 : Cond.fieldLink "LandTakenModel" 16 "LandTakenModel" "fieldOf" "[I" ∈ w_tbl := w_t 653 (by decide +kernel) rfl
theorem fl_X7_20 : Cond.fieldLink "LandTakenModel" 20 "LandTakenModel" "soilOf" "[I" ∈ w_tbl := w_t 654 (by decide +kernel) rfl
theorem fl_X7_23 : Cond.fieldLink "LandTakenModel" 23 "LandTakenModel" "isLane" "[Z" ∈ w_tbl := w_t 655 (by decide +kernel) rfl
theorem fl_X7_27 : Cond.fieldLink "LandTakenModel" 27 "LandTakenModel" "inLine" "[Z" ∈ w_tbl := w_t 656 (by decide +kernel) rfl
theorem fl_X7_30 : Cond.fieldLink "LandTakenModel" 30 "LandTakenModel" "takenBy" "[I" ∈ w_tbl := w_t 657 (by decide +kernel) rfl
theorem fl_X7_130 : Cond.fieldLink "LandTakenModel" 130 "LandTakenModel" "fields" "I" ∈ w_tbl := w_t 658 (by decide +kernel) rfl
theorem fl_X7_33 : Cond.fieldLink "LandTakenModel" 33 "LandTakenModel" "houses" "[I" ∈ w_tbl := w_t 659 (by decide +kernel) rfl
theorem fl_X7_36 : Cond.fieldLink "LandTakenModel" 36 "LandTakenModel" "rightMany" "[I" ∈ w_tbl := w_t 660 (by decide +kernel) rfl
theorem fl_X7_39 : Cond.fieldLink "LandTakenModel" 39 "LandTakenModel" "rightKind" "[I" ∈ w_tbl := w_t 661 (by decide +kernel) rfl
theorem fl_X7_42 : Cond.fieldLink "LandTakenModel" 42 "LandTakenModel" "rightAmount" "[I" ∈ w_tbl := w_t 662 (by decide +kernel) rfl
theorem fl_X7_45 : Cond.fieldLink "LandTakenModel" 45 "LandTakenModel" "toldMany" "[I" ∈ w_tbl := w_t 663 (by decide +kernel) rfl
theorem fl_X7_48 : Cond.fieldLink "LandTakenModel" 48 "LandTakenModel" "toldDay" "[I" ∈ w_tbl := w_t 664 (by decide +kernel) rfl
theorem fl_X7_51 : Cond.fieldLink "LandTakenModel" 51 "LandTakenModel" "toldPrice" "[I" ∈ w_tbl := w_t 665 (by decide +kernel) rfl
theorem fl_X7_54 : Cond.fieldLink "LandTakenModel" 54 "LandTakenModel" "rates" "[I" ∈ w_tbl := w_t 666 (by decide +kernel) rfl
theorem fl_X7_174 : Cond.fieldLink "LandTakenModel" 174 "LandTakenModel" "today" "I" ∈ w_tbl := w_t 667 (by decide +kernel) rfl
theorem fl_X7_139 : Cond.fieldLink "LandTakenModel" 139 "LandTakenModel" "wasMade" "Z" ∈ w_tbl := w_t 668 (by decide +kernel) rfl
theorem fl_X7_243 : Cond.fieldLink "LandTakenModel" 243 "LandTakenModel" "undone" "I" ∈ w_tbl := w_t 669 (by decide +kernel) rfl
theorem fl_X7_197 : Cond.fieldLink "LandTakenModel" 197 "LandTakenModel" "orders" "I" ∈ w_tbl := w_t 670 (by decide +kernel) rfl
theorem fl_X7_200 : Cond.fieldLink "LandTakenModel" 200 "LandTakenModel" "isOpen" "Z" ∈ w_tbl := w_t 671 (by decide +kernel) rfl
theorem fl_X7_57 : Cond.fieldLink "LandTakenModel" 57 "LandTakenModel" "madeOn" "[I" ∈ w_tbl := w_t 672 (by decide +kernel) rfl
theorem fl_X7_60 : Cond.fieldLink "LandTakenModel" 60 "LandTakenModel" "noticeOf" "[I" ∈ w_tbl := w_t 673 (by decide +kernel) rfl
theorem fl_X7_63 : Cond.fieldLink "LandTakenModel" 63 "LandTakenModel" "cases" "[I" ∈ w_tbl := w_t 674 (by decide +kernel) rfl
theorem fl_X7_66 : Cond.fieldLink "LandTakenModel" 66 "LandTakenModel" "hasEntry" "[Z" ∈ w_tbl := w_t 675 (by decide +kernel) rfl
theorem fl_X7_69 : Cond.fieldLink "LandTakenModel" 69 "LandTakenModel" "caseField" "[I" ∈ w_tbl := w_t 676 (by decide +kernel) rfl
theorem fl_X7_72 : Cond.fieldLink "LandTakenModel" 72 "LandTakenModel" "caseState" "[I" ∈ w_tbl := w_t 677 (by decide +kernel) rfl
theorem fl_X7_75 : Cond.fieldLink "LandTakenModel" 75 "LandTakenModel" "caseCells" "[I" ∈ w_tbl := w_t 678 (by decide +kernel) rfl
theorem fl_X7_78 : Cond.fieldLink "LandTakenModel" 78 "LandTakenModel" "caseDay" "[I" ∈ w_tbl := w_t 679 (by decide +kernel) rfl
theorem fl_X7_81 : Cond.fieldLink "LandTakenModel" 81 "LandTakenModel" "caseRate" "[I" ∈ w_tbl := w_t 680 (by decide +kernel) rfl
theorem fl_X7_84 : Cond.fieldLink "LandTakenModel" 84 "LandTakenModel" "land" "[J" ∈ w_tbl := w_t 681 (by decide +kernel) rfl
theorem fl_X7_88 : Cond.fieldLink "LandTakenModel" 88 "LandTakenModel" "loss" "[J" ∈ w_tbl := w_t 682 (by decide +kernel) rfl
theorem fl_X7_91 : Cond.fieldLink "LandTakenModel" 91 "LandTakenModel" "fence" "[J" ∈ w_tbl := w_t 683 (by decide +kernel) rfl
theorem fl_X7_94 : Cond.fieldLink "LandTakenModel" 94 "LandTakenModel" "better" "[J" ∈ w_tbl := w_t 684 (by decide +kernel) rfl
theorem fl_X7_97 : Cond.fieldLink "LandTakenModel" 97 "LandTakenModel" "paidDue" "[J" ∈ w_tbl := w_t 685 (by decide +kernel) rfl
theorem fl_X7_100 : Cond.fieldLink "LandTakenModel" 100 "LandTakenModel" "paidInterest" "[J" ∈ w_tbl := w_t 686 (by decide +kernel) rfl
theorem fl_X7_103 : Cond.fieldLink "LandTakenModel" 103 "LandTakenModel" "interest" "[J" ∈ w_tbl := w_t 687 (by decide +kernel) rfl
theorem fl_X7_106 : Cond.fieldLink "LandTakenModel" 106 "LandTakenModel" "since" "[I" ∈ w_tbl := w_t 688 (by decide +kernel) rfl
theorem fl_X7_109 : Cond.fieldLink "LandTakenModel" 109 "LandTakenModel" "got" "[J" ∈ w_tbl := w_t 689 (by decide +kernel) rfl
theorem fl_X7_112 : Cond.fieldLink "LandTakenModel" 112 "LandTakenModel" "pieceOf" "[I" ∈ w_tbl := w_t 690 (by decide +kernel) rfl
theorem fl_X7_115 : Cond.fieldLink "LandTakenModel" 115 "LandTakenModel" "queue" "[I" ∈ w_tbl := w_t 691 (by decide +kernel) rfl
theorem fl_X7_184 : Cond.fieldLink "LandTakenModel" 184 "LandTakenModel" "pieceMany" "I" ∈ w_tbl := w_t 692 (by decide +kernel) rfl
theorem fl_X7_118 : Cond.fieldLink "LandTakenModel" 118 "LandTakenModel" "pieceFirst" "[I" ∈ w_tbl := w_t 693 (by decide +kernel) rfl
theorem fl_X7_121 : Cond.fieldLink "LandTakenModel" 121 "LandTakenModel" "pieceSize" "[I" ∈ w_tbl := w_t 694 (by decide +kernel) rfl
theorem fl_X7_124 : Cond.fieldLink "LandTakenModel" 124 "LandTakenModel" "taken" "[Z" ∈ w_tbl := w_t 695 (by decide +kernel) rfl
theorem fl_X7_271 : Cond.fieldLink "LandTakenModel" 271 "LandTakenModel" "h" "J" ∈ w_tbl := w_t 696 (by decide +kernel) rfl
theorem ml_L_17 : Cond.methodLink "LandTakenLaw" 17 ⟨"LandTakenModel", "map", "(II)I"⟩ ∈ w_tbl := w_t 790 (by decide +kernel) rfl
theorem kl_X7_137 : Cond.constantLong "LandTakenModel" 137 (16) ∈ w_tbl := w_t 794 (by decide +kernel) rfl
theorem ml_X7_133 : Cond.methodLink "LandTakenModel" 133 ⟨"LandTakenModel", "in", "(JJJ)Z"⟩ ∈ w_tbl := w_t 795 (by decide +kernel) rfl
theorem ml_L_22 : Cond.methodLink "LandTakenLaw" 22 ⟨"LandTakenModel", "field", "()I"⟩ ∈ w_tbl := w_t 798 (by decide +kernel) rfl
theorem ml_L_27 : Cond.methodLink "LandTakenLaw" 27 ⟨"LandTakenModel", "cell", "(IIII)I"⟩ ∈ w_tbl := w_t 802 (by decide +kernel) rfl
theorem ml_X7_143 : Cond.methodLink "LandTakenModel" 143 ⟨"LandTakenModel", "isCell", "(II)Z"⟩ ∈ w_tbl := w_t 806 (by decide +kernel) rfl
theorem ml_X7_147 : Cond.methodLink "LandTakenModel" 147 ⟨"LandTakenModel", "isField", "(I)Z"⟩ ∈ w_tbl := w_t 810 (by decide +kernel) rfl
theorem kl_X7_151 : Cond.constantLong "LandTakenModel" 151 (3) ∈ w_tbl := w_t 814 (by decide +kernel) rfl
theorem ml_X7_153 : Cond.methodLink "LandTakenModel" 153 ⟨"LandTakenModel", "clearHouse", "(I)V"⟩ ∈ w_tbl := w_t 815 (by decide +kernel) rfl
theorem ml_L_31 : Cond.methodLink "LandTakenLaw" 31 ⟨"LandTakenModel", "lane", "(II)I"⟩ ∈ w_tbl := w_t 819 (by decide +kernel) rfl
theorem ml_L_36 : Cond.methodLink "LandTakenLaw" 36 ⟨"LandTakenModel", "house", "(III)I"⟩ ∈ w_tbl := w_t 823 (by decide +kernel) rfl
theorem ml_L_40 : Cond.methodLink "LandTakenLaw" 40 ⟨"LandTakenModel", "right", "(III)I"⟩ ∈ w_tbl := w_t 827 (by decide +kernel) rfl
theorem kl_X7_157 : Cond.constantLong "LandTakenModel" 157 (2) ∈ w_tbl := w_t 831 (by decide +kernel) rfl
theorem kl_X7_159 : Cond.constantLong "LandTakenModel" 159 (1000000) ∈ w_tbl := w_t 832 (by decide +kernel) rfl
theorem kl_X7_161 : Cond.constantLong "LandTakenModel" 161 (1000) ∈ w_tbl := w_t 833 (by decide +kernel) rfl
theorem ml_L_44 : Cond.methodLink "LandTakenLaw" 44 ⟨"LandTakenModel", "price", "(III)I"⟩ ∈ w_tbl := w_t 834 (by decide +kernel) rfl
theorem kl_X7_163 : Cond.constantLong "LandTakenModel" 163 (10000) ∈ w_tbl := w_t 838 (by decide +kernel) rfl
theorem kl_X7_165 : Cond.constantLong "LandTakenModel" 165 (100000) ∈ w_tbl := w_t 839 (by decide +kernel) rfl
theorem ml_L_48 : Cond.methodLink "LandTakenLaw" 48 ⟨"LandTakenModel", "costs", "(II)I"⟩ ∈ w_tbl := w_t 840 (by decide +kernel) rfl
theorem ml_X7_167 : Cond.methodLink "LandTakenModel" 167 ⟨"LandTakenModel", "costOf", "(II)I"⟩ ∈ w_tbl := w_t 844 (by decide +kernel) rfl
theorem ml_L_52 : Cond.methodLink "LandTakenLaw" 52 ⟨"LandTakenModel", "rate", "(II)I"⟩ ∈ w_tbl := w_t 848 (by decide +kernel) rfl
theorem kl_X7_171 : Cond.constantLong "LandTakenModel" 171 (4) ∈ w_tbl := w_t 852 (by decide +kernel) rfl
theorem ki_X7_173 : Cond.constant "LandTakenModel" 173 (100000) ∈ w_tbl := w_t 853 (by decide +kernel) rfl
theorem ml_L_57 : Cond.methodLink "LandTakenLaw" 57 ⟨"LandTakenModel", "days", "(I)I"⟩ ∈ w_tbl := w_t 854 (by decide +kernel) rfl
theorem ml_L_62 : Cond.methodLink "LandTakenLaw" 62 ⟨"LandTakenModel", "line", "(IIZ)I"⟩ ∈ w_tbl := w_t 858 (by decide +kernel) rfl
theorem ml_L_66 : Cond.methodLink "LandTakenLaw" 66 ⟨"LandTakenModel", "make", "()I"⟩ ∈ w_tbl := w_t 862 (by decide +kernel) rfl
theorem ml_X7_203 : Cond.methodLink "LandTakenModel" 203 ⟨"LandTakenModel", "wanted", "(I)I"⟩ ∈ w_tbl := w_t 866 (by decide +kernel) rfl
theorem ml_X7_190 : Cond.methodLink "LandTakenModel" 190 ⟨"LandTakenModel", "isLeft", "(II)Z"⟩ ∈ w_tbl := w_t 870 (by decide +kernel) rfl
theorem ml_L_70 : Cond.methodLink "LandTakenLaw" 70 ⟨"LandTakenModel", "object", "(I)I"⟩ ∈ w_tbl := w_t 874 (by decide +kernel) rfl
theorem ml_L_75 : Cond.methodLink "LandTakenLaw" 75 ⟨"LandTakenModel", "hear", "(IZ)I"⟩ ∈ w_tbl := w_t 878 (by decide +kernel) rfl
theorem ml_X7_206 : Cond.methodLink "LandTakenModel" 206 ⟨"LandTakenModel", "close", "()V"⟩ ∈ w_tbl := w_t 882 (by decide +kernel) rfl
theorem ml_L_79 : Cond.methodLink "LandTakenLaw" 79 ⟨"LandTakenModel", "enter", "()I"⟩ ∈ w_tbl := w_t 886 (by decide +kernel) rfl
theorem ml_X7_209 : Cond.methodLink "LandTakenModel" 209 ⟨"LandTakenModel", "mayEnter", "(II)Z"⟩ ∈ w_tbl := w_t 890 (by decide +kernel) rfl
theorem ml_X7_212 : Cond.methodLink "LandTakenModel" 212 ⟨"LandTakenModel", "work", "(I)V"⟩ ∈ w_tbl := w_t 894 (by decide +kernel) rfl
theorem ml_X7_187 : Cond.methodLink "LandTakenModel" 187 ⟨"LandTakenModel", "beside", "(II)I"⟩ ∈ w_tbl := w_t 898 (by decide +kernel) rfl
theorem ml_X7_177 : Cond.methodLink "LandTakenModel" 177 ⟨"LandTakenModel", "overX", "(I)I"⟩ ∈ w_tbl := w_t 902 (by decide +kernel) rfl
theorem ml_X7_181 : Cond.methodLink "LandTakenModel" 181 ⟨"LandTakenModel", "overY", "(I)I"⟩ ∈ w_tbl := w_t 905 (by decide +kernel) rfl
theorem ml_X7_215 : Cond.methodLink "LandTakenModel" 215 ⟨"LandTakenModel", "divide", "(I)V"⟩ ∈ w_tbl := w_t 908 (by decide +kernel) rfl
theorem ml_X7_193 : Cond.methodLink "LandTakenModel" 193 ⟨"LandTakenModel", "spread", "(II)V"⟩ ∈ w_tbl := w_t 912 (by decide +kernel) rfl
theorem ml_X7_218 : Cond.methodLink "LandTakenModel" 218 ⟨"LandTakenModel", "mainOf", "(I)I"⟩ ∈ w_tbl := w_t 916 (by decide +kernel) rfl
theorem ml_X7_221 : Cond.methodLink "LandTakenModel" 221 ⟨"LandTakenModel", "pricesOf", "(I)J"⟩ ∈ w_tbl := w_t 920 (by decide +kernel) rfl
theorem ml_X7_225 : Cond.methodLink "LandTakenModel" 225 ⟨"LandTakenModel", "hasWay", "(I)Z"⟩ ∈ w_tbl := w_t 924 (by decide +kernel) rfl
theorem ml_X7_228 : Cond.methodLink "LandTakenModel" 228 ⟨"LandTakenModel", "lossBefore", "(I)J"⟩ ∈ w_tbl := w_t 928 (by decide +kernel) rfl
theorem ml_X7_231 : Cond.methodLink "LandTakenModel" 231 ⟨"LandTakenModel", "share", "(I)V"⟩ ∈ w_tbl := w_t 932 (by decide +kernel) rfl
theorem ml_X7_234 : Cond.methodLink "LandTakenModel" 234 ⟨"LandTakenModel", "dueOf", "(I)J"⟩ ∈ w_tbl := w_t 936 (by decide +kernel) rfl
theorem ml_X7_237 : Cond.methodLink "LandTakenModel" 237 ⟨"LandTakenModel", "debtLeft", "(II)J"⟩ ∈ w_tbl := w_t 940 (by decide +kernel) rfl
theorem ml_L_84 : Cond.methodLink "LandTakenLaw" 84 ⟨"LandTakenModel", "undo", "()J"⟩ ∈ w_tbl := w_t 944 (by decide +kernel) rfl
theorem kl_X7_241 : Cond.constantLong "LandTakenModel" 241 (-103) ∈ w_tbl := w_t 948 (by decide +kernel) rfl
theorem ml_L_91 : Cond.methodLink "LandTakenLaw" 91 ⟨"LandTakenModel", "pay", "(IIJ)J"⟩ ∈ w_tbl := w_t 949 (by decide +kernel) rfl
theorem ml_X7_249 : Cond.methodLink "LandTakenModel" 249 ⟨"LandTakenModel", "isCase", "(II)Z"⟩ ∈ w_tbl := w_t 953 (by decide +kernel) rfl
theorem kl_X7_252 : Cond.constantLong "LandTakenModel" 252 (-101) ∈ w_tbl := w_t 957 (by decide +kernel) rfl
theorem kl_X7_254 : Cond.constantLong "LandTakenModel" 254 (1000000000) ∈ w_tbl := w_t 958 (by decide +kernel) rfl
theorem kl_X7_256 : Cond.constantLong "LandTakenModel" 256 (-102) ∈ w_tbl := w_t 959 (by decide +kernel) rfl
theorem ml_X7_258 : Cond.methodLink "LandTakenModel" 258 ⟨"LandTakenModel", "interestOf", "(I)J"⟩ ∈ w_tbl := w_t 960 (by decide +kernel) rfl
theorem ml_X7_246 : Cond.methodLink "LandTakenModel" 246 ⟨"LandTakenModel", "owed", "(I)J"⟩ ∈ w_tbl := w_t 964 (by decide +kernel) rfl
theorem ml_L_96 : Cond.methodLink "LandTakenLaw" 96 ⟨"LandTakenModel", "told", "(III)J"⟩ ∈ w_tbl := w_t 968 (by decide +kernel) rfl
theorem kl_X7_261 : Cond.constantLong "LandTakenModel" 261 (13) ∈ w_tbl := w_t 972 (by decide +kernel) rfl
theorem ml_X7_263 : Cond.methodLink "LandTakenModel" 263 ⟨"LandTakenModel", "toldOf", "(II)J"⟩ ∈ w_tbl := w_t 973 (by decide +kernel) rfl
theorem ml_L_100 : Cond.methodLink "LandTakenLaw" 100 ⟨"LandTakenModel", "gets", "(III)J"⟩ ∈ w_tbl := w_t 977 (by decide +kernel) rfl
theorem ml_L_104 : Cond.methodLink "LandTakenLaw" 104 ⟨"LandTakenModel", "look", "(III)I"⟩ ∈ w_tbl := w_t 981 (by decide +kernel) rfl
theorem ml_X7_266 : Cond.methodLink "LandTakenModel" 266 ⟨"LandTakenModel", "lookOf", "(II)I"⟩ ∈ w_tbl := w_t 985 (by decide +kernel) rfl
theorem ml_L_108 : Cond.methodLink "LandTakenLaw" 108 ⟨"LandTakenModel", "pieces", "(I)I"⟩ ∈ w_tbl := w_t 989 (by decide +kernel) rfl
theorem ml_L_112 : Cond.methodLink "LandTakenLaw" 112 ⟨"LandTakenModel", "piece", "(III)I"⟩ ∈ w_tbl := w_t 993 (by decide +kernel) rfl
theorem ml_L_116 : Cond.methodLink "LandTakenLaw" 116 ⟨"LandTakenModel", "count", "(I)I"⟩ ∈ w_tbl := w_t 997 (by decide +kernel) rfl
theorem ml_L_120 : Cond.methodLink "LandTakenLaw" 120 ⟨"LandTakenModel", "digest", "()J"⟩ ∈ w_tbl := w_t 1001 (by decide +kernel) rfl
theorem kl_X7_275 : Cond.constantLong "LandTakenModel" 275 (127) ∈ w_tbl := w_t 1005 (by decide +kernel) rfl
theorem ml_X7_277 : Cond.methodLink "LandTakenModel" 277 ⟨"LandTakenModel", "mix", "(J)V"⟩ ∈ w_tbl := w_t 1006 (by decide +kernel) rfl
theorem kl_X7_269 : Cond.constantLong "LandTakenModel" 269 (31) ∈ w_tbl := w_t 1010 (by decide +kernel) rfl
theorem ml_X7_281 : Cond.methodLink "LandTakenModel" 281 ⟨"LandTakenModel", "count", "(I)I"⟩ ∈ w_tbl := w_t 1011 (by decide +kernel) rfl
theorem kl_L_85 : Cond.constantLong "LandTakenLaw" 85 (4294967295) ∈ w_tbl := w_t 1012 (by decide +kernel) rfl
theorem im_obj : Cond.instanceMethod Lib.objectInit ∈ w_tbl := w_t 16 (by decide +kernel) rfl
theorem co_obj : Cond.code Lib.objectInit ⟨#[0xb1]⟩ 1 none ∈ w_tbl := w_t 17 (by decide +kernel) rfl
theorem ckX0 : CK 0 RX0 TX0 16 tyX0 := ⟨rfl, w_all [364, 366, 368, 370, 372, 374, 376, 378, 380, 382, 384, 386, 388, 390, 392, 394] (by decide +kernel) (by decide +kernel), tyX0_ok, nmX0⟩
theorem ckX1 : CK 1 RX1 TX1 5 tyX1 := ⟨rfl, w_all [101, 103, 105, 107, 109] (by decide +kernel) (by decide +kernel), tyX1_ok, nmX1⟩
theorem ckX2 : CK 2 RX2 TX2 7 tyX2 := ⟨rfl, w_all [37, 39, 41, 43, 45, 47, 49] (by decide +kernel) (by decide +kernel), tyX2_ok, nmX2⟩
theorem ckX3 : CK 3 RX3 TX3 4 tyX3 := ⟨rfl, w_all [312, 314, 316, 318] (by decide +kernel) (by decide +kernel), tyX3_ok, nmX3⟩
theorem ckX4 : CK 4 RX4 TX4 3 tyX4 := ⟨rfl, w_all [123, 125, 127] (by decide +kernel) (by decide +kernel), tyX4_ok, nmX4⟩
theorem ckX5 : CK 5 RX5 TX5 7 tyX5 := ⟨rfl, w_all [69, 71, 73, 75, 77, 79, 81] (by decide +kernel) (by decide +kernel), tyX5_ok, nmX5⟩
theorem ckX6 : CK 6 RX6 TX6 11 tyX6 := ⟨rfl, w_all [147, 149, 151, 153, 155, 157, 159, 161, 163, 165, 167] (by decide +kernel) (by decide +kernel), tyX6_ok, nmX6⟩
theorem ckX7 : CK 7 RX7 TX7 46 tyX7 := ⟨rfl, w_all [697, 699, 701, 703, 705, 707, 709, 711, 713, 715, 717, 719, 721, 723, 725, 727, 729, 731, 733, 735, 737, 739, 741, 743, 745, 747, 749, 751, 753, 755, 757, 759, 761, 763, 765, 767, 769, 771, 773, 775, 777, 779, 781, 783, 785, 787] (by decide +kernel) (by decide +kernel), tyX7_ok, nmX7⟩
def VE (y : MethodName) (cc : ByteArray) (nL : Nat) (rt : Option FieldType) (na ci : Nat) : Prop := CE y cc nL rt na ∧ Cond.instanceMethod y ∈ w_tbl ∧ Cond.selects y.cls y y ∈ w_tbl ∧ ∃ (T : u_T) (N : Nat), vwCl[ci]? = some (y.cls, T, N)
def SE (y : MethodName) (cc : ByteArray) (nL : Nat) (rt : Option FieldType) (na : Nat) : Prop := CE y cc nL rt na ∧ Cond.static y ∈ w_tbl
def IE (y : MethodName) (cc : ByteArray) (nL : Nat) (na : Nat) : Prop := CE y cc nL none na ∧ Cond.instanceMethod y ∈ w_tbl ∧ y.name = "<init>"
theorem ieX0_init : IE yX0_init cX0_init 1 0 := ⟨⟨w_t 332 (by decide +kernel) rfl, ini_X0, by decide +kernel, by decide +kernel, by decide +kernel⟩, w_t 331 (by decide +kernel) rfl, rfl⟩
theorem veX0_begin : VE yX0_begin cX0_begin 4 none 2 0 := ⟨⟨w_t 400 (by decide +kernel) rfl, ini_X0, by decide +kernel, by decide +kernel, by decide +kernel⟩, w_t 398 (by decide +kernel) rfl, w_t 399 (by decide +kernel) rfl, _, _, rfl⟩
theorem veX0_isReady : VE yX0_isReady cX0_isReady 1 (some .boolean) 0 0 := ⟨⟨w_t 433 (by decide +kernel) rfl, ini_X0, by decide +kernel, by decide +kernel, by decide +kernel⟩, w_t 431 (by decide +kernel) rfl, w_t 432 (by decide +kernel) rfl, _, _, rfl⟩
theorem veX0_enterOn : VE yX0_enterOn cX0_enterOn 3 none 2 0 := ⟨⟨w_t 533 (by decide +kernel) rfl, ini_X0, by decide +kernel, by decide +kernel, by decide +kernel⟩, w_t 531 (by decide +kernel) rfl, w_t 532 (by decide +kernel) rfl, _, _, rfl⟩
theorem veX0_owed : VE yX0_owed cX0_owed 1 (some .long) 0 0 := ⟨⟨w_t 569 (by decide +kernel) rfl, ini_X0, by decide +kernel, by decide +kernel, by decide +kernel⟩, w_t 567 (by decide +kernel) rfl, w_t 568 (by decide +kernel) rfl, _, _, rfl⟩
theorem veX0_interestOn : VE yX0_interestOn cX0_interestOn 2 (some .long) 1 0 := ⟨⟨w_t 565 (by decide +kernel) rfl, ini_X0, by decide +kernel, by decide +kernel, by decide +kernel⟩, w_t 563 (by decide +kernel) rfl, w_t 564 (by decide +kernel) rfl, _, _, rfl⟩
theorem veX0_receive : VE yX0_receive cX0_receive 10 (some .long) 2 0 := ⟨⟨w_t 561 (by decide +kernel) rfl, ini_X0, by decide +kernel, by decide +kernel, by decide +kernel⟩, w_t 559 (by decide +kernel) rfl, w_t 560 (by decide +kernel) rfl, _, _, rfl⟩
theorem veX0_tell : VE yX0_tell cX0_tell 3 (some .long) 2 0 := ⟨⟨w_t 579 (by decide +kernel) rfl, ini_X0, by decide +kernel, by decide +kernel, by decide +kernel⟩, w_t 577 (by decide +kernel) rfl, w_t 578 (by decide +kernel) rfl, _, _, rfl⟩
theorem ieX1_init : IE yX1_init cX1_init 1 0 := ⟨⟨w_t 89 (by decide +kernel) rfl, ini_X1, by decide +kernel, by decide +kernel, by decide +kernel⟩, w_t 88 (by decide +kernel) rfl, rfl⟩
theorem veX1_clear : VE yX1_clear cX1_clear 1 none 0 1 := ⟨⟨w_t 185 (by decide +kernel) rfl, ini_X1, by decide +kernel, by decide +kernel, by decide +kernel⟩, w_t 183 (by decide +kernel) rfl, w_t 184 (by decide +kernel) rfl, _, _, rfl⟩
theorem veX1_addRight : VE yX1_addRight cX1_addRight 3 (some .int) 2 1 := ⟨⟨w_t 224 (by decide +kernel) rfl, ini_X1, by decide +kernel, by decide +kernel, by decide +kernel⟩, w_t 222 (by decide +kernel) rfl, w_t 223 (by decide +kernel) rfl, _, _, rfl⟩
theorem ieX2_init : IE yX2_init cX2_init 1 0 := ⟨⟨w_t 22 (by decide +kernel) rfl, ini_X2, by decide +kernel, by decide +kernel, by decide +kernel⟩, w_t 21 (by decide +kernel) rfl, rfl⟩
theorem veX2_renew : VE yX2_renew cX2_renew 4 none 2 2 := ⟨⟨w_t 135 (by decide +kernel) rfl, ini_X2, by decide +kernel, by decide +kernel, by decide +kernel⟩, w_t 133 (by decide +kernel) rfl, w_t 134 (by decide +kernel) rfl, _, _, rfl⟩
theorem veX2_at : VE yX2_at cX2_at 4 (some .int) 2 2 := ⟨⟨w_t 193 (by decide +kernel) rfl, ini_X2, by decide +kernel, by decide +kernel, by decide +kernel⟩, w_t 191 (by decide +kernel) rfl, w_t 192 (by decide +kernel) rfl, _, _, rfl⟩
theorem veX2_beside : VE yX2_beside cX2_beside 3 (some .int) 2 2 := ⟨⟨w_t 466 (by decide +kernel) rfl, ini_X2, by decide +kernel, by decide +kernel, by decide +kernel⟩, w_t 464 (by decide +kernel) rfl, w_t 465 (by decide +kernel) rfl, _, _, rfl⟩
theorem veX2_isTaken : VE yX2_isTaken cX2_isTaken 2 (some .boolean) 1 2 := ⟨⟨w_t 282 (by decide +kernel) rfl, ini_X2, by decide +kernel, by decide +kernel, by decide +kernel⟩, w_t 280 (by decide +kernel) rfl, w_t 281 (by decide +kernel) rfl, _, _, rfl⟩
theorem veX2_isKept : VE yX2_isKept cX2_isKept 3 (some .boolean) 2 2 := ⟨⟨w_t 458 (by decide +kernel) rfl, ini_X2, by decide +kernel, by decide +kernel, by decide +kernel⟩, w_t 456 (by decide +kernel) rfl, w_t 457 (by decide +kernel) rfl, _, _, rfl⟩
theorem veX2_isInLineOf : VE yX2_isInLineOf cX2_isInLineOf 3 (some .boolean) 2 2 := ⟨⟨w_t 298 (by decide +kernel) rfl, ini_X2, by decide +kernel, by decide +kernel, by decide +kernel⟩, w_t 296 (by decide +kernel) rfl, w_t 297 (by decide +kernel) rfl, _, _, rfl⟩
theorem veX2_isOpenLane : VE yX2_isOpenLane cX2_isOpenLane 2 (some .boolean) 1 2 := ⟨⟨w_t 475 (by decide +kernel) rfl, ini_X2, by decide +kernel, by decide +kernel, by decide +kernel⟩, w_t 473 (by decide +kernel) rfl, w_t 474 (by decide +kernel) rfl, _, _, rfl⟩
theorem veX2_cellsInLine : VE yX2_cellsInLine cX2_cellsInLine 4 (some .int) 1 2 := ⟨⟨w_t 294 (by decide +kernel) rfl, ini_X2, by decide +kernel, by decide +kernel, by decide +kernel⟩, w_t 292 (by decide +kernel) rfl, w_t 293 (by decide +kernel) rfl, _, _, rfl⟩
theorem veX2_cellsChosen : VE yX2_cellsChosen cX2_cellsChosen 3 (some .int) 0 2 := ⟨⟨w_t 612 (by decide +kernel) rfl, ini_X2, by decide +kernel, by decide +kernel, by decide +kernel⟩, w_t 610 (by decide +kernel) rfl, w_t 611 (by decide +kernel) rfl, _, _, rfl⟩
theorem veX2_cellsTaken : VE yX2_cellsTaken cX2_cellsTaken 3 (some .int) 0 2 := ⟨⟨w_t 607 (by decide +kernel) rfl, ini_X2, by decide +kernel, by decide +kernel, by decide +kernel⟩, w_t 605 (by decide +kernel) rfl, w_t 606 (by decide +kernel) rfl, _, _, rfl⟩
theorem veX2_takeLine : VE yX2_takeLine cX2_takeLine 4 none 2 2 := ⟨⟨w_t 441 (by decide +kernel) rfl, ini_X2, by decide +kernel, by decide +kernel, by decide +kernel⟩, w_t 439 (by decide +kernel) rfl, w_t 440 (by decide +kernel) rfl, _, _, rfl⟩
theorem veX2_giveBack : VE yX2_giveBack cX2_giveBack 3 none 1 2 := ⟨⟨w_t 546 (by decide +kernel) rfl, ini_X2, by decide +kernel, by decide +kernel, by decide +kernel⟩, w_t 544 (by decide +kernel) rfl, w_t 545 (by decide +kernel) rfl, _, _, rfl⟩
theorem veX2_emptyLine : VE yX2_emptyLine cX2_emptyLine 2 none 0 2 := ⟨⟨w_t 421 (by decide +kernel) rfl, ini_X2, by decide +kernel, by decide +kernel, by decide +kernel⟩, w_t 419 (by decide +kernel) rfl, w_t 420 (by decide +kernel) rfl, _, _, rfl⟩
theorem veX2_worthInLine : VE yX2_worthInLine cX2_worthInLine 6 (some .long) 2 2 := ⟨⟨w_t 483 (by decide +kernel) rfl, ini_X2, by decide +kernel, by decide +kernel, by decide +kernel⟩, w_t 481 (by decide +kernel) rfl, w_t 482 (by decide +kernel) rfl, _, _, rfl⟩
theorem veX2_priceAt : VE yX2_priceAt cX2_priceAt 4 (some .int) 2 2 := ⟨⟨w_t 487 (by decide +kernel) rfl, ini_X2, by decide +kernel, by decide +kernel, by decide +kernel⟩, w_t 485 (by decide +kernel) rfl, w_t 486 (by decide +kernel) rfl, _, _, rfl⟩
theorem veX2_fenceSides : VE yX2_fenceSides cX2_fenceSides 4 (some .int) 1 2 := ⟨⟨w_t 516 (by decide +kernel) rfl, ini_X2, by decide +kernel, by decide +kernel, by decide +kernel⟩, w_t 514 (by decide +kernel) rfl, w_t 515 (by decide +kernel) rfl, _, _, rfl⟩
theorem veX2_keptSides : VE yX2_keptSides cX2_keptSides 6 (some .int) 2 2 := ⟨⟨w_t 520 (by decide +kernel) rfl, ini_X2, by decide +kernel, by decide +kernel, by decide +kernel⟩, w_t 518 (by decide +kernel) rfl, w_t 519 (by decide +kernel) rfl, _, _, rfl⟩
theorem ieX3_init : IE yX3_init cX3_init 1 0 := ⟨⟨w_t 302 (by decide +kernel) rfl, ini_X3, by decide +kernel, by decide +kernel, by decide +kernel⟩, w_t 301 (by decide +kernel) rfl, rfl⟩
theorem veX3_begin : VE yX3_begin cX3_begin 3 none 2 3 := ⟨⟨w_t 324 (by decide +kernel) rfl, ini_X3, by decide +kernel, by decide +kernel, by decide +kernel⟩, w_t 322 (by decide +kernel) rfl, w_t 323 (by decide +kernel) rfl, _, _, rfl⟩
theorem veX3_addCase : VE yX3_addCase cX3_addCase 4 none 2 3 := ⟨⟨w_t 328 (by decide +kernel) rfl, ini_X3, by decide +kernel, by decide +kernel, by decide +kernel⟩, w_t 326 (by decide +kernel) rfl, w_t 327 (by decide +kernel) rfl, _, _, rfl⟩
theorem veX3_caseAt : VE yX3_caseAt cX3_caseAt 2 (some (.object "LandTaken$Case")) 1 3 := ⟨⟨w_t 278 (by decide +kernel) rfl, ini_X3, by decide +kernel, by decide +kernel, by decide +kernel⟩, w_t 276 (by decide +kernel) rfl, w_t 277 (by decide +kernel) rfl, _, _, rfl⟩
theorem veX3_noticeEnd : VE yX3_noticeEnd cX3_noticeEnd 1 (some .int) 0 3 := ⟨⟨w_t 409 (by decide +kernel) rfl, ini_X3, by decide +kernel, by decide +kernel, by decide +kernel⟩, w_t 407 (by decide +kernel) rfl, w_t 408 (by decide +kernel) rfl, _, _, rfl⟩
theorem veX3_hasReady : VE yX3_hasReady cX3_hasReady 3 (some .boolean) 0 3 := ⟨⟨w_t 429 (by decide +kernel) rfl, ini_X3, by decide +kernel, by decide +kernel, by decide +kernel⟩, w_t 427 (by decide +kernel) rfl, w_t 428 (by decide +kernel) rfl, _, _, rfl⟩
theorem veX3_isDone : VE yX3_isDone cX3_isDone 3 (some .boolean) 0 3 := ⟨⟨w_t 274 (by decide +kernel) rfl, ini_X3, by decide +kernel, by decide +kernel, by decide +kernel⟩, w_t 272 (by decide +kernel) rfl, w_t 273 (by decide +kernel) rfl, _, _, rfl⟩
theorem veX3_lossOf : VE yX3_lossOf cX3_lossOf 6 (some .long) 1 3 := ⟨⟨w_t 509 (by decide +kernel) rfl, ini_X3, by decide +kernel, by decide +kernel, by decide +kernel⟩, w_t 507 (by decide +kernel) rfl, w_t 508 (by decide +kernel) rfl, _, _, rfl⟩
theorem ieX4_init : IE yX4_init cX4_init 1 0 := ⟨⟨w_t 118 (by decide +kernel) rfl, ini_X4, by decide +kernel, by decide +kernel, by decide +kernel⟩, w_t 117 (by decide +kernel) rfl, rfl⟩
theorem veX4_put : VE yX4_put cX4_put 4 (some .int) 2 4 := ⟨⟨w_t 236 (by decide +kernel) rfl, ini_X4, by decide +kernel, by decide +kernel, by decide +kernel⟩, w_t 234 (by decide +kernel) rfl, w_t 235 (by decide +kernel) rfl, _, _, rfl⟩
theorem veX4_on : VE yX4_on cX4_on 5 (some .int) 1 4 := ⟨⟨w_t 244 (by decide +kernel) rfl, ini_X4, by decide +kernel, by decide +kernel, by decide +kernel⟩, w_t 242 (by decide +kernel) rfl, w_t 243 (by decide +kernel) rfl, _, _, rfl⟩
theorem ieX5_init : IE yX5_init cX5_init 1 0 := ⟨⟨w_t 58 (by decide +kernel) rfl, ini_X5, by decide +kernel, by decide +kernel, by decide +kernel⟩, w_t 57 (by decide +kernel) rfl, rfl⟩
theorem veX5_find : VE yX5_find cX5_find 5 none 3 5 := ⟨⟨w_t 454 (by decide +kernel) rfl, ini_X5, by decide +kernel, by decide +kernel, by decide +kernel⟩, w_t 452 (by decide +kernel) rfl, w_t 453 (by decide +kernel) rfl, _, _, rfl⟩
theorem veX5_spread : VE yX5_spread cX5_spread 9 none 3 5 := ⟨⟨w_t 462 (by decide +kernel) rfl, ini_X5, by decide +kernel, by decide +kernel, by decide +kernel⟩, w_t 460 (by decide +kernel) rfl, w_t 461 (by decide +kernel) rfl, _, _, rfl⟩
theorem veX5_chosenMain : VE yX5_chosenMain cX5_chosenMain 4 (some .int) 1 5 := ⟨⟨w_t 479 (by decide +kernel) rfl, ini_X5, by decide +kernel, by decide +kernel, by decide +kernel⟩, w_t 477 (by decide +kernel) rfl, w_t 478 (by decide +kernel) rfl, _, _, rfl⟩
theorem veX5_hasWay : VE yX5_hasWay cX5_hasWay 2 (some .boolean) 1 5 := ⟨⟨w_t 495 (by decide +kernel) rfl, ini_X5, by decide +kernel, by decide +kernel, by decide +kernel⟩, w_t 493 (by decide +kernel) rfl, w_t 494 (by decide +kernel) rfl, _, _, rfl⟩
theorem veX5_worth : VE yX5_worth cX5_worth 7 (some .long) 3 5 := ⟨⟨w_t 499 (by decide +kernel) rfl, ini_X5, by decide +kernel, by decide +kernel, by decide +kernel⟩, w_t 497 (by decide +kernel) rfl, w_t 498 (by decide +kernel) rfl, _, _, rfl⟩
theorem veX5_tell : VE yX5_tell cX5_tell 3 (some .int) 2 5 := ⟨⟨w_t 599 (by decide +kernel) rfl, ini_X5, by decide +kernel, by decide +kernel, by decide +kernel⟩, w_t 597 (by decide +kernel) rfl, w_t 598 (by decide +kernel) rfl, _, _, rfl⟩
theorem ieX6_init : IE yX6_init cX6_init 2 0 := ⟨⟨w_t 14 (by decide +kernel) rfl, ini_X6, by decide +kernel, by decide +kernel, by decide +kernel⟩, w_t 13 (by decide +kernel) rfl, rfl⟩
theorem veX6_map : VE yX6_map cX6_map 3 (some .int) 2 6 := ⟨⟨w_t 173 (by decide +kernel) rfl, ini_X6, by decide +kernel, by decide +kernel, by decide +kernel⟩, w_t 171 (by decide +kernel) rfl, w_t 172 (by decide +kernel) rfl, _, _, rfl⟩
theorem veX6_field : VE yX6_field cX6_field 1 (some .int) 0 6 := ⟨⟨w_t 181 (by decide +kernel) rfl, ini_X6, by decide +kernel, by decide +kernel, by decide +kernel⟩, w_t 179 (by decide +kernel) rfl, w_t 180 (by decide +kernel) rfl, _, _, rfl⟩
theorem veX6_cell : VE yX6_cell cX6_cell 6 (some .int) 4 6 := ⟨⟨w_t 189 (by decide +kernel) rfl, ini_X6, by decide +kernel, by decide +kernel, by decide +kernel⟩, w_t 187 (by decide +kernel) rfl, w_t 188 (by decide +kernel) rfl, _, _, rfl⟩
theorem veX6_lane : VE yX6_lane cX6_lane 4 (some .int) 2 6 := ⟨⟨w_t 208 (by decide +kernel) rfl, ini_X6, by decide +kernel, by decide +kernel, by decide +kernel⟩, w_t 206 (by decide +kernel) rfl, w_t 207 (by decide +kernel) rfl, _, _, rfl⟩
theorem veX6_house : VE yX6_house cX6_house 5 (some .int) 3 6 := ⟨⟨w_t 212 (by decide +kernel) rfl, ini_X6, by decide +kernel, by decide +kernel, by decide +kernel⟩, w_t 210 (by decide +kernel) rfl, w_t 211 (by decide +kernel) rfl, _, _, rfl⟩
theorem veX6_right : VE yX6_right cX6_right 4 (some .int) 3 6 := ⟨⟨w_t 216 (by decide +kernel) rfl, ini_X6, by decide +kernel, by decide +kernel, by decide +kernel⟩, w_t 214 (by decide +kernel) rfl, w_t 215 (by decide +kernel) rfl, _, _, rfl⟩
theorem veX6_wasOrderMade : VE yX6_wasOrderMade cX6_wasOrderMade 1 (some .boolean) 0 6 := ⟨⟨w_t 177 (by decide +kernel) rfl, ini_X6, by decide +kernel, by decide +kernel, by decide +kernel⟩, w_t 176 (by decide +kernel) rfl, w_s 0 (by decide +kernel) rfl, _, _, rfl⟩
theorem veX6_isField : VE yX6_isField cX6_isField 2 (some .boolean) 1 6 := ⟨⟨w_t 197 (by decide +kernel) rfl, ini_X6, by decide +kernel, by decide +kernel, by decide +kernel⟩, w_t 196 (by decide +kernel) rfl, w_s 1 (by decide +kernel) rfl, _, _, rfl⟩
theorem seX6_isSoil : SE yX6_isSoil cX6_isSoil 1 (some .boolean) 1 := ⟨⟨w_t 200 (by decide +kernel) rfl, ini_X6, by decide +kernel, by decide +kernel, by decide +kernel⟩, w_t 199 (by decide +kernel) rfl⟩
theorem seX6_isAmount : SE yX6_isAmount cX6_isAmount 2 (some .boolean) 2 := ⟨⟨w_t 219 (by decide +kernel) rfl, ini_X6, by decide +kernel, by decide +kernel, by decide +kernel⟩, w_t 218 (by decide +kernel) rfl⟩
theorem veX6_pullDownHouse : VE yX6_pullDownHouse cX6_pullDownHouse 3 none 1 6 := ⟨⟨w_t 204 (by decide +kernel) rfl, ini_X6, by decide +kernel, by decide +kernel, by decide +kernel⟩, w_t 203 (by decide +kernel) rfl, w_s 2 (by decide +kernel) rfl, _, _, rfl⟩
theorem veX6_price : VE yX6_price cX6_price 4 (some .int) 3 6 := ⟨⟨w_t 228 (by decide +kernel) rfl, ini_X6, by decide +kernel, by decide +kernel, by decide +kernel⟩, w_t 226 (by decide +kernel) rfl, w_t 227 (by decide +kernel) rfl, _, _, rfl⟩
theorem veX6_costs : VE yX6_costs cX6_costs 3 (some .int) 2 6 := ⟨⟨w_t 240 (by decide +kernel) rfl, ini_X6, by decide +kernel, by decide +kernel, by decide +kernel⟩, w_t 238 (by decide +kernel) rfl, w_t 239 (by decide +kernel) rfl, _, _, rfl⟩
theorem veX6_rate : VE yX6_rate cX6_rate 4 (some .int) 2 6 := ⟨⟨w_t 248 (by decide +kernel) rfl, ini_X6, by decide +kernel, by decide +kernel, by decide +kernel⟩, w_t 246 (by decide +kernel) rfl, w_t 247 (by decide +kernel) rfl, _, _, rfl⟩
theorem veX6_days : VE yX6_days cX6_days 2 (some .int) 1 6 := ⟨⟨w_t 254 (by decide +kernel) rfl, ini_X6, by decide +kernel, by decide +kernel, by decide +kernel⟩, w_t 252 (by decide +kernel) rfl, w_t 253 (by decide +kernel) rfl, _, _, rfl⟩
theorem seX6_isDay : SE yX6_isDay cX6_isDay 1 (some .boolean) 1 := ⟨⟨w_t 231 (by decide +kernel) rfl, ini_X6, by decide +kernel, by decide +kernel, by decide +kernel⟩, w_t 230 (by decide +kernel) rfl⟩
theorem veX6_line : VE yX6_line cX6_line 6 (some .int) 3 6 := ⟨⟨w_t 258 (by decide +kernel) rfl, ini_X6, by decide +kernel, by decide +kernel, by decide +kernel⟩, w_t 256 (by decide +kernel) rfl, w_t 257 (by decide +kernel) rfl, _, _, rfl⟩
theorem veX6_make : VE yX6_make cX6_make 4 (some .int) 0 6 := ⟨⟨w_t 286 (by decide +kernel) rfl, ini_X6, by decide +kernel, by decide +kernel, by decide +kernel⟩, w_t 284 (by decide +kernel) rfl, w_t 285 (by decide +kernel) rfl, _, _, rfl⟩
theorem veX6_object : VE yX6_object cX6_object 4 (some .int) 1 6 := ⟨⟨w_t 404 (by decide +kernel) rfl, ini_X6, by decide +kernel, by decide +kernel, by decide +kernel⟩, w_t 402 (by decide +kernel) rfl, w_t 403 (by decide +kernel) rfl, _, _, rfl⟩
theorem veX6_hear : VE yX6_hear cX6_hear 5 (some .int) 2 6 := ⟨⟨w_t 413 (by decide +kernel) rfl, ini_X6, by decide +kernel, by decide +kernel, by decide +kernel⟩, w_t 411 (by decide +kernel) rfl, w_t 412 (by decide +kernel) rfl, _, _, rfl⟩
theorem veX6_enter : VE yX6_enter cX6_enter 3 (some .int) 0 6 := ⟨⟨w_t 425 (by decide +kernel) rfl, ini_X6, by decide +kernel, by decide +kernel, by decide +kernel⟩, w_t 423 (by decide +kernel) rfl, w_t 424 (by decide +kernel) rfl, _, _, rfl⟩
theorem veX6_undo : VE yX6_undo cX6_undo 6 (some .long) 0 6 := ⟨⟨w_t 537 (by decide +kernel) rfl, ini_X6, by decide +kernel, by decide +kernel, by decide +kernel⟩, w_t 535 (by decide +kernel) rfl, w_t 536 (by decide +kernel) rfl, _, _, rfl⟩
theorem veX6_orderAt : VE yX6_orderAt cX6_orderAt 2 (some (.object "LandTaken$Order")) 1 6 := ⟨⟨w_t 270 (by decide +kernel) rfl, ini_X6, by decide +kernel, by decide +kernel, by decide +kernel⟩, w_t 269 (by decide +kernel) rfl, w_s 5 (by decide +kernel) rfl, _, _, rfl⟩
theorem veX6_latestOrder : VE yX6_latestOrder cX6_latestOrder 1 (some (.object "LandTaken$Order")) 0 6 := ⟨⟨w_t 266 (by decide +kernel) rfl, ini_X6, by decide +kernel, by decide +kernel, by decide +kernel⟩, w_t 265 (by decide +kernel) rfl, w_s 4 (by decide +kernel) rfl, _, _, rfl⟩
theorem veX6_openOrder : VE yX6_openOrder cX6_openOrder 2 (some (.object "LandTaken$Order")) 0 6 := ⟨⟨w_t 262 (by decide +kernel) rfl, ini_X6, by decide +kernel, by decide +kernel, by decide +kernel⟩, w_t 261 (by decide +kernel) rfl, w_s 3 (by decide +kernel) rfl, _, _, rfl⟩
theorem veX6_caseOf : VE yX6_caseOf cX6_caseOf 4 (some (.object "LandTaken$Case")) 2 6 := ⟨⟨w_t 554 (by decide +kernel) rfl, ini_X6, by decide +kernel, by decide +kernel, by decide +kernel⟩, w_t 553 (by decide +kernel) rfl, w_s 15 (by decide +kernel) rfl, _, _, rfl⟩
theorem veX6_touchesField : VE yX6_touchesField cX6_touchesField 2 (some .boolean) 0 6 := ⟨⟨w_t 290 (by decide +kernel) rfl, ini_X6, by decide +kernel, by decide +kernel, by decide +kernel⟩, w_t 289 (by decide +kernel) rfl, w_s 6 (by decide +kernel) rfl, _, _, rfl⟩
theorem veX6_emptyLineIfDone : VE yX6_emptyLineIfDone cX6_emptyLineIfDone 2 none 1 6 := ⟨⟨w_t 417 (by decide +kernel) rfl, ini_X6, by decide +kernel, by decide +kernel, by decide +kernel⟩, w_t 416 (by decide +kernel) rfl, w_s 7 (by decide +kernel) rfl, _, _, rfl⟩
theorem veX6_takeReadyCells : VE yX6_takeReadyCells cX6_takeReadyCells 5 none 1 6 := ⟨⟨w_t 437 (by decide +kernel) rfl, ini_X6, by decide +kernel, by decide +kernel, by decide +kernel⟩, w_t 436 (by decide +kernel) rfl, w_s 8 (by decide +kernel) rfl, _, _, rfl⟩
theorem veX6_settleReadyCases : VE yX6_settleReadyCases cX6_settleReadyCases 5 (some .int) 1 6 := ⟨⟨w_t 446 (by decide +kernel) rfl, ini_X6, by decide +kernel, by decide +kernel, by decide +kernel⟩, w_t 445 (by decide +kernel) rfl, w_s 9 (by decide +kernel) rfl, _, _, rfl⟩
theorem veX6_assess : VE yX6_assess cX6_assess 6 none 2 6 := ⟨⟨w_t 450 (by decide +kernel) rfl, ini_X6, by decide +kernel, by decide +kernel, by decide +kernel⟩, w_t 449 (by decide +kernel) rfl, w_s 10 (by decide +kernel) rfl, _, _, rfl⟩
theorem veX6_lossOfPieces : VE yX6_lossOfPieces cX6_lossOfPieces 8 (some .long) 0 6 := ⟨⟨w_t 491 (by decide +kernel) rfl, ini_X6, by decide +kernel, by decide +kernel, by decide +kernel⟩, w_t 490 (by decide +kernel) rfl, w_s 11 (by decide +kernel) rfl, _, _, rfl⟩
theorem veX6_lossBefore : VE yX6_lossBefore cX6_lossBefore 6 (some .long) 1 6 := ⟨⟨w_t 505 (by decide +kernel) rfl, ini_X6, by decide +kernel, by decide +kernel, by decide +kernel⟩, w_t 504 (by decide +kernel) rfl, w_s 12 (by decide +kernel) rfl, _, _, rfl⟩
theorem veX6_share : VE yX6_share cX6_share 11 none 2 6 := ⟨⟨w_t 529 (by decide +kernel) rfl, ini_X6, by decide +kernel, by decide +kernel, by decide +kernel⟩, w_t 528 (by decide +kernel) rfl, w_s 13 (by decide +kernel) rfl, _, _, rfl⟩
theorem veX6_oweDebtsAgain : VE yX6_oweDebtsAgain cX6_oweDebtsAgain 4 none 1 6 := ⟨⟨w_t 542 (by decide +kernel) rfl, ini_X6, by decide +kernel, by decide +kernel, by decide +kernel⟩, w_t 541 (by decide +kernel) rfl, w_s 14 (by decide +kernel) rfl, _, _, rfl⟩
theorem veX6_pay : VE yX6_pay cX6_pay 6 (some .long) 3 6 := ⟨⟨w_t 550 (by decide +kernel) rfl, ini_X6, by decide +kernel, by decide +kernel, by decide +kernel⟩, w_t 548 (by decide +kernel) rfl, w_t 549 (by decide +kernel) rfl, _, _, rfl⟩
theorem veX6_told : VE yX6_told cX6_told 5 (some .long) 3 6 := ⟨⟨w_t 575 (by decide +kernel) rfl, ini_X6, by decide +kernel, by decide +kernel, by decide +kernel⟩, w_t 573 (by decide +kernel) rfl, w_t 574 (by decide +kernel) rfl, _, _, rfl⟩
theorem veX6_gets : VE yX6_gets cX6_gets 5 (some .long) 3 6 := ⟨⟨w_t 583 (by decide +kernel) rfl, ini_X6, by decide +kernel, by decide +kernel, by decide +kernel⟩, w_t 581 (by decide +kernel) rfl, w_t 582 (by decide +kernel) rfl, _, _, rfl⟩
theorem veX6_look : VE yX6_look cX6_look 5 (some .int) 3 6 := ⟨⟨w_t 587 (by decide +kernel) rfl, ini_X6, by decide +kernel, by decide +kernel, by decide +kernel⟩, w_t 585 (by decide +kernel) rfl, w_t 586 (by decide +kernel) rfl, _, _, rfl⟩
theorem veX6_pieces : VE yX6_pieces cX6_pieces 2 (some .int) 1 6 := ⟨⟨w_t 591 (by decide +kernel) rfl, ini_X6, by decide +kernel, by decide +kernel, by decide +kernel⟩, w_t 589 (by decide +kernel) rfl, w_t 590 (by decide +kernel) rfl, _, _, rfl⟩
theorem veX6_piece : VE yX6_piece cX6_piece 4 (some .int) 3 6 := ⟨⟨w_t 595 (by decide +kernel) rfl, ini_X6, by decide +kernel, by decide +kernel, by decide +kernel⟩, w_t 593 (by decide +kernel) rfl, w_t 594 (by decide +kernel) rfl, _, _, rfl⟩
theorem veX6_count : VE yX6_count cX6_count 2 (some .int) 1 6 := ⟨⟨w_t 603 (by decide +kernel) rfl, ini_X6, by decide +kernel, by decide +kernel, by decide +kernel⟩, w_t 601 (by decide +kernel) rfl, w_t 602 (by decide +kernel) rfl, _, _, rfl⟩
theorem veX6_digest : VE yX6_digest cX6_digest 4 (some .long) 0 6 := ⟨⟨w_t 620 (by decide +kernel) rfl, ini_X6, by decide +kernel, by decide +kernel, by decide +kernel⟩, w_t 618 (by decide +kernel) rfl, w_t 619 (by decide +kernel) rfl, _, _, rfl⟩
theorem veX6_casesOfLatest : VE yX6_casesOfLatest cX6_casesOfLatest 2 (some .int) 0 6 := ⟨⟨w_t 616 (by decide +kernel) rfl, ini_X6, by decide +kernel, by decide +kernel, by decide +kernel⟩, w_t 615 (by decide +kernel) rfl, w_s 16 (by decide +kernel) rfl, _, _, rfl⟩
theorem seX6_mixed : SE yX6_mixed cX6_mixed 4 (some .long) 2 := ⟨⟨w_t 624 (by decide +kernel) rfl, ini_X6, by decide +kernel, by decide +kernel, by decide +kernel⟩, w_t 623 (by decide +kernel) rfl⟩
theorem veX6_mixedCells : VE yX6_mixedCells cX6_mixedCells 8 (some .long) 1 6 := ⟨⟨w_t 629 (by decide +kernel) rfl, ini_X6, by decide +kernel, by decide +kernel, by decide +kernel⟩, w_t 628 (by decide +kernel) rfl, w_s 17 (by decide +kernel) rfl, _, _, rfl⟩
theorem veX6_mixedFields : VE yX6_mixedFields cX6_mixedFields 8 (some .long) 1 6 := ⟨⟨w_t 634 (by decide +kernel) rfl, ini_X6, by decide +kernel, by decide +kernel, by decide +kernel⟩, w_t 633 (by decide +kernel) rfl, w_s 18 (by decide +kernel) rfl, _, _, rfl⟩
theorem veX6_mixedOrders : VE yX6_mixedOrders cX6_mixedOrders 9 (some .long) 1 6 := ⟨⟨w_t 638 (by decide +kernel) rfl, ini_X6, by decide +kernel, by decide +kernel, by decide +kernel⟩, w_t 637 (by decide +kernel) rfl, w_s 19 (by decide +kernel) rfl, _, _, rfl⟩
theorem ieX7_init : IE yX7_init cX7_init 1 0 := ⟨⟨w_t 645 (by decide +kernel) rfl, ini_X7, by decide +kernel, by decide +kernel, by decide +kernel⟩, w_t 644 (by decide +kernel) rfl, rfl⟩
theorem seX7_in : SE yX7_in cX7_in 6 (some .boolean) 3 := ⟨⟨w_t 797 (by decide +kernel) rfl, ini_X7, by decide +kernel, by decide +kernel, by decide +kernel⟩, w_t 796 (by decide +kernel) rfl⟩
theorem veX7_fresh : VE yX7_fresh cX7_fresh 2 none 0 7 := ⟨⟨w_t 650 (by decide +kernel) rfl, ini_X7, by decide +kernel, by decide +kernel, by decide +kernel⟩, w_t 649 (by decide +kernel) rfl, w_s 20 (by decide +kernel) rfl, _, _, rfl⟩
theorem veX7_isCell : VE yX7_isCell cX7_isCell 3 (some .boolean) 2 7 := ⟨⟨w_t 809 (by decide +kernel) rfl, ini_X7, by decide +kernel, by decide +kernel, by decide +kernel⟩, w_t 808 (by decide +kernel) rfl, w_s 21 (by decide +kernel) rfl, _, _, rfl⟩
theorem veX7_isField : VE yX7_isField cX7_isField 2 (some .boolean) 1 7 := ⟨⟨w_t 813 (by decide +kernel) rfl, ini_X7, by decide +kernel, by decide +kernel, by decide +kernel⟩, w_t 812 (by decide +kernel) rfl, w_s 22 (by decide +kernel) rfl, _, _, rfl⟩
theorem veX7_map : VE yX7_map cX7_map 3 (some .int) 2 7 := ⟨⟨w_t 793 (by decide +kernel) rfl, ini_X7, by decide +kernel, by decide +kernel, by decide +kernel⟩, w_t 791 (by decide +kernel) rfl, w_t 792 (by decide +kernel) rfl, _, _, rfl⟩
theorem veX7_field : VE yX7_field cX7_field 1 (some .int) 0 7 := ⟨⟨w_t 801 (by decide +kernel) rfl, ini_X7, by decide +kernel, by decide +kernel, by decide +kernel⟩, w_t 799 (by decide +kernel) rfl, w_t 800 (by decide +kernel) rfl, _, _, rfl⟩
theorem veX7_clearHouse : VE yX7_clearHouse cX7_clearHouse 3 none 1 7 := ⟨⟨w_t 818 (by decide +kernel) rfl, ini_X7, by decide +kernel, by decide +kernel, by decide +kernel⟩, w_t 817 (by decide +kernel) rfl, w_s 23 (by decide +kernel) rfl, _, _, rfl⟩
theorem veX7_cell : VE yX7_cell cX7_cell 6 (some .int) 4 7 := ⟨⟨w_t 805 (by decide +kernel) rfl, ini_X7, by decide +kernel, by decide +kernel, by decide +kernel⟩, w_t 803 (by decide +kernel) rfl, w_t 804 (by decide +kernel) rfl, _, _, rfl⟩
theorem veX7_lane : VE yX7_lane cX7_lane 4 (some .int) 2 7 := ⟨⟨w_t 822 (by decide +kernel) rfl, ini_X7, by decide +kernel, by decide +kernel, by decide +kernel⟩, w_t 820 (by decide +kernel) rfl, w_t 821 (by decide +kernel) rfl, _, _, rfl⟩
theorem veX7_house : VE yX7_house cX7_house 4 (some .int) 3 7 := ⟨⟨w_t 826 (by decide +kernel) rfl, ini_X7, by decide +kernel, by decide +kernel, by decide +kernel⟩, w_t 824 (by decide +kernel) rfl, w_t 825 (by decide +kernel) rfl, _, _, rfl⟩
theorem veX7_right : VE yX7_right cX7_right 4 (some .int) 3 7 := ⟨⟨w_t 830 (by decide +kernel) rfl, ini_X7, by decide +kernel, by decide +kernel, by decide +kernel⟩, w_t 828 (by decide +kernel) rfl, w_t 829 (by decide +kernel) rfl, _, _, rfl⟩
theorem veX7_price : VE yX7_price cX7_price 5 (some .int) 3 7 := ⟨⟨w_t 837 (by decide +kernel) rfl, ini_X7, by decide +kernel, by decide +kernel, by decide +kernel⟩, w_t 835 (by decide +kernel) rfl, w_t 836 (by decide +kernel) rfl, _, _, rfl⟩
theorem veX7_costOf : VE yX7_costOf cX7_costOf 6 (some .int) 2 7 := ⟨⟨w_t 847 (by decide +kernel) rfl, ini_X7, by decide +kernel, by decide +kernel, by decide +kernel⟩, w_t 846 (by decide +kernel) rfl, w_s 24 (by decide +kernel) rfl, _, _, rfl⟩
theorem veX7_costs : VE yX7_costs cX7_costs 3 (some .int) 2 7 := ⟨⟨w_t 843 (by decide +kernel) rfl, ini_X7, by decide +kernel, by decide +kernel, by decide +kernel⟩, w_t 841 (by decide +kernel) rfl, w_t 842 (by decide +kernel) rfl, _, _, rfl⟩
theorem veX7_rate : VE yX7_rate cX7_rate 5 (some .int) 2 7 := ⟨⟨w_t 851 (by decide +kernel) rfl, ini_X7, by decide +kernel, by decide +kernel, by decide +kernel⟩, w_t 849 (by decide +kernel) rfl, w_t 850 (by decide +kernel) rfl, _, _, rfl⟩
theorem veX7_days : VE yX7_days cX7_days 2 (some .int) 1 7 := ⟨⟨w_t 857 (by decide +kernel) rfl, ini_X7, by decide +kernel, by decide +kernel, by decide +kernel⟩, w_t 855 (by decide +kernel) rfl, w_t 856 (by decide +kernel) rfl, _, _, rfl⟩
theorem seX7_overX : SE yX7_overX cX7_overX 1 (some .int) 1 := ⟨⟨w_t 904 (by decide +kernel) rfl, ini_X7, by decide +kernel, by decide +kernel, by decide +kernel⟩, w_t 903 (by decide +kernel) rfl⟩
theorem seX7_overY : SE yX7_overY cX7_overY 1 (some .int) 1 := ⟨⟨w_t 907 (by decide +kernel) rfl, ini_X7, by decide +kernel, by decide +kernel, by decide +kernel⟩, w_t 906 (by decide +kernel) rfl⟩
theorem veX7_beside : VE yX7_beside cX7_beside 5 (some .int) 2 7 := ⟨⟨w_t 901 (by decide +kernel) rfl, ini_X7, by decide +kernel, by decide +kernel, by decide +kernel⟩, w_t 900 (by decide +kernel) rfl, w_s 30 (by decide +kernel) rfl, _, _, rfl⟩
theorem veX7_isLeft : VE yX7_isLeft cX7_isLeft 3 (some .boolean) 2 7 := ⟨⟨w_t 873 (by decide +kernel) rfl, ini_X7, by decide +kernel, by decide +kernel, by decide +kernel⟩, w_t 872 (by decide +kernel) rfl, w_s 26 (by decide +kernel) rfl, _, _, rfl⟩
theorem veX7_spread : VE yX7_spread cX7_spread 7 none 2 7 := ⟨⟨w_t 915 (by decide +kernel) rfl, ini_X7, by decide +kernel, by decide +kernel, by decide +kernel⟩, w_t 914 (by decide +kernel) rfl, w_s 32 (by decide +kernel) rfl, _, _, rfl⟩
theorem veX7_divide : VE yX7_divide cX7_divide 5 none 1 7 := ⟨⟨w_t 911 (by decide +kernel) rfl, ini_X7, by decide +kernel, by decide +kernel, by decide +kernel⟩, w_t 910 (by decide +kernel) rfl, w_s 31 (by decide +kernel) rfl, _, _, rfl⟩
theorem veX7_mainOf : VE yX7_mainOf cX7_mainOf 5 (some .int) 1 7 := ⟨⟨w_t 919 (by decide +kernel) rfl, ini_X7, by decide +kernel, by decide +kernel, by decide +kernel⟩, w_t 918 (by decide +kernel) rfl, w_s 33 (by decide +kernel) rfl, _, _, rfl⟩
theorem veX7_hasWay : VE yX7_hasWay cX7_hasWay 5 (some .boolean) 1 7 := ⟨⟨w_t 927 (by decide +kernel) rfl, ini_X7, by decide +kernel, by decide +kernel, by decide +kernel⟩, w_t 926 (by decide +kernel) rfl, w_s 35 (by decide +kernel) rfl, _, _, rfl⟩
theorem veX7_pricesOf : VE yX7_pricesOf cX7_pricesOf 5 (some .long) 1 7 := ⟨⟨w_t 923 (by decide +kernel) rfl, ini_X7, by decide +kernel, by decide +kernel, by decide +kernel⟩, w_t 922 (by decide +kernel) rfl, w_s 34 (by decide +kernel) rfl, _, _, rfl⟩
theorem veX7_isCase : VE yX7_isCase cX7_isCase 3 (some .boolean) 2 7 := ⟨⟨w_t 956 (by decide +kernel) rfl, ini_X7, by decide +kernel, by decide +kernel, by decide +kernel⟩, w_t 955 (by decide +kernel) rfl, w_s 40 (by decide +kernel) rfl, _, _, rfl⟩
theorem veX7_line : VE yX7_line cX7_line 6 (some .int) 3 7 := ⟨⟨w_t 861 (by decide +kernel) rfl, ini_X7, by decide +kernel, by decide +kernel, by decide +kernel⟩, w_t 859 (by decide +kernel) rfl, w_t 860 (by decide +kernel) rfl, _, _, rfl⟩
theorem veX7_wanted : VE yX7_wanted cX7_wanted 4 (some .int) 1 7 := ⟨⟨w_t 869 (by decide +kernel) rfl, ini_X7, by decide +kernel, by decide +kernel, by decide +kernel⟩, w_t 868 (by decide +kernel) rfl, w_s 25 (by decide +kernel) rfl, _, _, rfl⟩
theorem veX7_make : VE yX7_make cX7_make 6 (some .int) 0 7 := ⟨⟨w_t 865 (by decide +kernel) rfl, ini_X7, by decide +kernel, by decide +kernel, by decide +kernel⟩, w_t 863 (by decide +kernel) rfl, w_t 864 (by decide +kernel) rfl, _, _, rfl⟩
theorem veX7_object : VE yX7_object cX7_object 3 (some .int) 1 7 := ⟨⟨w_t 877 (by decide +kernel) rfl, ini_X7, by decide +kernel, by decide +kernel, by decide +kernel⟩, w_t 875 (by decide +kernel) rfl, w_t 876 (by decide +kernel) rfl, _, _, rfl⟩
theorem veX7_close : VE yX7_close cX7_close 5 none 0 7 := ⟨⟨w_t 885 (by decide +kernel) rfl, ini_X7, by decide +kernel, by decide +kernel, by decide +kernel⟩, w_t 884 (by decide +kernel) rfl, w_s 27 (by decide +kernel) rfl, _, _, rfl⟩
theorem veX7_hear : VE yX7_hear cX7_hear 4 (some .int) 2 7 := ⟨⟨w_t 881 (by decide +kernel) rfl, ini_X7, by decide +kernel, by decide +kernel, by decide +kernel⟩, w_t 879 (by decide +kernel) rfl, w_t 880 (by decide +kernel) rfl, _, _, rfl⟩
theorem veX7_mayEnter : VE yX7_mayEnter cX7_mayEnter 3 (some .boolean) 2 7 := ⟨⟨w_t 893 (by decide +kernel) rfl, ini_X7, by decide +kernel, by decide +kernel, by decide +kernel⟩, w_t 892 (by decide +kernel) rfl, w_s 28 (by decide +kernel) rfl, _, _, rfl⟩
theorem veX7_enter : VE yX7_enter cX7_enter 6 (some .int) 0 7 := ⟨⟨w_t 889 (by decide +kernel) rfl, ini_X7, by decide +kernel, by decide +kernel, by decide +kernel⟩, w_t 887 (by decide +kernel) rfl, w_t 888 (by decide +kernel) rfl, _, _, rfl⟩
theorem veX7_work : VE yX7_work cX7_work 10 none 1 7 := ⟨⟨w_t 897 (by decide +kernel) rfl, ini_X7, by decide +kernel, by decide +kernel, by decide +kernel⟩, w_t 896 (by decide +kernel) rfl, w_s 29 (by decide +kernel) rfl, _, _, rfl⟩
theorem veX7_lossBefore : VE yX7_lossBefore cX7_lossBefore 6 (some .long) 1 7 := ⟨⟨w_t 931 (by decide +kernel) rfl, ini_X7, by decide +kernel, by decide +kernel, by decide +kernel⟩, w_t 930 (by decide +kernel) rfl, w_s 36 (by decide +kernel) rfl, _, _, rfl⟩
theorem veX7_debtLeft : VE yX7_debtLeft cX7_debtLeft 7 (some .long) 2 7 := ⟨⟨w_t 943 (by decide +kernel) rfl, ini_X7, by decide +kernel, by decide +kernel, by decide +kernel⟩, w_t 942 (by decide +kernel) rfl, w_s 39 (by decide +kernel) rfl, _, _, rfl⟩
theorem veX7_dueOf : VE yX7_dueOf cX7_dueOf 2 (some .long) 1 7 := ⟨⟨w_t 939 (by decide +kernel) rfl, ini_X7, by decide +kernel, by decide +kernel, by decide +kernel⟩, w_t 938 (by decide +kernel) rfl, w_s 38 (by decide +kernel) rfl, _, _, rfl⟩
theorem veX7_share : VE yX7_share cX7_share 10 none 1 7 := ⟨⟨w_t 935 (by decide +kernel) rfl, ini_X7, by decide +kernel, by decide +kernel, by decide +kernel⟩, w_t 934 (by decide +kernel) rfl, w_s 37 (by decide +kernel) rfl, _, _, rfl⟩
theorem veX7_undo : VE yX7_undo cX7_undo 5 (some .long) 0 7 := ⟨⟨w_t 947 (by decide +kernel) rfl, ini_X7, by decide +kernel, by decide +kernel, by decide +kernel⟩, w_t 945 (by decide +kernel) rfl, w_t 946 (by decide +kernel) rfl, _, _, rfl⟩
theorem veX7_owed : VE yX7_owed cX7_owed 2 (some .long) 1 7 := ⟨⟨w_t 967 (by decide +kernel) rfl, ini_X7, by decide +kernel, by decide +kernel, by decide +kernel⟩, w_t 966 (by decide +kernel) rfl, w_s 42 (by decide +kernel) rfl, _, _, rfl⟩
theorem veX7_interestOf : VE yX7_interestOf cX7_interestOf 2 (some .long) 1 7 := ⟨⟨w_t 963 (by decide +kernel) rfl, ini_X7, by decide +kernel, by decide +kernel, by decide +kernel⟩, w_t 962 (by decide +kernel) rfl, w_s 41 (by decide +kernel) rfl, _, _, rfl⟩
theorem veX7_pay : VE yX7_pay cX7_pay 10 (some .long) 3 7 := ⟨⟨w_t 952 (by decide +kernel) rfl, ini_X7, by decide +kernel, by decide +kernel, by decide +kernel⟩, w_t 950 (by decide +kernel) rfl, w_t 951 (by decide +kernel) rfl, _, _, rfl⟩
theorem veX7_toldOf : VE yX7_toldOf cX7_toldOf 4 (some .long) 2 7 := ⟨⟨w_t 976 (by decide +kernel) rfl, ini_X7, by decide +kernel, by decide +kernel, by decide +kernel⟩, w_t 975 (by decide +kernel) rfl, w_s 43 (by decide +kernel) rfl, _, _, rfl⟩
theorem veX7_told : VE yX7_told cX7_told 4 (some .long) 3 7 := ⟨⟨w_t 971 (by decide +kernel) rfl, ini_X7, by decide +kernel, by decide +kernel, by decide +kernel⟩, w_t 969 (by decide +kernel) rfl, w_t 970 (by decide +kernel) rfl, _, _, rfl⟩
theorem veX7_gets : VE yX7_gets cX7_gets 4 (some .long) 3 7 := ⟨⟨w_t 980 (by decide +kernel) rfl, ini_X7, by decide +kernel, by decide +kernel, by decide +kernel⟩, w_t 978 (by decide +kernel) rfl, w_t 979 (by decide +kernel) rfl, _, _, rfl⟩
theorem veX7_lookOf : VE yX7_lookOf cX7_lookOf 3 (some .int) 2 7 := ⟨⟨w_t 988 (by decide +kernel) rfl, ini_X7, by decide +kernel, by decide +kernel, by decide +kernel⟩, w_t 987 (by decide +kernel) rfl, w_s 44 (by decide +kernel) rfl, _, _, rfl⟩
theorem veX7_look : VE yX7_look cX7_look 4 (some .int) 3 7 := ⟨⟨w_t 984 (by decide +kernel) rfl, ini_X7, by decide +kernel, by decide +kernel, by decide +kernel⟩, w_t 982 (by decide +kernel) rfl, w_t 983 (by decide +kernel) rfl, _, _, rfl⟩
theorem veX7_pieces : VE yX7_pieces cX7_pieces 2 (some .int) 1 7 := ⟨⟨w_t 992 (by decide +kernel) rfl, ini_X7, by decide +kernel, by decide +kernel, by decide +kernel⟩, w_t 990 (by decide +kernel) rfl, w_t 991 (by decide +kernel) rfl, _, _, rfl⟩
theorem veX7_piece : VE yX7_piece cX7_piece 4 (some .int) 3 7 := ⟨⟨w_t 996 (by decide +kernel) rfl, ini_X7, by decide +kernel, by decide +kernel, by decide +kernel⟩, w_t 994 (by decide +kernel) rfl, w_t 995 (by decide +kernel) rfl, _, _, rfl⟩
theorem veX7_count : VE yX7_count cX7_count 4 (some .int) 1 7 := ⟨⟨w_t 1000 (by decide +kernel) rfl, ini_X7, by decide +kernel, by decide +kernel, by decide +kernel⟩, w_t 998 (by decide +kernel) rfl, w_t 999 (by decide +kernel) rfl, _, _, rfl⟩
theorem veX7_mix : VE yX7_mix cX7_mix 3 none 1 7 := ⟨⟨w_t 1009 (by decide +kernel) rfl, ini_X7, by decide +kernel, by decide +kernel, by decide +kernel⟩, w_t 1008 (by decide +kernel) rfl, w_s 45 (by decide +kernel) rfl, _, _, rfl⟩
theorem veX7_digest : VE yX7_digest cX7_digest 4 (some .long) 0 7 := ⟨⟨w_t 1004 (by decide +kernel) rfl, ini_X7, by decide +kernel, by decide +kernel, by decide +kernel⟩, w_t 1002 (by decide +kernel) rfl, w_t 1003 (by decide +kernel) rfl, _, _, rfl⟩
theorem seJ9_max_f86c9 : SE yJ9_max_f86c9 cJ9_max_f86c9 4 (some .long) 2 := ⟨⟨w_t 512 (by decide +kernel) rfl, ini_J9, by decide +kernel, by decide +kernel, by decide +kernel⟩, w_t 511 (by decide +kernel) rfl⟩
theorem seJ9_min_f86c9 : SE yJ9_min_f86c9 cJ9_min_f86c9 4 (some .long) 2 := ⟨⟨w_t 525 (by decide +kernel) rfl, ini_J9, by decide +kernel, by decide +kernel, by decide +kernel⟩, w_t 524 (by decide +kernel) rfl⟩
abbrev rmX0_init : Room := { frames := 1, cells := 1, slots := 4, locals := 12 }
abbrev rmX0_begin : Room := { frames := 0, cells := 0, slots := 0, locals := 0 }
abbrev rmX0_isReady : Room := { frames := 0, cells := 0, slots := 0, locals := 0 }
abbrev rmX0_enterOn : Room := { frames := 0, cells := 0, slots := 0, locals := 0 }
abbrev rmX0_owed : Room := { frames := 0, cells := 0, slots := 0, locals := 0 }
abbrev rmX0_interestOn : Room := { frames := 1, cells := 0, slots := 0, locals := 20 }
abbrev rmX0_receive : Room := { frames := 2, cells := 0, slots := 0, locals := 41 }
abbrev rmX0_tell : Room := { frames := 2, cells := 0, slots := 0, locals := 41 }
abbrev rmX1_init : Room := { frames := 1, cells := 3, slots := 12, locals := 12 }
abbrev rmX1_clear : Room := { frames := 0, cells := 0, slots := 0, locals := 0 }
abbrev rmX1_addRight : Room := { frames := 0, cells := 0, slots := 0, locals := 0 }
abbrev rmX2_init : Room := { frames := 1, cells := 5, slots := 1280, locals := 12 }
abbrev rmX2_renew : Room := { frames := 0, cells := 0, slots := 0, locals := 0 }
abbrev rmX2_at : Room := { frames := 0, cells := 0, slots := 0, locals := 0 }
abbrev rmX2_beside : Room := { frames := 1, cells := 0, slots := 0, locals := 23 }
abbrev rmX2_isTaken : Room := { frames := 0, cells := 0, slots := 0, locals := 0 }
abbrev rmX2_isKept : Room := { frames := 0, cells := 0, slots := 0, locals := 0 }
abbrev rmX2_isInLineOf : Room := { frames := 0, cells := 0, slots := 0, locals := 0 }
abbrev rmX2_isOpenLane : Room := { frames := 0, cells := 0, slots := 0, locals := 0 }
abbrev rmX2_cellsInLine : Room := { frames := 1, cells := 0, slots := 0, locals := 22 }
abbrev rmX2_cellsChosen : Room := { frames := 0, cells := 0, slots := 0, locals := 0 }
abbrev rmX2_cellsTaken : Room := { frames := 1, cells := 0, slots := 0, locals := 21 }
abbrev rmX2_takeLine : Room := { frames := 1, cells := 0, slots := 0, locals := 22 }
abbrev rmX2_giveBack : Room := { frames := 0, cells := 0, slots := 0, locals := 0 }
abbrev rmX2_emptyLine : Room := { frames := 0, cells := 0, slots := 0, locals := 0 }
abbrev rmX2_worthInLine : Room := { frames := 1, cells := 0, slots := 0, locals := 23 }
abbrev rmX2_priceAt : Room := { frames := 0, cells := 0, slots := 0, locals := 0 }
abbrev rmX2_fenceSides : Room := { frames := 3, cells := 0, slots := 0, locals := 70 }
abbrev rmX2_keptSides : Room := { frames := 2, cells := 0, slots := 0, locals := 45 }
abbrev rmX3_init : Room := { frames := 1, cells := 1, slots := 12, locals := 12 }
abbrev rmX3_begin : Room := { frames := 0, cells := 0, slots := 0, locals := 0 }
abbrev rmX3_addCase : Room := { frames := 2, cells := 2, slots := 20, locals := 32 }
abbrev rmX3_caseAt : Room := { frames := 0, cells := 0, slots := 0, locals := 0 }
abbrev rmX3_noticeEnd : Room := { frames := 0, cells := 0, slots := 0, locals := 0 }
abbrev rmX3_hasReady : Room := { frames := 1, cells := 0, slots := 0, locals := 21 }
abbrev rmX3_isDone : Room := { frames := 1, cells := 0, slots := 0, locals := 21 }
abbrev rmX3_lossOf : Room := { frames := 1, cells := 0, slots := 0, locals := 21 }
abbrev rmX4_init : Room := { frames := 1, cells := 2, slots := 40, locals := 12 }
abbrev rmX4_put : Room := { frames := 0, cells := 0, slots := 0, locals := 0 }
abbrev rmX4_on : Room := { frames := 0, cells := 0, slots := 0, locals := 0 }
abbrev rmX5_init : Room := { frames := 1, cells := 5, slots := 1280, locals := 12 }
abbrev rmX5_find : Room := { frames := 3, cells := 0, slots := 0, locals := 73 }
abbrev rmX5_spread : Room := { frames := 2, cells := 0, slots := 0, locals := 45 }
abbrev rmX5_chosenMain : Room := { frames := 0, cells := 0, slots := 0, locals := 0 }
abbrev rmX5_hasWay : Room := { frames := 0, cells := 0, slots := 0, locals := 0 }
abbrev rmX5_worth : Room := { frames := 1, cells := 0, slots := 0, locals := 23 }
abbrev rmX5_tell : Room := { frames := 0, cells := 0, slots := 0, locals := 0 }
abbrev rmX6_init : Room := { frames := 2, cells := 77, slots := 3035, locals := 32 }
abbrev rmX6_map : Room := { frames := 1, cells := 0, slots := 0, locals := 23 }
abbrev rmX6_field : Room := { frames := 1, cells := 0, slots := 0, locals := 20 }
abbrev rmX6_cell : Room := { frames := 1, cells := 0, slots := 0, locals := 23 }
abbrev rmX6_lane : Room := { frames := 1, cells := 0, slots := 0, locals := 23 }
abbrev rmX6_house : Room := { frames := 1, cells := 0, slots := 0, locals := 23 }
abbrev rmX6_right : Room := { frames := 1, cells := 0, slots := 0, locals := 22 }
abbrev rmX6_wasOrderMade : Room := { frames := 0, cells := 0, slots := 0, locals := 0 }
abbrev rmX6_isField : Room := { frames := 0, cells := 0, slots := 0, locals := 0 }
abbrev rmX6_isSoil : Room := { frames := 0, cells := 0, slots := 0, locals := 0 }
abbrev rmX6_isAmount : Room := { frames := 0, cells := 0, slots := 0, locals := 0 }
abbrev rmX6_pullDownHouse : Room := { frames := 0, cells := 0, slots := 0, locals := 0 }
abbrev rmX6_price : Room := { frames := 1, cells := 0, slots := 0, locals := 23 }
abbrev rmX6_costs : Room := { frames := 1, cells := 0, slots := 0, locals := 24 }
abbrev rmX6_rate : Room := { frames := 0, cells := 0, slots := 0, locals := 0 }
abbrev rmX6_days : Room := { frames := 0, cells := 0, slots := 0, locals := 0 }
abbrev rmX6_isDay : Room := { frames := 0, cells := 0, slots := 0, locals := 0 }
abbrev rmX6_line : Room := { frames := 3, cells := 0, slots := 0, locals := 64 }
abbrev rmX6_make : Room := { frames := 3, cells := 26, slots := 256, locals := 66 }
abbrev rmX6_object : Room := { frames := 3, cells := 0, slots := 0, locals := 64 }
abbrev rmX6_hear : Room := { frames := 3, cells := 0, slots := 0, locals := 64 }
abbrev rmX6_enter : Room := { frames := 6, cells := 0, slots := 0, locals := 146 }
abbrev rmX6_undo : Room := { frames := 2, cells := 0, slots := 0, locals := 44 }
abbrev rmX6_orderAt : Room := { frames := 0, cells := 0, slots := 0, locals := 0 }
abbrev rmX6_latestOrder : Room := { frames := 1, cells := 0, slots := 0, locals := 21 }
abbrev rmX6_openOrder : Room := { frames := 2, cells := 0, slots := 0, locals := 43 }
abbrev rmX6_caseOf : Room := { frames := 1, cells := 0, slots := 0, locals := 21 }
abbrev rmX6_touchesField : Room := { frames := 2, cells := 0, slots := 0, locals := 45 }
abbrev rmX6_emptyLineIfDone : Room := { frames := 2, cells := 0, slots := 0, locals := 43 }
abbrev rmX6_takeReadyCells : Room := { frames := 2, cells := 0, slots := 0, locals := 45 }
abbrev rmX6_settleReadyCases : Room := { frames := 5, cells := 0, slots := 0, locals := 122 }
abbrev rmX6_assess : Room := { frames := 4, cells := 0, slots := 0, locals := 97 }
abbrev rmX6_lossOfPieces : Room := { frames := 2, cells := 0, slots := 0, locals := 49 }
abbrev rmX6_lossBefore : Room := { frames := 2, cells := 0, slots := 0, locals := 46 }
abbrev rmX6_share : Room := { frames := 1, cells := 0, slots := 0, locals := 23 }
abbrev rmX6_oweDebtsAgain : Room := { frames := 1, cells := 0, slots := 0, locals := 21 }
abbrev rmX6_pay : Room := { frames := 3, cells := 0, slots := 0, locals := 70 }
abbrev rmX6_told : Room := { frames := 3, cells := 0, slots := 0, locals := 63 }
abbrev rmX6_gets : Room := { frames := 2, cells := 0, slots := 0, locals := 44 }
abbrev rmX6_look : Room := { frames := 1, cells := 0, slots := 0, locals := 23 }
abbrev rmX6_pieces : Room := { frames := 4, cells := 0, slots := 0, locals := 97 }
abbrev rmX6_piece : Room := { frames := 4, cells := 0, slots := 0, locals := 97 }
abbrev rmX6_count : Room := { frames := 3, cells := 0, slots := 0, locals := 64 }
abbrev rmX6_digest : Room := { frames := 5, cells := 0, slots := 0, locals := 115 }
abbrev rmX6_casesOfLatest : Room := { frames := 2, cells := 0, slots := 0, locals := 41 }
abbrev rmX6_mixed : Room := { frames := 0, cells := 0, slots := 0, locals := 0 }
abbrev rmX6_mixedCells : Room := { frames := 2, cells := 0, slots := 0, locals := 47 }
abbrev rmX6_mixedFields : Room := { frames := 1, cells := 0, slots := 0, locals := 23 }
abbrev rmX6_mixedOrders : Room := { frames := 4, cells := 0, slots := 0, locals := 87 }
abbrev rmX7_init : Room := { frames := 1, cells := 36, slots := 15329, locals := 21 }
abbrev rmX7_in : Room := { frames := 0, cells := 0, slots := 0, locals := 0 }
abbrev rmX7_fresh : Room := { frames := 0, cells := 0, slots := 0, locals := 0 }
abbrev rmX7_isCell : Room := { frames := 1, cells := 0, slots := 0, locals := 25 }
abbrev rmX7_isField : Room := { frames := 1, cells := 0, slots := 0, locals := 25 }
abbrev rmX7_map : Room := { frames := 1, cells := 0, slots := 0, locals := 25 }
abbrev rmX7_field : Room := { frames := 0, cells := 0, slots := 0, locals := 0 }
abbrev rmX7_clearHouse : Room := { frames := 0, cells := 0, slots := 0, locals := 0 }
abbrev rmX7_cell : Room := { frames := 2, cells := 0, slots := 0, locals := 47 }
abbrev rmX7_lane : Room := { frames := 2, cells := 0, slots := 0, locals := 47 }
abbrev rmX7_house : Room := { frames := 2, cells := 0, slots := 0, locals := 47 }
abbrev rmX7_right : Room := { frames := 2, cells := 0, slots := 0, locals := 46 }
abbrev rmX7_price : Room := { frames := 1, cells := 0, slots := 0, locals := 25 }
abbrev rmX7_costOf : Room := { frames := 0, cells := 0, slots := 0, locals := 0 }
abbrev rmX7_costs : Room := { frames := 1, cells := 0, slots := 0, locals := 25 }
abbrev rmX7_rate : Room := { frames := 1, cells := 0, slots := 0, locals := 25 }
abbrev rmX7_days : Room := { frames := 1, cells := 0, slots := 0, locals := 25 }
abbrev rmX7_overX : Room := { frames := 0, cells := 0, slots := 0, locals := 0 }
abbrev rmX7_overY : Room := { frames := 0, cells := 0, slots := 0, locals := 0 }
abbrev rmX7_beside : Room := { frames := 2, cells := 0, slots := 0, locals := 47 }
abbrev rmX7_isLeft : Room := { frames := 0, cells := 0, slots := 0, locals := 0 }
abbrev rmX7_spread : Room := { frames := 3, cells := 0, slots := 0, locals := 71 }
abbrev rmX7_divide : Room := { frames := 4, cells := 0, slots := 0, locals := 97 }
abbrev rmX7_mainOf : Room := { frames := 0, cells := 0, slots := 0, locals := 0 }
abbrev rmX7_hasWay : Room := { frames := 3, cells := 0, slots := 0, locals := 71 }
abbrev rmX7_pricesOf : Room := { frames := 1, cells := 0, slots := 0, locals := 25 }
abbrev rmX7_isCase : Room := { frames := 1, cells := 0, slots := 0, locals := 25 }
abbrev rmX7_line : Room := { frames := 2, cells := 0, slots := 0, locals := 47 }
abbrev rmX7_wanted : Room := { frames := 1, cells := 0, slots := 0, locals := 22 }
abbrev rmX7_make : Room := { frames := 2, cells := 0, slots := 0, locals := 45 }
abbrev rmX7_object : Room := { frames := 1, cells := 0, slots := 0, locals := 25 }
abbrev rmX7_close : Room := { frames := 0, cells := 0, slots := 0, locals := 0 }
abbrev rmX7_hear : Room := { frames := 1, cells := 0, slots := 0, locals := 25 }
abbrev rmX7_mayEnter : Room := { frames := 0, cells := 0, slots := 0, locals := 0 }
abbrev rmX7_enter : Room := { frames := 6, cells := 0, slots := 0, locals := 150 }
abbrev rmX7_work : Room := { frames := 5, cells := 0, slots := 0, locals := 121 }
abbrev rmX7_lossBefore : Room := { frames := 0, cells := 0, slots := 0, locals := 0 }
abbrev rmX7_debtLeft : Room := { frames := 0, cells := 0, slots := 0, locals := 0 }
abbrev rmX7_dueOf : Room := { frames := 0, cells := 0, slots := 0, locals := 0 }
abbrev rmX7_share : Room := { frames := 1, cells := 0, slots := 0, locals := 26 }
abbrev rmX7_undo : Room := { frames := 0, cells := 0, slots := 0, locals := 0 }
abbrev rmX7_owed : Room := { frames := 1, cells := 0, slots := 0, locals := 21 }
abbrev rmX7_interestOf : Room := { frames := 2, cells := 0, slots := 0, locals := 42 }
abbrev rmX7_pay : Room := { frames := 3, cells := 0, slots := 0, locals := 63 }
abbrev rmX7_toldOf : Room := { frames := 3, cells := 0, slots := 0, locals := 63 }
abbrev rmX7_told : Room := { frames := 4, cells := 0, slots := 0, locals := 86 }
abbrev rmX7_gets : Room := { frames := 2, cells := 0, slots := 0, locals := 47 }
abbrev rmX7_lookOf : Room := { frames := 0, cells := 0, slots := 0, locals := 0 }
abbrev rmX7_look : Room := { frames := 2, cells := 0, slots := 0, locals := 47 }
abbrev rmX7_pieces : Room := { frames := 5, cells := 0, slots := 0, locals := 121 }
abbrev rmX7_piece : Room := { frames := 5, cells := 0, slots := 0, locals := 121 }
abbrev rmX7_count : Room := { frames := 0, cells := 0, slots := 0, locals := 0 }
abbrev rmX7_mix : Room := { frames := 0, cells := 0, slots := 0, locals := 0 }
abbrev rmX7_digest : Room := { frames := 4, cells := 0, slots := 0, locals := 86 }
abbrev rmJ9_max_f86c9 : Room := { frames := 0, cells := 0, slots := 0, locals := 0 }
abbrev rmJ9_min_f86c9 : Room := { frames := 0, cells := 0, slots := 0, locals := 0 }
