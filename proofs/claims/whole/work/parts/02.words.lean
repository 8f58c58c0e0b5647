def BW : List Cond := lw_tbl.filter goodWord
/-- words that stay by a reason of their own -/
def nbWord : Cond → Bool
  | .fieldLinkNest _ _ _ _ _ _ => true
  | .methodLinkNest _ _ _ _ => true
  | .declares _ => true
  | .castable _ _ => true
  | _ => false
def NB : List Cond := tables_1.filter nbWord
theorem nb_warm {w : Cond} (hw : nbWord w = true) {s U : State} (hW : s.WarmedH U.vm) (h : va_Nw w s) : va_Nw w U := by
  cases w <;> first | exact va_Nw.warmF hW h | exact va_Nw.warmM hW h | exact va_Nw.warmD hW h | exact va_Nw.warmC hW h | cases hw
theorem nb_tab {w : Cond} (hw : nbWord w = true) : w.onTables = true := by
  cases w <;> first | rfl | cases hw
theorem bw_t {w : Cond} (n : Nat) (h : tables_1[n]? = some w) (g : goodWord w = true) : w ∈ BW := List.mem_filter.mpr ⟨List.mem_append_right _ (List.mem_of_getElem? h), g⟩
theorem nb_t {w : Cond} (n : Nat) (h : tables_1[n]? = some w) (g : nbWord w = true) : w ∈ NB := List.mem_filter.mpr ⟨List.mem_of_getElem? h, g⟩
theorem bw_s {q : MethodName × Nat} (n : Nat) (h : lw_privs[n]? = some q) : Cond.selects q.1.cls q.1 q.1 ∈ BW := List.mem_filter.mpr ⟨List.mem_append_left _ (List.mem_map.mpr ⟨q, List.mem_of_getElem? h, rfl⟩), rfl⟩
theorem bw_in {ws : List Cond} (h : ∀ w ∈ ws, w ∈ BW) : GoodIn BW ws := fun w hw => ⟨h w hw, good_of_word (List.mem_filter.mp (h w hw)).2⟩
theorem in_RL : Cond.initialized RL ∈ BW := bw_t 0 (by decide +kernel) rfl
theorem in_RX3 : Cond.initialized RX3 ∈ BW := bw_t 1 (by decide +kernel) rfl
theorem in_RX0 : Cond.initialized RX0 ∈ BW := bw_t 2 (by decide +kernel) rfl
theorem in_RX2 : Cond.initialized RX2 ∈ BW := bw_t 3 (by decide +kernel) rfl
theorem in_RX1 : Cond.initialized RX1 ∈ BW := bw_t 4 (by decide +kernel) rfl
theorem in_RJ7 : Cond.initialized RJ7 ∈ BW := bw_t 5 (by decide +kernel) rfl
theorem in_RX4 : Cond.initialized RX4 ∈ BW := bw_t 6 (by decide +kernel) rfl
theorem in_RJ10 : Cond.initialized RJ10 ∈ BW := bw_t 11 (by decide +kernel) rfl
theorem in_RJ6 : Cond.initialized RJ6 ∈ BW := bw_t 14 (by decide +kernel) rfl
theorem in_RJ0 : Cond.initialized RJ0 ∈ BW := bw_t 15 (by decide +kernel) rfl
theorem in_RJ1 : Cond.initialized RJ1 ∈ BW := bw_t 16 (by decide +kernel) rfl
theorem in_RJ3 : Cond.initialized RJ3 ∈ BW := bw_t 17 (by decide +kernel) rfl
theorem in_RJ2 : Cond.initialized RJ2 ∈ BW := bw_t 18 (by decide +kernel) rfl
theorem cl_RL_8 : Cond.classLink RL 8 RX3 ∈ BW := bw_t 19 (by decide +kernel) rfl
theorem is_RX3 : Cond.instantiable RX3 12 ∈ BW := bw_t 20 (by decide +kernel) rfl
theorem ml_RL_86 : Cond.methodLink RL 86 yX3_init ∈ BW := bw_t 21 (by decide +kernel) rfl
theorem mi_X3_init : Cond.instanceMethod yX3_init ∈ BW := bw_t 22 (by decide +kernel) rfl
theorem mc_X3_init : Cond.code yX3_init cX3_init 2 none ∈ BW := bw_t 23 (by decide +kernel) rfl
theorem cl_RX3_7 : Cond.classLink RX3 7 RX0 ∈ BW := bw_t 27 (by decide +kernel) rfl
theorem is_RX0 : Cond.instantiable RX0 10 ∈ BW := bw_t 28 (by decide +kernel) rfl
theorem mn_RX3_9 : Cond.methodLinkNest RX3 9 yX0_init RX3 ∈ NB := nb_t 29 (by decide +kernel) rfl
theorem mi_X0_init : Cond.instanceMethod yX0_init ∈ BW := bw_t 30 (by decide +kernel) rfl
theorem mc_X0_init : Cond.code yX0_init cX0_init 1 none ∈ BW := bw_t 31 (by decide +kernel) rfl
theorem fl_RX0_9 : Cond.fieldLink RX0 9 "TripleSigns$Layout" "points" "I" ∈ BW := bw_t 33 (by decide +kernel) rfl
theorem fn_RX3_163 : Cond.fieldLinkNest RX3 163 "TripleSigns$Layout" "points" "I" RX3 ∈ NB := nb_t 34 (by decide +kernel) rfl
theorem fl_RX0_15 : Cond.fieldLink RX0 15 "TripleSigns$Layout" "triples" "I" ∈ BW := bw_t 35 (by decide +kernel) rfl
theorem fn_RX3_77 : Cond.fieldLinkNest RX3 77 "TripleSigns$Layout" "triples" "I" RX3 ∈ NB := nb_t 36 (by decide +kernel) rfl
theorem fl_RX0_18 : Cond.fieldLink RX0 18 "TripleSigns$Layout" "relations" "I" ∈ BW := bw_t 37 (by decide +kernel) rfl
theorem fn_RX3_166 : Cond.fieldLinkNest RX3 166 "TripleSigns$Layout" "relations" "I" RX3 ∈ NB := nb_t 38 (by decide +kernel) rfl
theorem fl_RX0_21 : Cond.fieldLink RX0 21 "TripleSigns$Layout" "corners" "[I" ∈ BW := bw_t 39 (by decide +kernel) rfl
theorem fl_RX0_25 : Cond.fieldLink RX0 25 "TripleSigns$Layout" "numbers" "[I" ∈ BW := bw_t 40 (by decide +kernel) rfl
theorem fl_RX0_28 : Cond.fieldLink RX0 28 "TripleSigns$Layout" "parities" "[I" ∈ BW := bw_t 41 (by decide +kernel) rfl
theorem fl_RX0_31 : Cond.fieldLink RX0 31 "TripleSigns$Layout" "members" "[I" ∈ BW := bw_t 42 (by decide +kernel) rfl
theorem fl_RX0_34 : Cond.fieldLink RX0 34 "TripleSigns$Layout" "factors" "[I" ∈ BW := bw_t 43 (by decide +kernel) rfl
theorem fl_RX0_37 : Cond.fieldLink RX0 37 "TripleSigns$Layout" "coefficients" "[I" ∈ BW := bw_t 44 (by decide +kernel) rfl
theorem fl_RX0_40 : Cond.fieldLink RX0 40 "TripleSigns$Layout" "masks" "[J" ∈ BW := bw_t 45 (by decide +kernel) rfl
theorem ac_int : Cond.arrayClass .int ∈ BW := bw_t 67 (by decide +kernel) rfl
theorem ac_long : Cond.arrayClass .long ∈ BW := bw_t 68 (by decide +kernel) rfl
theorem cl_RX3_16 : Cond.classLink RX3 16 RX2 ∈ BW := bw_t 69 (by decide +kernel) rfl
theorem is_RX2 : Cond.instantiable RX2 10 ∈ BW := bw_t 70 (by decide +kernel) rfl
theorem mn_RX3_18 : Cond.methodLinkNest RX3 18 yX2_init RX3 ∈ NB := nb_t 71 (by decide +kernel) rfl
theorem mi_X2_init : Cond.instanceMethod yX2_init ∈ BW := bw_t 72 (by decide +kernel) rfl
theorem mc_X2_init : Cond.code yX2_init cX2_init 1 none ∈ BW := bw_t 73 (by decide +kernel) rfl
theorem fl_RX2_9 : Cond.fieldLink RX2 9 "TripleSigns$State" "points" "I" ∈ BW := bw_t 75 (by decide +kernel) rfl
theorem fn_RX3_292 : Cond.fieldLinkNest RX3 292 "TripleSigns$State" "points" "I" RX3 ∈ NB := nb_t 76 (by decide +kernel) rfl
theorem fl_RX2_15 : Cond.fieldLink RX2 15 "TripleSigns$State" "uniform" "Z" ∈ BW := bw_t 77 (by decide +kernel) rfl
theorem fn_RX3_111 : Cond.fieldLinkNest RX3 111 "TripleSigns$State" "uniform" "Z" RX3 ∈ NB := nb_t 78 (by decide +kernel) rfl
theorem fl_RX2_19 : Cond.fieldLink RX2 19 "TripleSigns$State" "contradiction" "I" ∈ BW := bw_t 79 (by decide +kernel) rfl
theorem fn_RX3_175 : Cond.fieldLinkNest RX3 175 "TripleSigns$State" "contradiction" "I" RX3 ∈ NB := nb_t 80 (by decide +kernel) rfl
theorem fl_RX2_22 : Cond.fieldLink RX2 22 "TripleSigns$State" "signs" "[I" ∈ BW := bw_t 81 (by decide +kernel) rfl
theorem fn_RX3_129 : Cond.fieldLinkNest RX3 129 "TripleSigns$State" "signs" "[I" RX3 ∈ NB := nb_t 82 (by decide +kernel) rfl
theorem fl_RX2_26 : Cond.fieldLink RX2 26 "TripleSigns$State" "kinds" "[I" ∈ BW := bw_t 83 (by decide +kernel) rfl
theorem fn_RX3_100 : Cond.fieldLinkNest RX3 100 "TripleSigns$State" "kinds" "[I" RX3 ∈ NB := nb_t 84 (by decide +kernel) rfl
theorem fl_RX2_29 : Cond.fieldLink RX2 29 "TripleSigns$State" "sources" "[I" ∈ BW := bw_t 85 (by decide +kernel) rfl
theorem fn_RX3_151 : Cond.fieldLinkNest RX3 151 "TripleSigns$State" "sources" "[I" RX3 ∈ NB := nb_t 86 (by decide +kernel) rfl
theorem fl_RX2_32 : Cond.fieldLink RX2 32 "TripleSigns$State" "steps" "[I" ∈ BW := bw_t 87 (by decide +kernel) rfl
theorem fn_RX3_154 : Cond.fieldLinkNest RX3 154 "TripleSigns$State" "steps" "[I" RX3 ∈ NB := nb_t 88 (by decide +kernel) rfl
theorem fl_RX2_35 : Cond.fieldLink RX2 35 "TripleSigns$State" "reasonMasks" "[J" ∈ BW := bw_t 89 (by decide +kernel) rfl
theorem fn_RX3_159 : Cond.fieldLinkNest RX3 159 "TripleSigns$State" "reasonMasks" "[J" RX3 ∈ NB := nb_t 90 (by decide +kernel) rfl
theorem fl_RX2_39 : Cond.fieldLink RX2 39 "TripleSigns$State" "xs" "[I" ∈ BW := bw_t 91 (by decide +kernel) rfl
theorem fn_RX3_216 : Cond.fieldLinkNest RX3 216 "TripleSigns$State" "xs" "[I" RX3 ∈ NB := nb_t 92 (by decide +kernel) rfl
theorem fl_RX2_42 : Cond.fieldLink RX2 42 "TripleSigns$State" "ys" "[I" ∈ BW := bw_t 93 (by decide +kernel) rfl
theorem fn_RX3_219 : Cond.fieldLinkNest RX3 219 "TripleSigns$State" "ys" "[I" RX3 ∈ NB := nb_t 94 (by decide +kernel) rfl
theorem cl_RX3_23 : Cond.classLink RX3 23 RX1 ∈ BW := bw_t 116 (by decide +kernel) rfl
theorem is_RX1 : Cond.instantiable RX1 5 ∈ BW := bw_t 117 (by decide +kernel) rfl
theorem mn_RX3_25 : Cond.methodLinkNest RX3 25 yX1_init RX3 ∈ NB := nb_t 118 (by decide +kernel) rfl
theorem mi_X1_init : Cond.instanceMethod yX1_init ∈ BW := bw_t 119 (by decide +kernel) rfl
theorem mc_X1_init : Cond.code yX1_init cX1_init 1 none ∈ BW := bw_t 120 (by decide +kernel) rfl
theorem fl_RX1_9 : Cond.fieldLink RX1 9 "TripleSigns$Script" "bytes" "[I" ∈ BW := bw_t 122 (by decide +kernel) rfl
theorem fn_RX3_255 : Cond.fieldLinkNest RX3 255 "TripleSigns$Script" "bytes" "[I" RX3 ∈ NB := nb_t 123 (by decide +kernel) rfl
theorem fl_RX1_15 : Cond.fieldLink RX1 15 "TripleSigns$Script" "length" "I" ∈ BW := bw_t 124 (by decide +kernel) rfl
theorem fn_RX3_250 : Cond.fieldLinkNest RX3 250 "TripleSigns$Script" "length" "I" RX3 ∈ NB := nb_t 125 (by decide +kernel) rfl
theorem fl_RX1_19 : Cond.fieldLink RX1 19 "TripleSigns$Script" "words" "[I" ∈ BW := bw_t 126 (by decide +kernel) rfl
theorem fn_RX3_393 : Cond.fieldLinkNest RX3 393 "TripleSigns$Script" "words" "[I" RX3 ∈ NB := nb_t 127 (by decide +kernel) rfl
theorem fl_RX1_22 : Cond.fieldLink RX1 22 "TripleSigns$Script" "names" "[I" ∈ BW := bw_t 128 (by decide +kernel) rfl
theorem fl_RX1_25 : Cond.fieldLink RX1 25 "TripleSigns$Script" "commands" "I" ∈ BW := bw_t 129 (by decide +kernel) rfl
theorem fn_RX3_261 : Cond.fieldLinkNest RX3 261 "TripleSigns$Script" "commands" "I" RX3 ∈ NB := nb_t 130 (by decide +kernel) rfl
theorem mn_RX3_60 : Cond.methodLinkNest RX3 60 yX2_clearFor RX3 ∈ NB := nb_t 143 (by decide +kernel) rfl
theorem mi_X2_clearFor : Cond.instanceMethod yX2_clearFor ∈ BW := bw_t 145 (by decide +kernel) rfl
theorem mc_X2_clearFor : Cond.code yX2_clearFor cX2_clearFor 3 none ∈ BW := bw_t 146 (by decide +kernel) rfl
theorem ml_RX2_45 : Cond.methodLink RX2 45 yX2_setUnknown ∈ BW := bw_t 147 (by decide +kernel) rfl
theorem mi_X2_setUnknown : Cond.instanceMethod yX2_setUnknown ∈ BW := bw_t 149 (by decide +kernel) rfl
theorem mc_X2_setUnknown : Cond.code yX2_setUnknown cX2_setUnknown 2 none ∈ BW := bw_t 150 (by decide +kernel) rfl
theorem ml_RX2_49 : Cond.methodLink RX2 49 yJ7_fill_53178 ∈ BW := bw_t 151 (by decide +kernel) rfl
theorem mt_J7_fill_53178 : Cond.static yJ7_fill_53178 ∈ BW := bw_t 152 (by decide +kernel) rfl
theorem mc_J7_fill_53178 : Cond.code yJ7_fill_53178 cJ7_fill_53178 4 none ∈ BW := bw_t 153 (by decide +kernel) rfl
theorem mn_RX3_64 : Cond.methodLinkNest RX3 64 yX0_arrange RX3 ∈ NB := nb_t 154 (by decide +kernel) rfl
theorem mi_X0_arrange : Cond.instanceMethod yX0_arrange ∈ BW := bw_t 156 (by decide +kernel) rfl
theorem mc_X0_arrange : Cond.code yX0_arrange cX0_arrange 3 none ∈ BW := bw_t 157 (by decide +kernel) rfl
theorem ml_RX0_44 : Cond.methodLink RX0 44 yX0_arrangeTriples ∈ BW := bw_t 158 (by decide +kernel) rfl
theorem mi_X0_arrangeTriples : Cond.instanceMethod yX0_arrangeTriples ∈ BW := bw_t 160 (by decide +kernel) rfl
theorem mc_X0_arrangeTriples : Cond.code yX0_arrangeTriples cX0_arrangeTriples 4 none ∈ BW := bw_t 161 (by decide +kernel) rfl
theorem ml_RX0_51 : Cond.methodLink RX0 51 yX0_addTriple ∈ BW := bw_t 162 (by decide +kernel) rfl
theorem mi_X0_addTriple : Cond.instanceMethod yX0_addTriple ∈ BW := bw_t 164 (by decide +kernel) rfl
theorem mc_X0_addTriple : Cond.code yX0_addTriple cX0_addTriple 5 none ∈ BW := bw_t 165 (by decide +kernel) rfl
theorem ml_RX0_55 : Cond.methodLink RX0 55 yX0_enter ∈ BW := bw_t 166 (by decide +kernel) rfl
theorem mi_X0_enter : Cond.instanceMethod yX0_enter ∈ BW := bw_t 168 (by decide +kernel) rfl
theorem mc_X0_enter : Cond.code yX0_enter cX0_enter 5 none ∈ BW := bw_t 169 (by decide +kernel) rfl
theorem ml_RX0_59 : Cond.methodLink RX0 59 yX0_spot ∈ BW := bw_t 170 (by decide +kernel) rfl
theorem mt_X0_spot : Cond.static yX0_spot ∈ BW := bw_t 171 (by decide +kernel) rfl
theorem mc_X0_spot : Cond.code yX0_spot cX0_spot 3 (some .int) ∈ BW := bw_t 172 (by decide +kernel) rfl
theorem ml_RX0_47 : Cond.methodLink RX0 47 yX0_arrangeRelations ∈ BW := bw_t 173 (by decide +kernel) rfl
theorem mi_X0_arrangeRelations : Cond.instanceMethod yX0_arrangeRelations ∈ BW := bw_t 175 (by decide +kernel) rfl
theorem mc_X0_arrangeRelations : Cond.code yX0_arrangeRelations cX0_arrangeRelations 6 none ∈ BW := bw_t 176 (by decide +kernel) rfl
theorem ml_RX0_63 : Cond.methodLink RX0 63 yX0_addRelation ∈ BW := bw_t 177 (by decide +kernel) rfl
theorem mi_X0_addRelation : Cond.instanceMethod yX0_addRelation ∈ BW := bw_t 179 (by decide +kernel) rfl
theorem mc_X0_addRelation : Cond.code yX0_addRelation cX0_addRelation 7 none ∈ BW := bw_t 180 (by decide +kernel) rfl
theorem ml_RX0_67 : Cond.methodLink RX0 67 yX0_setProduct ∈ BW := bw_t 181 (by decide +kernel) rfl
theorem mi_X0_setProduct : Cond.instanceMethod yX0_setProduct ∈ BW := bw_t 183 (by decide +kernel) rfl
theorem mc_X0_setProduct : Cond.code yX0_setProduct cX0_setProduct 6 none ∈ BW := bw_t 184 (by decide +kernel) rfl
theorem fl_RX3_10 : Cond.fieldLink RX3 10 "TripleSigns" "layout" "LTripleSigns$Layout;" ∈ BW := bw_t 185 (by decide +kernel) rfl
theorem fl_RX3_19 : Cond.fieldLink RX3 19 "TripleSigns" "now" "LTripleSigns$State;" ∈ BW := bw_t 186 (by decide +kernel) rfl
theorem fl_RX3_26 : Cond.fieldLink RX3 26 "TripleSigns" "script" "LTripleSigns$Script;" ∈ BW := bw_t 187 (by decide +kernel) rfl
theorem fl_RX3_30 : Cond.fieldLink RX3 30 "TripleSigns" "saved" "[LTripleSigns$State;" ∈ BW := bw_t 188 (by decide +kernel) rfl
theorem fl_RX3_34 : Cond.fieldLink RX3 34 "TripleSigns" "savedStates" "I" ∈ BW := bw_t 189 (by decide +kernel) rfl
theorem fl_RX3_38 : Cond.fieldLink RX3 38 "TripleSigns" "exchanged" "[I" ∈ BW := bw_t 190 (by decide +kernel) rfl
theorem fl_RX3_42 : Cond.fieldLink RX3 42 "TripleSigns" "open" "[I" ∈ BW := bw_t 191 (by decide +kernel) rfl
theorem fl_RX3_45 : Cond.fieldLink RX3 45 "TripleSigns" "lineMasks" "[I" ∈ BW := bw_t 192 (by decide +kernel) rfl
theorem fl_RX3_48 : Cond.fieldLink RX3 48 "TripleSigns" "triedXs" "[I" ∈ BW := bw_t 193 (by decide +kernel) rfl
theorem fl_RX3_51 : Cond.fieldLink RX3 51 "TripleSigns" "triedYs" "[I" ∈ BW := bw_t 194 (by decide +kernel) rfl
theorem fl_RX3_54 : Cond.fieldLink RX3 54 "TripleSigns" "bestXs" "[I" ∈ BW := bw_t 195 (by decide +kernel) rfl
theorem fl_RX3_57 : Cond.fieldLink RX3 57 "TripleSigns" "bestYs" "[I" ∈ BW := bw_t 196 (by decide +kernel) rfl
theorem ml_RL_107 : Cond.methodLink RL 107 yX3_setUniform ∈ BW := bw_t 222 (by decide +kernel) rfl
theorem mi_X3_setUniform : Cond.instanceMethod yX3_setUniform ∈ BW := bw_t 223 (by decide +kernel) rfl
theorem ms_X3_setUniform : Cond.selects RX3 yX3_setUniform yX3_setUniform ∈ BW := bw_t 224 (by decide +kernel) rfl
theorem mc_X3_setUniform : Cond.code yX3_setUniform cX3_setUniform 3 (some .boolean) ∈ BW := bw_t 225 (by decide +kernel) rfl
theorem ml_RX3_74 : Cond.methodLink RX3 74 yX3_save ∈ BW := bw_t 226 (by decide +kernel) rfl
theorem mi_X3_save : Cond.instanceMethod yX3_save ∈ BW := bw_t 228 (by decide +kernel) rfl
theorem mc_X3_save : Cond.code yX3_save cX3_save 3 none ∈ BW := bw_t 229 (by decide +kernel) rfl
theorem mn_RX3_288 : Cond.methodLinkNest RX3 288 yX2_copyFrom RX3 ∈ NB := nb_t 230 (by decide +kernel) rfl
theorem mi_X2_copyFrom : Cond.instanceMethod yX2_copyFrom ∈ BW := bw_t 232 (by decide +kernel) rfl
theorem mc_X2_copyFrom : Cond.code yX2_copyFrom cX2_copyFrom 2 none ∈ BW := bw_t 233 (by decide +kernel) rfl
theorem mn_RX3_115 : Cond.methodLinkNest RX3 115 yX2_forgetDerived RX3 ∈ NB := nb_t 237 (by decide +kernel) rfl
theorem mi_X2_forgetDerived : Cond.instanceMethod yX2_forgetDerived ∈ BW := bw_t 239 (by decide +kernel) rfl
theorem mc_X2_forgetDerived : Cond.code yX2_forgetDerived cX2_forgetDerived 3 (some .int) ∈ BW := bw_t 240 (by decide +kernel) rfl
theorem ml_RL_112 : Cond.methodLink RL 112 yX3_derive ∈ BW := bw_t 241 (by decide +kernel) rfl
theorem mi_X3_derive : Cond.instanceMethod yX3_derive ∈ BW := bw_t 242 (by decide +kernel) rfl
theorem ms_X3_derive : Cond.selects RX3 yX3_derive yX3_derive ∈ BW := bw_t 243 (by decide +kernel) rfl
theorem mc_X3_derive : Cond.code yX3_derive cX3_derive 1 (some .int) ∈ BW := bw_t 244 (by decide +kernel) rfl
theorem ml_RX3_119 : Cond.methodLink RX3 119 yX3_deriveAll ∈ BW := bw_t 245 (by decide +kernel) rfl
theorem mi_X3_deriveAll : Cond.instanceMethod yX3_deriveAll ∈ BW := bw_t 247 (by decide +kernel) rfl
theorem mc_X3_deriveAll : Cond.code yX3_deriveAll cX3_deriveAll 4 (some .int) ∈ BW := bw_t 248 (by decide +kernel) rfl
theorem mn_RX3_141 : Cond.methodLinkNest RX3 141 yX2_countKind RX3 ∈ NB := nb_t 249 (by decide +kernel) rfl
theorem mi_X2_countKind : Cond.instanceMethod yX2_countKind ∈ BW := bw_t 251 (by decide +kernel) rfl
theorem mc_X2_countKind : Cond.code yX2_countKind cX2_countKind 5 (some .int) ∈ BW := bw_t 252 (by decide +kernel) rfl
theorem ml_RX3_348 : Cond.methodLink RX3 348 yX3_deriveOnce ∈ BW := bw_t 253 (by decide +kernel) rfl
theorem mi_X3_deriveOnce : Cond.instanceMethod yX3_deriveOnce ∈ BW := bw_t 255 (by decide +kernel) rfl
theorem mc_X3_deriveOnce : Cond.code yX3_deriveOnce cX3_deriveOnce 4 (some .boolean) ∈ BW := bw_t 256 (by decide +kernel) rfl
theorem mn_RX3_184 : Cond.methodLinkNest RX3 184 yX0_unknownIn RX3 ∈ NB := nb_t 257 (by decide +kernel) rfl
theorem mi_X0_unknownIn : Cond.instanceMethod yX0_unknownIn ∈ BW := bw_t 259 (by decide +kernel) rfl
theorem mc_X0_unknownIn : Cond.code yX0_unknownIn cX0_unknownIn 6 (some .int) ∈ BW := bw_t 260 (by decide +kernel) rfl
theorem ml_RX3_352 : Cond.methodLink RX3 352 yX3_deriveFrom ∈ BW := bw_t 261 (by decide +kernel) rfl
theorem mi_X3_deriveFrom : Cond.instanceMethod yX3_deriveFrom ∈ BW := bw_t 263 (by decide +kernel) rfl
theorem mc_X3_deriveFrom : Cond.code yX3_deriveFrom cX3_deriveFrom 7 (some .boolean) ∈ BW := bw_t 264 (by decide +kernel) rfl
theorem mn_RX3_355 : Cond.methodLinkNest RX3 355 yX0_firstUnknownIn RX3 ∈ NB := nb_t 265 (by decide +kernel) rfl
theorem mi_X0_firstUnknownIn : Cond.instanceMethod yX0_firstUnknownIn ∈ BW := bw_t 267 (by decide +kernel) rfl
theorem mc_X0_firstUnknownIn : Cond.code yX0_firstUnknownIn cX0_firstUnknownIn 4 (some .int) ∈ BW := bw_t 268 (by decide +kernel) rfl
theorem ml_RX0_74 : Cond.methodLink RX0 74 yX0_factor ∈ BW := bw_t 269 (by decide +kernel) rfl
theorem mi_X0_factor : Cond.instanceMethod yX0_factor ∈ BW := bw_t 271 (by decide +kernel) rfl
theorem mc_X0_factor : Cond.code yX0_factor cX0_factor 3 (some .int) ∈ BW := bw_t 272 (by decide +kernel) rfl
theorem mn_RX3_188 : Cond.methodLinkNest RX3 188 yX0_verdict RX3 ∈ NB := nb_t 273 (by decide +kernel) rfl
theorem mi_X0_verdict : Cond.instanceMethod yX0_verdict ∈ BW := bw_t 275 (by decide +kernel) rfl
theorem mc_X0_verdict : Cond.code yX0_verdict cX0_verdict 7 (some .int) ∈ BW := bw_t 276 (by decide +kernel) rfl
theorem ml_RX0_77 : Cond.methodLink RX0 77 yX0_unknownIn ∈ BW := bw_t 277 (by decide +kernel) rfl
theorem ml_RX3_191 : Cond.methodLink RX3 191 yX3_reasonsOf ∈ BW := bw_t 278 (by decide +kernel) rfl
theorem mi_X3_reasonsOf : Cond.instanceMethod yX3_reasonsOf ∈ BW := bw_t 280 (by decide +kernel) rfl
theorem mc_X3_reasonsOf : Cond.code yX3_reasonsOf cX3_reasonsOf 5 (some .long) ∈ BW := bw_t 281 (by decide +kernel) rfl
theorem mn_RX3_362 : Cond.methodLinkNest RX3 362 yX0_factor RX3 ∈ NB := nb_t 282 (by decide +kernel) rfl
theorem mn_RX3_358 : Cond.methodLinkNest RX3 358 yX2_setDerived RX3 ∈ NB := nb_t 283 (by decide +kernel) rfl
theorem mi_X2_setDerived : Cond.instanceMethod yX2_setDerived ∈ BW := bw_t 285 (by decide +kernel) rfl
theorem mc_X2_setDerived : Cond.code yX2_setDerived cX2_setDerived 7 none ∈ BW := bw_t 286 (by decide +kernel) rfl
theorem ml_RL_116 : Cond.methodLink RL 116 yX3_forget ∈ BW := bw_t 287 (by decide +kernel) rfl
theorem mi_X3_forget : Cond.instanceMethod yX3_forget ∈ BW := bw_t 288 (by decide +kernel) rfl
theorem ms_X3_forget : Cond.selects RX3 yX3_forget yX3_forget ∈ BW := bw_t 289 (by decide +kernel) rfl
theorem mc_X3_forget : Cond.code yX3_forget cX3_forget 1 (some .int) ∈ BW := bw_t 290 (by decide +kernel) rfl
theorem ml_RL_120 : Cond.methodLink RL 120 yX3_mirror ∈ BW := bw_t 291 (by decide +kernel) rfl
theorem mi_X3_mirror : Cond.instanceMethod yX3_mirror ∈ BW := bw_t 292 (by decide +kernel) rfl
theorem ms_X3_mirror : Cond.selects RX3 yX3_mirror yX3_mirror ∈ BW := bw_t 293 (by decide +kernel) rfl
theorem mc_X3_mirror : Cond.code yX3_mirror cX3_mirror 1 (some .int) ∈ BW := bw_t 294 (by decide +kernel) rfl
theorem ml_RX3_122 : Cond.methodLink RX3 122 yX3_negateAll ∈ BW := bw_t 295 (by decide +kernel) rfl
theorem mi_X3_negateAll : Cond.instanceMethod yX3_negateAll ∈ BW := bw_t 297 (by decide +kernel) rfl
theorem mc_X3_negateAll : Cond.code yX3_negateAll cX3_negateAll 3 (some .int) ∈ BW := bw_t 298 (by decide +kernel) rfl
theorem ml_RL_168 : Cond.methodLink RL 168 yX3_read ∈ BW := bw_t 299 (by decide +kernel) rfl
theorem mi_X3_read : Cond.instanceMethod yX3_read ∈ BW := bw_t 300 (by decide +kernel) rfl
theorem ms_X3_read : Cond.selects RX3 yX3_read yX3_read ∈ BW := bw_t 301 (by decide +kernel) rfl
theorem mc_X3_read : Cond.code yX3_read cX3_read 4 (some .int) ∈ BW := bw_t 302 (by decide +kernel) rfl
theorem mn_RX3_222 : Cond.methodLinkNest RX3 222 yX0_signAt RX3 ∈ NB := nb_t 303 (by decide +kernel) rfl
theorem mi_X0_signAt : Cond.instanceMethod yX0_signAt ∈ BW := bw_t 305 (by decide +kernel) rfl
theorem mc_X0_signAt : Cond.code yX0_signAt cX0_signAt 8 (some .int) ∈ BW := bw_t 306 (by decide +kernel) rfl
theorem ml_RX0_70 : Cond.methodLink RX0 70 yX0_corner ∈ BW := bw_t 307 (by decide +kernel) rfl
theorem mi_X0_corner : Cond.instanceMethod yX0_corner ∈ BW := bw_t 309 (by decide +kernel) rfl
theorem mc_X0_corner : Cond.code yX0_corner cX0_corner 3 (some .int) ∈ BW := bw_t 310 (by decide +kernel) rfl
theorem ml_RX0_84 : Cond.methodLink RX0 84 yJ6_compare_7cf53 ∈ BW := bw_t 311 (by decide +kernel) rfl
theorem mt_J6_compare_7cf53 : Cond.static yJ6_compare_7cf53 ∈ BW := bw_t 312 (by decide +kernel) rfl
theorem mc_J6_compare_7cf53 : Cond.code yJ6_compare_7cf53 cJ6_compare_7cf53 2 (some .int) ∈ BW := bw_t 313 (by decide +kernel) rfl
theorem ml_RX3_226 : Cond.methodLink RX3 226 yX3_giveTriple ∈ BW := bw_t 314 (by decide +kernel) rfl
theorem mi_X3_giveTriple : Cond.instanceMethod yX3_giveTriple ∈ BW := bw_t 316 (by decide +kernel) rfl
theorem mc_X3_giveTriple : Cond.code yX3_giveTriple cX3_giveTriple 3 none ∈ BW := bw_t 317 (by decide +kernel) rfl
theorem mn_RX3_339 : Cond.methodLinkNest RX3 339 yX2_setGiven RX3 ∈ NB := nb_t 318 (by decide +kernel) rfl
theorem mi_X2_setGiven : Cond.instanceMethod yX2_setGiven ∈ BW := bw_t 320 (by decide +kernel) rfl
theorem mc_X2_setGiven : Cond.code yX2_setGiven cX2_setGiven 3 none ∈ BW := bw_t 321 (by decide +kernel) rfl
theorem ml_RL_172 : Cond.methodLink RL 172 yX3_mismatches ∈ BW := bw_t 322 (by decide +kernel) rfl
theorem mi_X3_mismatches : Cond.instanceMethod yX3_mismatches ∈ BW := bw_t 323 (by decide +kernel) rfl
theorem ms_X3_mismatches : Cond.selects RX3 yX3_mismatches yX3_mismatches ∈ BW := bw_t 324 (by decide +kernel) rfl
theorem mc_X3_mismatches : Cond.code yX3_mismatches cX3_mismatches 1 (some .int) ∈ BW := bw_t 325 (by decide +kernel) rfl
theorem ml_RX3_229 : Cond.methodLink RX3 229 yX3_mismatchesAt ∈ BW := bw_t 326 (by decide +kernel) rfl
theorem mi_X3_mismatchesAt : Cond.instanceMethod yX3_mismatchesAt ∈ BW := bw_t 328 (by decide +kernel) rfl
theorem mc_X3_mismatchesAt : Cond.code yX3_mismatchesAt cX3_mismatchesAt 6 (some .int) ∈ BW := bw_t 329 (by decide +kernel) rfl
theorem ml_RL_182 : Cond.methodLink RL 182 yX3_clearScript ∈ BW := bw_t 330 (by decide +kernel) rfl
theorem mi_X3_clearScript : Cond.instanceMethod yX3_clearScript ∈ BW := bw_t 331 (by decide +kernel) rfl
theorem ms_X3_clearScript : Cond.selects RX3 yX3_clearScript yX3_clearScript ∈ BW := bw_t 332 (by decide +kernel) rfl
theorem mc_X3_clearScript : Cond.code yX3_clearScript cX3_clearScript 2 (some .int) ∈ BW := bw_t 333 (by decide +kernel) rfl
theorem ml_RL_186 : Cond.methodLink RL 186 yX3_run ∈ BW := bw_t 334 (by decide +kernel) rfl
theorem mi_X3_run : Cond.instanceMethod yX3_run ∈ BW := bw_t 335 (by decide +kernel) rfl
theorem ms_X3_run : Cond.selects RX3 yX3_run yX3_run ∈ BW := bw_t 336 (by decide +kernel) rfl
theorem mc_X3_run : Cond.code yX3_run cX3_run 3 (some .int) ∈ BW := bw_t 337 (by decide +kernel) rfl
theorem mn_RX3_258 : Cond.methodLinkNest RX3 258 yX1_parse RX3 ∈ NB := nb_t 338 (by decide +kernel) rfl
theorem mi_X1_parse : Cond.instanceMethod yX1_parse ∈ BW := bw_t 340 (by decide +kernel) rfl
theorem mc_X1_parse : Cond.code yX1_parse cX1_parse 3 (some .int) ∈ BW := bw_t 341 (by decide +kernel) rfl
theorem ml_RX1_28 : Cond.methodLink RX1 28 yX1_behindSpaces ∈ BW := bw_t 342 (by decide +kernel) rfl
theorem mi_X1_behindSpaces : Cond.instanceMethod yX1_behindSpaces ∈ BW := bw_t 344 (by decide +kernel) rfl
theorem mc_X1_behindSpaces : Cond.code yX1_behindSpaces cX1_behindSpaces 3 (some .int) ∈ BW := bw_t 345 (by decide +kernel) rfl
theorem ml_RX1_32 : Cond.methodLink RX1 32 yX1_behindCommand ∈ BW := bw_t 346 (by decide +kernel) rfl
theorem mi_X1_behindCommand : Cond.instanceMethod yX1_behindCommand ∈ BW := bw_t 348 (by decide +kernel) rfl
theorem mc_X1_behindCommand : Cond.code yX1_behindCommand cX1_behindCommand 4 (some .int) ∈ BW := bw_t 349 (by decide +kernel) rfl
theorem ml_RX1_38 : Cond.methodLink RX1 38 yX1_behindLetters ∈ BW := bw_t 350 (by decide +kernel) rfl
theorem mi_X1_behindLetters : Cond.instanceMethod yX1_behindLetters ∈ BW := bw_t 352 (by decide +kernel) rfl
theorem mc_X1_behindLetters : Cond.code yX1_behindLetters cX1_behindLetters 3 (some .int) ∈ BW := bw_t 353 (by decide +kernel) rfl
theorem ml_RX1_41 : Cond.methodLink RX1 41 yX1_wordBetween ∈ BW := bw_t 354 (by decide +kernel) rfl
theorem mi_X1_wordBetween : Cond.instanceMethod yX1_wordBetween ∈ BW := bw_t 356 (by decide +kernel) rfl
theorem mc_X1_wordBetween : Cond.code yX1_wordBetween cX1_wordBetween 4 (some .int) ∈ BW := bw_t 357 (by decide +kernel) rfl
theorem ml_RX1_55 : Cond.methodLink RX1 55 yX1_spelling ∈ BW := bw_t 358 (by decide +kernel) rfl
theorem mt_X1_spelling : Cond.static yX1_spelling ∈ BW := bw_t 359 (by decide +kernel) rfl
theorem mc_X1_spelling : Cond.code yX1_spelling cX1_spelling 1 (some (.object "java/lang/String")) ∈ BW := bw_t 360 (by decide +kernel) rfl
theorem ml_RX1_59 : Cond.methodLink RX1 59 yX1_isSpelled ∈ BW := bw_t 367 (by decide +kernel) rfl
theorem mi_X1_isSpelled : Cond.instanceMethod yX1_isSpelled ∈ BW := bw_t 369 (by decide +kernel) rfl
theorem mc_X1_isSpelled : Cond.code yX1_isSpelled cX1_isSpelled 5 (some .boolean) ∈ BW := bw_t 370 (by decide +kernel) rfl
theorem ml_RX1_63 : Cond.methodLink RX1 63 yJ0_length_8abf5 ∈ BW := bw_t 371 (by decide +kernel) rfl
theorem mi_J0_length_8abf5 : Cond.instanceMethod yJ0_length_8abf5 ∈ BW := bw_t 372 (by decide +kernel) rfl
theorem ms_J0_length_8abf5 : Cond.selects RJ0 yJ0_length_8abf5 yJ0_length_8abf5 ∈ BW := bw_t 373 (by decide +kernel) rfl
theorem mc_J0_length_8abf5 : Cond.code yJ0_length_8abf5 cJ0_length_8abf5 1 (some .int) ∈ BW := bw_t 374 (by decide +kernel) rfl
theorem ml_RJ0_335 : Cond.methodLink RJ0 335 yJ0_coder_7d493 ∈ BW := bw_t 375 (by decide +kernel) rfl
theorem mi_J0_coder_7d493 : Cond.instanceMethod yJ0_coder_7d493 ∈ BW := bw_t 376 (by decide +kernel) rfl
theorem ms_J0_coder_7d493 : Cond.selects RJ0 yJ0_coder_7d493 yJ0_coder_7d493 ∈ BW := bw_t 377 (by decide +kernel) rfl
theorem mc_J0_coder_7d493 : Cond.code yJ0_coder_7d493 cJ0_coder_7d493 1 (some .byte) ∈ BW := bw_t 378 (by decide +kernel) rfl
theorem fl_RJ0_38 : Cond.fieldLink RJ0 38 "java/lang/String" "COMPACT_STRINGS" "Z" ∈ BW := bw_t 379 (by decide +kernel) rfl
theorem ml_RX1_68 : Cond.methodLink RX1 68 yJ0_charAt_5068e ∈ BW := bw_t 381 (by decide +kernel) rfl
theorem mi_J0_charAt_5068e : Cond.instanceMethod yJ0_charAt_5068e ∈ BW := bw_t 382 (by decide +kernel) rfl
theorem ms_J0_charAt_5068e : Cond.selects RJ0 yJ0_charAt_5068e yJ0_charAt_5068e ∈ BW := bw_t 383 (by decide +kernel) rfl
theorem mc_J0_charAt_5068e : Cond.code yJ0_charAt_5068e cJ0_charAt_5068e 2 (some .char) ∈ BW := bw_t 384 (by decide +kernel) rfl
theorem ml_RJ0_492 : Cond.methodLink RJ0 492 yJ0_isLatin1_aae02 ∈ BW := bw_t 385 (by decide +kernel) rfl
theorem mi_J0_isLatin1_aae02 : Cond.instanceMethod yJ0_isLatin1_aae02 ∈ BW := bw_t 386 (by decide +kernel) rfl
theorem ms_J0_isLatin1_aae02 : Cond.selects RJ0 yJ0_isLatin1_aae02 yJ0_isLatin1_aae02 ∈ BW := bw_t 387 (by decide +kernel) rfl
theorem mc_J0_isLatin1_aae02 : Cond.code yJ0_isLatin1_aae02 cJ0_isLatin1_aae02 1 (some .boolean) ∈ BW := bw_t 388 (by decide +kernel) rfl
theorem ml_RJ0_495 : Cond.methodLink RJ0 495 yJ1_charAt_3b067 ∈ BW := bw_t 389 (by decide +kernel) rfl
theorem mt_J1_charAt_3b067 : Cond.static yJ1_charAt_3b067 ∈ BW := bw_t 390 (by decide +kernel) rfl
theorem mc_J1_charAt_3b067 : Cond.code yJ1_charAt_3b067 cJ1_charAt_3b067 2 (some .char) ∈ BW := bw_t 391 (by decide +kernel) rfl
theorem ml_RJ1_9 : Cond.methodLink RJ1 9 yJ0_checkIndex_df160 ∈ BW := bw_t 392 (by decide +kernel) rfl
theorem mt_J0_checkIndex_df160 : Cond.static yJ0_checkIndex_df160 ∈ BW := bw_t 393 (by decide +kernel) rfl
theorem mc_J0_checkIndex_df160 : Cond.code yJ0_checkIndex_df160 cJ0_checkIndex_df160 2 none ∈ BW := bw_t 394 (by decide +kernel) rfl
theorem fl_RJ0_1053 : Cond.fieldLink RJ0 1053 "jdk/internal/util/Preconditions" "SIOOBE_FORMATTER" "Ljava/util/function/BiFunction;" ∈ BW := bw_t 395 (by decide +kernel) rfl
theorem ml_RJ0_1059 : Cond.methodLink RJ0 1059 yJ3_checkIndex_8e157 ∈ BW := bw_t 397 (by decide +kernel) rfl
theorem mt_J3_checkIndex_8e157 : Cond.static yJ3_checkIndex_8e157 ∈ BW := bw_t 398 (by decide +kernel) rfl
theorem mc_J3_checkIndex_8e157 : Cond.code yJ3_checkIndex_8e157 cJ3_checkIndex_8e157 3 (some .int) ∈ BW := bw_t 399 (by decide +kernel) rfl
theorem ml_RJ0_498 : Cond.methodLink RJ0 498 yJ2_charAt_3b067 ∈ BW := bw_t 400 (by decide +kernel) rfl
theorem mt_J2_charAt_3b067 : Cond.static yJ2_charAt_3b067 ∈ BW := bw_t 401 (by decide +kernel) rfl
theorem mc_J2_charAt_3b067 : Cond.code yJ2_charAt_3b067 cJ2_charAt_3b067 2 (some .char) ∈ BW := bw_t 402 (by decide +kernel) rfl
theorem ml_RJ2_67 : Cond.methodLink RJ2 67 yJ2_checkIndex_2214a ∈ BW := bw_t 403 (by decide +kernel) rfl
theorem mt_J2_checkIndex_2214a : Cond.static yJ2_checkIndex_2214a ∈ BW := bw_t 404 (by decide +kernel) rfl
theorem mc_J2_checkIndex_2214a : Cond.code yJ2_checkIndex_2214a cJ2_checkIndex_2214a 2 none ∈ BW := bw_t 405 (by decide +kernel) rfl
theorem ml_RJ2_48 : Cond.methodLink RJ2 48 yJ2_length_9d52b ∈ BW := bw_t 406 (by decide +kernel) rfl
theorem mt_J2_length_9d52b : Cond.static yJ2_length_9d52b ∈ BW := bw_t 407 (by decide +kernel) rfl
theorem mc_J2_length_9d52b : Cond.code yJ2_length_9d52b cJ2_length_9d52b 1 (some .int) ∈ BW := bw_t 408 (by decide +kernel) rfl
theorem ml_RJ2_414 : Cond.methodLink RJ2 414 yJ0_checkIndex_df160 ∈ BW := bw_t 409 (by decide +kernel) rfl
theorem ml_RJ2_71 : Cond.methodLink RJ2 71 yJ2_getChar_3b067 ∈ BW := bw_t 410 (by decide +kernel) rfl
theorem mt_J2_getChar_3b067 : Cond.static yJ2_getChar_3b067 ∈ BW := bw_t 411 (by decide +kernel) rfl
theorem mc_J2_getChar_3b067 : Cond.code yJ2_getChar_3b067 cJ2_getChar_3b067 2 (some .char) ∈ BW := bw_t 412 (by decide +kernel) rfl
theorem fl_RJ2_44 : Cond.fieldLink RJ2 44 "java/lang/StringUTF16" "$assertionsDisabled" "Z" ∈ BW := bw_t 413 (by decide +kernel) rfl
theorem fl_RJ2_59 : Cond.fieldLink RJ2 59 "java/lang/StringUTF16" "HI_BYTE_SHIFT" "I" ∈ BW := bw_t 415 (by decide +kernel) rfl
theorem fl_RJ2_63 : Cond.fieldLink RJ2 63 "java/lang/StringUTF16" "LO_BYTE_SHIFT" "I" ∈ BW := bw_t 417 (by decide +kernel) rfl
theorem ml_RX1_45 : Cond.methodLink RX1 45 yX1_tellFault ∈ BW := bw_t 419 (by decide +kernel) rfl
theorem mt_X1_tellFault : Cond.static yX1_tellFault ∈ BW := bw_t 420 (by decide +kernel) rfl
theorem mc_X1_tellFault : Cond.code yX1_tellFault cX1_tellFault 1 (some .int) ∈ BW := bw_t 421 (by decide +kernel) rfl
theorem ml_RX1_48 : Cond.methodLink RX1 48 yX1_hasNames ∈ BW := bw_t 422 (by decide +kernel) rfl
theorem mt_X1_hasNames : Cond.static yX1_hasNames ∈ BW := bw_t 423 (by decide +kernel) rfl
theorem mc_X1_hasNames : Cond.code yX1_hasNames cX1_hasNames 1 (some .boolean) ∈ BW := bw_t 424 (by decide +kernel) rfl
theorem ml_RX1_52 : Cond.methodLink RX1 52 yX1_behindNames ∈ BW := bw_t 425 (by decide +kernel) rfl
theorem mi_X1_behindNames : Cond.instanceMethod yX1_behindNames ∈ BW := bw_t 427 (by decide +kernel) rfl
theorem mc_X1_behindNames : Cond.code yX1_behindNames cX1_behindNames 4 (some .int) ∈ BW := bw_t 428 (by decide +kernel) rfl
theorem ml_RX1_35 : Cond.methodLink RX1 35 yX1_faultIn ∈ BW := bw_t 429 (by decide +kernel) rfl
theorem mt_X1_faultIn : Cond.static yX1_faultIn ∈ BW := bw_t 430 (by decide +kernel) rfl
theorem mc_X1_faultIn : Cond.code yX1_faultIn cX1_faultIn 1 (some .int) ∈ BW := bw_t 431 (by decide +kernel) rfl
theorem ml_RX3_264 : Cond.methodLink RX3 264 yX3_carryOut ∈ BW := bw_t 432 (by decide +kernel) rfl
theorem mi_X3_carryOut : Cond.instanceMethod yX3_carryOut ∈ BW := bw_t 434 (by decide +kernel) rfl
theorem mc_X3_carryOut : Cond.code yX3_carryOut cX3_carryOut 7 (some .boolean) ∈ BW := bw_t 435 (by decide +kernel) rfl
theorem mn_RX3_396 : Cond.methodLinkNest RX3 396 yX1_name RX3 ∈ NB := nb_t 436 (by decide +kernel) rfl
theorem mi_X1_name : Cond.instanceMethod yX1_name ∈ BW := bw_t 438 (by decide +kernel) rfl
theorem mc_X1_name : Cond.code yX1_name cX1_name 3 (some .int) ∈ BW := bw_t 439 (by decide +kernel) rfl
theorem ml_RX3_318 : Cond.methodLink RX3 318 yX3_isPoint ∈ BW := bw_t 440 (by decide +kernel) rfl
theorem mi_X3_isPoint : Cond.instanceMethod yX3_isPoint ∈ BW := bw_t 442 (by decide +kernel) rfl
theorem mc_X3_isPoint : Cond.code yX3_isPoint cX3_isPoint 2 (some .boolean) ∈ BW := bw_t 443 (by decide +kernel) rfl
theorem ml_RX3_330 : Cond.methodLink RX3 330 yX3_areDistinct ∈ BW := bw_t 444 (by decide +kernel) rfl
theorem mt_X3_areDistinct : Cond.static yX3_areDistinct ∈ BW := bw_t 445 (by decide +kernel) rfl
theorem mc_X3_areDistinct : Cond.code yX3_areDistinct cX3_areDistinct 3 (some .boolean) ∈ BW := bw_t 446 (by decide +kernel) rfl
theorem mn_RX3_399 : Cond.methodLinkNest RX3 399 yX1_signOf RX3 ∈ NB := nb_t 447 (by decide +kernel) rfl
theorem mt_X1_signOf : Cond.static yX1_signOf ∈ BW := bw_t 448 (by decide +kernel) rfl
theorem mc_X1_signOf : Cond.code yX1_signOf cX1_signOf 1 (some .int) ∈ BW := bw_t 449 (by decide +kernel) rfl
theorem ml_RX3_93 : Cond.methodLink RX3 93 yX3_giveOrdered ∈ BW := bw_t 450 (by decide +kernel) rfl
theorem mi_X3_giveOrdered : Cond.instanceMethod yX3_giveOrdered ∈ BW := bw_t 452 (by decide +kernel) rfl
theorem mc_X3_giveOrdered : Cond.code yX3_giveOrdered cX3_giveOrdered 5 none ∈ BW := bw_t 453 (by decide +kernel) rfl
theorem mn_RX3_97 : Cond.methodLinkNest RX3 97 yX0_numberOf RX3 ∈ NB := nb_t 454 (by decide +kernel) rfl
theorem mi_X0_numberOf : Cond.instanceMethod yX0_numberOf ∈ BW := bw_t 456 (by decide +kernel) rfl
theorem mc_X0_numberOf : Cond.code yX0_numberOf cX0_numberOf 4 (some .int) ∈ BW := bw_t 457 (by decide +kernel) rfl
theorem mn_RX3_336 : Cond.methodLinkNest RX3 336 yX0_parity RX3 ∈ NB := nb_t 458 (by decide +kernel) rfl
theorem mi_X0_parity : Cond.instanceMethod yX0_parity ∈ BW := bw_t 460 (by decide +kernel) rfl
theorem mc_X0_parity : Cond.code yX0_parity cX0_parity 4 (some .int) ∈ BW := bw_t 461 (by decide +kernel) rfl
theorem ml_RX3_108 : Cond.methodLink RX3 108 yX3_takeAway ∈ BW := bw_t 462 (by decide +kernel) rfl
theorem mi_X3_takeAway : Cond.instanceMethod yX3_takeAway ∈ BW := bw_t 464 (by decide +kernel) rfl
theorem mc_X3_takeAway : Cond.code yX3_takeAway cX3_takeAway 2 none ∈ BW := bw_t 465 (by decide +kernel) rfl
theorem mn_RX3_342 : Cond.methodLinkNest RX3 342 yX2_setUnknown RX3 ∈ NB := nb_t 466 (by decide +kernel) rfl
theorem ml_RL_196 : Cond.methodLink RL 196 yX3_digest ∈ BW := bw_t 468 (by decide +kernel) rfl
theorem mi_X3_digest : Cond.instanceMethod yX3_digest ∈ BW := bw_t 469 (by decide +kernel) rfl
theorem ms_X3_digest : Cond.selects RX3 yX3_digest yX3_digest ∈ BW := bw_t 470 (by decide +kernel) rfl
theorem mc_X3_digest : Cond.code yX3_digest cX3_digest 5 (some .long) ∈ BW := bw_t 471 (by decide +kernel) rfl
theorem ct_RX3_293 : Cond.constantLong RX3 293 18398 ∈ BW := bw_t 472 (by decide +kernel) rfl
theorem ct_RX3_295 : Cond.constantLong RX3 295 31 ∈ BW := bw_t 473 (by decide +kernel) rfl
theorem ml_RX3_297 : Cond.methodLink RX3 297 yX3_count ∈ BW := bw_t 474 (by decide +kernel) rfl
theorem mi_X3_count : Cond.instanceMethod yX3_count ∈ BW := bw_t 475 (by decide +kernel) rfl
theorem ms_X3_count : Cond.selects RX3 yX3_count yX3_count ∈ BW := bw_t 476 (by decide +kernel) rfl
theorem mc_X3_count : Cond.code yX3_count cX3_count 2 (some .int) ∈ BW := bw_t 477 (by decide +kernel) rfl
theorem ml_RX3_169 : Cond.methodLink RX3 169 yX3_countComplete ∈ BW := bw_t 478 (by decide +kernel) rfl
theorem mi_X3_countComplete : Cond.instanceMethod yX3_countComplete ∈ BW := bw_t 480 (by decide +kernel) rfl
theorem mc_X3_countComplete : Cond.code yX3_countComplete cX3_countComplete 3 (some .int) ∈ BW := bw_t 481 (by decide +kernel) rfl
theorem ml_RX3_172 : Cond.methodLink RX3 172 yX3_countViolated ∈ BW := bw_t 482 (by decide +kernel) rfl
theorem mi_X3_countViolated : Cond.instanceMethod yX3_countViolated ∈ BW := bw_t 484 (by decide +kernel) rfl
theorem mc_X3_countViolated : Cond.code yX3_countViolated cX3_countViolated 3 (some .int) ∈ BW := bw_t 485 (by decide +kernel) rfl
theorem cl_RX3_67 : Cond.classLink RX3 67 "java/lang/IllegalArgumentException" ∈ BW := bw_t 486 (by decide +kernel) rfl
theorem ml_RX3_300 : Cond.methodLink RX3 300 yX3_triple ∈ BW := bw_t 553 (by decide +kernel) rfl
theorem mi_X3_triple : Cond.instanceMethod yX3_triple ∈ BW := bw_t 554 (by decide +kernel) rfl
theorem ms_X3_triple : Cond.selects RX3 yX3_triple yX3_triple ∈ BW := bw_t 555 (by decide +kernel) rfl
theorem mc_X3_triple : Cond.code yX3_triple cX3_triple 3 (some .int) ∈ BW := bw_t 556 (by decide +kernel) rfl
theorem ml_RX3_145 : Cond.methodLink RX3 145 yX3_requireTriple ∈ BW := bw_t 557 (by decide +kernel) rfl
theorem mi_X3_requireTriple : Cond.instanceMethod yX3_requireTriple ∈ BW := bw_t 559 (by decide +kernel) rfl
theorem mc_X3_requireTriple : Cond.code yX3_requireTriple cX3_requireTriple 2 none ∈ BW := bw_t 560 (by decide +kernel) rfl
theorem cl_RX3_321 : Cond.classLink RX3 321 "java/lang/IndexOutOfBoundsException" ∈ BW := bw_t 561 (by decide +kernel) rfl
theorem mn_RX3_148 : Cond.methodLinkNest RX3 148 yX0_corner RX3 ∈ NB := nb_t 577 (by decide +kernel) rfl
theorem ml_RX3_303 : Cond.methodLink RX3 303 yX3_reasons ∈ BW := bw_t 578 (by decide +kernel) rfl
theorem mi_X3_reasons : Cond.instanceMethod yX3_reasons ∈ BW := bw_t 579 (by decide +kernel) rfl
theorem ms_X3_reasons : Cond.selects RX3 yX3_reasons yX3_reasons ∈ BW := bw_t 580 (by decide +kernel) rfl
theorem mc_X3_reasons : Cond.code yX3_reasons cX3_reasons 2 (some .long) ∈ BW := bw_t 581 (by decide +kernel) rfl
theorem ml_RX3_306 : Cond.methodLink RX3 306 yX3_relation ∈ BW := bw_t 582 (by decide +kernel) rfl
theorem mi_X3_relation : Cond.instanceMethod yX3_relation ∈ BW := bw_t 583 (by decide +kernel) rfl
theorem ms_X3_relation : Cond.selects RX3 yX3_relation yX3_relation ∈ BW := bw_t 584 (by decide +kernel) rfl
theorem mc_X3_relation : Cond.code yX3_relation cX3_relation 3 (some .int) ∈ BW := bw_t 585 (by decide +kernel) rfl
theorem ml_RX3_178 : Cond.methodLink RX3 178 yX3_requireRelation ∈ BW := bw_t 586 (by decide +kernel) rfl
theorem mi_X3_requireRelation : Cond.instanceMethod yX3_requireRelation ∈ BW := bw_t 588 (by decide +kernel) rfl
theorem mc_X3_requireRelation : Cond.code yX3_requireRelation cX3_requireRelation 2 none ∈ BW := bw_t 589 (by decide +kernel) rfl
theorem mn_RX3_181 : Cond.methodLinkNest RX3 181 yX0_member RX3 ∈ NB := nb_t 591 (by decide +kernel) rfl
theorem mi_X0_member : Cond.instanceMethod yX0_member ∈ BW := bw_t 593 (by decide +kernel) rfl
theorem mc_X0_member : Cond.code yX0_member cX0_member 3 (some .int) ∈ BW := bw_t 594 (by decide +kernel) rfl
theorem ml_RX3_309 : Cond.methodLink RX3 309 yX3_isExtreme ∈ BW := bw_t 595 (by decide +kernel) rfl
theorem mi_X3_isExtreme : Cond.instanceMethod yX3_isExtreme ∈ BW := bw_t 596 (by decide +kernel) rfl
theorem ms_X3_isExtreme : Cond.selects RX3 yX3_isExtreme yX3_isExtreme ∈ BW := bw_t 597 (by decide +kernel) rfl
theorem mc_X3_isExtreme : Cond.code yX3_isExtreme cX3_isExtreme 3 (some .boolean) ∈ BW := bw_t 598 (by decide +kernel) rfl
theorem ml_RX3_80 : Cond.methodLink RX3 80 yX3_requirePoint ∈ BW := bw_t 599 (by decide +kernel) rfl
theorem mi_X3_requirePoint : Cond.instanceMethod yX3_requirePoint ∈ BW := bw_t 601 (by decide +kernel) rfl
theorem mc_X3_requirePoint : Cond.code yX3_requirePoint cX3_requirePoint 2 none ∈ BW := bw_t 602 (by decide +kernel) rfl
theorem ml_RX3_203 : Cond.methodLink RX3 203 yX3_borders ∈ BW := bw_t 604 (by decide +kernel) rfl
theorem mi_X3_borders : Cond.instanceMethod yX3_borders ∈ BW := bw_t 606 (by decide +kernel) rfl
theorem mc_X3_borders : Cond.code yX3_borders cX3_borders 7 (some .boolean) ∈ BW := bw_t 607 (by decide +kernel) rfl
theorem ml_RX3_89 : Cond.methodLink RX3 89 yX3_orderedSign ∈ BW := bw_t 608 (by decide +kernel) rfl
theorem mi_X3_orderedSign : Cond.instanceMethod yX3_orderedSign ∈ BW := bw_t 610 (by decide +kernel) rfl
theorem mc_X3_orderedSign : Cond.code yX3_orderedSign cX3_orderedSign 6 (some .int) ∈ BW := bw_t 611 (by decide +kernel) rfl
theorem ml_RX3_312 : Cond.methodLink RX3 312 yX3_coordinate ∈ BW := bw_t 612 (by decide +kernel) rfl
theorem mi_X3_coordinate : Cond.instanceMethod yX3_coordinate ∈ BW := bw_t 613 (by decide +kernel) rfl
theorem ms_X3_coordinate : Cond.selects RX3 yX3_coordinate yX3_coordinate ∈ BW := bw_t 614 (by decide +kernel) rfl
theorem mc_X3_coordinate : Cond.code yX3_coordinate cX3_coordinate 3 (some .int) ∈ BW := bw_t 615 (by decide +kernel) rfl
theorem ml_RX3_315 : Cond.methodLink RX3 315 yX3_mismatches ∈ BW := bw_t 616 (by decide +kernel) rfl
theorem ml_RL_90 : Cond.methodLink RL 90 yL_begin ∈ BW := bw_t 617 (by decide +kernel) rfl
theorem mt_L_begin : Cond.static yL_begin ∈ BW := bw_t 618 (by decide +kernel) rfl
theorem mc_L_begin : Cond.codeWith yL_begin cL_begin 4 (some .int) [((0 : Nat), (9 : Nat), (12 : Nat), (13 : Nat))] ∈ BW := bw_t 619 (by decide +kernel) rfl
theorem cl_RL_13 : Cond.classLink RL 13 "java/lang/IllegalArgumentException" ∈ BW := bw_t 620 (by decide +kernel) rfl
theorem ml_RL_7 : Cond.methodLink RL 7 yX3_begin ∈ BW := bw_t 621 (by decide +kernel) rfl
theorem mi_X3_begin : Cond.instanceMethod yX3_begin ∈ BW := bw_t 622 (by decide +kernel) rfl
theorem ms_X3_begin : Cond.selects RX3 yX3_begin yX3_begin ∈ BW := bw_t 623 (by decide +kernel) rfl
theorem mc_X3_begin : Cond.code yX3_begin cX3_begin 2 (some .int) ∈ BW := bw_t 624 (by decide +kernel) rfl
theorem ml_RL_99 : Cond.methodLink RL 99 yL_give ∈ BW := bw_t 626 (by decide +kernel) rfl
theorem mt_L_give : Cond.static yL_give ∈ BW := bw_t 627 (by decide +kernel) rfl
theorem mc_L_give : Cond.codeWith yL_give cL_give 7 (some .int) [((0 : Nat), (14 : Nat), (17 : Nat), (19 : Nat)), ((0 : Nat), (14 : Nat), (21 : Nat), (13 : Nat))] ∈ BW := bw_t 628 (by decide +kernel) rfl
theorem cl_RL_19 : Cond.classLink RL 19 "java/lang/IndexOutOfBoundsException" ∈ BW := bw_t 629 (by decide +kernel) rfl
theorem ml_RL_15 : Cond.methodLink RL 15 yX3_give ∈ BW := bw_t 630 (by decide +kernel) rfl
theorem mi_X3_give : Cond.instanceMethod yX3_give ∈ BW := bw_t 631 (by decide +kernel) rfl
theorem ms_X3_give : Cond.selects RX3 yX3_give yX3_give ∈ BW := bw_t 632 (by decide +kernel) rfl
theorem mc_X3_give : Cond.code yX3_give cX3_give 6 (some .int) ∈ BW := bw_t 633 (by decide +kernel) rfl
theorem ml_RX3_83 : Cond.methodLink RX3 83 yX3_requireDistinct ∈ BW := bw_t 634 (by decide +kernel) rfl
theorem mt_X3_requireDistinct : Cond.static yX3_requireDistinct ∈ BW := bw_t 635 (by decide +kernel) rfl
theorem mc_X3_requireDistinct : Cond.code yX3_requireDistinct cX3_requireDistinct 3 none ∈ BW := bw_t 636 (by decide +kernel) rfl
theorem ml_RL_103 : Cond.methodLink RL 103 yL_drop ∈ BW := bw_t 639 (by decide +kernel) rfl
theorem mt_L_drop : Cond.static yL_drop ∈ BW := bw_t 640 (by decide +kernel) rfl
theorem mc_L_drop : Cond.codeWith yL_drop cL_drop 6 (some .int) [((0 : Nat), (12 : Nat), (15 : Nat), (19 : Nat)), ((0 : Nat), (12 : Nat), (19 : Nat), (13 : Nat)), ((0 : Nat), (12 : Nat), (23 : Nat), (25 : Nat))] ∈ BW := bw_t 641 (by decide +kernel) rfl
theorem cl_RL_25 : Cond.classLink RL 25 "java/lang/IllegalStateException" ∈ BW := bw_t 642 (by decide +kernel) rfl
theorem ml_RL_21 : Cond.methodLink RL 21 yX3_drop ∈ BW := bw_t 643 (by decide +kernel) rfl
theorem mi_X3_drop : Cond.instanceMethod yX3_drop ∈ BW := bw_t 644 (by decide +kernel) rfl
theorem ms_X3_drop : Cond.selects RX3 yX3_drop yX3_drop ∈ BW := bw_t 645 (by decide +kernel) rfl
theorem mc_X3_drop : Cond.code yX3_drop cX3_drop 6 (some .int) ∈ BW := bw_t 646 (by decide +kernel) rfl
theorem cl_RX3_103 : Cond.classLink RX3 103 "java/lang/IllegalStateException" ∈ BW := bw_t 647 (by decide +kernel) rfl
theorem ml_RL_124 : Cond.methodLink RL 124 yL_turn ∈ BW := bw_t 663 (by decide +kernel) rfl
theorem mt_L_turn : Cond.static yL_turn ∈ BW := bw_t 664 (by decide +kernel) rfl
theorem mc_L_turn : Cond.codeWith yL_turn cL_turn 4 (some .int) [((0 : Nat), (9 : Nat), (12 : Nat), (19 : Nat))] ∈ BW := bw_t 665 (by decide +kernel) rfl
theorem ml_RL_27 : Cond.methodLink RL 27 yX3_turn ∈ BW := bw_t 666 (by decide +kernel) rfl
theorem mi_X3_turn : Cond.instanceMethod yX3_turn ∈ BW := bw_t 667 (by decide +kernel) rfl
theorem ms_X3_turn : Cond.selects RX3 yX3_turn yX3_turn ∈ BW := bw_t 668 (by decide +kernel) rfl
theorem mc_X3_turn : Cond.code yX3_turn cX3_turn 4 (some .int) ∈ BW := bw_t 669 (by decide +kernel) rfl
theorem mn_RX3_125 : Cond.methodLinkNest RX3 125 yX0_hasCorner RX3 ∈ NB := nb_t 670 (by decide +kernel) rfl
theorem mi_X0_hasCorner : Cond.instanceMethod yX0_hasCorner ∈ BW := bw_t 672 (by decide +kernel) rfl
theorem mc_X0_hasCorner : Cond.code yX0_hasCorner cX0_hasCorner 3 (some .boolean) ∈ BW := bw_t 673 (by decide +kernel) rfl
theorem ml_RL_127 : Cond.methodLink RL 127 yL_exchange ∈ BW := bw_t 674 (by decide +kernel) rfl
theorem mt_L_exchange : Cond.static yL_exchange ∈ BW := bw_t 675 (by decide +kernel) rfl
theorem mc_L_exchange : Cond.codeWith yL_exchange cL_exchange 5 (some .int) [((0 : Nat), (10 : Nat), (13 : Nat), (19 : Nat)), ((0 : Nat), (10 : Nat), (17 : Nat), (13 : Nat))] ∈ BW := bw_t 676 (by decide +kernel) rfl
theorem ml_RL_30 : Cond.methodLink RL 30 yX3_exchange ∈ BW := bw_t 677 (by decide +kernel) rfl
theorem mi_X3_exchange : Cond.instanceMethod yX3_exchange ∈ BW := bw_t 678 (by decide +kernel) rfl
theorem ms_X3_exchange : Cond.selects RX3 yX3_exchange yX3_exchange ∈ BW := bw_t 679 (by decide +kernel) rfl
theorem mc_X3_exchange : Cond.code yX3_exchange cX3_exchange 3 (some .int) ∈ BW := bw_t 680 (by decide +kernel) rfl
theorem ml_RX3_134 : Cond.methodLink RX3 134 yX3_exchangeSigns ∈ BW := bw_t 682 (by decide +kernel) rfl
theorem mi_X3_exchangeSigns : Cond.instanceMethod yX3_exchangeSigns ∈ BW := bw_t 684 (by decide +kernel) rfl
theorem mc_X3_exchangeSigns : Cond.code yX3_exchangeSigns cX3_exchangeSigns 7 none ∈ BW := bw_t 685 (by decide +kernel) rfl
theorem ml_RX3_345 : Cond.methodLink RX3 345 yX3_partner ∈ BW := bw_t 686 (by decide +kernel) rfl
theorem mt_X3_partner : Cond.static yX3_partner ∈ BW := bw_t 687 (by decide +kernel) rfl
theorem mc_X3_partner : Cond.code yX3_partner cX3_partner 3 (some .int) ∈ BW := bw_t 688 (by decide +kernel) rfl
theorem ml_RX3_138 : Cond.methodLink RX3 138 yX3_exchangeCoordinates ∈ BW := bw_t 689 (by decide +kernel) rfl
theorem mi_X3_exchangeCoordinates : Cond.instanceMethod yX3_exchangeCoordinates ∈ BW := bw_t 691 (by decide +kernel) rfl
theorem mc_X3_exchangeCoordinates : Cond.code yX3_exchangeCoordinates cX3_exchangeCoordinates 5 none ∈ BW := bw_t 692 (by decide +kernel) rfl
theorem ml_RL_131 : Cond.methodLink RL 131 yL_sign ∈ BW := bw_t 693 (by decide +kernel) rfl
theorem mt_L_sign : Cond.static yL_sign ∈ BW := bw_t 694 (by decide +kernel) rfl
theorem mc_L_sign : Cond.codeWith yL_sign cL_sign 6 (some .int) [((0 : Nat), (12 : Nat), (15 : Nat), (19 : Nat))] ∈ BW := bw_t 695 (by decide +kernel) rfl
theorem ml_RL_34 : Cond.methodLink RL 34 yX3_sign ∈ BW := bw_t 696 (by decide +kernel) rfl
theorem mi_X3_sign : Cond.instanceMethod yX3_sign ∈ BW := bw_t 697 (by decide +kernel) rfl
theorem ms_X3_sign : Cond.selects RX3 yX3_sign yX3_sign ∈ BW := bw_t 698 (by decide +kernel) rfl
theorem mc_X3_sign : Cond.code yX3_sign cX3_sign 4 (some .int) ∈ BW := bw_t 699 (by decide +kernel) rfl
theorem ml_RL_134 : Cond.methodLink RL 134 yL_triple ∈ BW := bw_t 700 (by decide +kernel) rfl
theorem mt_L_triple : Cond.static yL_triple ∈ BW := bw_t 701 (by decide +kernel) rfl
theorem mc_L_triple : Cond.codeWith yL_triple cL_triple 5 (some .int) [((0 : Nat), (10 : Nat), (13 : Nat), (19 : Nat)), ((0 : Nat), (10 : Nat), (17 : Nat), (13 : Nat))] ∈ BW := bw_t 702 (by decide +kernel) rfl
theorem ml_RL_37 : Cond.methodLink RL 37 yX3_triple ∈ BW := bw_t 703 (by decide +kernel) rfl
theorem ml_RL_137 : Cond.methodLink RL 137 yL_reasons ∈ BW := bw_t 704 (by decide +kernel) rfl
theorem mt_L_reasons : Cond.static yL_reasons ∈ BW := bw_t 705 (by decide +kernel) rfl
theorem mc_L_reasons : Cond.codeWith yL_reasons cL_reasons 4 (some .int) [((0 : Nat), (8 : Nat), (11 : Nat), (19 : Nat))] ∈ BW := bw_t 706 (by decide +kernel) rfl
theorem ml_RL_40 : Cond.methodLink RL 40 yX3_reasons ∈ BW := bw_t 707 (by decide +kernel) rfl
theorem ml_RL_140 : Cond.methodLink RL 140 yL_count ∈ BW := bw_t 708 (by decide +kernel) rfl
theorem mt_L_count : Cond.static yL_count ∈ BW := bw_t 709 (by decide +kernel) rfl
theorem mc_L_count : Cond.codeWith yL_count cL_count 4 (some .int) [((0 : Nat), (9 : Nat), (12 : Nat), (13 : Nat))] ∈ BW := bw_t 710 (by decide +kernel) rfl
theorem ml_RL_44 : Cond.methodLink RL 44 yX3_count ∈ BW := bw_t 711 (by decide +kernel) rfl
theorem ml_RL_143 : Cond.methodLink RL 143 yL_relation ∈ BW := bw_t 712 (by decide +kernel) rfl
theorem mt_L_relation : Cond.static yL_relation ∈ BW := bw_t 713 (by decide +kernel) rfl
theorem mc_L_relation : Cond.codeWith yL_relation cL_relation 5 (some .int) [((0 : Nat), (10 : Nat), (13 : Nat), (19 : Nat)), ((0 : Nat), (10 : Nat), (17 : Nat), (13 : Nat))] ∈ BW := bw_t 714 (by decide +kernel) rfl
theorem ml_RL_47 : Cond.methodLink RL 47 yX3_relation ∈ BW := bw_t 715 (by decide +kernel) rfl
theorem ml_RL_146 : Cond.methodLink RL 146 yL_behind ∈ BW := bw_t 716 (by decide +kernel) rfl
theorem mt_L_behind : Cond.static yL_behind ∈ BW := bw_t 717 (by decide +kernel) rfl
theorem mc_L_behind : Cond.codeWith yL_behind cL_behind 4 (some .int) [((0 : Nat), (8 : Nat), (11 : Nat), (19 : Nat))] ∈ BW := bw_t 718 (by decide +kernel) rfl
theorem ml_RL_50 : Cond.methodLink RL 50 yX3_behind ∈ BW := bw_t 719 (by decide +kernel) rfl
theorem mi_X3_behind : Cond.instanceMethod yX3_behind ∈ BW := bw_t 720 (by decide +kernel) rfl
theorem ms_X3_behind : Cond.selects RX3 yX3_behind yX3_behind ∈ BW := bw_t 721 (by decide +kernel) rfl
theorem mc_X3_behind : Cond.code yX3_behind cX3_behind 2 (some .long) ∈ BW := bw_t 722 (by decide +kernel) rfl
theorem ml_RL_149 : Cond.methodLink RL 149 yL_completions ∈ BW := bw_t 723 (by decide +kernel) rfl
theorem mt_L_completions : Cond.static yL_completions ∈ BW := bw_t 724 (by decide +kernel) rfl
theorem mc_L_completions : Cond.codeWith yL_completions cL_completions 3 (some .int) [((0 : Nat), (8 : Nat), (11 : Nat), (25 : Nat))] ∈ BW := bw_t 725 (by decide +kernel) rfl
theorem ml_RL_53 : Cond.methodLink RL 53 yX3_completions ∈ BW := bw_t 726 (by decide +kernel) rfl
theorem mi_X3_completions : Cond.instanceMethod yX3_completions ∈ BW := bw_t 727 (by decide +kernel) rfl
theorem ms_X3_completions : Cond.selects RX3 yX3_completions yX3_completions ∈ BW := bw_t 728 (by decide +kernel) rfl
theorem mc_X3_completions : Cond.code yX3_completions cX3_completions 4 (some .int) ∈ BW := bw_t 729 (by decide +kernel) rfl
theorem ml_RX3_197 : Cond.methodLink RX3 197 yX3_waysFrom ∈ BW := bw_t 731 (by decide +kernel) rfl
theorem mt_X3_waysFrom : Cond.static yX3_waysFrom ∈ BW := bw_t 732 (by decide +kernel) rfl
theorem mc_X3_waysFrom : Cond.code yX3_waysFrom cX3_waysFrom 8 (some .int) ∈ BW := bw_t 733 (by decide +kernel) rfl
theorem mn_RX3_365 : Cond.methodLinkNest RX3 365 yX0_isViolatedWith RX3 ∈ NB := nb_t 734 (by decide +kernel) rfl
theorem mi_X0_isViolatedWith : Cond.instanceMethod yX0_isViolatedWith ∈ BW := bw_t 736 (by decide +kernel) rfl
theorem mc_X0_isViolatedWith : Cond.code yX0_isViolatedWith cX0_isViolatedWith 6 (some .boolean) ∈ BW := bw_t 737 (by decide +kernel) rfl
theorem ml_RX0_81 : Cond.methodLink RX0 81 yX0_verdict ∈ BW := bw_t 738 (by decide +kernel) rfl
theorem ml_RL_153 : Cond.methodLink RL 153 yL_cocircuit ∈ BW := bw_t 739 (by decide +kernel) rfl
theorem mt_L_cocircuit : Cond.static yL_cocircuit ∈ BW := bw_t 740 (by decide +kernel) rfl
theorem mc_L_cocircuit : Cond.codeWith yL_cocircuit cL_cocircuit 5 (some .int) [((0 : Nat), (10 : Nat), (13 : Nat), (19 : Nat)), ((0 : Nat), (10 : Nat), (17 : Nat), (13 : Nat)), ((0 : Nat), (10 : Nat), (21 : Nat), (25 : Nat))] ∈ BW := bw_t 741 (by decide +kernel) rfl
theorem ml_RL_57 : Cond.methodLink RL 57 yX3_cocircuit ∈ BW := bw_t 742 (by decide +kernel) rfl
theorem mi_X3_cocircuit : Cond.instanceMethod yX3_cocircuit ∈ BW := bw_t 743 (by decide +kernel) rfl
theorem ms_X3_cocircuit : Cond.selects RX3 yX3_cocircuit yX3_cocircuit ∈ BW := bw_t 744 (by decide +kernel) rfl
theorem mc_X3_cocircuit : Cond.code yX3_cocircuit cX3_cocircuit 7 (some .int) ∈ BW := bw_t 745 (by decide +kernel) rfl
theorem ml_RL_156 : Cond.methodLink RL 156 yL_isExtreme ∈ BW := bw_t 747 (by decide +kernel) rfl
theorem mt_L_isExtreme : Cond.static yL_isExtreme ∈ BW := bw_t 748 (by decide +kernel) rfl
theorem mc_L_isExtreme : Cond.codeWith yL_isExtreme cL_isExtreme 4 (some .int) [((0 : Nat), (16 : Nat), (19 : Nat), (19 : Nat))] ∈ BW := bw_t 749 (by decide +kernel) rfl
theorem ml_RL_60 : Cond.methodLink RL 60 yX3_isExtreme ∈ BW := bw_t 750 (by decide +kernel) rfl
theorem ml_RL_159 : Cond.methodLink RL 159 yL_lines ∈ BW := bw_t 751 (by decide +kernel) rfl
theorem mt_L_lines : Cond.static yL_lines ∈ BW := bw_t 752 (by decide +kernel) rfl
theorem mc_L_lines : Cond.codeWith yL_lines cL_lines 3 (some .int) [((0 : Nat), (8 : Nat), (11 : Nat), (25 : Nat))] ∈ BW := bw_t 753 (by decide +kernel) rfl
theorem ml_RL_64 : Cond.methodLink RL 64 yX3_lines ∈ BW := bw_t 754 (by decide +kernel) rfl
theorem mi_X3_lines : Cond.instanceMethod yX3_lines ∈ BW := bw_t 755 (by decide +kernel) rfl
theorem ms_X3_lines : Cond.selects RX3 yX3_lines yX3_lines ∈ BW := bw_t 756 (by decide +kernel) rfl
theorem mc_X3_lines : Cond.code yX3_lines cX3_lines 5 (some .int) ∈ BW := bw_t 757 (by decide +kernel) rfl
theorem ml_RX3_208 : Cond.methodLink RX3 208 yX3_lineMask ∈ BW := bw_t 759 (by decide +kernel) rfl
theorem mi_X3_lineMask : Cond.instanceMethod yX3_lineMask ∈ BW := bw_t 761 (by decide +kernel) rfl
theorem mc_X3_lineMask : Cond.code yX3_lineMask cX3_lineMask 5 (some .int) ∈ BW := bw_t 762 (by decide +kernel) rfl
theorem ml_RX3_211 : Cond.methodLink RX3 211 yX3_isListed ∈ BW := bw_t 763 (by decide +kernel) rfl
theorem mi_X3_isListed : Cond.instanceMethod yX3_isListed ∈ BW := bw_t 765 (by decide +kernel) rfl
theorem mc_X3_isListed : Cond.code yX3_isListed cX3_isListed 4 (some .boolean) ∈ BW := bw_t 766 (by decide +kernel) rfl
theorem ml_RL_162 : Cond.methodLink RL 162 yL_place ∈ BW := bw_t 767 (by decide +kernel) rfl
theorem mt_L_place : Cond.static yL_place ∈ BW := bw_t 768 (by decide +kernel) rfl
theorem mc_L_place : Cond.codeWith yL_place cL_place 6 (some .int) [((0 : Nat), (19 : Nat), (22 : Nat), (19 : Nat)), ((0 : Nat), (19 : Nat), (26 : Nat), (13 : Nat))] ∈ BW := bw_t 769 (by decide +kernel) rfl
theorem ml_RL_67 : Cond.methodLink RL 67 yX3_place ∈ BW := bw_t 770 (by decide +kernel) rfl
theorem mi_X3_place : Cond.instanceMethod yX3_place ∈ BW := bw_t 771 (by decide +kernel) rfl
theorem ms_X3_place : Cond.selects RX3 yX3_place yX3_place ∈ BW := bw_t 772 (by decide +kernel) rfl
theorem mc_X3_place : Cond.code yX3_place cX3_place 5 (some .boolean) ∈ BW := bw_t 773 (by decide +kernel) rfl
theorem ml_RL_165 : Cond.methodLink RL 165 yL_coordinate ∈ BW := bw_t 775 (by decide +kernel) rfl
theorem mt_L_coordinate : Cond.static yL_coordinate ∈ BW := bw_t 776 (by decide +kernel) rfl
theorem mc_L_coordinate : Cond.codeWith yL_coordinate cL_coordinate 5 (some .int) [((0 : Nat), (10 : Nat), (13 : Nat), (19 : Nat)), ((0 : Nat), (10 : Nat), (17 : Nat), (13 : Nat))] ∈ BW := bw_t 777 (by decide +kernel) rfl
theorem ml_RL_71 : Cond.methodLink RL 71 yX3_coordinate ∈ BW := bw_t 778 (by decide +kernel) rfl
theorem ml_RL_176 : Cond.methodLink RL 176 yL_scatter ∈ BW := bw_t 779 (by decide +kernel) rfl
theorem mt_L_scatter : Cond.static yL_scatter ∈ BW := bw_t 780 (by decide +kernel) rfl
theorem mc_L_scatter : Cond.codeWith yL_scatter cL_scatter 6 (some .int) [((0 : Nat), (12 : Nat), (15 : Nat), (13 : Nat))] ∈ BW := bw_t 781 (by decide +kernel) rfl
theorem ml_RL_74 : Cond.methodLink RL 74 yX3_scatter ∈ BW := bw_t 782 (by decide +kernel) rfl
theorem mi_X3_scatter : Cond.instanceMethod yX3_scatter ∈ BW := bw_t 783 (by decide +kernel) rfl
theorem ms_X3_scatter : Cond.selects RX3 yX3_scatter yX3_scatter ∈ BW := bw_t 784 (by decide +kernel) rfl
theorem mc_X3_scatter : Cond.code yX3_scatter cX3_scatter 9 (some .int) ∈ BW := bw_t 785 (by decide +kernel) rfl
theorem ct_RX3_233 : Cond.constant RX3 233 999999 ∈ BW := bw_t 786 (by decide +kernel) rfl
theorem ml_RX3_240 : Cond.methodLink RX3 240 yX3_tryPlacement ∈ BW := bw_t 790 (by decide +kernel) rfl
theorem mi_X3_tryPlacement : Cond.instanceMethod yX3_tryPlacement ∈ BW := bw_t 792 (by decide +kernel) rfl
theorem mc_X3_tryPlacement : Cond.code yX3_tryPlacement cX3_tryPlacement 7 (some .long) ∈ BW := bw_t 793 (by decide +kernel) rfl
theorem ml_RX3_379 : Cond.methodLink RX3 379 yX3_nextRandom ∈ BW := bw_t 794 (by decide +kernel) rfl
theorem mt_X3_nextRandom : Cond.static yX3_nextRandom ∈ BW := bw_t 795 (by decide +kernel) rfl
theorem mc_X3_nextRandom : Cond.code yX3_nextRandom cX3_nextRandom 2 (some .long) ∈ BW := bw_t 796 (by decide +kernel) rfl
theorem ct_RX3_369 : Cond.constantLong RX3 369 1103515245 ∈ BW := bw_t 797 (by decide +kernel) rfl
theorem ct_RX3_371 : Cond.constantLong RX3 371 12345 ∈ BW := bw_t 798 (by decide +kernel) rfl
theorem ct_RX3_373 : Cond.constantLong RX3 373 2147483648 ∈ BW := bw_t 799 (by decide +kernel) rfl
theorem ml_RX3_383 : Cond.methodLink RX3 383 yX3_randomCoordinate ∈ BW := bw_t 800 (by decide +kernel) rfl
theorem mt_X3_randomCoordinate : Cond.static yX3_randomCoordinate ∈ BW := bw_t 801 (by decide +kernel) rfl
theorem mc_X3_randomCoordinate : Cond.code yX3_randomCoordinate cX3_randomCoordinate 3 (some .int) ∈ BW := bw_t 802 (by decide +kernel) rfl
theorem ct_RX3_375 : Cond.constantLong RX3 375 65536 ∈ BW := bw_t 803 (by decide +kernel) rfl
theorem ct_RX3_377 : Cond.constantLong RX3 377 2 ∈ BW := bw_t 804 (by decide +kernel) rfl
theorem ml_RX3_244 : Cond.methodLink RX3 244 yX3_copyPoints ∈ BW := bw_t 805 (by decide +kernel) rfl
theorem mi_X3_copyPoints : Cond.instanceMethod yX3_copyPoints ∈ BW := bw_t 807 (by decide +kernel) rfl
theorem mc_X3_copyPoints : Cond.code yX3_copyPoints cX3_copyPoints 5 none ∈ BW := bw_t 808 (by decide +kernel) rfl
theorem ml_RL_179 : Cond.methodLink RL 179 yL_type ∈ BW := bw_t 810 (by decide +kernel) rfl
theorem mt_L_type : Cond.static yL_type ∈ BW := bw_t 811 (by decide +kernel) rfl
theorem mc_L_type : Cond.codeWith yL_type cL_type 4 (some .int) [((0 : Nat), (9 : Nat), (12 : Nat), (13 : Nat)), ((0 : Nat), (9 : Nat), (15 : Nat), (25 : Nat))] ∈ BW := bw_t 812 (by decide +kernel) rfl
theorem ml_RL_77 : Cond.methodLink RL 77 yX3_type ∈ BW := bw_t 813 (by decide +kernel) rfl
theorem mi_X3_type : Cond.instanceMethod yX3_type ∈ BW := bw_t 814 (by decide +kernel) rfl
theorem ms_X3_type : Cond.selects RX3 yX3_type yX3_type ∈ BW := bw_t 815 (by decide +kernel) rfl
theorem mc_X3_type : Cond.code yX3_type cX3_type 2 (some .int) ∈ BW := bw_t 816 (by decide +kernel) rfl
theorem ml_RL_190 : Cond.methodLink RL 190 yL_written ∈ BW := bw_t 819 (by decide +kernel) rfl
theorem mt_L_written : Cond.static yL_written ∈ BW := bw_t 820 (by decide +kernel) rfl
theorem mc_L_written : Cond.codeWith yL_written cL_written 4 (some .int) [((0 : Nat), (9 : Nat), (12 : Nat), (13 : Nat))] ∈ BW := bw_t 821 (by decide +kernel) rfl
theorem ml_RL_80 : Cond.methodLink RL 80 yX3_written ∈ BW := bw_t 822 (by decide +kernel) rfl
theorem mi_X3_written : Cond.instanceMethod yX3_written ∈ BW := bw_t 823 (by decide +kernel) rfl
theorem ms_X3_written : Cond.selects RX3 yX3_written yX3_written ∈ BW := bw_t 824 (by decide +kernel) rfl
theorem mc_X3_written : Cond.code yX3_written cX3_written 6 (some .int) ∈ BW := bw_t 825 (by decide +kernel) rfl
theorem mn_RX3_270 : Cond.methodLinkNest RX3 270 yX1_wordFor RX3 ∈ NB := nb_t 827 (by decide +kernel) rfl
theorem mt_X1_wordFor : Cond.static yX1_wordFor ∈ BW := bw_t 828 (by decide +kernel) rfl
theorem mc_X1_wordFor : Cond.code yX1_wordFor cX1_wordFor 1 (some .int) ∈ BW := bw_t 829 (by decide +kernel) rfl
theorem mn_RX3_274 : Cond.methodLinkNest RX3 274 yX1_spelling RX3 ∈ NB := nb_t 830 (by decide +kernel) rfl
theorem ml_RX3_278 : Cond.methodLink RX3 278 yJ0_length_8abf5 ∈ BW := bw_t 831 (by decide +kernel) rfl
theorem ml_RX3_282 : Cond.methodLink RX3 282 yX3_writtenIn ∈ BW := bw_t 832 (by decide +kernel) rfl
theorem mi_X3_writtenIn : Cond.instanceMethod yX3_writtenIn ∈ BW := bw_t 834 (by decide +kernel) rfl
theorem mc_X3_writtenIn : Cond.code yX3_writtenIn cX3_writtenIn 5 (some .int) ∈ BW := bw_t 835 (by decide +kernel) rfl
theorem ml_RX3_402 : Cond.methodLink RX3 402 yJ0_charAt_5068e ∈ BW := bw_t 836 (by decide +kernel) rfl
theorem ml_RL_193 : Cond.methodLink RL 193 yL_undo ∈ BW := bw_t 837 (by decide +kernel) rfl
theorem mt_L_undo : Cond.static yL_undo ∈ BW := bw_t 838 (by decide +kernel) rfl
theorem mc_L_undo : Cond.codeWith yL_undo cL_undo 3 (some .int) [((0 : Nat), (8 : Nat), (11 : Nat), (25 : Nat))] ∈ BW := bw_t 839 (by decide +kernel) rfl
theorem ml_RL_83 : Cond.methodLink RL 83 yX3_undo ∈ BW := bw_t 840 (by decide +kernel) rfl
theorem mi_X3_undo : Cond.instanceMethod yX3_undo ∈ BW := bw_t 841 (by decide +kernel) rfl
theorem ms_X3_undo : Cond.selects RX3 yX3_undo yX3_undo ∈ BW := bw_t 842 (by decide +kernel) rfl
theorem mc_X3_undo : Cond.code yX3_undo cX3_undo 1 (some .int) ∈ BW := bw_t 843 (by decide +kernel) rfl
theorem cl_RL_87 : Cond.classLink RL 87 RX4 ∈ BW := bw_t 845 (by decide +kernel) rfl
theorem is_RX4 : Cond.instantiable RX4 24 ∈ BW := bw_t 846 (by decide +kernel) rfl
theorem ml_RL_89 : Cond.methodLink RL 89 yX4_init ∈ BW := bw_t 847 (by decide +kernel) rfl
theorem mi_X4_init : Cond.instanceMethod yX4_init ∈ BW := bw_t 848 (by decide +kernel) rfl
theorem mc_X4_init : Cond.code yX4_init cX4_init 1 none ∈ BW := bw_t 849 (by decide +kernel) rfl
theorem ml_RX4_56 : Cond.methodLink RX4 56 yX4_begins ∈ BW := bw_t 851 (by decide +kernel) rfl
theorem mi_X4_begins : Cond.instanceMethod yX4_begins ∈ BW := bw_t 853 (by decide +kernel) rfl
theorem mc_X4_begins : Cond.code yX4_begins cX4_begins 3 none ∈ BW := bw_t 854 (by decide +kernel) rfl
theorem ml_RX4_81 : Cond.methodLink RX4 81 yX4_clears ∈ BW := bw_t 855 (by decide +kernel) rfl
theorem mi_X4_clears : Cond.instanceMethod yX4_clears ∈ BW := bw_t 857 (by decide +kernel) rfl
theorem mc_X4_clears : Cond.code yX4_clears cX4_clears 2 none ∈ BW := bw_t 858 (by decide +kernel) rfl
theorem ml_RX4_87 : Cond.methodLink RX4 87 yX4_puts ∈ BW := bw_t 859 (by decide +kernel) rfl
theorem mi_X4_puts : Cond.instanceMethod yX4_puts ∈ BW := bw_t 861 (by decide +kernel) rfl
theorem mc_X4_puts : Cond.code yX4_puts cX4_puts 4 none ∈ BW := bw_t 862 (by decide +kernel) rfl
theorem ml_RX4_84 : Cond.methodLink RX4 84 yX4_lays ∈ BW := bw_t 863 (by decide +kernel) rfl
theorem mi_X4_lays : Cond.instanceMethod yX4_lays ∈ BW := bw_t 865 (by decide +kernel) rfl
theorem mc_X4_lays : Cond.code yX4_lays cX4_lays 5 none ∈ BW := bw_t 866 (by decide +kernel) rfl
theorem ml_RX4_77 : Cond.methodLink RX4 77 yX4_laysFrom ∈ BW := bw_t 867 (by decide +kernel) rfl
theorem mi_X4_laysFrom : Cond.instanceMethod yX4_laysFrom ∈ BW := bw_t 869 (by decide +kernel) rfl
theorem mc_X4_laysFrom : Cond.code yX4_laysFrom cX4_laysFrom 7 none ∈ BW := bw_t 870 (by decide +kernel) rfl
theorem fl_RX4_7 : Cond.fieldLink RX4 7 "TripleSignsModel" "s" "[I" ∈ BW := bw_t 871 (by decide +kernel) rfl
theorem fl_RX4_13 : Cond.fieldLink RX4 13 "TripleSignsModel" "past" "[I" ∈ BW := bw_t 872 (by decide +kernel) rfl
theorem fl_RX4_16 : Cond.fieldLink RX4 16 "TripleSignsModel" "aside" "[I" ∈ BW := bw_t 873 (by decide +kernel) rfl
theorem fl_RX4_64 : Cond.fieldLink RX4 64 "TripleSignsModel" "pasts" "I" ∈ BW := bw_t 874 (by decide +kernel) rfl
theorem fl_RX4_19 : Cond.fieldLink RX4 19 "TripleSignsModel" "text" "[I" ∈ BW := bw_t 875 (by decide +kernel) rfl
theorem fl_RX4_237 : Cond.fieldLink RX4 237 "TripleSignsModel" "typed" "I" ∈ BW := bw_t 876 (by decide +kernel) rfl
theorem fl_RX4_60 : Cond.fieldLink RX4 60 "TripleSignsModel" "thrown" "I" ∈ BW := bw_t 877 (by decide +kernel) rfl
theorem fl_RX4_22 : Cond.fieldLink RX4 22 "TripleSignsModel" "of" "[I" ∈ BW := bw_t 878 (by decide +kernel) rfl
theorem fl_RX4_25 : Cond.fieldLink RX4 25 "TripleSignsModel" "number" "[I" ∈ BW := bw_t 879 (by decide +kernel) rfl
theorem fl_RX4_71 : Cond.fieldLink RX4 71 "TripleSignsModel" "triples" "I" ∈ BW := bw_t 880 (by decide +kernel) rfl
theorem fl_RX4_28 : Cond.fieldLink RX4 28 "TripleSignsModel" "rel" "[I" ∈ BW := bw_t 881 (by decide +kernel) rfl
theorem fl_RX4_74 : Cond.fieldLink RX4 74 "TripleSignsModel" "relations" "I" ∈ BW := bw_t 882 (by decide +kernel) rfl
theorem fl_RX4_132 : Cond.fieldLink RX4 132 "TripleSignsModel" "answer" "I" ∈ BW := bw_t 883 (by decide +kernel) rfl
theorem fl_RX4_31 : Cond.fieldLink RX4 31 "TripleSignsModel" "six" "[I" ∈ BW := bw_t 884 (by decide +kernel) rfl
theorem fl_RX4_34 : Cond.fieldLink RX4 34 "TripleSignsModel" "by" "[I" ∈ BW := bw_t 885 (by decide +kernel) rfl
theorem fl_RX4_37 : Cond.fieldLink RX4 37 "TripleSignsModel" "signs" "[I" ∈ BW := bw_t 886 (by decide +kernel) rfl
theorem fl_RX4_40 : Cond.fieldLink RX4 40 "TripleSignsModel" "why" "[J" ∈ BW := bw_t 887 (by decide +kernel) rfl
theorem fl_RX4_44 : Cond.fieldLink RX4 44 "TripleSignsModel" "open" "[I" ∈ BW := bw_t 888 (by decide +kernel) rfl
theorem fl_RX4_47 : Cond.fieldLink RX4 47 "TripleSignsModel" "sets" "[I" ∈ BW := bw_t 889 (by decide +kernel) rfl
theorem fl_RX4_50 : Cond.fieldLink RX4 50 "TripleSignsModel" "best" "[I" ∈ BW := bw_t 890 (by decide +kernel) rfl
theorem fl_RX4_240 : Cond.fieldLink RX4 240 "TripleSignsModel" "at" "I" ∈ BW := bw_t 891 (by decide +kernel) rfl
theorem fl_RX4_263 : Cond.fieldLink RX4 263 "TripleSignsModel" "word" "I" ∈ BW := bw_t 892 (by decide +kernel) rfl
theorem fl_RX4_53 : Cond.fieldLink RX4 53 "TripleSignsModel" "names" "[I" ∈ BW := bw_t 893 (by decide +kernel) rfl
theorem fl_RX4_292 : Cond.fieldLink RX4 292 "TripleSignsModel" "h" "J" ∈ BW := bw_t 894 (by decide +kernel) rfl
theorem ml_RL_96 : Cond.methodLink RL 96 yX4_thrown ∈ BW := bw_t 944 (by decide +kernel) rfl
theorem mi_X4_thrown : Cond.instanceMethod yX4_thrown ∈ BW := bw_t 945 (by decide +kernel) rfl
theorem ms_X4_thrown : Cond.selects RX4 yX4_thrown yX4_thrown ∈ BW := bw_t 946 (by decide +kernel) rfl
theorem mc_X4_thrown : Cond.code yX4_thrown cX4_thrown 1 (some .int) ∈ BW := bw_t 947 (by decide +kernel) rfl
theorem ml_RL_95 : Cond.methodLink RL 95 yX4_begin ∈ BW := bw_t 948 (by decide +kernel) rfl
theorem mi_X4_begin : Cond.instanceMethod yX4_begin ∈ BW := bw_t 949 (by decide +kernel) rfl
theorem ms_X4_begin : Cond.selects RX4 yX4_begin yX4_begin ∈ BW := bw_t 950 (by decide +kernel) rfl
theorem mc_X4_begin : Cond.code yX4_begin cX4_begin 2 (some .int) ∈ BW := bw_t 951 (by decide +kernel) rfl
theorem ml_RX4_91 : Cond.methodLink RX4 91 yX4_in ∈ BW := bw_t 952 (by decide +kernel) rfl
theorem mt_X4_in : Cond.static yX4_in ∈ BW := bw_t 953 (by decide +kernel) rfl
theorem mc_X4_in : Cond.code yX4_in cX4_in 3 (some .boolean) ∈ BW := bw_t 954 (by decide +kernel) rfl
theorem ml_RX4_113 : Cond.methodLink RX4 113 yX4_fails ∈ BW := bw_t 955 (by decide +kernel) rfl
theorem mi_X4_fails : Cond.instanceMethod yX4_fails ∈ BW := bw_t 957 (by decide +kernel) rfl
theorem mc_X4_fails : Cond.code yX4_fails cX4_fails 2 (some .int) ∈ BW := bw_t 958 (by decide +kernel) rfl
theorem ml_RX4_116 : Cond.methodLink RX4 116 yX4_hold ∈ BW := bw_t 959 (by decide +kernel) rfl
theorem mi_X4_hold : Cond.instanceMethod yX4_hold ∈ BW := bw_t 961 (by decide +kernel) rfl
theorem mc_X4_hold : Cond.code yX4_hold cX4_hold 2 none ∈ BW := bw_t 962 (by decide +kernel) rfl
theorem ml_RX4_119 : Cond.methodLink RX4 119 yX4_ends ∈ BW := bw_t 963 (by decide +kernel) rfl
theorem mi_X4_ends : Cond.instanceMethod yX4_ends ∈ BW := bw_t 965 (by decide +kernel) rfl
theorem mc_X4_ends : Cond.code yX4_ends cX4_ends 3 (some .int) ∈ BW := bw_t 966 (by decide +kernel) rfl
theorem ml_RX4_67 : Cond.methodLink RX4 67 yX4_tells ∈ BW := bw_t 967 (by decide +kernel) rfl
theorem mi_X4_tells : Cond.instanceMethod yX4_tells ∈ BW := bw_t 969 (by decide +kernel) rfl
theorem mc_X4_tells : Cond.code yX4_tells cX4_tells 2 (some .int) ∈ BW := bw_t 970 (by decide +kernel) rfl
theorem ml_RL_102 : Cond.methodLink RL 102 yX4_give ∈ BW := bw_t 971 (by decide +kernel) rfl
theorem mi_X4_give : Cond.instanceMethod yX4_give ∈ BW := bw_t 972 (by decide +kernel) rfl
theorem ms_X4_give : Cond.selects RX4 yX4_give yX4_give ∈ BW := bw_t 973 (by decide +kernel) rfl
theorem mc_X4_give : Cond.code yX4_give cX4_give 5 (some .int) ∈ BW := bw_t 974 (by decide +kernel) rfl
theorem ml_RX4_138 : Cond.methodLink RX4 138 yX4_givesTo ∈ BW := bw_t 975 (by decide +kernel) rfl
theorem mi_X4_givesTo : Cond.instanceMethod yX4_givesTo ∈ BW := bw_t 977 (by decide +kernel) rfl
theorem mc_X4_givesTo : Cond.code yX4_givesTo cX4_givesTo 5 (some .int) ∈ BW := bw_t 978 (by decide +kernel) rfl
theorem ml_RX4_126 : Cond.methodLink RX4 126 yX4_arePoints ∈ BW := bw_t 979 (by decide +kernel) rfl
theorem mi_X4_arePoints : Cond.instanceMethod yX4_arePoints ∈ BW := bw_t 981 (by decide +kernel) rfl
theorem mc_X4_arePoints : Cond.code yX4_arePoints cX4_arePoints 4 (some .boolean) ∈ BW := bw_t 982 (by decide +kernel) rfl
theorem ml_RX4_95 : Cond.methodLink RX4 95 yX4_isPoint ∈ BW := bw_t 983 (by decide +kernel) rfl
theorem mi_X4_isPoint : Cond.instanceMethod yX4_isPoint ∈ BW := bw_t 985 (by decide +kernel) rfl
theorem mc_X4_isPoint : Cond.code yX4_isPoint cX4_isPoint 2 (some .boolean) ∈ BW := bw_t 986 (by decide +kernel) rfl
theorem ml_RX4_99 : Cond.methodLink RX4 99 yX4_differ ∈ BW := bw_t 987 (by decide +kernel) rfl
theorem mt_X4_differ : Cond.static yX4_differ ∈ BW := bw_t 988 (by decide +kernel) rfl
theorem mc_X4_differ : Cond.code yX4_differ cX4_differ 3 (some .boolean) ∈ BW := bw_t 989 (by decide +kernel) rfl
theorem ml_RX4_129 : Cond.methodLink RX4 129 yX4_signOf ∈ BW := bw_t 990 (by decide +kernel) rfl
theorem mi_X4_signOf : Cond.instanceMethod yX4_signOf ∈ BW := bw_t 992 (by decide +kernel) rfl
theorem mc_X4_signOf : Cond.code yX4_signOf cX4_signOf 5 (some .int) ∈ BW := bw_t 993 (by decide +kernel) rfl
theorem ml_RX4_102 : Cond.methodLink RX4 102 yX4_tripleOf ∈ BW := bw_t 994 (by decide +kernel) rfl
theorem mi_X4_tripleOf : Cond.instanceMethod yX4_tripleOf ∈ BW := bw_t 996 (by decide +kernel) rfl
theorem mc_X4_tripleOf : Cond.code yX4_tripleOf cX4_tripleOf 6 (some .int) ∈ BW := bw_t 997 (by decide +kernel) rfl
theorem ml_RX4_106 : Cond.methodLink RX4 106 yX4_get ∈ BW := bw_t 998 (by decide +kernel) rfl
theorem mi_X4_get : Cond.instanceMethod yX4_get ∈ BW := bw_t 1000 (by decide +kernel) rfl
theorem mc_X4_get : Cond.code yX4_get cX4_get 3 (some .int) ∈ BW := bw_t 1001 (by decide +kernel) rfl
theorem ml_RX4_110 : Cond.methodLink RX4 110 yX4_parity ∈ BW := bw_t 1002 (by decide +kernel) rfl
theorem mt_X4_parity : Cond.static yX4_parity ∈ BW := bw_t 1003 (by decide +kernel) rfl
theorem mc_X4_parity : Cond.code yX4_parity cX4_parity 4 (some .int) ∈ BW := bw_t 1004 (by decide +kernel) rfl
theorem ml_RX4_135 : Cond.methodLink RX4 135 yX4_gives ∈ BW := bw_t 1005 (by decide +kernel) rfl
theorem mi_X4_gives : Cond.instanceMethod yX4_gives ∈ BW := bw_t 1007 (by decide +kernel) rfl
theorem mc_X4_gives : Cond.code yX4_gives cX4_gives 5 none ∈ BW := bw_t 1008 (by decide +kernel) rfl
theorem ml_RX4_122 : Cond.methodLink RX4 122 yX4_forgets ∈ BW := bw_t 1009 (by decide +kernel) rfl
theorem mi_X4_forgets : Cond.instanceMethod yX4_forgets ∈ BW := bw_t 1011 (by decide +kernel) rfl
theorem mc_X4_forgets : Cond.code yX4_forgets cX4_forgets 3 (some .int) ∈ BW := bw_t 1012 (by decide +kernel) rfl
theorem ml_RX4_142 : Cond.methodLink RX4 142 yX4_done ∈ BW := bw_t 1013 (by decide +kernel) rfl
theorem mi_X4_done : Cond.instanceMethod yX4_done ∈ BW := bw_t 1015 (by decide +kernel) rfl
theorem mc_X4_done : Cond.code yX4_done cX4_done 2 (some .int) ∈ BW := bw_t 1016 (by decide +kernel) rfl
theorem ml_RL_106 : Cond.methodLink RL 106 yX4_drop ∈ BW := bw_t 1017 (by decide +kernel) rfl
theorem mi_X4_drop : Cond.instanceMethod yX4_drop ∈ BW := bw_t 1018 (by decide +kernel) rfl
theorem ms_X4_drop : Cond.selects RX4 yX4_drop yX4_drop ∈ BW := bw_t 1019 (by decide +kernel) rfl
theorem mc_X4_drop : Cond.code yX4_drop cX4_drop 4 (some .int) ∈ BW := bw_t 1020 (by decide +kernel) rfl
theorem ml_RX4_145 : Cond.methodLink RX4 145 yX4_drops ∈ BW := bw_t 1021 (by decide +kernel) rfl
theorem mi_X4_drops : Cond.instanceMethod yX4_drops ∈ BW := bw_t 1023 (by decide +kernel) rfl
theorem mc_X4_drops : Cond.code yX4_drops cX4_drops 5 (some .int) ∈ BW := bw_t 1024 (by decide +kernel) rfl
theorem ml_RL_111 : Cond.methodLink RL 111 yX4_setUniform ∈ BW := bw_t 1025 (by decide +kernel) rfl
theorem mi_X4_setUniform : Cond.instanceMethod yX4_setUniform ∈ BW := bw_t 1026 (by decide +kernel) rfl
theorem ms_X4_setUniform : Cond.selects RX4 yX4_setUniform yX4_setUniform ∈ BW := bw_t 1027 (by decide +kernel) rfl
theorem mc_X4_setUniform : Cond.code yX4_setUniform cX4_setUniform 4 (some .boolean) ∈ BW := bw_t 1028 (by decide +kernel) rfl
theorem ml_RL_115 : Cond.methodLink RL 115 yX4_derive ∈ BW := bw_t 1029 (by decide +kernel) rfl
theorem mi_X4_derive : Cond.instanceMethod yX4_derive ∈ BW := bw_t 1030 (by decide +kernel) rfl
theorem ms_X4_derive : Cond.selects RX4 yX4_derive yX4_derive ∈ BW := bw_t 1031 (by decide +kernel) rfl
theorem mc_X4_derive : Cond.code yX4_derive cX4_derive 1 (some .int) ∈ BW := bw_t 1032 (by decide +kernel) rfl
theorem ml_RX4_167 : Cond.methodLink RX4 167 yX4_derives ∈ BW := bw_t 1033 (by decide +kernel) rfl
theorem mi_X4_derives : Cond.instanceMethod yX4_derives ∈ BW := bw_t 1035 (by decide +kernel) rfl
theorem mc_X4_derives : Cond.code yX4_derives cX4_derives 5 (some .int) ∈ BW := bw_t 1036 (by decide +kernel) rfl
theorem ml_RX4_161 : Cond.methodLink RX4 161 yX4_many ∈ BW := bw_t 1037 (by decide +kernel) rfl
theorem mi_X4_many : Cond.instanceMethod yX4_many ∈ BW := bw_t 1039 (by decide +kernel) rfl
theorem mc_X4_many : Cond.code yX4_many cX4_many 4 (some .int) ∈ BW := bw_t 1040 (by decide +kernel) rfl
theorem ml_RX4_164 : Cond.methodLink RX4 164 yX4_tries ∈ BW := bw_t 1041 (by decide +kernel) rfl
theorem mi_X4_tries : Cond.instanceMethod yX4_tries ∈ BW := bw_t 1043 (by decide +kernel) rfl
theorem mc_X4_tries : Cond.code yX4_tries cX4_tries 7 (some .int) ∈ BW := bw_t 1044 (by decide +kernel) rfl
theorem ml_RX4_152 : Cond.methodLink RX4 152 yX4_looksAt ∈ BW := bw_t 1045 (by decide +kernel) rfl
theorem mi_X4_looksAt : Cond.instanceMethod yX4_looksAt ∈ BW := bw_t 1047 (by decide +kernel) rfl
theorem mc_X4_looksAt : Cond.code yX4_looksAt cX4_looksAt 2 none ∈ BW := bw_t 1048 (by decide +kernel) rfl
theorem ml_RX4_148 : Cond.methodLink RX4 148 yX4_looks ∈ BW := bw_t 1049 (by decide +kernel) rfl
theorem mi_X4_looks : Cond.instanceMethod yX4_looks ∈ BW := bw_t 1051 (by decide +kernel) rfl
theorem mc_X4_looks : Cond.code yX4_looks cX4_looks 8 none ∈ BW := bw_t 1052 (by decide +kernel) rfl
theorem ml_RX4_155 : Cond.methodLink RX4 155 yX4_unknowns ∈ BW := bw_t 1053 (by decide +kernel) rfl
theorem mi_X4_unknowns : Cond.instanceMethod yX4_unknowns ∈ BW := bw_t 1055 (by decide +kernel) rfl
theorem mc_X4_unknowns : Cond.code yX4_unknowns cX4_unknowns 3 (some .int) ∈ BW := bw_t 1056 (by decide +kernel) rfl
theorem ml_RX4_158 : Cond.methodLink RX4 158 yX4_isFulfilled ∈ BW := bw_t 1057 (by decide +kernel) rfl
theorem mi_X4_isFulfilled : Cond.instanceMethod yX4_isFulfilled ∈ BW := bw_t 1059 (by decide +kernel) rfl
theorem mc_X4_isFulfilled : Cond.code yX4_isFulfilled cX4_isFulfilled 8 (some .boolean) ∈ BW := bw_t 1060 (by decide +kernel) rfl
theorem ml_RL_119 : Cond.methodLink RL 119 yX4_forget ∈ BW := bw_t 1061 (by decide +kernel) rfl
theorem mi_X4_forget : Cond.instanceMethod yX4_forget ∈ BW := bw_t 1062 (by decide +kernel) rfl
theorem ms_X4_forget : Cond.selects RX4 yX4_forget yX4_forget ∈ BW := bw_t 1063 (by decide +kernel) rfl
theorem mc_X4_forget : Cond.code yX4_forget cX4_forget 1 (some .int) ∈ BW := bw_t 1064 (by decide +kernel) rfl
theorem ml_RL_123 : Cond.methodLink RL 123 yX4_mirror ∈ BW := bw_t 1065 (by decide +kernel) rfl
theorem mi_X4_mirror : Cond.instanceMethod yX4_mirror ∈ BW := bw_t 1066 (by decide +kernel) rfl
theorem ms_X4_mirror : Cond.selects RX4 yX4_mirror yX4_mirror ∈ BW := bw_t 1067 (by decide +kernel) rfl
theorem mc_X4_mirror : Cond.code yX4_mirror cX4_mirror 1 (some .int) ∈ BW := bw_t 1068 (by decide +kernel) rfl
theorem ml_RX4_170 : Cond.methodLink RX4 170 yX4_flips ∈ BW := bw_t 1069 (by decide +kernel) rfl
theorem mi_X4_flips : Cond.instanceMethod yX4_flips ∈ BW := bw_t 1071 (by decide +kernel) rfl
theorem mc_X4_flips : Cond.code yX4_flips cX4_flips 5 (some .int) ∈ BW := bw_t 1072 (by decide +kernel) rfl
theorem ml_RL_126 : Cond.methodLink RL 126 yX4_turn ∈ BW := bw_t 1073 (by decide +kernel) rfl
theorem mi_X4_turn : Cond.instanceMethod yX4_turn ∈ BW := bw_t 1074 (by decide +kernel) rfl
theorem ms_X4_turn : Cond.selects RX4 yX4_turn yX4_turn ∈ BW := bw_t 1075 (by decide +kernel) rfl
theorem mc_X4_turn : Cond.code yX4_turn cX4_turn 2 (some .int) ∈ BW := bw_t 1076 (by decide +kernel) rfl
theorem ml_RL_130 : Cond.methodLink RL 130 yX4_exchange ∈ BW := bw_t 1077 (by decide +kernel) rfl
theorem mi_X4_exchange : Cond.instanceMethod yX4_exchange ∈ BW := bw_t 1078 (by decide +kernel) rfl
theorem ms_X4_exchange : Cond.selects RX4 yX4_exchange yX4_exchange ∈ BW := bw_t 1079 (by decide +kernel) rfl
theorem mc_X4_exchange : Cond.code yX4_exchange cX4_exchange 6 (some .int) ∈ BW := bw_t 1080 (by decide +kernel) rfl
theorem ml_RX4_173 : Cond.methodLink RX4 173 yX4_exchanged ∈ BW := bw_t 1081 (by decide +kernel) rfl
theorem mt_X4_exchanged : Cond.static yX4_exchanged ∈ BW := bw_t 1082 (by decide +kernel) rfl
theorem mc_X4_exchanged : Cond.code yX4_exchanged cX4_exchanged 3 (some .int) ∈ BW := bw_t 1083 (by decide +kernel) rfl
theorem ml_RL_133 : Cond.methodLink RL 133 yX4_sign ∈ BW := bw_t 1084 (by decide +kernel) rfl
theorem mi_X4_sign : Cond.instanceMethod yX4_sign ∈ BW := bw_t 1085 (by decide +kernel) rfl
theorem ms_X4_sign : Cond.selects RX4 yX4_sign yX4_sign ∈ BW := bw_t 1086 (by decide +kernel) rfl
theorem mc_X4_sign : Cond.code yX4_sign cX4_sign 4 (some .int) ∈ BW := bw_t 1087 (by decide +kernel) rfl
theorem ml_RL_136 : Cond.methodLink RL 136 yX4_triple ∈ BW := bw_t 1088 (by decide +kernel) rfl
theorem mi_X4_triple : Cond.instanceMethod yX4_triple ∈ BW := bw_t 1089 (by decide +kernel) rfl
theorem ms_X4_triple : Cond.selects RX4 yX4_triple yX4_triple ∈ BW := bw_t 1090 (by decide +kernel) rfl
theorem mc_X4_triple : Cond.code yX4_triple cX4_triple 3 (some .int) ∈ BW := bw_t 1091 (by decide +kernel) rfl
theorem ml_RX4_176 : Cond.methodLink RX4 176 yX4_isTriple ∈ BW := bw_t 1092 (by decide +kernel) rfl
theorem mi_X4_isTriple : Cond.instanceMethod yX4_isTriple ∈ BW := bw_t 1094 (by decide +kernel) rfl
theorem mc_X4_isTriple : Cond.code yX4_isTriple cX4_isTriple 2 (some .boolean) ∈ BW := bw_t 1095 (by decide +kernel) rfl
theorem ml_RX4_179 : Cond.methodLink RX4 179 yX4_value ∈ BW := bw_t 1096 (by decide +kernel) rfl
theorem mi_X4_value : Cond.instanceMethod yX4_value ∈ BW := bw_t 1098 (by decide +kernel) rfl
theorem mc_X4_value : Cond.code yX4_value cX4_value 3 (some .int) ∈ BW := bw_t 1099 (by decide +kernel) rfl
theorem ml_RL_139 : Cond.methodLink RL 139 yX4_reasons ∈ BW := bw_t 1100 (by decide +kernel) rfl
theorem mi_X4_reasons : Cond.instanceMethod yX4_reasons ∈ BW := bw_t 1101 (by decide +kernel) rfl
theorem ms_X4_reasons : Cond.selects RX4 yX4_reasons yX4_reasons ∈ BW := bw_t 1102 (by decide +kernel) rfl
theorem mc_X4_reasons : Cond.code yX4_reasons cX4_reasons 2 (some .long) ∈ BW := bw_t 1103 (by decide +kernel) rfl
theorem ml_RX4_186 : Cond.methodLink RX4 186 yX4_laysReasons ∈ BW := bw_t 1104 (by decide +kernel) rfl
theorem mi_X4_laysReasons : Cond.instanceMethod yX4_laysReasons ∈ BW := bw_t 1106 (by decide +kernel) rfl
theorem mc_X4_laysReasons : Cond.code yX4_laysReasons cX4_laysReasons 4 none ∈ BW := bw_t 1107 (by decide +kernel) rfl
theorem ml_RX4_182 : Cond.methodLink RX4 182 yX4_whyRelation ∈ BW := bw_t 1108 (by decide +kernel) rfl
theorem mi_X4_whyRelation : Cond.instanceMethod yX4_whyRelation ∈ BW := bw_t 1110 (by decide +kernel) rfl
theorem mc_X4_whyRelation : Cond.code yX4_whyRelation cX4_whyRelation 5 (some .long) ∈ BW := bw_t 1111 (by decide +kernel) rfl
theorem ml_RL_142 : Cond.methodLink RL 142 yX4_count ∈ BW := bw_t 1112 (by decide +kernel) rfl
theorem mi_X4_count : Cond.instanceMethod yX4_count ∈ BW := bw_t 1113 (by decide +kernel) rfl
theorem ms_X4_count : Cond.selects RX4 yX4_count yX4_count ∈ BW := bw_t 1114 (by decide +kernel) rfl
theorem mc_X4_count : Cond.code yX4_count cX4_count 2 (some .int) ∈ BW := bw_t 1115 (by decide +kernel) rfl
theorem ml_RX4_196 : Cond.methodLink RX4 196 yX4_counted ∈ BW := bw_t 1116 (by decide +kernel) rfl
theorem mi_X4_counted : Cond.instanceMethod yX4_counted ∈ BW := bw_t 1118 (by decide +kernel) rfl
theorem mc_X4_counted : Cond.code yX4_counted cX4_counted 2 (some .int) ∈ BW := bw_t 1119 (by decide +kernel) rfl
theorem ml_RX4_192 : Cond.methodLink RX4 192 yX4_stated ∈ BW := bw_t 1120 (by decide +kernel) rfl
theorem mi_X4_stated : Cond.instanceMethod yX4_stated ∈ BW := bw_t 1122 (by decide +kernel) rfl
theorem mc_X4_stated : Cond.code yX4_stated cX4_stated 5 (some .int) ∈ BW := bw_t 1123 (by decide +kernel) rfl
theorem ml_RX4_189 : Cond.methodLink RX4 189 yX4_state ∈ BW := bw_t 1124 (by decide +kernel) rfl
theorem mi_X4_state : Cond.instanceMethod yX4_state ∈ BW := bw_t 1126 (by decide +kernel) rfl
theorem mc_X4_state : Cond.code yX4_state cX4_state 2 (some .int) ∈ BW := bw_t 1127 (by decide +kernel) rfl
theorem ml_RL_145 : Cond.methodLink RL 145 yX4_relation ∈ BW := bw_t 1128 (by decide +kernel) rfl
theorem mi_X4_relation : Cond.instanceMethod yX4_relation ∈ BW := bw_t 1129 (by decide +kernel) rfl
theorem ms_X4_relation : Cond.selects RX4 yX4_relation yX4_relation ∈ BW := bw_t 1130 (by decide +kernel) rfl
theorem mc_X4_relation : Cond.code yX4_relation cX4_relation 3 (some .int) ∈ BW := bw_t 1131 (by decide +kernel) rfl
theorem ml_RX4_199 : Cond.methodLink RX4 199 yX4_isRelation ∈ BW := bw_t 1132 (by decide +kernel) rfl
theorem mi_X4_isRelation : Cond.instanceMethod yX4_isRelation ∈ BW := bw_t 1134 (by decide +kernel) rfl
theorem mc_X4_isRelation : Cond.code yX4_isRelation cX4_isRelation 2 (some .boolean) ∈ BW := bw_t 1135 (by decide +kernel) rfl
theorem ml_RX4_202 : Cond.methodLink RX4 202 yX4_relationValue ∈ BW := bw_t 1136 (by decide +kernel) rfl
theorem mi_X4_relationValue : Cond.instanceMethod yX4_relationValue ∈ BW := bw_t 1138 (by decide +kernel) rfl
theorem mc_X4_relationValue : Cond.code yX4_relationValue cX4_relationValue 3 (some .int) ∈ BW := bw_t 1139 (by decide +kernel) rfl
theorem ml_RL_148 : Cond.methodLink RL 148 yX4_behind ∈ BW := bw_t 1140 (by decide +kernel) rfl
theorem mi_X4_behind : Cond.instanceMethod yX4_behind ∈ BW := bw_t 1141 (by decide +kernel) rfl
theorem ms_X4_behind : Cond.selects RX4 yX4_behind yX4_behind ∈ BW := bw_t 1142 (by decide +kernel) rfl
theorem mc_X4_behind : Cond.code yX4_behind cX4_behind 2 (some .long) ∈ BW := bw_t 1143 (by decide +kernel) rfl
theorem ml_RL_152 : Cond.methodLink RL 152 yX4_completions ∈ BW := bw_t 1144 (by decide +kernel) rfl
theorem mi_X4_completions : Cond.instanceMethod yX4_completions ∈ BW := bw_t 1145 (by decide +kernel) rfl
theorem ms_X4_completions : Cond.selects RX4 yX4_completions yX4_completions ∈ BW := bw_t 1146 (by decide +kernel) rfl
theorem mc_X4_completions : Cond.code yX4_completions cX4_completions 5 (some .int) ∈ BW := bw_t 1147 (by decide +kernel) rfl
theorem ml_RL_155 : Cond.methodLink RL 155 yX4_cocircuit ∈ BW := bw_t 1148 (by decide +kernel) rfl
theorem mi_X4_cocircuit : Cond.instanceMethod yX4_cocircuit ∈ BW := bw_t 1149 (by decide +kernel) rfl
theorem ms_X4_cocircuit : Cond.selects RX4 yX4_cocircuit yX4_cocircuit ∈ BW := bw_t 1150 (by decide +kernel) rfl
theorem mc_X4_cocircuit : Cond.code yX4_cocircuit cX4_cocircuit 6 (some .int) ∈ BW := bw_t 1151 (by decide +kernel) rfl
theorem ml_RL_158 : Cond.methodLink RL 158 yX4_isExtreme ∈ BW := bw_t 1152 (by decide +kernel) rfl
theorem mi_X4_isExtreme : Cond.instanceMethod yX4_isExtreme ∈ BW := bw_t 1153 (by decide +kernel) rfl
theorem ms_X4_isExtreme : Cond.selects RX4 yX4_isExtreme yX4_isExtreme ∈ BW := bw_t 1154 (by decide +kernel) rfl
theorem mc_X4_isExtreme : Cond.code yX4_isExtreme cX4_isExtreme 2 (some .boolean) ∈ BW := bw_t 1155 (by decide +kernel) rfl
theorem ml_RX4_205 : Cond.methodLink RX4 205 yX4_extreme ∈ BW := bw_t 1156 (by decide +kernel) rfl
theorem mi_X4_extreme : Cond.instanceMethod yX4_extreme ∈ BW := bw_t 1158 (by decide +kernel) rfl
theorem mc_X4_extreme : Cond.code yX4_extreme cX4_extreme 9 (some .boolean) ∈ BW := bw_t 1159 (by decide +kernel) rfl
theorem ml_RL_161 : Cond.methodLink RL 161 yX4_lines ∈ BW := bw_t 1160 (by decide +kernel) rfl
theorem mi_X4_lines : Cond.instanceMethod yX4_lines ∈ BW := bw_t 1161 (by decide +kernel) rfl
theorem ms_X4_lines : Cond.selects RX4 yX4_lines yX4_lines ∈ BW := bw_t 1162 (by decide +kernel) rfl
theorem mc_X4_lines : Cond.code yX4_lines cX4_lines 7 (some .int) ∈ BW := bw_t 1163 (by decide +kernel) rfl
theorem ml_RX4_208 : Cond.methodLink RX4 208 yX4_lineOf ∈ BW := bw_t 1164 (by decide +kernel) rfl
theorem mi_X4_lineOf : Cond.instanceMethod yX4_lineOf ∈ BW := bw_t 1166 (by decide +kernel) rfl
theorem mc_X4_lineOf : Cond.code yX4_lineOf cX4_lineOf 5 (some .int) ∈ BW := bw_t 1167 (by decide +kernel) rfl
theorem ml_RL_164 : Cond.methodLink RL 164 yX4_place ∈ BW := bw_t 1168 (by decide +kernel) rfl
theorem mi_X4_place : Cond.instanceMethod yX4_place ∈ BW := bw_t 1169 (by decide +kernel) rfl
theorem ms_X4_place : Cond.selects RX4 yX4_place yX4_place ∈ BW := bw_t 1170 (by decide +kernel) rfl
theorem mc_X4_place : Cond.code yX4_place cX4_place 5 (some .boolean) ∈ BW := bw_t 1171 (by decide +kernel) rfl
theorem ml_RX4_211 : Cond.methodLink RX4 211 yX4_isPlaced ∈ BW := bw_t 1172 (by decide +kernel) rfl
theorem mi_X4_isPlaced : Cond.instanceMethod yX4_isPlaced ∈ BW := bw_t 1174 (by decide +kernel) rfl
theorem mc_X4_isPlaced : Cond.code yX4_isPlaced cX4_isPlaced 2 (some .boolean) ∈ BW := bw_t 1175 (by decide +kernel) rfl
theorem ml_RL_167 : Cond.methodLink RL 167 yX4_coordinate ∈ BW := bw_t 1176 (by decide +kernel) rfl
theorem mi_X4_coordinate : Cond.instanceMethod yX4_coordinate ∈ BW := bw_t 1177 (by decide +kernel) rfl
theorem ms_X4_coordinate : Cond.selects RX4 yX4_coordinate yX4_coordinate ∈ BW := bw_t 1178 (by decide +kernel) rfl
theorem mc_X4_coordinate : Cond.code yX4_coordinate cX4_coordinate 3 (some .int) ∈ BW := bw_t 1179 (by decide +kernel) rfl
theorem ml_RL_171 : Cond.methodLink RL 171 yX4_read ∈ BW := bw_t 1180 (by decide +kernel) rfl
theorem mi_X4_read : Cond.instanceMethod yX4_read ∈ BW := bw_t 1181 (by decide +kernel) rfl
theorem ms_X4_read : Cond.selects RX4 yX4_read yX4_read ∈ BW := bw_t 1182 (by decide +kernel) rfl
theorem mc_X4_read : Cond.code yX4_read cX4_read 3 (some .int) ∈ BW := bw_t 1183 (by decide +kernel) rfl
theorem ml_RX4_217 : Cond.methodLink RX4 217 yX4_isSeen ∈ BW := bw_t 1184 (by decide +kernel) rfl
theorem mi_X4_isSeen : Cond.instanceMethod yX4_isSeen ∈ BW := bw_t 1186 (by decide +kernel) rfl
theorem mc_X4_isSeen : Cond.code yX4_isSeen cX4_isSeen 2 (some .boolean) ∈ BW := bw_t 1187 (by decide +kernel) rfl
theorem ml_RX4_220 : Cond.methodLink RX4 220 yX4_signSeen ∈ BW := bw_t 1188 (by decide +kernel) rfl
theorem mi_X4_signSeen : Cond.instanceMethod yX4_signSeen ∈ BW := bw_t 1190 (by decide +kernel) rfl
theorem mc_X4_signSeen : Cond.code yX4_signSeen cX4_signSeen 6 (some .int) ∈ BW := bw_t 1191 (by decide +kernel) rfl
theorem ml_RX4_214 : Cond.methodLink RX4 214 yX4_apart ∈ BW := bw_t 1192 (by decide +kernel) rfl
theorem mi_X4_apart : Cond.instanceMethod yX4_apart ∈ BW := bw_t 1194 (by decide +kernel) rfl
theorem mc_X4_apart : Cond.code yX4_apart cX4_apart 4 (some .int) ∈ BW := bw_t 1195 (by decide +kernel) rfl
theorem ml_RL_175 : Cond.methodLink RL 175 yX4_mismatches ∈ BW := bw_t 1196 (by decide +kernel) rfl
theorem mi_X4_mismatches : Cond.instanceMethod yX4_mismatches ∈ BW := bw_t 1197 (by decide +kernel) rfl
theorem ms_X4_mismatches : Cond.selects RX4 yX4_mismatches yX4_mismatches ∈ BW := bw_t 1198 (by decide +kernel) rfl
theorem mc_X4_mismatches : Cond.code yX4_mismatches cX4_mismatches 1 (some .int) ∈ BW := bw_t 1199 (by decide +kernel) rfl
theorem ml_RX4_223 : Cond.methodLink RX4 223 yX4_wrong ∈ BW := bw_t 1200 (by decide +kernel) rfl
theorem mi_X4_wrong : Cond.instanceMethod yX4_wrong ∈ BW := bw_t 1202 (by decide +kernel) rfl
theorem mc_X4_wrong : Cond.code yX4_wrong cX4_wrong 3 (some .int) ∈ BW := bw_t 1203 (by decide +kernel) rfl
theorem ml_RL_178 : Cond.methodLink RL 178 yX4_scatter ∈ BW := bw_t 1204 (by decide +kernel) rfl
theorem mi_X4_scatter : Cond.instanceMethod yX4_scatter ∈ BW := bw_t 1205 (by decide +kernel) rfl
theorem ms_X4_scatter : Cond.selects RX4 yX4_scatter yX4_scatter ∈ BW := bw_t 1206 (by decide +kernel) rfl
theorem mc_X4_scatter : Cond.code yX4_scatter cX4_scatter 11 (some .int) ∈ BW := bw_t 1207 (by decide +kernel) rfl
theorem ct_RX4_226 : Cond.constant RX4 226 999999 ∈ BW := bw_t 1208 (by decide +kernel) rfl
theorem ct_RX4_227 : Cond.constantLong RX4 227 1103515245 ∈ BW := bw_t 1209 (by decide +kernel) rfl
theorem ct_RX4_229 : Cond.constantLong RX4 229 12345 ∈ BW := bw_t 1210 (by decide +kernel) rfl
theorem ct_RX4_231 : Cond.constantLong RX4 231 2147483648 ∈ BW := bw_t 1211 (by decide +kernel) rfl
theorem ct_RX4_233 : Cond.constantLong RX4 233 65536 ∈ BW := bw_t 1212 (by decide +kernel) rfl
theorem ct_RX4_235 : Cond.constantLong RX4 235 2 ∈ BW := bw_t 1213 (by decide +kernel) rfl
theorem ml_RL_181 : Cond.methodLink RL 181 yX4_type ∈ BW := bw_t 1214 (by decide +kernel) rfl
theorem mi_X4_type : Cond.instanceMethod yX4_type ∈ BW := bw_t 1215 (by decide +kernel) rfl
theorem ms_X4_type : Cond.selects RX4 yX4_type yX4_type ∈ BW := bw_t 1216 (by decide +kernel) rfl
theorem mc_X4_type : Cond.code yX4_type cX4_type 2 (some .int) ∈ BW := bw_t 1217 (by decide +kernel) rfl
theorem ml_RL_185 : Cond.methodLink RL 185 yX4_clearScript ∈ BW := bw_t 1218 (by decide +kernel) rfl
theorem mi_X4_clearScript : Cond.instanceMethod yX4_clearScript ∈ BW := bw_t 1219 (by decide +kernel) rfl
theorem ms_X4_clearScript : Cond.selects RX4 yX4_clearScript yX4_clearScript ∈ BW := bw_t 1220 (by decide +kernel) rfl
theorem mc_X4_clearScript : Cond.code yX4_clearScript cX4_clearScript 2 (some .int) ∈ BW := bw_t 1221 (by decide +kernel) rfl
theorem ml_RL_189 : Cond.methodLink RL 189 yX4_run ∈ BW := bw_t 1222 (by decide +kernel) rfl
theorem mi_X4_run : Cond.instanceMethod yX4_run ∈ BW := bw_t 1223 (by decide +kernel) rfl
theorem ms_X4_run : Cond.selects RX4 yX4_run yX4_run ∈ BW := bw_t 1224 (by decide +kernel) rfl
theorem mc_X4_run : Cond.code yX4_run cX4_run 4 (some .int) ∈ BW := bw_t 1225 (by decide +kernel) rfl
theorem ml_RX4_270 : Cond.methodLink RX4 270 yX4_skips ∈ BW := bw_t 1226 (by decide +kernel) rfl
theorem mi_X4_skips : Cond.instanceMethod yX4_skips ∈ BW := bw_t 1228 (by decide +kernel) rfl
theorem mc_X4_skips : Cond.code yX4_skips cX4_skips 2 (some .boolean) ∈ BW := bw_t 1229 (by decide +kernel) rfl
theorem ml_RX4_243 : Cond.methodLink RX4 243 yX4_isAt ∈ BW := bw_t 1230 (by decide +kernel) rfl
theorem mi_X4_isAt : Cond.instanceMethod yX4_isAt ∈ BW := bw_t 1232 (by decide +kernel) rfl
theorem mc_X4_isAt : Cond.code yX4_isAt cX4_isAt 3 (some .boolean) ∈ BW := bw_t 1233 (by decide +kernel) rfl
theorem ml_RX4_273 : Cond.methodLink RX4 273 yX4_isCommand ∈ BW := bw_t 1234 (by decide +kernel) rfl
theorem mi_X4_isCommand : Cond.instanceMethod yX4_isCommand ∈ BW := bw_t 1236 (by decide +kernel) rfl
theorem mc_X4_isCommand : Cond.code yX4_isCommand cX4_isCommand 5 (some .boolean) ∈ BW := bw_t 1237 (by decide +kernel) rfl
theorem ml_RX4_259 : Cond.methodLink RX4 259 yX4_wordOf ∈ BW := bw_t 1238 (by decide +kernel) rfl
theorem mt_X4_wordOf : Cond.static yX4_wordOf ∈ BW := bw_t 1239 (by decide +kernel) rfl
theorem mc_X4_wordOf : Cond.code yX4_wordOf cX4_wordOf 3 (some .int) ∈ BW := bw_t 1240 (by decide +kernel) rfl
theorem ct_RX4_247 : Cond.constantLong RX4 247 1886156147 ∈ BW := bw_t 1241 (by decide +kernel) rfl
theorem ct_RX4_249 : Cond.constantLong RX4 249 2053468783 ∈ BW := bw_t 1242 (by decide +kernel) rfl
theorem ct_RX4_251 : Cond.constantLong RX4 251 1685221232 ∈ BW := bw_t 1243 (by decide +kernel) rfl
theorem ct_RX4_253 : Cond.constantLong RX4 253 469920281971 ∈ BW := bw_t 1244 (by decide +kernel) rfl
theorem ct_RX4_255 : Cond.constantLong RX4 255 110386873988709 ∈ BW := bw_t 1245 (by decide +kernel) rfl
theorem ct_RX4_257 : Cond.constantLong RX4 257 120299659095922 ∈ BW := bw_t 1246 (by decide +kernel) rfl
theorem ml_RX4_266 : Cond.methodLink RX4 266 yX4_areNames ∈ BW := bw_t 1247 (by decide +kernel) rfl
theorem mi_X4_areNames : Cond.instanceMethod yX4_areNames ∈ BW := bw_t 1249 (by decide +kernel) rfl
theorem mc_X4_areNames : Cond.code yX4_areNames cX4_areNames 2 (some .boolean) ∈ BW := bw_t 1250 (by decide +kernel) rfl
theorem ml_RX4_276 : Cond.methodLink RX4 276 yX4_does ∈ BW := bw_t 1251 (by decide +kernel) rfl
theorem mi_X4_does : Cond.instanceMethod yX4_does ∈ BW := bw_t 1253 (by decide +kernel) rfl
theorem mc_X4_does : Cond.code yX4_does cX4_does 1 (some .int) ∈ BW := bw_t 1254 (by decide +kernel) rfl
theorem ml_RL_192 : Cond.methodLink RL 192 yX4_written ∈ BW := bw_t 1255 (by decide +kernel) rfl
theorem mi_X4_written : Cond.instanceMethod yX4_written ∈ BW := bw_t 1256 (by decide +kernel) rfl
theorem ms_X4_written : Cond.selects RX4 yX4_written yX4_written ∈ BW := bw_t 1257 (by decide +kernel) rfl
theorem mc_X4_written : Cond.code yX4_written cX4_written 5 (some .int) ∈ BW := bw_t 1258 (by decide +kernel) rfl
theorem ml_RX4_287 : Cond.methodLink RX4 287 yX4_letterOf ∈ BW := bw_t 1259 (by decide +kernel) rfl
theorem mt_X4_letterOf : Cond.static yX4_letterOf ∈ BW := bw_t 1260 (by decide +kernel) rfl
theorem mc_X4_letterOf : Cond.code yX4_letterOf cX4_letterOf 5 (some .int) ∈ BW := bw_t 1261 (by decide +kernel) rfl
theorem ct_RX4_279 : Cond.constantLong RX4 279 482855973664 ∈ BW := bw_t 1262 (by decide +kernel) rfl
theorem ct_RX4_281 : Cond.constantLong RX4 281 120299592184608 ∈ BW := bw_t 1263 (by decide +kernel) rfl
theorem ct_RX4_283 : Cond.constantLong RX4 283 525688008480 ∈ BW := bw_t 1264 (by decide +kernel) rfl
theorem ct_RX4_285 : Cond.constantLong RX4 285 127 ∈ BW := bw_t 1265 (by decide +kernel) rfl
theorem ml_RL_195 : Cond.methodLink RL 195 yX4_undo ∈ BW := bw_t 1266 (by decide +kernel) rfl
theorem mi_X4_undo : Cond.instanceMethod yX4_undo ∈ BW := bw_t 1267 (by decide +kernel) rfl
theorem ms_X4_undo : Cond.selects RX4 yX4_undo yX4_undo ∈ BW := bw_t 1268 (by decide +kernel) rfl
theorem mc_X4_undo : Cond.code yX4_undo cX4_undo 2 (some .int) ∈ BW := bw_t 1269 (by decide +kernel) rfl
theorem ml_RL_200 : Cond.methodLink RL 200 yX4_digest ∈ BW := bw_t 1270 (by decide +kernel) rfl
theorem mi_X4_digest : Cond.instanceMethod yX4_digest ∈ BW := bw_t 1271 (by decide +kernel) rfl
theorem ms_X4_digest : Cond.selects RX4 yX4_digest yX4_digest ∈ BW := bw_t 1272 (by decide +kernel) rfl
theorem mc_X4_digest : Cond.code yX4_digest cX4_digest 3 (some .long) ∈ BW := bw_t 1273 (by decide +kernel) rfl
theorem ct_RX4_296 : Cond.constantLong RX4 296 18398 ∈ BW := bw_t 1274 (by decide +kernel) rfl
theorem ml_RX4_298 : Cond.methodLink RX4 298 yX4_mix ∈ BW := bw_t 1275 (by decide +kernel) rfl
theorem mi_X4_mix : Cond.instanceMethod yX4_mix ∈ BW := bw_t 1277 (by decide +kernel) rfl
theorem mc_X4_mix : Cond.code yX4_mix cX4_mix 3 none ∈ BW := bw_t 1278 (by decide +kernel) rfl
theorem ct_RX4_290 : Cond.constantLong RX4 290 31 ∈ BW := bw_t 1279 (by decide +kernel) rfl
theorem fl_RJ0_9 : Cond.fieldLink RJ0 9 "java/lang/String" "value" "[B" ∈ BW := bw_t 1281 (by decide +kernel) rfl
theorem fl_RJ0_15 : Cond.fieldLink RJ0 15 "java/lang/String" "coder" "B" ∈ BW := bw_t 1282 (by decide +kernel) rfl
theorem ms_X2_clearFor : Cond.selects RX2 yX2_clearFor yX2_clearFor ∈ BW := bw_s 0 (q := (yX2_clearFor, 10)) (by decide +kernel)
theorem ms_X2_setUnknown : Cond.selects RX2 yX2_setUnknown yX2_setUnknown ∈ BW := bw_s 1 (q := (yX2_setUnknown, 10)) (by decide +kernel)
theorem ms_X0_arrange : Cond.selects RX0 yX0_arrange yX0_arrange ∈ BW := bw_s 2 (q := (yX0_arrange, 10)) (by decide +kernel)
theorem ms_X0_arrangeTriples : Cond.selects RX0 yX0_arrangeTriples yX0_arrangeTriples ∈ BW := bw_s 3 (q := (yX0_arrangeTriples, 10)) (by decide +kernel)
theorem ms_X0_addTriple : Cond.selects RX0 yX0_addTriple yX0_addTriple ∈ BW := bw_s 4 (q := (yX0_addTriple, 10)) (by decide +kernel)
theorem ms_X0_enter : Cond.selects RX0 yX0_enter yX0_enter ∈ BW := bw_s 5 (q := (yX0_enter, 10)) (by decide +kernel)
theorem ms_X0_arrangeRelations : Cond.selects RX0 yX0_arrangeRelations yX0_arrangeRelations ∈ BW := bw_s 6 (q := (yX0_arrangeRelations, 10)) (by decide +kernel)
theorem ms_X0_addRelation : Cond.selects RX0 yX0_addRelation yX0_addRelation ∈ BW := bw_s 7 (q := (yX0_addRelation, 10)) (by decide +kernel)
theorem ms_X0_setProduct : Cond.selects RX0 yX0_setProduct yX0_setProduct ∈ BW := bw_s 8 (q := (yX0_setProduct, 10)) (by decide +kernel)
theorem ms_X3_save : Cond.selects RX3 yX3_save yX3_save ∈ BW := bw_s 9 (q := (yX3_save, 12)) (by decide +kernel)
theorem ms_X2_copyFrom : Cond.selects RX2 yX2_copyFrom yX2_copyFrom ∈ BW := bw_s 10 (q := (yX2_copyFrom, 10)) (by decide +kernel)
theorem ms_X2_forgetDerived : Cond.selects RX2 yX2_forgetDerived yX2_forgetDerived ∈ BW := bw_s 11 (q := (yX2_forgetDerived, 10)) (by decide +kernel)
theorem ms_X3_deriveAll : Cond.selects RX3 yX3_deriveAll yX3_deriveAll ∈ BW := bw_s 12 (q := (yX3_deriveAll, 12)) (by decide +kernel)
theorem ms_X2_countKind : Cond.selects RX2 yX2_countKind yX2_countKind ∈ BW := bw_s 13 (q := (yX2_countKind, 10)) (by decide +kernel)
theorem ms_X3_deriveOnce : Cond.selects RX3 yX3_deriveOnce yX3_deriveOnce ∈ BW := bw_s 14 (q := (yX3_deriveOnce, 12)) (by decide +kernel)
theorem ms_X0_unknownIn : Cond.selects RX0 yX0_unknownIn yX0_unknownIn ∈ BW := bw_s 15 (q := (yX0_unknownIn, 10)) (by decide +kernel)
theorem ms_X3_deriveFrom : Cond.selects RX3 yX3_deriveFrom yX3_deriveFrom ∈ BW := bw_s 16 (q := (yX3_deriveFrom, 12)) (by decide +kernel)
theorem ms_X0_firstUnknownIn : Cond.selects RX0 yX0_firstUnknownIn yX0_firstUnknownIn ∈ BW := bw_s 17 (q := (yX0_firstUnknownIn, 10)) (by decide +kernel)
theorem ms_X0_factor : Cond.selects RX0 yX0_factor yX0_factor ∈ BW := bw_s 18 (q := (yX0_factor, 10)) (by decide +kernel)
theorem ms_X0_verdict : Cond.selects RX0 yX0_verdict yX0_verdict ∈ BW := bw_s 19 (q := (yX0_verdict, 10)) (by decide +kernel)
theorem ms_X3_reasonsOf : Cond.selects RX3 yX3_reasonsOf yX3_reasonsOf ∈ BW := bw_s 20 (q := (yX3_reasonsOf, 12)) (by decide +kernel)
theorem ms_X2_setDerived : Cond.selects RX2 yX2_setDerived yX2_setDerived ∈ BW := bw_s 21 (q := (yX2_setDerived, 10)) (by decide +kernel)
theorem ms_X3_negateAll : Cond.selects RX3 yX3_negateAll yX3_negateAll ∈ BW := bw_s 22 (q := (yX3_negateAll, 12)) (by decide +kernel)
theorem ms_X0_signAt : Cond.selects RX0 yX0_signAt yX0_signAt ∈ BW := bw_s 23 (q := (yX0_signAt, 10)) (by decide +kernel)
theorem ms_X0_corner : Cond.selects RX0 yX0_corner yX0_corner ∈ BW := bw_s 24 (q := (yX0_corner, 10)) (by decide +kernel)
theorem ms_X3_giveTriple : Cond.selects RX3 yX3_giveTriple yX3_giveTriple ∈ BW := bw_s 25 (q := (yX3_giveTriple, 12)) (by decide +kernel)
theorem ms_X2_setGiven : Cond.selects RX2 yX2_setGiven yX2_setGiven ∈ BW := bw_s 26 (q := (yX2_setGiven, 10)) (by decide +kernel)
theorem ms_X3_mismatchesAt : Cond.selects RX3 yX3_mismatchesAt yX3_mismatchesAt ∈ BW := bw_s 27 (q := (yX3_mismatchesAt, 12)) (by decide +kernel)
theorem ms_X1_parse : Cond.selects RX1 yX1_parse yX1_parse ∈ BW := bw_s 28 (q := (yX1_parse, 5)) (by decide +kernel)
theorem ms_X1_behindSpaces : Cond.selects RX1 yX1_behindSpaces yX1_behindSpaces ∈ BW := bw_s 29 (q := (yX1_behindSpaces, 5)) (by decide +kernel)
theorem ms_X1_behindCommand : Cond.selects RX1 yX1_behindCommand yX1_behindCommand ∈ BW := bw_s 30 (q := (yX1_behindCommand, 5)) (by decide +kernel)
theorem ms_X1_behindLetters : Cond.selects RX1 yX1_behindLetters yX1_behindLetters ∈ BW := bw_s 31 (q := (yX1_behindLetters, 5)) (by decide +kernel)
theorem ms_X1_wordBetween : Cond.selects RX1 yX1_wordBetween yX1_wordBetween ∈ BW := bw_s 32 (q := (yX1_wordBetween, 5)) (by decide +kernel)
theorem ms_X1_isSpelled : Cond.selects RX1 yX1_isSpelled yX1_isSpelled ∈ BW := bw_s 33 (q := (yX1_isSpelled, 5)) (by decide +kernel)
theorem ms_X1_behindNames : Cond.selects RX1 yX1_behindNames yX1_behindNames ∈ BW := bw_s 34 (q := (yX1_behindNames, 5)) (by decide +kernel)
theorem ms_X3_carryOut : Cond.selects RX3 yX3_carryOut yX3_carryOut ∈ BW := bw_s 35 (q := (yX3_carryOut, 12)) (by decide +kernel)
theorem ms_X1_name : Cond.selects RX1 yX1_name yX1_name ∈ BW := bw_s 36 (q := (yX1_name, 5)) (by decide +kernel)
theorem ms_X3_isPoint : Cond.selects RX3 yX3_isPoint yX3_isPoint ∈ BW := bw_s 37 (q := (yX3_isPoint, 12)) (by decide +kernel)
theorem ms_X3_giveOrdered : Cond.selects RX3 yX3_giveOrdered yX3_giveOrdered ∈ BW := bw_s 38 (q := (yX3_giveOrdered, 12)) (by decide +kernel)
theorem ms_X0_numberOf : Cond.selects RX0 yX0_numberOf yX0_numberOf ∈ BW := bw_s 39 (q := (yX0_numberOf, 10)) (by decide +kernel)
theorem ms_X0_parity : Cond.selects RX0 yX0_parity yX0_parity ∈ BW := bw_s 40 (q := (yX0_parity, 10)) (by decide +kernel)
theorem ms_X3_takeAway : Cond.selects RX3 yX3_takeAway yX3_takeAway ∈ BW := bw_s 41 (q := (yX3_takeAway, 12)) (by decide +kernel)
theorem ms_X3_countComplete : Cond.selects RX3 yX3_countComplete yX3_countComplete ∈ BW := bw_s 42 (q := (yX3_countComplete, 12)) (by decide +kernel)
theorem ms_X3_countViolated : Cond.selects RX3 yX3_countViolated yX3_countViolated ∈ BW := bw_s 43 (q := (yX3_countViolated, 12)) (by decide +kernel)
theorem ms_X3_requireTriple : Cond.selects RX3 yX3_requireTriple yX3_requireTriple ∈ BW := bw_s 45 (q := (yX3_requireTriple, 12)) (by decide +kernel)
theorem ms_X3_requireRelation : Cond.selects RX3 yX3_requireRelation yX3_requireRelation ∈ BW := bw_s 46 (q := (yX3_requireRelation, 12)) (by decide +kernel)
theorem ms_X0_member : Cond.selects RX0 yX0_member yX0_member ∈ BW := bw_s 47 (q := (yX0_member, 10)) (by decide +kernel)
theorem ms_X3_requirePoint : Cond.selects RX3 yX3_requirePoint yX3_requirePoint ∈ BW := bw_s 48 (q := (yX3_requirePoint, 12)) (by decide +kernel)
theorem ms_X3_borders : Cond.selects RX3 yX3_borders yX3_borders ∈ BW := bw_s 49 (q := (yX3_borders, 12)) (by decide +kernel)
theorem ms_X3_orderedSign : Cond.selects RX3 yX3_orderedSign yX3_orderedSign ∈ BW := bw_s 50 (q := (yX3_orderedSign, 12)) (by decide +kernel)
theorem ms_X0_hasCorner : Cond.selects RX0 yX0_hasCorner yX0_hasCorner ∈ BW := bw_s 51 (q := (yX0_hasCorner, 10)) (by decide +kernel)
theorem ms_X3_exchangeSigns : Cond.selects RX3 yX3_exchangeSigns yX3_exchangeSigns ∈ BW := bw_s 52 (q := (yX3_exchangeSigns, 12)) (by decide +kernel)
theorem ms_X3_exchangeCoordinates : Cond.selects RX3 yX3_exchangeCoordinates yX3_exchangeCoordinates ∈ BW := bw_s 53 (q := (yX3_exchangeCoordinates, 12)) (by decide +kernel)
theorem ms_X0_isViolatedWith : Cond.selects RX0 yX0_isViolatedWith yX0_isViolatedWith ∈ BW := bw_s 54 (q := (yX0_isViolatedWith, 10)) (by decide +kernel)
theorem ms_X3_lineMask : Cond.selects RX3 yX3_lineMask yX3_lineMask ∈ BW := bw_s 55 (q := (yX3_lineMask, 12)) (by decide +kernel)
theorem ms_X3_isListed : Cond.selects RX3 yX3_isListed yX3_isListed ∈ BW := bw_s 56 (q := (yX3_isListed, 12)) (by decide +kernel)
theorem ms_X3_tryPlacement : Cond.selects RX3 yX3_tryPlacement yX3_tryPlacement ∈ BW := bw_s 57 (q := (yX3_tryPlacement, 12)) (by decide +kernel)
theorem ms_X3_copyPoints : Cond.selects RX3 yX3_copyPoints yX3_copyPoints ∈ BW := bw_s 58 (q := (yX3_copyPoints, 12)) (by decide +kernel)
theorem ms_X3_writtenIn : Cond.selects RX3 yX3_writtenIn yX3_writtenIn ∈ BW := bw_s 59 (q := (yX3_writtenIn, 12)) (by decide +kernel)
theorem ms_X4_begins : Cond.selects RX4 yX4_begins yX4_begins ∈ BW := bw_s 60 (q := (yX4_begins, 24)) (by decide +kernel)
theorem ms_X4_clears : Cond.selects RX4 yX4_clears yX4_clears ∈ BW := bw_s 61 (q := (yX4_clears, 24)) (by decide +kernel)
theorem ms_X4_puts : Cond.selects RX4 yX4_puts yX4_puts ∈ BW := bw_s 62 (q := (yX4_puts, 24)) (by decide +kernel)
theorem ms_X4_lays : Cond.selects RX4 yX4_lays yX4_lays ∈ BW := bw_s 63 (q := (yX4_lays, 24)) (by decide +kernel)
theorem ms_X4_laysFrom : Cond.selects RX4 yX4_laysFrom yX4_laysFrom ∈ BW := bw_s 64 (q := (yX4_laysFrom, 24)) (by decide +kernel)
theorem ms_X4_fails : Cond.selects RX4 yX4_fails yX4_fails ∈ BW := bw_s 65 (q := (yX4_fails, 24)) (by decide +kernel)
theorem ms_X4_hold : Cond.selects RX4 yX4_hold yX4_hold ∈ BW := bw_s 66 (q := (yX4_hold, 24)) (by decide +kernel)
theorem ms_X4_ends : Cond.selects RX4 yX4_ends yX4_ends ∈ BW := bw_s 67 (q := (yX4_ends, 24)) (by decide +kernel)
theorem ms_X4_tells : Cond.selects RX4 yX4_tells yX4_tells ∈ BW := bw_s 68 (q := (yX4_tells, 24)) (by decide +kernel)
theorem ms_X4_givesTo : Cond.selects RX4 yX4_givesTo yX4_givesTo ∈ BW := bw_s 69 (q := (yX4_givesTo, 24)) (by decide +kernel)
theorem ms_X4_arePoints : Cond.selects RX4 yX4_arePoints yX4_arePoints ∈ BW := bw_s 70 (q := (yX4_arePoints, 24)) (by decide +kernel)
theorem ms_X4_isPoint : Cond.selects RX4 yX4_isPoint yX4_isPoint ∈ BW := bw_s 71 (q := (yX4_isPoint, 24)) (by decide +kernel)
theorem ms_X4_signOf : Cond.selects RX4 yX4_signOf yX4_signOf ∈ BW := bw_s 72 (q := (yX4_signOf, 24)) (by decide +kernel)
theorem ms_X4_tripleOf : Cond.selects RX4 yX4_tripleOf yX4_tripleOf ∈ BW := bw_s 73 (q := (yX4_tripleOf, 24)) (by decide +kernel)
theorem ms_X4_get : Cond.selects RX4 yX4_get yX4_get ∈ BW := bw_s 74 (q := (yX4_get, 24)) (by decide +kernel)
theorem ms_X4_gives : Cond.selects RX4 yX4_gives yX4_gives ∈ BW := bw_s 75 (q := (yX4_gives, 24)) (by decide +kernel)
theorem ms_X4_forgets : Cond.selects RX4 yX4_forgets yX4_forgets ∈ BW := bw_s 76 (q := (yX4_forgets, 24)) (by decide +kernel)
theorem ms_X4_done : Cond.selects RX4 yX4_done yX4_done ∈ BW := bw_s 77 (q := (yX4_done, 24)) (by decide +kernel)
theorem ms_X4_drops : Cond.selects RX4 yX4_drops yX4_drops ∈ BW := bw_s 78 (q := (yX4_drops, 24)) (by decide +kernel)
theorem ms_X4_derives : Cond.selects RX4 yX4_derives yX4_derives ∈ BW := bw_s 79 (q := (yX4_derives, 24)) (by decide +kernel)
theorem ms_X4_many : Cond.selects RX4 yX4_many yX4_many ∈ BW := bw_s 80 (q := (yX4_many, 24)) (by decide +kernel)
theorem ms_X4_tries : Cond.selects RX4 yX4_tries yX4_tries ∈ BW := bw_s 81 (q := (yX4_tries, 24)) (by decide +kernel)
theorem ms_X4_looksAt : Cond.selects RX4 yX4_looksAt yX4_looksAt ∈ BW := bw_s 82 (q := (yX4_looksAt, 24)) (by decide +kernel)
theorem ms_X4_looks : Cond.selects RX4 yX4_looks yX4_looks ∈ BW := bw_s 83 (q := (yX4_looks, 24)) (by decide +kernel)
theorem ms_X4_unknowns : Cond.selects RX4 yX4_unknowns yX4_unknowns ∈ BW := bw_s 84 (q := (yX4_unknowns, 24)) (by decide +kernel)
theorem ms_X4_isFulfilled : Cond.selects RX4 yX4_isFulfilled yX4_isFulfilled ∈ BW := bw_s 85 (q := (yX4_isFulfilled, 24)) (by decide +kernel)
theorem ms_X4_flips : Cond.selects RX4 yX4_flips yX4_flips ∈ BW := bw_s 86 (q := (yX4_flips, 24)) (by decide +kernel)
theorem ms_X4_isTriple : Cond.selects RX4 yX4_isTriple yX4_isTriple ∈ BW := bw_s 87 (q := (yX4_isTriple, 24)) (by decide +kernel)
theorem ms_X4_value : Cond.selects RX4 yX4_value yX4_value ∈ BW := bw_s 88 (q := (yX4_value, 24)) (by decide +kernel)
theorem ms_X4_laysReasons : Cond.selects RX4 yX4_laysReasons yX4_laysReasons ∈ BW := bw_s 89 (q := (yX4_laysReasons, 24)) (by decide +kernel)
theorem ms_X4_whyRelation : Cond.selects RX4 yX4_whyRelation yX4_whyRelation ∈ BW := bw_s 90 (q := (yX4_whyRelation, 24)) (by decide +kernel)
theorem ms_X4_counted : Cond.selects RX4 yX4_counted yX4_counted ∈ BW := bw_s 91 (q := (yX4_counted, 24)) (by decide +kernel)
theorem ms_X4_stated : Cond.selects RX4 yX4_stated yX4_stated ∈ BW := bw_s 92 (q := (yX4_stated, 24)) (by decide +kernel)
theorem ms_X4_state : Cond.selects RX4 yX4_state yX4_state ∈ BW := bw_s 93 (q := (yX4_state, 24)) (by decide +kernel)
theorem ms_X4_isRelation : Cond.selects RX4 yX4_isRelation yX4_isRelation ∈ BW := bw_s 94 (q := (yX4_isRelation, 24)) (by decide +kernel)
theorem ms_X4_relationValue : Cond.selects RX4 yX4_relationValue yX4_relationValue ∈ BW := bw_s 95 (q := (yX4_relationValue, 24)) (by decide +kernel)
theorem ms_X4_extreme : Cond.selects RX4 yX4_extreme yX4_extreme ∈ BW := bw_s 96 (q := (yX4_extreme, 24)) (by decide +kernel)
theorem ms_X4_lineOf : Cond.selects RX4 yX4_lineOf yX4_lineOf ∈ BW := bw_s 97 (q := (yX4_lineOf, 24)) (by decide +kernel)
theorem ms_X4_isPlaced : Cond.selects RX4 yX4_isPlaced yX4_isPlaced ∈ BW := bw_s 98 (q := (yX4_isPlaced, 24)) (by decide +kernel)
theorem ms_X4_isSeen : Cond.selects RX4 yX4_isSeen yX4_isSeen ∈ BW := bw_s 99 (q := (yX4_isSeen, 24)) (by decide +kernel)
theorem ms_X4_signSeen : Cond.selects RX4 yX4_signSeen yX4_signSeen ∈ BW := bw_s 100 (q := (yX4_signSeen, 24)) (by decide +kernel)
theorem ms_X4_apart : Cond.selects RX4 yX4_apart yX4_apart ∈ BW := bw_s 101 (q := (yX4_apart, 24)) (by decide +kernel)
theorem ms_X4_wrong : Cond.selects RX4 yX4_wrong yX4_wrong ∈ BW := bw_s 102 (q := (yX4_wrong, 24)) (by decide +kernel)
theorem ms_X4_skips : Cond.selects RX4 yX4_skips yX4_skips ∈ BW := bw_s 103 (q := (yX4_skips, 24)) (by decide +kernel)
theorem ms_X4_isAt : Cond.selects RX4 yX4_isAt yX4_isAt ∈ BW := bw_s 104 (q := (yX4_isAt, 24)) (by decide +kernel)
theorem ms_X4_isCommand : Cond.selects RX4 yX4_isCommand yX4_isCommand ∈ BW := bw_s 105 (q := (yX4_isCommand, 24)) (by decide +kernel)
theorem ms_X4_areNames : Cond.selects RX4 yX4_areNames yX4_areNames ∈ BW := bw_s 106 (q := (yX4_areNames, 24)) (by decide +kernel)
theorem ms_X4_does : Cond.selects RX4 yX4_does yX4_does ∈ BW := bw_s 107 (q := (yX4_does, 24)) (by decide +kernel)
theorem ms_X4_mix : Cond.selects RX4 yX4_mix yX4_mix ∈ BW := bw_s 108 (q := (yX4_mix, 24)) (by decide +kernel)
theorem inB_0 : ∀ w ∈ u_ws RX0 TX0 10, w ∈ BW := by decide +kernel
theorem inB_1 : ∀ w ∈ u_ws RX1 TX1 5, w ∈ BW := by decide +kernel
theorem inB_2 : ∀ w ∈ u_ws RX2 TX2 10, w ∈ BW := by decide +kernel
theorem inB_3 : ∀ w ∈ u_ws RX3 TX3 12, w ∈ BW := by decide +kernel
theorem inB_4 : ∀ w ∈ u_ws RX4 TX4 24, w ∈ BW := by decide +kernel
