-- ===== words and surroundings =====
/-- all good words of the tables -/
def gw : List Cond := lw_tbl.filter goodWord
theorem gw_tbl {w : Cond} (h : w ∈ gw) : w ∈ lw_tbl := (List.mem_filter.mp h).1
theorem gw_good : ∀ w ∈ gw, (w.onTables && w.keeps) = true ∨ ∃ ty, w = .arrayClass ty := fun _ h => good_of_word (List.mem_filter.mp h).2
abbrev bw (y : MethodName) (b : ByteArray) (n : Nat) (ret : Option FieldType) : List Cond := .code y b n ret :: gw
abbrev bwH (y : MethodName) (b : ByteArray) (n : Nat) (ret : Option FieldType) (hh : List (Nat × Nat × Nat × Nat)) : List Cond := .codeWith y b n ret hh :: gw
theorem bx_goodH {y : MethodName} {b : ByteArray} {n : Nat} {ret : Option FieldType} {hh : List (Nat × Nat × Nat × Nat)} (hc : Cond.codeWith y b n ret hh ∈ gw) : GoodIn gw (bwH y b n ret hh) := fun w h => by
  rcases List.mem_cons.mp h with h | h
  · rw [h]
    exact ⟨hc, gw_good _ hc⟩
  · exact ⟨h, gw_good _ h⟩
theorem bx_good {y : MethodName} {b : ByteArray} {n : Nat} {ret : Option FieldType} (hc : Cond.code y b n ret ∈ gw) : GoodIn gw (bw y b n ret) := fun w h => by
  rcases List.mem_cons.mp h with h | h
  · rw [h]
    exact ⟨hc, gw_good _ hc⟩
  · exact ⟨h, gw_good _ h⟩
-- ===== words by their places =====
theorem gw_at {w : Cond} (k : Nat) (h : tables_1[k]? = some w) (hg : goodWord w = true) : w ∈ gw := List.mem_filter.mpr ⟨List.mem_append_right _ (List.mem_of_getElem? h), hg⟩
theorem gw_sel {w : Cond} (k : Nat) (h : (k2_sels lw_privs)[k]? = some w) (hg : goodWord w = true) : w ∈ gw := List.mem_filter.mpr ⟨List.mem_append_left _ (List.mem_of_getElem? h), hg⟩
theorem ini_Law : Cond.initialized RL ∈ gw := gw_at 0 (by decide +kernel) (by decide +kernel)
theorem ini_BM : Cond.initialized RX3 ∈ gw := gw_at 1 (by decide +kernel) (by decide +kernel)
theorem ini_Net : Cond.initialized RX2 ∈ gw := gw_at 2 (by decide +kernel) (by decide +kernel)
theorem ini_Math : Cond.initialized RJm ∈ gw := gw_at 3 (by decide +kernel) (by decide +kernel)
theorem ini_Hunt : Cond.initialized RX1 ∈ gw := gw_at 4 (by decide +kernel) (by decide +kernel)
theorem ini_Hand : Cond.initialized RX0 ∈ gw := gw_at 5 (by decide +kernel) (by decide +kernel)
theorem ini_Mod : Cond.initialized RX4 ∈ gw := gw_at 6 (by decide +kernel) (by decide +kernel)
theorem ini_Throwable : (Cond.initialized "java/lang/Throwable") ∈ gw := gw_at 7 (by decide +kernel) (by decide +kernel)
theorem ini_Exception : (Cond.initialized "java/lang/Exception") ∈ gw := gw_at 8 (by decide +kernel) (by decide +kernel)
theorem ini_RuntimeException : (Cond.initialized "java/lang/RuntimeException") ∈ gw := gw_at 9 (by decide +kernel) (by decide +kernel)
theorem ini_IllegalArgumentException : (Cond.initialized "java/lang/IllegalArgumentException") ∈ gw := gw_at 10 (by decide +kernel) (by decide +kernel)
theorem ini_UnsupportedOperationException : (Cond.initialized "java/lang/UnsupportedOperationException") ∈ gw := gw_at 11 (by decide +kernel) (by decide +kernel)
theorem ini_Arrs : Cond.initialized RJa ∈ gw := gw_at 12 (by decide +kernel) (by decide +kernel)
theorem ini_IndexOutOfBoundsException : (Cond.initialized "java/lang/IndexOutOfBoundsException") ∈ gw := gw_at 13 (by decide +kernel) (by decide +kernel)
theorem lk_Law_8 : (Cond.classLink RL 8 "BoundedMachines") ∈ gw := gw_at 14 (by decide +kernel) (by decide +kernel)
theorem inst_BM : Cond.instantiable RX3 3 ∈ gw := gw_at 15 (by decide +kernel) (by decide +kernel)
theorem lk_Law_50 : (Cond.methodLink RL 50 y_BM_init) ∈ gw := gw_at 16 (by decide +kernel) (by decide +kernel)
theorem mi_BM_init : (Cond.instanceMethod y_BM_init) ∈ gw := gw_at 17 (by decide +kernel) (by decide +kernel)
set_option maxRecDepth 100000 in
theorem mc_BM_init : Cond.code y_BM_init b_BM_init 2 (none) ∈ gw := gw_at 18 rfl (by decide +kernel)
theorem lk_BM_1 : (Cond.methodLink RX3 1 objectInit) ∈ gw := gw_at 19 (by decide +kernel) (by decide +kernel)
theorem mi_obj : (Cond.instanceMethod objectInit) ∈ gw := gw_at 20 (by decide +kernel) (by decide +kernel)
set_option maxRecDepth 100000 in
theorem mc_obj : Cond.code objectInit ⟨#[0xb1]⟩ 1 none ∈ gw := gw_at 21 rfl (by decide +kernel)
theorem lk_BM_7 : (Cond.classLink RX3 7 "BoundedMachines$Net") ∈ gw := gw_at 22 (by decide +kernel) (by decide +kernel)
theorem inst_Net : Cond.instantiable RX2 13 ∈ gw := gw_at 23 (by decide +kernel) (by decide +kernel)
theorem lk_BM_9 : (Cond.methodLink RX3 9 y_Math_floorMod) ∈ gw := gw_at 24 (by decide +kernel) (by decide +kernel)
theorem mi_Math_floorMod : (Cond.static y_Math_floorMod) ∈ gw := gw_at 25 (by decide +kernel) (by decide +kernel)
set_option maxRecDepth 100000 in
theorem mc_Math_floorMod : Cond.code y_Math_floorMod b_Math_floorMod 3 (some .int) ∈ gw := gw_at 26 rfl (by decide +kernel)
theorem mi_Net_init : (Cond.instanceMethod y_Net_init) ∈ gw := gw_at 28 (by decide +kernel) (by decide +kernel)
set_option maxRecDepth 100000 in
theorem mc_Net_init : Cond.code y_Net_init b_Net_init 3 (none) ∈ gw := gw_at 29 rfl (by decide +kernel)
theorem lk_Net_3 : (Cond.methodLink RX2 3 objectInit) ∈ gw := gw_at 30 (by decide +kernel) (by decide +kernel)
theorem lk_Net_30 : (Cond.fieldLink RX2 30 "BoundedMachines$Net" "wordBits" "I") ∈ gw := gw_at 31 (by decide +kernel) (by decide +kernel)
theorem lk_Net_34 : (Cond.fieldLink RX2 34 "BoundedMachines$Net" "wordCount" "I") ∈ gw := gw_at 33 (by decide +kernel) (by decide +kernel)
theorem lk_Net_11 : (Cond.fieldLink RX2 11 "BoundedMachines$Net" "kinds" "[I") ∈ gw := gw_at 36 (by decide +kernel) (by decide +kernel)
theorem lk_Net_15 : (Cond.fieldLink RX2 15 "BoundedMachines$Net" "lefts" "[I") ∈ gw := gw_at 37 (by decide +kernel) (by decide +kernel)
theorem lk_Net_18 : (Cond.fieldLink RX2 18 "BoundedMachines$Net" "rights" "[I") ∈ gw := gw_at 38 (by decide +kernel) (by decide +kernel)
theorem lk_Net_21 : (Cond.fieldLink RX2 21 "BoundedMachines$Net" "nexts" "[I") ∈ gw := gw_at 39 (by decide +kernel) (by decide +kernel)
theorem lk_Net_24 : (Cond.fieldLink RX2 24 "BoundedMachines$Net" "pairLefts" "[I") ∈ gw := gw_at 40 (by decide +kernel) (by decide +kernel)
theorem lk_Net_27 : (Cond.fieldLink RX2 27 "BoundedMachines$Net" "pairRights" "[I") ∈ gw := gw_at 41 (by decide +kernel) (by decide +kernel)
theorem lk_Net_37 : (Cond.fieldLink RX2 37 "BoundedMachines$Net" "nodeCount" "I") ∈ gw := gw_at 42 (by decide +kernel) (by decide +kernel)
theorem lk_Net_40 : (Cond.fieldLink RX2 40 "BoundedMachines$Net" "stateCount" "I") ∈ gw := gw_at 44 (by decide +kernel) (by decide +kernel)
theorem lk_Net_63 : (Cond.fieldLink RX2 63 "BoundedMachines$Net" "statesOfSideOne" "I") ∈ gw := gw_at 46 (by decide +kernel) (by decide +kernel)
theorem lk_Net_43 : (Cond.fieldLink RX2 43 "BoundedMachines$Net" "pairCount" "I") ∈ gw := gw_at 48 (by decide +kernel) (by decide +kernel)
theorem lk_Net_60 : (Cond.fieldLink RX2 60 "BoundedMachines$Net" "firstRow" "I") ∈ gw := gw_at 52 (by decide +kernel) (by decide +kernel)
theorem m_arr_int : (Cond.arrayClass .int) ∈ gw := gw_at 80 (by decide +kernel) (by decide +kernel)
theorem lk_BM_24 : (Cond.classLink RX3 24 "BoundedMachines$Hunt") ∈ gw := gw_at 81 (by decide +kernel) (by decide +kernel)
theorem inst_Hunt : Cond.instantiable RX1 10 ∈ gw := gw_at 82 (by decide +kernel) (by decide +kernel)
theorem mi_Hunt_init : (Cond.instanceMethod y_Hunt_init) ∈ gw := gw_at 84 (by decide +kernel) (by decide +kernel)
set_option maxRecDepth 100000 in
theorem mc_Hunt_init : Cond.code y_Hunt_init b_Hunt_init 2 (none) ∈ gw := gw_at 85 rfl (by decide +kernel)
theorem lk_Hunt_5 : (Cond.methodLink RX1 5 objectInit) ∈ gw := gw_at 86 (by decide +kernel) (by decide +kernel)
theorem lk_Hunt_36 : (Cond.fieldLink RX1 36 "BoundedMachines$Hunt" "net" "LBoundedMachines$Net;") ∈ gw := gw_at 87 (by decide +kernel) (by decide +kernel)
theorem lk_Hunt_11 : (Cond.fieldLink RX1 11 "BoundedMachines$Hunt" "lanes" "[I") ∈ gw := gw_at 88 (by decide +kernel) (by decide +kernel)
theorem lk_Hunt_17 : (Cond.fieldLink RX1 17 "BoundedMachines$Hunt" "rows" "[I") ∈ gw := gw_at 89 (by decide +kernel) (by decide +kernel)
theorem lk_Hunt_20 : (Cond.fieldLink RX1 20 "BoundedMachines$Hunt" "origins" "[I") ∈ gw := gw_at 90 (by decide +kernel) (by decide +kernel)
theorem lk_Hunt_23 : (Cond.fieldLink RX1 23 "BoundedMachines$Hunt" "levelStarts" "[I") ∈ gw := gw_at 91 (by decide +kernel) (by decide +kernel)
theorem lk_Hunt_26 : (Cond.fieldLink RX1 26 "BoundedMachines$Hunt" "program" "[I") ∈ gw := gw_at 92 (by decide +kernel) (by decide +kernel)
theorem lk_Hunt_29 : (Cond.fieldLink RX1 29 "BoundedMachines$Hunt" "known" "[I") ∈ gw := gw_at 93 (by decide +kernel) (by decide +kernel)
theorem lk_Hunt_40 : (Cond.fieldLink RX1 40 "BoundedMachines$Hunt" "rowCount" "I") ∈ gw := gw_at 94 (by decide +kernel) (by decide +kernel)
theorem lk_Hunt_43 : (Cond.fieldLink RX1 43 "BoundedMachines$Hunt" "clearLevels" "I") ∈ gw := gw_at 96 (by decide +kernel) (by decide +kernel)
theorem lk_Hunt_32 : (Cond.fieldLink RX1 32 "BoundedMachines$Hunt" "programLength" "I") ∈ gw := gw_at 98 (by decide +kernel) (by decide +kernel)
theorem lk_BM_33 : (Cond.classLink RX3 33 "BoundedMachines$HandRun") ∈ gw := gw_at 121 (by decide +kernel) (by decide +kernel)
theorem inst_Hand : Cond.instantiable RX0 6 ∈ gw := gw_at 122 (by decide +kernel) (by decide +kernel)
theorem mi_Hand_init : (Cond.instanceMethod y_Hand_init) ∈ gw := gw_at 124 (by decide +kernel) (by decide +kernel)
set_option maxRecDepth 100000 in
theorem mc_Hand_init : Cond.code y_Hand_init b_Hand_init 2 (none) ∈ gw := gw_at 125 rfl (by decide +kernel)
theorem lk_Hand_3 : (Cond.methodLink RX0 3 objectInit) ∈ gw := gw_at 126 (by decide +kernel) (by decide +kernel)
theorem lk_Hand_21 : (Cond.fieldLink RX0 21 "BoundedMachines$HandRun" "net" "LBoundedMachines$Net;") ∈ gw := gw_at 127 (by decide +kernel) (by decide +kernel)
theorem lk_Hand_11 : (Cond.fieldLink RX0 11 "BoundedMachines$HandRun" "lanes" "[I") ∈ gw := gw_at 128 (by decide +kernel) (by decide +kernel)
theorem lk_Hand_28 : (Cond.fieldLink RX0 28 "BoundedMachines$HandRun" "row" "I") ∈ gw := gw_at 129 (by decide +kernel) (by decide +kernel)
theorem lk_Hand_31 : (Cond.fieldLink RX0 31 "BoundedMachines$HandRun" "lane" "I") ∈ gw := gw_at 130 (by decide +kernel) (by decide +kernel)
theorem lk_Hand_34 : (Cond.fieldLink RX0 34 "BoundedMachines$HandRun" "cycles" "I") ∈ gw := gw_at 131 (by decide +kernel) (by decide +kernel)
theorem lk_Hand_17 : (Cond.fieldLink RX0 17 "BoundedMachines$HandRun" "firstPair" "I") ∈ gw := gw_at 133 (by decide +kernel) (by decide +kernel)
theorem lk_BM_18 : (Cond.fieldLink RX3 18 "BoundedMachines" "net" "LBoundedMachines$Net;") ∈ gw := gw_at 148 (by decide +kernel) (by decide +kernel)
theorem lk_BM_29 : (Cond.fieldLink RX3 29 "BoundedMachines" "hunt" "LBoundedMachines$Hunt;") ∈ gw := gw_at 149 (by decide +kernel) (by decide +kernel)
theorem lk_BM_36 : (Cond.fieldLink RX3 36 "BoundedMachines" "hand" "LBoundedMachines$HandRun;") ∈ gw := gw_at 150 (by decide +kernel) (by decide +kernel)
theorem lk_Law_79 : (Cond.methodLink RL 79 y_BM_length) ∈ gw := gw_at 158 (by decide +kernel) (by decide +kernel)
theorem mi_BM_length : (Cond.instanceMethod y_BM_length) ∈ gw := gw_at 159 (by decide +kernel) (by decide +kernel)
theorem ms_BM_length : Cond.selects RX3 y_BM_length y_BM_length ∈ gw := gw_at 160 (by decide +kernel) (by decide +kernel)
set_option maxRecDepth 100000 in
theorem mc_BM_length : Cond.code y_BM_length b_BM_length 1 (some .int) ∈ gw := gw_at 161 rfl (by decide +kernel)
theorem lk_Law_86 : (Cond.methodLink RL 86 y_BM_clear) ∈ gw := gw_at 162 (by decide +kernel) (by decide +kernel)
theorem mi_BM_clear : (Cond.instanceMethod y_BM_clear) ∈ gw := gw_at 163 (by decide +kernel) (by decide +kernel)
theorem ms_BM_clear : Cond.selects RX3 y_BM_clear y_BM_clear ∈ gw := gw_at 164 (by decide +kernel) (by decide +kernel)
set_option maxRecDepth 100000 in
theorem mc_BM_clear : Cond.code y_BM_clear b_BM_clear 1 (some .int) ∈ gw := gw_at 165 rfl (by decide +kernel)
theorem lk_Law_90 : (Cond.methodLink RL 90 y_BM_seen) ∈ gw := gw_at 166 (by decide +kernel) (by decide +kernel)
theorem mi_BM_seen : (Cond.instanceMethod y_BM_seen) ∈ gw := gw_at 167 (by decide +kernel) (by decide +kernel)
theorem ms_BM_seen : Cond.selects RX3 y_BM_seen y_BM_seen ∈ gw := gw_at 168 (by decide +kernel) (by decide +kernel)
set_option maxRecDepth 100000 in
theorem mc_BM_seen : Cond.code y_BM_seen b_BM_seen 1 (some .int) ∈ gw := gw_at 169 rfl (by decide +kernel)
theorem lk_Law_97 : (Cond.methodLink RL 97 y_BM_begin) ∈ gw := gw_at 170 (by decide +kernel) (by decide +kernel)
theorem mi_BM_begin : (Cond.instanceMethod y_BM_begin) ∈ gw := gw_at 171 (by decide +kernel) (by decide +kernel)
theorem ms_BM_begin : Cond.selects RX3 y_BM_begin y_BM_begin ∈ gw := gw_at 172 (by decide +kernel) (by decide +kernel)
set_option maxRecDepth 100000 in
theorem mc_BM_begin : Cond.code y_BM_begin b_BM_begin 1 (none) ∈ gw := gw_at 173 rfl (by decide +kernel)
theorem mi_Hand_restart : (Cond.instanceMethod y_Hand_restart) ∈ gw := gw_at 176 (by decide +kernel) (by decide +kernel)
set_option maxRecDepth 100000 in
theorem mc_Hand_restart : Cond.code y_Hand_restart b_Hand_restart 1 (none) ∈ gw := gw_at 177 rfl (by decide +kernel)
theorem mi_Net_layAsAtFirst : (Cond.instanceMethod y_Net_layAsAtFirst) ∈ gw := gw_at 180 (by decide +kernel) (by decide +kernel)
set_option maxRecDepth 100000 in
theorem mc_Net_layAsAtFirst : Cond.code y_Net_layAsAtFirst b_Net_layAsAtFirst 3 (none) ∈ gw := gw_at 181 rfl (by decide +kernel)
theorem lk_Net_66 : (Cond.methodLink RX2 66 y_Net_lanesOfState) ∈ gw := gw_at 182 (by decide +kernel) (by decide +kernel)
theorem mi_Net_lanesOfState : (Cond.static y_Net_lanesOfState) ∈ gw := gw_at 183 (by decide +kernel) (by decide +kernel)
set_option maxRecDepth 100000 in
theorem mc_Net_lanesOfState : Cond.code y_Net_lanesOfState b_Net_lanesOfState 2 (some .int) ∈ gw := gw_at 184 rfl (by decide +kernel)
theorem lk_Law_101 : (Cond.methodLink RL 101 y_BM_cycle) ∈ gw := gw_at 185 (by decide +kernel) (by decide +kernel)
theorem mi_BM_cycle : (Cond.instanceMethod y_BM_cycle) ∈ gw := gw_at 186 (by decide +kernel) (by decide +kernel)
theorem ms_BM_cycle : Cond.selects RX3 y_BM_cycle y_BM_cycle ∈ gw := gw_at 187 (by decide +kernel) (by decide +kernel)
set_option maxRecDepth 100000 in
theorem mc_BM_cycle : Cond.code y_BM_cycle b_BM_cycle 2 (some .boolean) ∈ gw := gw_at 188 rfl (by decide +kernel)
theorem mi_Hand_step : (Cond.instanceMethod y_Hand_step) ∈ gw := gw_at 191 (by decide +kernel) (by decide +kernel)
set_option maxRecDepth 100000 in
theorem mc_Hand_step : Cond.code y_Hand_step b_Hand_step 2 (some .boolean) ∈ gw := gw_at 192 rfl (by decide +kernel)
theorem mi_Net_settle : (Cond.instanceMethod y_Net_settle) ∈ gw := gw_at 195 (by decide +kernel) (by decide +kernel)
set_option maxRecDepth 100000 in
theorem mc_Net_settle : Cond.code y_Net_settle b_Net_settle 4 (none) ∈ gw := gw_at 196 rfl (by decide +kernel)
theorem lk_Net_70 : (Cond.methodLink RX2 70 y_Net_lanesOf) ∈ gw := gw_at 197 (by decide +kernel) (by decide +kernel)
theorem mi_Net_lanesOf : (Cond.instanceMethod y_Net_lanesOf) ∈ gw := gw_at 199 (by decide +kernel) (by decide +kernel)
set_option maxRecDepth 100000 in
theorem mc_Net_lanesOf : Cond.code y_Net_lanesOf b_Net_lanesOf 6 (some .int) ∈ gw := gw_at 200 rfl (by decide +kernel)
theorem lk_Net_74 : (Cond.fieldLink RX2 74 "BoundedMachines$Net" "LANES_OF_WORD_BITS" "[I") ∈ gw := gw_at 201 (by decide +kernel) (by decide +kernel)
theorem mi_Net_firstDifferingPair : (Cond.instanceMethod y_Net_firstDifferingPair) ∈ gw := gw_at 205 (by decide +kernel) (by decide +kernel)
set_option maxRecDepth 100000 in
theorem mc_Net_firstDifferingPair : Cond.code y_Net_firstDifferingPair b_Net_firstDifferingPair 5 (some .int) ∈ gw := gw_at 206 rfl (by decide +kernel)
theorem mi_Net_rowAfter : (Cond.instanceMethod y_Net_rowAfter) ∈ gw := gw_at 209 (by decide +kernel) (by decide +kernel)
set_option maxRecDepth 100000 in
theorem mc_Net_rowAfter : Cond.code y_Net_rowAfter b_Net_rowAfter 5 (some .int) ∈ gw := gw_at 210 rfl (by decide +kernel)
theorem lk_Law_108 : (Cond.methodLink RL 108 y_BM_replay) ∈ gw := gw_at 211 (by decide +kernel) (by decide +kernel)
theorem mi_BM_replay : (Cond.instanceMethod y_BM_replay) ∈ gw := gw_at 212 (by decide +kernel) (by decide +kernel)
theorem ms_BM_replay : Cond.selects RX3 y_BM_replay y_BM_replay ∈ gw := gw_at 213 (by decide +kernel) (by decide +kernel)
set_option maxRecDepth 100000 in
theorem mc_BM_replay : Cond.code y_BM_replay b_BM_replay 4 (some .int) ∈ gw := gw_at 214 rfl (by decide +kernel)
theorem mi_Hunt_programWord : (Cond.instanceMethod y_Hunt_programWord) ∈ gw := gw_at 217 (by decide +kernel) (by decide +kernel)
set_option maxRecDepth 100000 in
theorem mc_Hunt_programWord : Cond.code y_Hunt_programWord b_Hunt_programWord 2 (some .int) ∈ gw := gw_at 218 rfl (by decide +kernel)
theorem lk_Law_112 : (Cond.methodLink RL 112 y_BM_count) ∈ gw := gw_at 219 (by decide +kernel) (by decide +kernel)
theorem mi_BM_count : (Cond.instanceMethod y_BM_count) ∈ gw := gw_at 220 (by decide +kernel) (by decide +kernel)
theorem ms_BM_count : Cond.selects RX3 y_BM_count y_BM_count ∈ gw := gw_at 221 (by decide +kernel) (by decide +kernel)
set_option maxRecDepth 100000 in
theorem mc_BM_count : Cond.code y_BM_count b_BM_count 2 (some .int) ∈ gw := gw_at 222 rfl (by decide +kernel)
theorem mi_Net_gateCount : (Cond.instanceMethod y_Net_gateCount) ∈ gw := gw_at 225 (by decide +kernel) (by decide +kernel)
set_option maxRecDepth 100000 in
theorem mc_Net_gateCount : Cond.code y_Net_gateCount b_Net_gateCount 1 (some .int) ∈ gw := gw_at 226 rfl (by decide +kernel)
theorem lk_Law_44 : (Cond.methodLink RL 44 y_Law_cell) ∈ gw := gw_at 227 (by decide +kernel) (by decide +kernel)
theorem mi_Law_cell : (Cond.static y_Law_cell) ∈ gw := gw_at 228 (by decide +kernel) (by decide +kernel)
set_option maxRecDepth 100000 in
theorem mc_Law_cell : Cond.code y_Law_cell b_Law_cell 2 (some .int) ∈ gw := gw_at 229 rfl (by decide +kernel)
theorem lk_Law_56 : (Cond.methodLink RL 56 y_Law_state) ∈ gw := gw_at 230 (by decide +kernel) (by decide +kernel)
theorem mi_Law_state : (Cond.static y_Law_state) ∈ gw := gw_at 231 (by decide +kernel) (by decide +kernel)
set_option maxRecDepth 100000 in
theorem mc_Law_state : Cond.codeWith y_Law_state b_Law_state 5 (some .int) [(0, 10, 13, 13), (0, 10, 17, 15)] ∈ gw := gw_at 232 rfl (by decide +kernel)
theorem lk_Law_13 : (Cond.classLink RL 13 "java/lang/IllegalArgumentException") ∈ gw := gw_at 233 (by decide +kernel) (by decide +kernel)
theorem lk_Law_15 : (Cond.classLink RL 15 "java/lang/UnsupportedOperationException") ∈ gw := gw_at 234 (by decide +kernel) (by decide +kernel)
theorem lk_Law_7 : (Cond.methodLink RL 7 y_BM_state) ∈ gw := gw_at 235 (by decide +kernel) (by decide +kernel)
theorem mi_BM_state : (Cond.instanceMethod y_BM_state) ∈ gw := gw_at 236 (by decide +kernel) (by decide +kernel)
theorem ms_BM_state : Cond.selects RX3 y_BM_state y_BM_state ∈ gw := gw_at 237 (by decide +kernel) (by decide +kernel)
set_option maxRecDepth 100000 in
theorem mc_BM_state : Cond.code y_BM_state b_BM_state 4 (some .int) ∈ gw := gw_at 238 rfl (by decide +kernel)
theorem lk_BM_40 : (Cond.classLink RX3 40 "java/lang/IllegalArgumentException") ∈ gw := gw_at 239 (by decide +kernel) (by decide +kernel)
theorem lk_BM_44 : (Cond.methodLink RX3 44 ⟨"java/lang/IllegalArgumentException", "<init>", "(Ljava/lang/String;)V"⟩) ∈ gw := gw_at 281 (by decide +kernel) (by decide +kernel)
theorem m_arr_byte : (Cond.arrayClass .byte) ∈ gw := gw_at 306 (by decide +kernel) (by decide +kernel)
theorem mi_Net_hasAllStates : (Cond.instanceMethod y_Net_hasAllStates) ∈ gw := gw_at 309 (by decide +kernel) (by decide +kernel)
set_option maxRecDepth 100000 in
theorem mc_Net_hasAllStates : Cond.code y_Net_hasAllStates b_Net_hasAllStates 1 (some .boolean) ∈ gw := gw_at 310 rfl (by decide +kernel)
theorem mi_Net_hasAllNodes : (Cond.instanceMethod y_Net_hasAllNodes) ∈ gw := gw_at 313 (by decide +kernel) (by decide +kernel)
set_option maxRecDepth 100000 in
theorem mc_Net_hasAllNodes : Cond.code y_Net_hasAllNodes b_Net_hasAllNodes 1 (some .boolean) ∈ gw := gw_at 314 rfl (by decide +kernel)
theorem lk_BM_54 : (Cond.classLink RX3 54 "java/lang/UnsupportedOperationException") ∈ gw := gw_at 315 (by decide +kernel) (by decide +kernel)
theorem lk_BM_58 : (Cond.methodLink RX3 58 ⟨"java/lang/UnsupportedOperationException", "<init>", "(Ljava/lang/String;)V"⟩) ∈ gw := gw_at 325 (by decide +kernel) (by decide +kernel)
theorem mi_Net_addState : (Cond.instanceMethod y_Net_addState) ∈ gw := gw_at 333 (by decide +kernel) (by decide +kernel)
set_option maxRecDepth 100000 in
theorem mc_Net_addState : Cond.code y_Net_addState b_Net_addState 4 (some .int) ∈ gw := gw_at 334 rfl (by decide +kernel)
theorem lk_Net_56 : (Cond.methodLink RX2 56 y_Net_addNode) ∈ gw := gw_at 335 (by decide +kernel) (by decide +kernel)
theorem mi_Net_addNode : (Cond.instanceMethod y_Net_addNode) ∈ gw := gw_at 337 (by decide +kernel) (by decide +kernel)
set_option maxRecDepth 100000 in
theorem mc_Net_addNode : Cond.code y_Net_addNode b_Net_addNode 5 (some .int) ∈ gw := gw_at 338 rfl (by decide +kernel)
theorem lk_BM_63 : (Cond.methodLink RX3 63 y_BM_startAnew) ∈ gw := gw_at 339 (by decide +kernel) (by decide +kernel)
theorem mi_BM_startAnew : (Cond.instanceMethod y_BM_startAnew) ∈ gw := gw_at 341 (by decide +kernel) (by decide +kernel)
set_option maxRecDepth 100000 in
theorem mc_BM_startAnew : Cond.code y_BM_startAnew b_BM_startAnew 1 (none) ∈ gw := gw_at 342 rfl (by decide +kernel)
theorem mi_Hunt_forget : (Cond.instanceMethod y_Hunt_forget) ∈ gw := gw_at 345 (by decide +kernel) (by decide +kernel)
set_option maxRecDepth 100000 in
theorem mc_Hunt_forget : Cond.code y_Hunt_forget b_Hunt_forget 1 (none) ∈ gw := gw_at 346 rfl (by decide +kernel)
theorem lk_Law_64 : (Cond.methodLink RL 64 y_Law_gate) ∈ gw := gw_at 347 (by decide +kernel) (by decide +kernel)
theorem mi_Law_gate : (Cond.static y_Law_gate) ∈ gw := gw_at 348 (by decide +kernel) (by decide +kernel)
set_option maxRecDepth 100000 in
theorem mc_Law_gate : Cond.codeWith y_Law_gate b_Law_gate 6 (some .int) [(0, 12, 15, 13), (0, 12, 19, 15)] ∈ gw := gw_at 349 rfl (by decide +kernel)
theorem lk_Law_17 : (Cond.methodLink RL 17 y_BM_gate) ∈ gw := gw_at 350 (by decide +kernel) (by decide +kernel)
theorem mi_BM_gate : (Cond.instanceMethod y_BM_gate) ∈ gw := gw_at 351 (by decide +kernel) (by decide +kernel)
theorem ms_BM_gate : Cond.selects RX3 y_BM_gate y_BM_gate ∈ gw := gw_at 352 (by decide +kernel) (by decide +kernel)
set_option maxRecDepth 100000 in
theorem mc_BM_gate : Cond.code y_BM_gate b_BM_gate 5 (some .int) ∈ gw := gw_at 353 rfl (by decide +kernel)
theorem mi_Net_takesGate : (Cond.instanceMethod y_Net_takesGate) ∈ gw := gw_at 356 (by decide +kernel) (by decide +kernel)
set_option maxRecDepth 100000 in
theorem mc_Net_takesGate : Cond.code y_Net_takesGate b_Net_takesGate 4 (some .boolean) ∈ gw := gw_at 357 rfl (by decide +kernel)
theorem lk_Net_50 : (Cond.methodLink RX2 50 y_Net_wantsLeft) ∈ gw := gw_at 358 (by decide +kernel) (by decide +kernel)
theorem mi_Net_wantsLeft : (Cond.static y_Net_wantsLeft) ∈ gw := gw_at 359 (by decide +kernel) (by decide +kernel)
set_option maxRecDepth 100000 in
theorem mc_Net_wantsLeft : Cond.code y_Net_wantsLeft b_Net_wantsLeft 1 (some .boolean) ∈ gw := gw_at 360 rfl (by decide +kernel)
theorem lk_Net_46 : (Cond.methodLink RX2 46 y_Net_isNode) ∈ gw := gw_at 361 (by decide +kernel) (by decide +kernel)
theorem mi_Net_isNode : (Cond.instanceMethod y_Net_isNode) ∈ gw := gw_at 363 (by decide +kernel) (by decide +kernel)
set_option maxRecDepth 100000 in
theorem mc_Net_isNode : Cond.code y_Net_isNode b_Net_isNode 2 (some .boolean) ∈ gw := gw_at 364 rfl (by decide +kernel)
theorem lk_Net_53 : (Cond.methodLink RX2 53 y_Net_wantsRight) ∈ gw := gw_at 365 (by decide +kernel) (by decide +kernel)
theorem mi_Net_wantsRight : (Cond.static y_Net_wantsRight) ∈ gw := gw_at 366 (by decide +kernel) (by decide +kernel)
set_option maxRecDepth 100000 in
theorem mc_Net_wantsRight : Cond.code y_Net_wantsRight b_Net_wantsRight 1 (some .boolean) ∈ gw := gw_at 367 rfl (by decide +kernel)
theorem mi_Net_addGate : (Cond.instanceMethod y_Net_addGate) ∈ gw := gw_at 372 (by decide +kernel) (by decide +kernel)
set_option maxRecDepth 100000 in
theorem mc_Net_addGate : Cond.code y_Net_addGate b_Net_addGate 4 (some .int) ∈ gw := gw_at 373 rfl (by decide +kernel)
theorem lk_Law_68 : (Cond.methodLink RL 68 y_Law_next) ∈ gw := gw_at 374 (by decide +kernel) (by decide +kernel)
theorem mi_Law_next : (Cond.static y_Law_next) ∈ gw := gw_at 375 (by decide +kernel) (by decide +kernel)
set_option maxRecDepth 100000 in
theorem mc_Law_next : Cond.codeWith y_Law_next b_Law_next 5 (some .int) [(0, 10, 13, 13)] ∈ gw := gw_at 376 rfl (by decide +kernel)
theorem lk_Law_21 : (Cond.methodLink RL 21 y_BM_next) ∈ gw := gw_at 377 (by decide +kernel) (by decide +kernel)
theorem mi_BM_next : (Cond.instanceMethod y_BM_next) ∈ gw := gw_at 378 (by decide +kernel) (by decide +kernel)
theorem ms_BM_next : Cond.selects RX3 y_BM_next y_BM_next ∈ gw := gw_at 379 (by decide +kernel) (by decide +kernel)
set_option maxRecDepth 100000 in
theorem mc_BM_next : Cond.code y_BM_next b_BM_next 4 (some .int) ∈ gw := gw_at 380 rfl (by decide +kernel)
theorem mi_Net_isState : (Cond.instanceMethod y_Net_isState) ∈ gw := gw_at 383 (by decide +kernel) (by decide +kernel)
set_option maxRecDepth 100000 in
theorem mc_Net_isState : Cond.code y_Net_isState b_Net_isState 2 (some .boolean) ∈ gw := gw_at 384 rfl (by decide +kernel)
theorem mi_Net_changeNext : (Cond.instanceMethod y_Net_changeNext) ∈ gw := gw_at 389 (by decide +kernel) (by decide +kernel)
set_option maxRecDepth 100000 in
theorem mc_Net_changeNext : Cond.code y_Net_changeNext b_Net_changeNext 5 (some .int) ∈ gw := gw_at 390 rfl (by decide +kernel)
theorem lk_Law_72 : (Cond.methodLink RL 72 y_Law_compare) ∈ gw := gw_at 391 (by decide +kernel) (by decide +kernel)
theorem mi_Law_compare : (Cond.static y_Law_compare) ∈ gw := gw_at 392 (by decide +kernel) (by decide +kernel)
set_option maxRecDepth 100000 in
theorem mc_Law_compare : Cond.codeWith y_Law_compare b_Law_compare 5 (some .int) [(0, 10, 13, 13), (0, 10, 17, 15)] ∈ gw := gw_at 393 rfl (by decide +kernel)
theorem lk_Law_25 : (Cond.methodLink RL 25 y_BM_compare) ∈ gw := gw_at 394 (by decide +kernel) (by decide +kernel)
theorem mi_BM_compare : (Cond.instanceMethod y_BM_compare) ∈ gw := gw_at 395 (by decide +kernel) (by decide +kernel)
theorem ms_BM_compare : Cond.selects RX3 y_BM_compare y_BM_compare ∈ gw := gw_at 396 (by decide +kernel) (by decide +kernel)
set_option maxRecDepth 100000 in
theorem mc_BM_compare : Cond.code y_BM_compare b_BM_compare 3 (some .int) ∈ gw := gw_at 397 rfl (by decide +kernel)
theorem mi_Net_hasAllPairs : (Cond.instanceMethod y_Net_hasAllPairs) ∈ gw := gw_at 401 (by decide +kernel) (by decide +kernel)
set_option maxRecDepth 100000 in
theorem mc_Net_hasAllPairs : Cond.code y_Net_hasAllPairs b_Net_hasAllPairs 1 (some .boolean) ∈ gw := gw_at 402 rfl (by decide +kernel)
theorem mi_Net_addPair : (Cond.instanceMethod y_Net_addPair) ∈ gw := gw_at 406 (by decide +kernel) (by decide +kernel)
set_option maxRecDepth 100000 in
theorem mc_Net_addPair : Cond.code y_Net_addPair b_Net_addPair 3 (none) ∈ gw := gw_at 407 rfl (by decide +kernel)
theorem lk_Law_75 : (Cond.methodLink RL 75 y_Law_search) ∈ gw := gw_at 408 (by decide +kernel) (by decide +kernel)
theorem mi_Law_search : (Cond.static y_Law_search) ∈ gw := gw_at 409 (by decide +kernel) (by decide +kernel)
set_option maxRecDepth 100000 in
theorem mc_Law_search : Cond.codeWith y_Law_search b_Law_search 4 (some .int) [(0, 9, 12, 13)] ∈ gw := gw_at 410 rfl (by decide +kernel)
theorem lk_Law_28 : (Cond.methodLink RL 28 y_BM_search) ∈ gw := gw_at 411 (by decide +kernel) (by decide +kernel)
theorem mi_BM_search : (Cond.instanceMethod y_BM_search) ∈ gw := gw_at 412 (by decide +kernel) (by decide +kernel)
theorem ms_BM_search : Cond.selects RX3 y_BM_search y_BM_search ∈ gw := gw_at 413 (by decide +kernel) (by decide +kernel)
set_option maxRecDepth 100000 in
theorem mc_BM_search : Cond.code y_BM_search b_BM_search 2 (some .int) ∈ gw := gw_at 414 rfl (by decide +kernel)
theorem mi_Hunt_goOn : (Cond.instanceMethod y_Hunt_goOn) ∈ gw := gw_at 418 (by decide +kernel) (by decide +kernel)
set_option maxRecDepth 100000 in
theorem mc_Hunt_goOn : Cond.code y_Hunt_goOn b_Hunt_goOn 3 (none) ∈ gw := gw_at 419 rfl (by decide +kernel)
theorem lk_Hunt_46 : (Cond.methodLink RX1 46 y_Hunt_start) ∈ gw := gw_at 420 (by decide +kernel) (by decide +kernel)
theorem mi_Hunt_start : (Cond.instanceMethod y_Hunt_start) ∈ gw := gw_at 422 (by decide +kernel) (by decide +kernel)
set_option maxRecDepth 100000 in
theorem mc_Hunt_start : Cond.code y_Hunt_start b_Hunt_start 1 (none) ∈ gw := gw_at 423 rfl (by decide +kernel)
theorem lk_Hunt_56 : (Cond.methodLink RX1 56 y_Arrs_fill) ∈ gw := gw_at 424 (by decide +kernel) (by decide +kernel)
theorem mi_Arrs_fill : (Cond.static y_Arrs_fill) ∈ gw := gw_at 425 (by decide +kernel) (by decide +kernel)
set_option maxRecDepth 100000 in
theorem mc_Arrs_fill : Cond.code y_Arrs_fill b_Arrs_fill 4 (none) ∈ gw := gw_at 426 rfl (by decide +kernel)
theorem lk_Hunt_65 : (Cond.methodLink RX1 65 y_Hunt_keepIfNew) ∈ gw := gw_at 427 (by decide +kernel) (by decide +kernel)
theorem mi_Hunt_keepIfNew : (Cond.instanceMethod y_Hunt_keepIfNew) ∈ gw := gw_at 429 (by decide +kernel) (by decide +kernel)
set_option maxRecDepth 100000 in
theorem mc_Hunt_keepIfNew : Cond.code y_Hunt_keepIfNew b_Hunt_keepIfNew 5 (some .boolean) ∈ gw := gw_at 430 rfl (by decide +kernel)
theorem lk_Hunt_49 : (Cond.methodLink RX1 49 y_Hunt_hasOpenLevel) ∈ gw := gw_at 431 (by decide +kernel) (by decide +kernel)
theorem mi_Hunt_hasOpenLevel : (Cond.instanceMethod y_Hunt_hasOpenLevel) ∈ gw := gw_at 433 (by decide +kernel) (by decide +kernel)
set_option maxRecDepth 100000 in
theorem mc_Hunt_hasOpenLevel : Cond.code y_Hunt_hasOpenLevel b_Hunt_hasOpenLevel 1 (some .boolean) ∈ gw := gw_at 434 rfl (by decide +kernel)
theorem lk_Hunt_69 : (Cond.methodLink RX1 69 y_Hunt_rowsOfLevel) ∈ gw := gw_at 435 (by decide +kernel) (by decide +kernel)
theorem mi_Hunt_rowsOfLevel : (Cond.instanceMethod y_Hunt_rowsOfLevel) ∈ gw := gw_at 437 (by decide +kernel) (by decide +kernel)
set_option maxRecDepth 100000 in
theorem mc_Hunt_rowsOfLevel : Cond.code y_Hunt_rowsOfLevel b_Hunt_rowsOfLevel 2 (some .int) ∈ gw := gw_at 438 rfl (by decide +kernel)
theorem lk_Hunt_53 : (Cond.methodLink RX1 53 y_Hunt_askLevel) ∈ gw := gw_at 439 (by decide +kernel) (by decide +kernel)
theorem mi_Hunt_askLevel : (Cond.instanceMethod y_Hunt_askLevel) ∈ gw := gw_at 441 (by decide +kernel) (by decide +kernel)
set_option maxRecDepth 100000 in
theorem mc_Hunt_askLevel : Cond.code y_Hunt_askLevel b_Hunt_askLevel 4 (none) ∈ gw := gw_at 442 rfl (by decide +kernel)
theorem mi_Net_leastDifferingWord : (Cond.instanceMethod y_Net_leastDifferingWord) ∈ gw := gw_at 446 (by decide +kernel) (by decide +kernel)
set_option maxRecDepth 100000 in
theorem mc_Net_leastDifferingWord : Cond.code y_Net_leastDifferingWord b_Net_leastDifferingWord 4 (some .int) ∈ gw := gw_at 447 rfl (by decide +kernel)
theorem lk_Hunt_81 : (Cond.methodLink RX1 81 y_Hunt_tellProgram) ∈ gw := gw_at 448 (by decide +kernel) (by decide +kernel)
theorem mi_Hunt_tellProgram : (Cond.instanceMethod y_Hunt_tellProgram) ∈ gw := gw_at 450 (by decide +kernel) (by decide +kernel)
set_option maxRecDepth 100000 in
theorem mc_Hunt_tellProgram : Cond.code y_Hunt_tellProgram b_Hunt_tellProgram 5 (none) ∈ gw := gw_at 451 rfl (by decide +kernel)
theorem lk_Hunt_85 : (Cond.methodLink RX1 85 y_Hunt_gather) ∈ gw := gw_at 452 (by decide +kernel) (by decide +kernel)
theorem mi_Hunt_gather : (Cond.instanceMethod y_Hunt_gather) ∈ gw := gw_at 454 (by decide +kernel) (by decide +kernel)
set_option maxRecDepth 100000 in
theorem mc_Hunt_gather : Cond.code y_Hunt_gather b_Hunt_gather 5 (some .int) ∈ gw := gw_at 455 rfl (by decide +kernel)
theorem lk_Law_83 : (Cond.methodLink RL 83 y_Law_word) ∈ gw := gw_at 458 (by decide +kernel) (by decide +kernel)
theorem mi_Law_word : (Cond.static y_Law_word) ∈ gw := gw_at 459 (by decide +kernel) (by decide +kernel)
set_option maxRecDepth 100000 in
theorem mc_Law_word : Cond.codeWith y_Law_word b_Law_word 4 (some .int) [(0, 9, 12, 35)] ∈ gw := gw_at 460 rfl (by decide +kernel)
theorem lk_Law_35 : (Cond.classLink RL 35 "java/lang/IndexOutOfBoundsException") ∈ gw := gw_at 461 (by decide +kernel) (by decide +kernel)
theorem lk_Law_32 : (Cond.methodLink RL 32 y_BM_word) ∈ gw := gw_at 462 (by decide +kernel) (by decide +kernel)
theorem mi_BM_word : (Cond.instanceMethod y_BM_word) ∈ gw := gw_at 463 (by decide +kernel) (by decide +kernel)
theorem ms_BM_word : Cond.selects RX3 y_BM_word y_BM_word ∈ gw := gw_at 464 (by decide +kernel) (by decide +kernel)
set_option maxRecDepth 100000 in
theorem mc_BM_word : Cond.code y_BM_word b_BM_word 2 (some .int) ∈ gw := gw_at 465 rfl (by decide +kernel)
theorem lk_BM_116 : (Cond.classLink RX3 116 "java/lang/IndexOutOfBoundsException") ∈ gw := gw_at 466 (by decide +kernel) (by decide +kernel)
theorem lk_BM_120 : (Cond.methodLink RX3 120 ⟨"java/lang/IndexOutOfBoundsException", "<init>", "(Ljava/lang/String;)V"⟩) ∈ gw := gw_at 476 (by decide +kernel) (by decide +kernel)
theorem lk_Law_94 : (Cond.methodLink RL 94 y_Law_level) ∈ gw := gw_at 482 (by decide +kernel) (by decide +kernel)
theorem mi_Law_level : (Cond.static y_Law_level) ∈ gw := gw_at 483 (by decide +kernel) (by decide +kernel)
set_option maxRecDepth 100000 in
theorem mc_Law_level : Cond.codeWith y_Law_level b_Law_level 4 (some .int) [(0, 9, 12, 35)] ∈ gw := gw_at 484 rfl (by decide +kernel)
theorem lk_Law_37 : (Cond.methodLink RL 37 y_BM_level) ∈ gw := gw_at 485 (by decide +kernel) (by decide +kernel)
theorem mi_BM_level : (Cond.instanceMethod y_BM_level) ∈ gw := gw_at 486 (by decide +kernel) (by decide +kernel)
theorem ms_BM_level : Cond.selects RX3 y_BM_level y_BM_level ∈ gw := gw_at 487 (by decide +kernel) (by decide +kernel)
set_option maxRecDepth 100000 in
theorem mc_BM_level : Cond.code y_BM_level b_BM_level 2 (some .int) ∈ gw := gw_at 488 rfl (by decide +kernel)
theorem lk_Law_105 : (Cond.methodLink RL 105 y_Law_truth) ∈ gw := gw_at 491 (by decide +kernel) (by decide +kernel)
theorem mi_Law_truth : (Cond.static y_Law_truth) ∈ gw := gw_at 492 (by decide +kernel) (by decide +kernel)
set_option maxRecDepth 100000 in
theorem mc_Law_truth : Cond.codeWith y_Law_truth b_Law_truth 4 (some .int) [(0, 16, 19, 35)] ∈ gw := gw_at 493 rfl (by decide +kernel)
theorem lk_Law_40 : (Cond.methodLink RL 40 y_BM_truth) ∈ gw := gw_at 494 (by decide +kernel) (by decide +kernel)
theorem mi_BM_truth : (Cond.instanceMethod y_BM_truth) ∈ gw := gw_at 495 (by decide +kernel) (by decide +kernel)
theorem ms_BM_truth : Cond.selects RX3 y_BM_truth y_BM_truth ∈ gw := gw_at 496 (by decide +kernel) (by decide +kernel)
set_option maxRecDepth 100000 in
theorem mc_BM_truth : Cond.code y_BM_truth b_BM_truth 2 (some .boolean) ∈ gw := gw_at 497 rfl (by decide +kernel)
theorem mi_Hand_truthOf : (Cond.instanceMethod y_Hand_truthOf) ∈ gw := gw_at 501 (by decide +kernel) (by decide +kernel)
set_option maxRecDepth 100000 in
theorem mc_Hand_truthOf : Cond.code y_Hand_truthOf b_Hand_truthOf 2 (some .boolean) ∈ gw := gw_at 502 rfl (by decide +kernel)
theorem lk_Law_53 : (Cond.classLink RL 53 "BoundedMachinesModel") ∈ gw := gw_at 503 (by decide +kernel) (by decide +kernel)
theorem inst_Mod : Cond.instantiable RX4 31 ∈ gw := gw_at 504 (by decide +kernel) (by decide +kernel)
theorem lk_Law_55 : (Cond.methodLink RL 55 y_Mod_init) ∈ gw := gw_at 505 (by decide +kernel) (by decide +kernel)
theorem mi_Mod_init : (Cond.instanceMethod y_Mod_init) ∈ gw := gw_at 506 (by decide +kernel) (by decide +kernel)
set_option maxRecDepth 100000 in
theorem mc_Mod_init : Cond.code y_Mod_init b_Mod_init 3 (none) ∈ gw := gw_at 507 rfl (by decide +kernel)
theorem lk_Mod_1 : (Cond.methodLink RX4 1 objectInit) ∈ gw := gw_at 508 (by decide +kernel) (by decide +kernel)
theorem lk_Mod_75 : (Cond.methodLink RX4 75 y_Mod_forget) ∈ gw := gw_at 509 (by decide +kernel) (by decide +kernel)
theorem mi_Mod_forget : (Cond.instanceMethod y_Mod_forget) ∈ gw := gw_at 511 (by decide +kernel) (by decide +kernel)
set_option maxRecDepth 100000 in
theorem mc_Mod_forget : Cond.code y_Mod_forget b_Mod_forget 2 (none) ∈ gw := gw_at 512 rfl (by decide +kernel)
theorem lk_Mod_94 : (Cond.methodLink RX4 94 y_Mod_anew) ∈ gw := gw_at 513 (by decide +kernel) (by decide +kernel)
theorem mi_Mod_anew : (Cond.instanceMethod y_Mod_anew) ∈ gw := gw_at 515 (by decide +kernel) (by decide +kernel)
set_option maxRecDepth 100000 in
theorem mc_Mod_anew : Cond.code y_Mod_anew b_Mod_anew 2 (none) ∈ gw := gw_at 516 rfl (by decide +kernel)
theorem lk_Mod_103 : (Cond.methodLink RX4 103 y_Mod_beginning) ∈ gw := gw_at 517 (by decide +kernel) (by decide +kernel)
theorem mi_Mod_beginning : (Cond.instanceMethod y_Mod_beginning) ∈ gw := gw_at 519 (by decide +kernel) (by decide +kernel)
set_option maxRecDepth 100000 in
theorem mc_Mod_beginning : Cond.code y_Mod_beginning b_Mod_beginning 3 (some .int) ∈ gw := gw_at 520 rfl (by decide +kernel)
theorem lk_Mod_78 : (Cond.fieldLink RX4 78 "BoundedMachinesModel" "thrown" "I") ∈ gw := gw_at 521 (by decide +kernel) (by decide +kernel)
theorem lk_Mod_69 : (Cond.fieldLink RX4 69 "BoundedMachinesModel" "bits" "I") ∈ gw := gw_at 522 (by decide +kernel) (by decide +kernel)
theorem lk_Mod_72 : (Cond.fieldLink RX4 72 "BoundedMachinesModel" "nodes" "I") ∈ gw := gw_at 523 (by decide +kernel) (by decide +kernel)
theorem lk_Mod_97 : (Cond.fieldLink RX4 97 "BoundedMachinesModel" "states" "I") ∈ gw := gw_at 524 (by decide +kernel) (by decide +kernel)
theorem lk_Mod_121 : (Cond.fieldLink RX4 121 "BoundedMachinesModel" "pairs" "I") ∈ gw := gw_at 525 (by decide +kernel) (by decide +kernel)
theorem lk_Mod_118 : (Cond.fieldLink RX4 118 "BoundedMachinesModel" "gates" "I") ∈ gw := gw_at 526 (by decide +kernel) (by decide +kernel)
theorem lk_Mod_7 : (Cond.fieldLink RX4 7 "BoundedMachinesModel" "sides" "[I") ∈ gw := gw_at 527 (by decide +kernel) (by decide +kernel)
theorem lk_Mod_13 : (Cond.fieldLink RX4 13 "BoundedMachinesModel" "op" "[I") ∈ gw := gw_at 528 (by decide +kernel) (by decide +kernel)
theorem lk_Mod_16 : (Cond.fieldLink RX4 16 "BoundedMachinesModel" "left" "[I") ∈ gw := gw_at 529 (by decide +kernel) (by decide +kernel)
theorem lk_Mod_19 : (Cond.fieldLink RX4 19 "BoundedMachinesModel" "right" "[I") ∈ gw := gw_at 530 (by decide +kernel) (by decide +kernel)
theorem lk_Mod_22 : (Cond.fieldLink RX4 22 "BoundedMachinesModel" "stateOf" "[I") ∈ gw := gw_at 531 (by decide +kernel) (by decide +kernel)
theorem lk_Mod_25 : (Cond.fieldLink RX4 25 "BoundedMachinesModel" "nodeOf" "[I") ∈ gw := gw_at 532 (by decide +kernel) (by decide +kernel)
theorem lk_Mod_28 : (Cond.fieldLink RX4 28 "BoundedMachinesModel" "nextOf" "[I") ∈ gw := gw_at 533 (by decide +kernel) (by decide +kernel)
theorem lk_Mod_31 : (Cond.fieldLink RX4 31 "BoundedMachinesModel" "firstOf" "[Z") ∈ gw := gw_at 534 (by decide +kernel) (by decide +kernel)
theorem lk_Mod_35 : (Cond.fieldLink RX4 35 "BoundedMachinesModel" "pairA" "[I") ∈ gw := gw_at 535 (by decide +kernel) (by decide +kernel)
theorem lk_Mod_38 : (Cond.fieldLink RX4 38 "BoundedMachinesModel" "pairB" "[I") ∈ gw := gw_at 536 (by decide +kernel) (by decide +kernel)
theorem lk_Mod_41 : (Cond.fieldLink RX4 41 "BoundedMachinesModel" "truth" "[Z") ∈ gw := gw_at 537 (by decide +kernel) (by decide +kernel)
theorem lk_Mod_81 : (Cond.fieldLink RX4 81 "BoundedMachinesModel" "rows" "I") ∈ gw := gw_at 538 (by decide +kernel) (by decide +kernel)
theorem lk_Mod_84 : (Cond.fieldLink RX4 84 "BoundedMachinesModel" "clear" "I") ∈ gw := gw_at 539 (by decide +kernel) (by decide +kernel)
theorem lk_Mod_87 : (Cond.fieldLink RX4 87 "BoundedMachinesModel" "isOver" "Z") ∈ gw := gw_at 540 (by decide +kernel) (by decide +kernel)
theorem lk_Mod_44 : (Cond.fieldLink RX4 44 "BoundedMachinesModel" "row" "[I") ∈ gw := gw_at 541 (by decide +kernel) (by decide +kernel)
theorem lk_Mod_47 : (Cond.fieldLink RX4 47 "BoundedMachinesModel" "parent" "[I") ∈ gw := gw_at 542 (by decide +kernel) (by decide +kernel)
theorem lk_Mod_50 : (Cond.fieldLink RX4 50 "BoundedMachinesModel" "byWord" "[I") ∈ gw := gw_at 543 (by decide +kernel) (by decide +kernel)
theorem lk_Mod_53 : (Cond.fieldLink RX4 53 "BoundedMachinesModel" "levelBegin" "[I") ∈ gw := gw_at 544 (by decide +kernel) (by decide +kernel)
theorem lk_Mod_56 : (Cond.fieldLink RX4 56 "BoundedMachinesModel" "came" "[Z") ∈ gw := gw_at 545 (by decide +kernel) (by decide +kernel)
theorem lk_Mod_59 : (Cond.fieldLink RX4 59 "BoundedMachinesModel" "program" "[I") ∈ gw := gw_at 546 (by decide +kernel) (by decide +kernel)
theorem lk_Mod_91 : (Cond.fieldLink RX4 91 "BoundedMachinesModel" "programSize" "I") ∈ gw := gw_at 547 (by decide +kernel) (by decide +kernel)
theorem lk_Mod_100 : (Cond.fieldLink RX4 100 "BoundedMachinesModel" "cycles" "I") ∈ gw := gw_at 548 (by decide +kernel) (by decide +kernel)
theorem lk_Mod_62 : (Cond.fieldLink RX4 62 "BoundedMachinesModel" "differs" "I") ∈ gw := gw_at 549 (by decide +kernel) (by decide +kernel)
theorem lk_Mod_107 : (Cond.fieldLink RX4 107 "BoundedMachinesModel" "handRow" "I") ∈ gw := gw_at 550 (by decide +kernel) (by decide +kernel)
theorem lk_Mod_66 : (Cond.fieldLink RX4 66 "BoundedMachinesModel" "shown" "[Z") ∈ gw := gw_at 551 (by decide +kernel) (by decide +kernel)
theorem m_arr_boolean : (Cond.arrayClass .boolean) ∈ gw := gw_at 615 (by decide +kernel) (by decide +kernel)
theorem lk_Law_60 : (Cond.methodLink RL 60 y_Mod_thrown) ∈ gw := gw_at 616 (by decide +kernel) (by decide +kernel)
theorem mi_Mod_thrown : (Cond.instanceMethod y_Mod_thrown) ∈ gw := gw_at 617 (by decide +kernel) (by decide +kernel)
theorem ms_Mod_thrown : Cond.selects RX4 y_Mod_thrown y_Mod_thrown ∈ gw := gw_at 618 (by decide +kernel) (by decide +kernel)
set_option maxRecDepth 100000 in
theorem mc_Mod_thrown : Cond.code y_Mod_thrown b_Mod_thrown 1 (some .int) ∈ gw := gw_at 619 rfl (by decide +kernel)
theorem lk_Law_59 : (Cond.methodLink RL 59 y_Mod_state) ∈ gw := gw_at 620 (by decide +kernel) (by decide +kernel)
theorem mi_Mod_state : (Cond.instanceMethod y_Mod_state) ∈ gw := gw_at 621 (by decide +kernel) (by decide +kernel)
theorem ms_Mod_state : Cond.selects RX4 y_Mod_state y_Mod_state ∈ gw := gw_at 622 (by decide +kernel) (by decide +kernel)
set_option maxRecDepth 100000 in
theorem mc_Mod_state : Cond.code y_Mod_state b_Mod_state 3 (some .int) ∈ gw := gw_at 623 rfl (by decide +kernel)
theorem lk_Mod_110 : (Cond.methodLink RX4 110 y_Mod_isOf) ∈ gw := gw_at 624 (by decide +kernel) (by decide +kernel)
theorem mi_Mod_isOf : (Cond.static y_Mod_isOf) ∈ gw := gw_at 625 (by decide +kernel) (by decide +kernel)
set_option maxRecDepth 100000 in
theorem mc_Mod_isOf : Cond.code y_Mod_isOf b_Mod_isOf 2 (some .boolean) ∈ gw := gw_at 626 rfl (by decide +kernel)
theorem lk_Mod_114 : (Cond.methodLink RX4 114 y_Mod_throwing) ∈ gw := gw_at 627 (by decide +kernel) (by decide +kernel)
theorem mi_Mod_throwing : (Cond.instanceMethod y_Mod_throwing) ∈ gw := gw_at 629 (by decide +kernel) (by decide +kernel)
set_option maxRecDepth 100000 in
theorem mc_Mod_throwing : Cond.code y_Mod_throwing b_Mod_throwing 3 (some .boolean) ∈ gw := gw_at 630 rfl (by decide +kernel)
theorem lk_Law_67 : (Cond.methodLink RL 67 y_Mod_gate) ∈ gw := gw_at 631 (by decide +kernel) (by decide +kernel)
theorem mi_Mod_gate : (Cond.instanceMethod y_Mod_gate) ∈ gw := gw_at 632 (by decide +kernel) (by decide +kernel)
theorem ms_Mod_gate : Cond.selects RX4 y_Mod_gate y_Mod_gate ∈ gw := gw_at 633 (by decide +kernel) (by decide +kernel)
set_option maxRecDepth 100000 in
theorem mc_Mod_gate : Cond.code y_Mod_gate b_Mod_gate 5 (some .int) ∈ gw := gw_at 634 rfl (by decide +kernel)
theorem lk_Law_71 : (Cond.methodLink RL 71 y_Mod_next) ∈ gw := gw_at 635 (by decide +kernel) (by decide +kernel)
theorem mi_Mod_next : (Cond.instanceMethod y_Mod_next) ∈ gw := gw_at 636 (by decide +kernel) (by decide +kernel)
theorem ms_Mod_next : Cond.selects RX4 y_Mod_next y_Mod_next ∈ gw := gw_at 637 (by decide +kernel) (by decide +kernel)
set_option maxRecDepth 100000 in
theorem mc_Mod_next : Cond.code y_Mod_next b_Mod_next 4 (some .int) ∈ gw := gw_at 638 rfl (by decide +kernel)
theorem lk_Law_74 : (Cond.methodLink RL 74 y_Mod_compare) ∈ gw := gw_at 639 (by decide +kernel) (by decide +kernel)
theorem mi_Mod_compare : (Cond.instanceMethod y_Mod_compare) ∈ gw := gw_at 640 (by decide +kernel) (by decide +kernel)
theorem ms_Mod_compare : Cond.selects RX4 y_Mod_compare y_Mod_compare ∈ gw := gw_at 641 (by decide +kernel) (by decide +kernel)
set_option maxRecDepth 100000 in
theorem mc_Mod_compare : Cond.code y_Mod_compare b_Mod_compare 3 (some .int) ∈ gw := gw_at 642 rfl (by decide +kernel)
theorem lk_Law_78 : (Cond.methodLink RL 78 y_Mod_search) ∈ gw := gw_at 643 (by decide +kernel) (by decide +kernel)
theorem mi_Mod_search : (Cond.instanceMethod y_Mod_search) ∈ gw := gw_at 644 (by decide +kernel) (by decide +kernel)
theorem ms_Mod_search : Cond.selects RX4 y_Mod_search y_Mod_search ∈ gw := gw_at 645 (by decide +kernel) (by decide +kernel)
set_option maxRecDepth 100000 in
theorem mc_Mod_search : Cond.code y_Mod_search b_Mod_search 2 (some .int) ∈ gw := gw_at 646 rfl (by decide +kernel)
theorem lk_Mod_138 : (Cond.methodLink RX4 138 y_Mod_come) ∈ gw := gw_at 647 (by decide +kernel) (by decide +kernel)
theorem mi_Mod_come : (Cond.instanceMethod y_Mod_come) ∈ gw := gw_at 649 (by decide +kernel) (by decide +kernel)
set_option maxRecDepth 100000 in
theorem mc_Mod_come : Cond.code y_Mod_come b_Mod_come 4 (none) ∈ gw := gw_at 650 rfl (by decide +kernel)
theorem lk_Mod_142 : (Cond.methodLink RX4 142 y_Mod_isFound) ∈ gw := gw_at 651 (by decide +kernel) (by decide +kernel)
theorem mi_Mod_isFound : (Cond.instanceMethod y_Mod_isFound) ∈ gw := gw_at 653 (by decide +kernel) (by decide +kernel)
set_option maxRecDepth 100000 in
theorem mc_Mod_isFound : Cond.code y_Mod_isFound b_Mod_isFound 5 (some .boolean) ∈ gw := gw_at 654 rfl (by decide +kernel)
theorem lk_Mod_128 : (Cond.methodLink RX4 128 y_Mod_work) ∈ gw := gw_at 655 (by decide +kernel) (by decide +kernel)
theorem mi_Mod_work : (Cond.instanceMethod y_Mod_work) ∈ gw := gw_at 657 (by decide +kernel) (by decide +kernel)
set_option maxRecDepth 100000 in
theorem mc_Mod_work : Cond.code y_Mod_work b_Mod_work 4 (none) ∈ gw := gw_at 658 rfl (by decide +kernel)
theorem lk_Mod_124 : (Cond.methodLink RX4 124 y_Mod_made) ∈ gw := gw_at 659 (by decide +kernel) (by decide +kernel)
theorem mi_Mod_made : (Cond.instanceMethod y_Mod_made) ∈ gw := gw_at 661 (by decide +kernel) (by decide +kernel)
set_option maxRecDepth 100000 in
theorem mc_Mod_made : Cond.code y_Mod_made b_Mod_made 4 (some .boolean) ∈ gw := gw_at 662 rfl (by decide +kernel)
theorem lk_Mod_132 : (Cond.methodLink RX4 132 y_Mod_difference) ∈ gw := gw_at 663 (by decide +kernel) (by decide +kernel)
theorem mi_Mod_difference : (Cond.instanceMethod y_Mod_difference) ∈ gw := gw_at 665 (by decide +kernel) (by decide +kernel)
set_option maxRecDepth 100000 in
theorem mc_Mod_difference : Cond.code y_Mod_difference b_Mod_difference 2 (some .int) ∈ gw := gw_at 666 rfl (by decide +kernel)
theorem lk_Mod_146 : (Cond.methodLink RX4 146 y_Mod_goThrough) ∈ gw := gw_at 667 (by decide +kernel) (by decide +kernel)
theorem mi_Mod_goThrough : (Cond.instanceMethod y_Mod_goThrough) ∈ gw := gw_at 669 (by decide +kernel) (by decide +kernel)
set_option maxRecDepth 100000 in
theorem mc_Mod_goThrough : Cond.code y_Mod_goThrough b_Mod_goThrough 4 (none) ∈ gw := gw_at 670 rfl (by decide +kernel)
theorem lk_Mod_135 : (Cond.methodLink RX4 135 y_Mod_after) ∈ gw := gw_at 671 (by decide +kernel) (by decide +kernel)
theorem mi_Mod_after : (Cond.instanceMethod y_Mod_after) ∈ gw := gw_at 673 (by decide +kernel) (by decide +kernel)
set_option maxRecDepth 100000 in
theorem mc_Mod_after : Cond.code y_Mod_after b_Mod_after 3 (some .int) ∈ gw := gw_at 674 rfl (by decide +kernel)
theorem lk_Law_82 : (Cond.methodLink RL 82 y_Mod_length) ∈ gw := gw_at 675 (by decide +kernel) (by decide +kernel)
theorem mi_Mod_length : (Cond.instanceMethod y_Mod_length) ∈ gw := gw_at 676 (by decide +kernel) (by decide +kernel)
theorem ms_Mod_length : Cond.selects RX4 y_Mod_length y_Mod_length ∈ gw := gw_at 677 (by decide +kernel) (by decide +kernel)
set_option maxRecDepth 100000 in
theorem mc_Mod_length : Cond.code y_Mod_length b_Mod_length 1 (some .int) ∈ gw := gw_at 678 rfl (by decide +kernel)
theorem lk_Law_85 : (Cond.methodLink RL 85 y_Mod_word) ∈ gw := gw_at 679 (by decide +kernel) (by decide +kernel)
theorem mi_Mod_word : (Cond.instanceMethod y_Mod_word) ∈ gw := gw_at 680 (by decide +kernel) (by decide +kernel)
theorem ms_Mod_word : Cond.selects RX4 y_Mod_word y_Mod_word ∈ gw := gw_at 681 (by decide +kernel) (by decide +kernel)
set_option maxRecDepth 100000 in
theorem mc_Mod_word : Cond.code y_Mod_word b_Mod_word 2 (some .int) ∈ gw := gw_at 682 rfl (by decide +kernel)
theorem lk_Law_89 : (Cond.methodLink RL 89 y_Mod_clear) ∈ gw := gw_at 683 (by decide +kernel) (by decide +kernel)
theorem mi_Mod_clear : (Cond.instanceMethod y_Mod_clear) ∈ gw := gw_at 684 (by decide +kernel) (by decide +kernel)
theorem ms_Mod_clear : Cond.selects RX4 y_Mod_clear y_Mod_clear ∈ gw := gw_at 685 (by decide +kernel) (by decide +kernel)
set_option maxRecDepth 100000 in
theorem mc_Mod_clear : Cond.code y_Mod_clear b_Mod_clear 1 (some .int) ∈ gw := gw_at 686 rfl (by decide +kernel)
theorem lk_Law_93 : (Cond.methodLink RL 93 y_Mod_seen) ∈ gw := gw_at 687 (by decide +kernel) (by decide +kernel)
theorem mi_Mod_seen : (Cond.instanceMethod y_Mod_seen) ∈ gw := gw_at 688 (by decide +kernel) (by decide +kernel)
theorem ms_Mod_seen : Cond.selects RX4 y_Mod_seen y_Mod_seen ∈ gw := gw_at 689 (by decide +kernel) (by decide +kernel)
set_option maxRecDepth 100000 in
theorem mc_Mod_seen : Cond.code y_Mod_seen b_Mod_seen 1 (some .int) ∈ gw := gw_at 690 rfl (by decide +kernel)
theorem lk_Law_96 : (Cond.methodLink RL 96 y_Mod_level) ∈ gw := gw_at 691 (by decide +kernel) (by decide +kernel)
theorem mi_Mod_level : (Cond.instanceMethod y_Mod_level) ∈ gw := gw_at 692 (by decide +kernel) (by decide +kernel)
theorem ms_Mod_level : Cond.selects RX4 y_Mod_level y_Mod_level ∈ gw := gw_at 693 (by decide +kernel) (by decide +kernel)
set_option maxRecDepth 100000 in
theorem mc_Mod_level : Cond.code y_Mod_level b_Mod_level 2 (some .int) ∈ gw := gw_at 694 rfl (by decide +kernel)
theorem lk_Law_100 : (Cond.methodLink RL 100 y_Mod_begin) ∈ gw := gw_at 695 (by decide +kernel) (by decide +kernel)
theorem mi_Mod_begin : (Cond.instanceMethod y_Mod_begin) ∈ gw := gw_at 696 (by decide +kernel) (by decide +kernel)
theorem ms_Mod_begin : Cond.selects RX4 y_Mod_begin y_Mod_begin ∈ gw := gw_at 697 (by decide +kernel) (by decide +kernel)
set_option maxRecDepth 100000 in
theorem mc_Mod_begin : Cond.code y_Mod_begin b_Mod_begin 1 (none) ∈ gw := gw_at 698 rfl (by decide +kernel)
theorem lk_Law_104 : (Cond.methodLink RL 104 y_Mod_cycle) ∈ gw := gw_at 699 (by decide +kernel) (by decide +kernel)
theorem mi_Mod_cycle : (Cond.instanceMethod y_Mod_cycle) ∈ gw := gw_at 700 (by decide +kernel) (by decide +kernel)
theorem ms_Mod_cycle : Cond.selects RX4 y_Mod_cycle y_Mod_cycle ∈ gw := gw_at 701 (by decide +kernel) (by decide +kernel)
set_option maxRecDepth 100000 in
theorem mc_Mod_cycle : Cond.code y_Mod_cycle b_Mod_cycle 3 (some .boolean) ∈ gw := gw_at 702 rfl (by decide +kernel)
theorem lk_Law_107 : (Cond.methodLink RL 107 y_Mod_truth) ∈ gw := gw_at 703 (by decide +kernel) (by decide +kernel)
theorem mi_Mod_truth : (Cond.instanceMethod y_Mod_truth) ∈ gw := gw_at 704 (by decide +kernel) (by decide +kernel)
theorem ms_Mod_truth : Cond.selects RX4 y_Mod_truth y_Mod_truth ∈ gw := gw_at 705 (by decide +kernel) (by decide +kernel)
set_option maxRecDepth 100000 in
theorem mc_Mod_truth : Cond.code y_Mod_truth b_Mod_truth 2 (some .boolean) ∈ gw := gw_at 706 rfl (by decide +kernel)
theorem lk_Law_111 : (Cond.methodLink RL 111 y_Mod_replay) ∈ gw := gw_at 707 (by decide +kernel) (by decide +kernel)
theorem mi_Mod_replay : (Cond.instanceMethod y_Mod_replay) ∈ gw := gw_at 708 (by decide +kernel) (by decide +kernel)
theorem ms_Mod_replay : Cond.selects RX4 y_Mod_replay y_Mod_replay ∈ gw := gw_at 709 (by decide +kernel) (by decide +kernel)
set_option maxRecDepth 100000 in
theorem mc_Mod_replay : Cond.code y_Mod_replay b_Mod_replay 3 (some .int) ∈ gw := gw_at 710 rfl (by decide +kernel)
theorem lk_Mod_149 : (Cond.methodLink RX4 149 y_Mod_cycle) ∈ gw := gw_at 711 (by decide +kernel) (by decide +kernel)
theorem lk_Law_115 : (Cond.methodLink RL 115 y_Mod_count) ∈ gw := gw_at 712 (by decide +kernel) (by decide +kernel)
theorem mi_Mod_count : (Cond.instanceMethod y_Mod_count) ∈ gw := gw_at 713 (by decide +kernel) (by decide +kernel)
theorem ms_Mod_count : Cond.selects RX4 y_Mod_count y_Mod_count ∈ gw := gw_at 714 (by decide +kernel) (by decide +kernel)
set_option maxRecDepth 100000 in
theorem mc_Mod_count : Cond.code y_Mod_count b_Mod_count 2 (some .int) ∈ gw := gw_at 715 rfl (by decide +kernel)
theorem m_arr_long : (Cond.arrayClass .long) ∈ gw := gw_at 716 (by decide +kernel) (by decide +kernel)
theorem ms_Hand_restart : Cond.selects RX0 y_Hand_restart y_Hand_restart ∈ gw := gw_sel 0 (by decide +kernel) (by decide +kernel)
theorem ms_Net_layAsAtFirst : Cond.selects RX2 y_Net_layAsAtFirst y_Net_layAsAtFirst ∈ gw := gw_sel 1 (by decide +kernel) (by decide +kernel)
theorem ms_Hand_step : Cond.selects RX0 y_Hand_step y_Hand_step ∈ gw := gw_sel 2 (by decide +kernel) (by decide +kernel)
theorem ms_Net_settle : Cond.selects RX2 y_Net_settle y_Net_settle ∈ gw := gw_sel 3 (by decide +kernel) (by decide +kernel)
theorem ms_Net_lanesOf : Cond.selects RX2 y_Net_lanesOf y_Net_lanesOf ∈ gw := gw_sel 4 (by decide +kernel) (by decide +kernel)
theorem ms_Net_firstDifferingPair : Cond.selects RX2 y_Net_firstDifferingPair y_Net_firstDifferingPair ∈ gw := gw_sel 5 (by decide +kernel) (by decide +kernel)
theorem ms_Net_rowAfter : Cond.selects RX2 y_Net_rowAfter y_Net_rowAfter ∈ gw := gw_sel 6 (by decide +kernel) (by decide +kernel)
theorem ms_Hunt_programWord : Cond.selects RX1 y_Hunt_programWord y_Hunt_programWord ∈ gw := gw_sel 7 (by decide +kernel) (by decide +kernel)
theorem ms_Net_gateCount : Cond.selects RX2 y_Net_gateCount y_Net_gateCount ∈ gw := gw_sel 8 (by decide +kernel) (by decide +kernel)
theorem ms_Net_hasAllStates : Cond.selects RX2 y_Net_hasAllStates y_Net_hasAllStates ∈ gw := gw_sel 10 (by decide +kernel) (by decide +kernel)
theorem ms_Net_hasAllNodes : Cond.selects RX2 y_Net_hasAllNodes y_Net_hasAllNodes ∈ gw := gw_sel 11 (by decide +kernel) (by decide +kernel)
theorem ms_Net_addState : Cond.selects RX2 y_Net_addState y_Net_addState ∈ gw := gw_sel 12 (by decide +kernel) (by decide +kernel)
theorem ms_Net_addNode : Cond.selects RX2 y_Net_addNode y_Net_addNode ∈ gw := gw_sel 13 (by decide +kernel) (by decide +kernel)
theorem ms_BM_startAnew : Cond.selects RX3 y_BM_startAnew y_BM_startAnew ∈ gw := gw_sel 14 (by decide +kernel) (by decide +kernel)
theorem ms_Hunt_forget : Cond.selects RX1 y_Hunt_forget y_Hunt_forget ∈ gw := gw_sel 15 (by decide +kernel) (by decide +kernel)
theorem ms_Net_takesGate : Cond.selects RX2 y_Net_takesGate y_Net_takesGate ∈ gw := gw_sel 16 (by decide +kernel) (by decide +kernel)
theorem ms_Net_isNode : Cond.selects RX2 y_Net_isNode y_Net_isNode ∈ gw := gw_sel 17 (by decide +kernel) (by decide +kernel)
theorem ms_Net_addGate : Cond.selects RX2 y_Net_addGate y_Net_addGate ∈ gw := gw_sel 18 (by decide +kernel) (by decide +kernel)
theorem ms_Net_isState : Cond.selects RX2 y_Net_isState y_Net_isState ∈ gw := gw_sel 19 (by decide +kernel) (by decide +kernel)
theorem ms_Net_changeNext : Cond.selects RX2 y_Net_changeNext y_Net_changeNext ∈ gw := gw_sel 20 (by decide +kernel) (by decide +kernel)
theorem ms_Net_hasAllPairs : Cond.selects RX2 y_Net_hasAllPairs y_Net_hasAllPairs ∈ gw := gw_sel 21 (by decide +kernel) (by decide +kernel)
theorem ms_Net_addPair : Cond.selects RX2 y_Net_addPair y_Net_addPair ∈ gw := gw_sel 22 (by decide +kernel) (by decide +kernel)
theorem ms_Hunt_goOn : Cond.selects RX1 y_Hunt_goOn y_Hunt_goOn ∈ gw := gw_sel 23 (by decide +kernel) (by decide +kernel)
theorem ms_Hunt_start : Cond.selects RX1 y_Hunt_start y_Hunt_start ∈ gw := gw_sel 24 (by decide +kernel) (by decide +kernel)
theorem ms_Hunt_keepIfNew : Cond.selects RX1 y_Hunt_keepIfNew y_Hunt_keepIfNew ∈ gw := gw_sel 25 (by decide +kernel) (by decide +kernel)
theorem ms_Hunt_hasOpenLevel : Cond.selects RX1 y_Hunt_hasOpenLevel y_Hunt_hasOpenLevel ∈ gw := gw_sel 26 (by decide +kernel) (by decide +kernel)
theorem ms_Hunt_rowsOfLevel : Cond.selects RX1 y_Hunt_rowsOfLevel y_Hunt_rowsOfLevel ∈ gw := gw_sel 27 (by decide +kernel) (by decide +kernel)
theorem ms_Hunt_askLevel : Cond.selects RX1 y_Hunt_askLevel y_Hunt_askLevel ∈ gw := gw_sel 28 (by decide +kernel) (by decide +kernel)
theorem ms_Net_leastDifferingWord : Cond.selects RX2 y_Net_leastDifferingWord y_Net_leastDifferingWord ∈ gw := gw_sel 29 (by decide +kernel) (by decide +kernel)
theorem ms_Hunt_tellProgram : Cond.selects RX1 y_Hunt_tellProgram y_Hunt_tellProgram ∈ gw := gw_sel 30 (by decide +kernel) (by decide +kernel)
theorem ms_Hunt_gather : Cond.selects RX1 y_Hunt_gather y_Hunt_gather ∈ gw := gw_sel 31 (by decide +kernel) (by decide +kernel)
theorem ms_Hand_truthOf : Cond.selects RX0 y_Hand_truthOf y_Hand_truthOf ∈ gw := gw_sel 32 (by decide +kernel) (by decide +kernel)
theorem ms_Mod_forget : Cond.selects RX4 y_Mod_forget y_Mod_forget ∈ gw := gw_sel 33 (by decide +kernel) (by decide +kernel)
theorem ms_Mod_anew : Cond.selects RX4 y_Mod_anew y_Mod_anew ∈ gw := gw_sel 34 (by decide +kernel) (by decide +kernel)
theorem ms_Mod_beginning : Cond.selects RX4 y_Mod_beginning y_Mod_beginning ∈ gw := gw_sel 35 (by decide +kernel) (by decide +kernel)
theorem ms_Mod_throwing : Cond.selects RX4 y_Mod_throwing y_Mod_throwing ∈ gw := gw_sel 36 (by decide +kernel) (by decide +kernel)
theorem ms_Mod_come : Cond.selects RX4 y_Mod_come y_Mod_come ∈ gw := gw_sel 37 (by decide +kernel) (by decide +kernel)
theorem ms_Mod_isFound : Cond.selects RX4 y_Mod_isFound y_Mod_isFound ∈ gw := gw_sel 38 (by decide +kernel) (by decide +kernel)
theorem ms_Mod_work : Cond.selects RX4 y_Mod_work y_Mod_work ∈ gw := gw_sel 39 (by decide +kernel) (by decide +kernel)
theorem ms_Mod_made : Cond.selects RX4 y_Mod_made y_Mod_made ∈ gw := gw_sel 40 (by decide +kernel) (by decide +kernel)
theorem ms_Mod_difference : Cond.selects RX4 y_Mod_difference y_Mod_difference ∈ gw := gw_sel 41 (by decide +kernel) (by decide +kernel)
theorem ms_Mod_goThrough : Cond.selects RX4 y_Mod_goThrough y_Mod_goThrough ∈ gw := gw_sel 42 (by decide +kernel) (by decide +kernel)
theorem ms_Mod_after : Cond.selects RX4 y_Mod_after y_Mod_after ∈ gw := gw_sel 43 (by decide +kernel) (by decide +kernel)
theorem in_X0 : ∀ w ∈ u_ws RX0 TX0 6, w ∈ gw := by decide +kernel
theorem in_X1 : ∀ w ∈ u_ws RX1 TX1 10, w ∈ gw := by decide +kernel
theorem in_X2 : ∀ w ∈ u_ws RX2 TX2 13, w ∈ gw := by decide +kernel
theorem in_X3 : ∀ w ∈ u_ws RX3 TX3 3, w ∈ gw := by decide +kernel
theorem in_X4 : ∀ w ∈ u_ws RX4 TX4 31, w ∈ gw := by decide +kernel
