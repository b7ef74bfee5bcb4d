abbrev cJx4a65c_init_da8c8 : ByteArray := prog_23_method_2_code
def yJx4a65c_init_da8c8 : MethodName := ⟨RJx4a65c, "<init>", "()V"⟩
abbrev cJxa1e45_init_da8c8 : ByteArray := prog_21_method_1_code
def yJxa1e45_init_da8c8 : MethodName := ⟨RJxa1e45, "<init>", "()V"⟩
abbrev cJxc12de_init_da8c8 : ByteArray := prog_22_method_1_code
def yJxc12de_init_da8c8 : MethodName := ⟨RJxc12de, "<init>", "()V"⟩
abbrev cX0_init : ByteArray := prog_2_method_1_code
def yX0_init : MethodName := ⟨RX0, "<init>", "(LScriptDesk$PieceRow;LScriptDesk$Leaf;)V"⟩
abbrev cX1_fillRows : ByteArray := prog_3_method_15_code
def yX1_fillRows : MethodName := ⟨RX1, "fillRows", "()V"⟩
abbrev cX1_init : ByteArray := prog_3_method_1_code
def yX1_init : MethodName := ⟨RX1, "<init>", "(IILScriptDesk$Tape;II)V"⟩
abbrev cX1_takeWords : ByteArray := prog_3_method_13_code
def yX1_takeWords : MethodName := ⟨RX1, "takeWords", "(LScriptDesk$Tape;II)V"⟩
abbrev cX2_init : ByteArray := prog_4_method_1_code
def yX2_init : MethodName := ⟨RX2, "<init>", "(LScriptDesk$PieceRow;LScriptDesk$Leaf;)V"⟩
abbrev cX3_init : ByteArray := prog_5_method_1_code
def yX3_init : MethodName := ⟨RX3, "<init>", "(LScriptDesk$PieceRow;)V"⟩
abbrev cX4_init : ByteArray := prog_6_method_1_code
def yX4_init : MethodName := ⟨RX4, "<init>", "(LScriptDesk$Tape;)V"⟩
abbrev cX5_init : ByteArray := prog_7_method_1_code
def yX5_init : MethodName := ⟨RX5, "<init>", "(LScriptDesk$Element;)V"⟩
abbrev cX6_init : ByteArray := prog_8_method_1_code
def yX6_init : MethodName := ⟨RX6, "<init>", "(LScriptDesk$Element;)V"⟩
abbrev cX7_init : ByteArray := prog_9_method_1_code
def yX7_init : MethodName := ⟨RX7, "<init>", "(LScriptDesk$PieceRow;)V"⟩
abbrev cX8_init : ByteArray := prog_10_method_1_code
def yX8_init : MethodName := ⟨RX8, "<init>", "()V"⟩
abbrev cX9_init : ByteArray := prog_1_method_1_code
def yX9_init : MethodName := ⟨RX9, "<init>", "()V"⟩
theorem k_0 : (Cond.selects RX1 yX1_takeWords yX1_takeWords) ∈ gT := gT_i 0 (by decide +kernel) rfl
theorem k_2 : (Cond.selects RX1 yX1_fillRows yX1_fillRows) ∈ gT := gT_i 2 (by decide +kernel) rfl
theorem k_85 : (Cond.initialized RX8) ∈ gT := gT_i 85 (by decide +kernel) rfl
theorem k_86 : (Cond.initialized RX4) ∈ gT := gT_i 86 (by decide +kernel) rfl
theorem k_87 : (Cond.initialized RJxa1e45) ∈ gT := gT_i 87 (by decide +kernel) rfl
theorem k_88 : (Cond.initialized RJxc12de) ∈ gT := gT_i 88 (by decide +kernel) rfl
theorem k_89 : (Cond.initialized RJx4a65c) ∈ gT := gT_i 89 (by decide +kernel) rfl
theorem k_90 : (Cond.initialized RX1) ∈ gT := gT_i 90 (by decide +kernel) rfl
theorem k_91 : (Cond.initialized "java/lang/Math") ∈ gT := gT_i 91 (by decide +kernel) rfl
theorem k_92 : (Cond.initialized RX6) ∈ gT := gT_i 92 (by decide +kernel) rfl
theorem k_93 : (Cond.initialized RX5) ∈ gT := gT_i 93 (by decide +kernel) rfl
theorem k_94 : (Cond.initialized RX3) ∈ gT := gT_i 94 (by decide +kernel) rfl
theorem k_95 : (Cond.initialized RX0) ∈ gT := gT_i 95 (by decide +kernel) rfl
theorem k_96 : (Cond.initialized RX2) ∈ gT := gT_i 96 (by decide +kernel) rfl
theorem k_97 : (Cond.initialized RX7) ∈ gT := gT_i 97 (by decide +kernel) rfl
theorem k_112 : (Cond.methodLink RX9 1 objectInit) ∈ gT := gT_i 112 (by decide +kernel) rfl
theorem k_113 : (Cond.instanceMethod objectInit) ∈ gT := gT_i 113 (by decide +kernel) rfl
theorem k_114 : (Cond.code objectInit ⟨#[0xb1]⟩ 1 none) ∈ gT := gT_i 114 (by decide +kernel) rfl
theorem k_115 : (Cond.classLink RX9 7 RX8) ∈ gT := gT_i 115 (by decide +kernel) rfl
theorem k_116 : (Cond.instantiable RX8 2) ∈ gT := gT_i 116 (by decide +kernel) rfl
theorem k_118 : (Cond.instanceMethod yX8_init) ∈ gT := gT_i 118 (by decide +kernel) rfl
theorem k_119 : (Cond.code yX8_init cX8_init 1 none) ∈ gT := gT_i 119 (by decide +kernel) rfl
theorem k_120 : (Cond.methodLink RX8 1 objectInit) ∈ gT := gT_i 120 (by decide +kernel) rfl
theorem k_121 : (Cond.fieldLink RX8 9 "ScriptDesk$Tape" "bytes" "[B") ∈ gT := gT_i 121 (by decide +kernel) rfl
theorem k_128 : (Cond.arrayClass .byte) ∈ gT := gT_i 128 (by decide +kernel) rfl
theorem k_129 : (Cond.classLink RX9 16 RX4) ∈ gT := gT_i 129 (by decide +kernel) rfl
theorem k_130 : (Cond.instantiable RX4 6) ∈ gT := gT_i 130 (by decide +kernel) rfl
theorem k_131 : (Cond.methodLink RX9 18 yX4_init) ∈ gT := gT_i 131 (by decide +kernel) rfl
theorem k_132 : (Cond.instanceMethod yX4_init) ∈ gT := gT_i 132 (by decide +kernel) rfl
theorem k_133 : (Cond.code yX4_init cX4_init 2 none) ∈ gT := gT_i 133 (by decide +kernel) rfl
theorem k_134 : (Cond.methodLink RX4 3 objectInit) ∈ gT := gT_i 134 (by decide +kernel) rfl
theorem k_135 : (Cond.fieldLink RX4 9 "ScriptDesk$LineReader" "tape" "LScriptDesk$Tape;") ∈ gT := gT_i 135 (by decide +kernel) rfl
theorem k_154 : (Cond.classLink RX9 25 RJx4a65c) ∈ gT := gT_i 154 (by decide +kernel) rfl
theorem k_155 : (Cond.instantiable RJx4a65c 3) ∈ gT := gT_i 155 (by decide +kernel) rfl
theorem k_156 : (Cond.methodLink RX9 27 yJx4a65c_init_da8c8) ∈ gT := gT_i 156 (by decide +kernel) rfl
theorem k_157 : (Cond.instanceMethod yJx4a65c_init_da8c8) ∈ gT := gT_i 157 (by decide +kernel) rfl
theorem k_158 : (Cond.code yJx4a65c_init_da8c8 cJx4a65c_init_da8c8 1 none) ∈ gT := gT_i 158 (by decide +kernel) rfl
theorem k_159 : (Cond.methodLink RJx4a65c 1 yJxc12de_init_da8c8) ∈ gT := gT_i 159 (by decide +kernel) rfl
theorem k_160 : (Cond.instanceMethod yJxc12de_init_da8c8) ∈ gT := gT_i 160 (by decide +kernel) rfl
theorem k_161 : (Cond.code yJxc12de_init_da8c8 cJxc12de_init_da8c8 1 none) ∈ gT := gT_i 161 (by decide +kernel) rfl
theorem k_162 : (Cond.methodLink RJxc12de 1 yJxa1e45_init_da8c8) ∈ gT := gT_i 162 (by decide +kernel) rfl
theorem k_163 : (Cond.instanceMethod yJxa1e45_init_da8c8) ∈ gT := gT_i 163 (by decide +kernel) rfl
theorem k_164 : (Cond.code yJxa1e45_init_da8c8 cJxa1e45_init_da8c8 1 none) ∈ gT := gT_i 164 (by decide +kernel) rfl
theorem k_165 : (Cond.methodLink RJxa1e45 1 objectInit) ∈ gT := gT_i 165 (by decide +kernel) rfl
theorem k_166 : (Cond.fieldLink RJx4a65c 39 "java/util/ArrayList" "DEFAULTCAPACITY_EMPTY_ELEMENTDATA" "[Ljava/lang/Object;") ∈ gT := gT_i 166 (by decide +kernel) rfl
theorem k_168 : (Cond.fieldLink RJx4a65c 9 "java/util/ArrayList" "elementData" "[Ljava/lang/Object;") ∈ gT := gT_i 168 (by decide +kernel) rfl
theorem k_170 : (Cond.fieldLink RJxc12de 7 "java/util/AbstractList" "modCount" "I") ∈ gT := gT_i 170 (by decide +kernel) rfl
theorem k_180 : (Cond.classLink RX9 35 RX1) ∈ gT := gT_i 180 (by decide +kernel) rfl
theorem k_181 : (Cond.instantiable RX1 9) ∈ gT := gT_i 181 (by decide +kernel) rfl
theorem k_182 : (Cond.methodLink RX9 37 yX1_init) ∈ gT := gT_i 182 (by decide +kernel) rfl
theorem k_183 : (Cond.instanceMethod yX1_init) ∈ gT := gT_i 183 (by decide +kernel) rfl
theorem k_184 : (Cond.code yX1_init cX1_init 7 none) ∈ gT := gT_i 184 (by decide +kernel) rfl
theorem k_185 : (Cond.methodLink RX1 3 objectInit) ∈ gT := gT_i 185 (by decide +kernel) rfl
theorem k_186 : (Cond.methodLink RX1 18 Lib.Math.max.name) ∈ gT := gT_i 186 (by decide +kernel) rfl
theorem k_187 : (Cond.static Lib.Math.max.name) ∈ gT := gT_i 187 (by decide +kernel) rfl
theorem k_188 : (Cond.code Lib.Math.max.name Lib.Math.max.code 2 (some .int)) ∈ gT := gT_i 188 (by decide +kernel) rfl
theorem k_189 : (Cond.methodLink RX1 28 yX1_takeWords) ∈ gT := gT_i 189 (by decide +kernel) rfl
theorem k_191 : (Cond.instanceMethod yX1_takeWords) ∈ gT := gT_i 191 (by decide +kernel) rfl
theorem k_192 : (Cond.code yX1_takeWords cX1_takeWords 7 none) ∈ gT := gT_i 192 (by decide +kernel) rfl
theorem k_206 : (Cond.methodLink RX1 42 yX1_fillRows) ∈ gT := gT_i 206 (by decide +kernel) rfl
theorem k_208 : (Cond.instanceMethod yX1_fillRows) ∈ gT := gT_i 208 (by decide +kernel) rfl
theorem k_209 : (Cond.code yX1_fillRows cX1_fillRows 5 none) ∈ gT := gT_i 209 (by decide +kernel) rfl
theorem k_227 : (Cond.fieldLink RX1 15 "ScriptDesk$Element" "kind" "I") ∈ gT := gT_i 227 (by decide +kernel) rfl
theorem k_231 : (Cond.fieldLink RX1 9 "ScriptDesk$Element" "number" "I") ∈ gT := gT_i 231 (by decide +kernel) rfl
theorem k_236 : (Cond.fieldLink RX1 24 "ScriptDesk$Element" "text" "[B") ∈ gT := gT_i 236 (by decide +kernel) rfl
theorem k_237 : (Cond.fieldLink RX1 32 "ScriptDesk$Element" "size" "I") ∈ gT := gT_i 237 (by decide +kernel) rfl
theorem k_239 : (Cond.fieldLink RX1 35 "ScriptDesk$Element" "rowFrom" "[I") ∈ gT := gT_i 239 (by decide +kernel) rfl
theorem k_240 : (Cond.fieldLink RX1 39 "ScriptDesk$Element" "rowTo" "[I") ∈ gT := gT_i 240 (by decide +kernel) rfl
theorem k_261 : (Cond.arrayClass .int) ∈ gT := gT_i 261 (by decide +kernel) rfl
theorem k_262 : (Cond.classLink RX9 44 RX6) ∈ gT := gT_i 262 (by decide +kernel) rfl
theorem k_263 : (Cond.instantiable RX6 3) ∈ gT := gT_i 263 (by decide +kernel) rfl
theorem k_264 : (Cond.methodLink RX9 46 yX6_init) ∈ gT := gT_i 264 (by decide +kernel) rfl
theorem k_265 : (Cond.instanceMethod yX6_init) ∈ gT := gT_i 265 (by decide +kernel) rfl
theorem k_266 : (Cond.code yX6_init cX6_init 2 none) ∈ gT := gT_i 266 (by decide +kernel) rfl
theorem k_267 : (Cond.methodLink RX6 3 objectInit) ∈ gT := gT_i 267 (by decide +kernel) rfl
theorem k_268 : (Cond.classLink RX6 9 RJx4a65c) ∈ gT := gT_i 268 (by decide +kernel) rfl
theorem k_269 : (Cond.methodLink RX6 11 yJx4a65c_init_da8c8) ∈ gT := gT_i 269 (by decide +kernel) rfl
theorem k_270 : (Cond.classLink RX6 21 RX5) ∈ gT := gT_i 270 (by decide +kernel) rfl
theorem k_271 : (Cond.instantiable RX5 4) ∈ gT := gT_i 271 (by decide +kernel) rfl
theorem k_272 : (Cond.methodLink RX6 23 yX5_init) ∈ gT := gT_i 272 (by decide +kernel) rfl
theorem k_273 : (Cond.instanceMethod yX5_init) ∈ gT := gT_i 273 (by decide +kernel) rfl
theorem k_274 : (Cond.code yX5_init cX5_init 2 none) ∈ gT := gT_i 274 (by decide +kernel) rfl
theorem k_275 : (Cond.methodLink RX5 1 objectInit) ∈ gT := gT_i 275 (by decide +kernel) rfl
theorem k_276 : (Cond.fieldLink RX5 7 "ScriptDesk$Piece" "element" "LScriptDesk$Element;") ∈ gT := gT_i 276 (by decide +kernel) rfl
theorem k_304 : (Cond.fieldLink RX6 12 "ScriptDesk$PieceRow" "pieces" "Ljava/util/ArrayList;") ∈ gT := gT_i 304 (by decide +kernel) rfl
theorem k_305 : (Cond.fieldLink RX6 18 "ScriptDesk$PieceRow" "spare" "Ljava/util/ArrayList;") ∈ gT := gT_i 305 (by decide +kernel) rfl
theorem k_306 : (Cond.fieldLink RX6 26 "ScriptDesk$PieceRow" "nowhere" "LScriptDesk$Piece;") ∈ gT := gT_i 306 (by decide +kernel) rfl
theorem k_314 : (Cond.classLink RX9 53 RX3) ∈ gT := gT_i 314 (by decide +kernel) rfl
theorem k_315 : (Cond.instantiable RX3 7) ∈ gT := gT_i 315 (by decide +kernel) rfl
theorem k_316 : (Cond.methodLink RX9 55 yX3_init) ∈ gT := gT_i 316 (by decide +kernel) rfl
theorem k_317 : (Cond.instanceMethod yX3_init) ∈ gT := gT_i 317 (by decide +kernel) rfl
theorem k_318 : (Cond.code yX3_init cX3_init 2 none) ∈ gT := gT_i 318 (by decide +kernel) rfl
theorem k_319 : (Cond.methodLink RX3 3 objectInit) ∈ gT := gT_i 319 (by decide +kernel) rfl
theorem k_320 : (Cond.fieldLink RX3 9 "ScriptDesk$Leaf" "standing" "LScriptDesk$PieceRow;") ∈ gT := gT_i 320 (by decide +kernel) rfl
theorem k_342 : (Cond.classLink RX9 58 RX0) ∈ gT := gT_i 342 (by decide +kernel) rfl
theorem k_343 : (Cond.instantiable RX0 11) ∈ gT := gT_i 343 (by decide +kernel) rfl
theorem k_344 : (Cond.methodLink RX9 60 yX0_init) ∈ gT := gT_i 344 (by decide +kernel) rfl
theorem k_345 : (Cond.instanceMethod yX0_init) ∈ gT := gT_i 345 (by decide +kernel) rfl
theorem k_346 : (Cond.code yX0_init cX0_init 3 none) ∈ gT := gT_i 346 (by decide +kernel) rfl
theorem k_347 : (Cond.methodLink RX0 3 objectInit) ∈ gT := gT_i 347 (by decide +kernel) rfl
theorem k_348 : (Cond.fieldLink RX0 21 "ScriptDesk$Breaking" "standing" "LScriptDesk$PieceRow;") ∈ gT := gT_i 348 (by decide +kernel) rfl
theorem k_349 : (Cond.fieldLink RX0 25 "ScriptDesk$Breaking" "leaf" "LScriptDesk$Leaf;") ∈ gT := gT_i 349 (by decide +kernel) rfl
theorem k_350 : (Cond.fieldLink RX0 9 "ScriptDesk$Breaking" "beginOfPiece" "[I") ∈ gT := gT_i 350 (by decide +kernel) rfl
theorem k_353 : (Cond.fieldLink RX0 15 "ScriptDesk$Breaking" "costFrom" "[I") ∈ gT := gT_i 353 (by decide +kernel) rfl
theorem k_354 : (Cond.fieldLink RX0 18 "ScriptDesk$Breaking" "nextPlace" "[I") ∈ gT := gT_i 354 (by decide +kernel) rfl
theorem k_382 : (Cond.classLink RX9 67 RX2) ∈ gT := gT_i 382 (by decide +kernel) rfl
theorem k_383 : (Cond.instantiable RX2 10) ∈ gT := gT_i 383 (by decide +kernel) rfl
theorem k_384 : (Cond.methodLink RX9 69 yX2_init) ∈ gT := gT_i 384 (by decide +kernel) rfl
theorem k_385 : (Cond.instanceMethod yX2_init) ∈ gT := gT_i 385 (by decide +kernel) rfl
theorem k_386 : (Cond.code yX2_init cX2_init 3 none) ∈ gT := gT_i 386 (by decide +kernel) rfl
theorem k_387 : (Cond.methodLink RX2 3 objectInit) ∈ gT := gT_i 387 (by decide +kernel) rfl
theorem k_388 : (Cond.fieldLink RX2 21 "ScriptDesk$GroupLayout" "standing" "LScriptDesk$PieceRow;") ∈ gT := gT_i 388 (by decide +kernel) rfl
theorem k_389 : (Cond.fieldLink RX2 25 "ScriptDesk$GroupLayout" "leaf" "LScriptDesk$Leaf;") ∈ gT := gT_i 389 (by decide +kernel) rfl
theorem k_390 : (Cond.fieldLink RX2 9 "ScriptDesk$GroupLayout" "rows" "[I") ∈ gT := gT_i 390 (by decide +kernel) rfl
theorem k_391 : (Cond.fieldLink RX2 15 "ScriptDesk$GroupLayout" "first" "[I") ∈ gT := gT_i 391 (by decide +kernel) rfl
theorem k_392 : (Cond.fieldLink RX2 18 "ScriptDesk$GroupLayout" "last" "[I") ∈ gT := gT_i 392 (by decide +kernel) rfl
theorem k_419 : (Cond.classLink RX9 74 RX7) ∈ gT := gT_i 419 (by decide +kernel) rfl
theorem k_420 : (Cond.instantiable RX7 1) ∈ gT := gT_i 420 (by decide +kernel) rfl
theorem k_421 : (Cond.methodLink RX9 76 yX7_init) ∈ gT := gT_i 421 (by decide +kernel) rfl
theorem k_422 : (Cond.instanceMethod yX7_init) ∈ gT := gT_i 422 (by decide +kernel) rfl
theorem k_423 : (Cond.code yX7_init cX7_init 2 none) ∈ gT := gT_i 423 (by decide +kernel) rfl
theorem k_424 : (Cond.methodLink RX7 3 objectInit) ∈ gT := gT_i 424 (by decide +kernel) rfl
theorem k_425 : (Cond.fieldLink RX7 9 "ScriptDesk$SceneList" "standing" "LScriptDesk$PieceRow;") ∈ gT := gT_i 425 (by decide +kernel) rfl
theorem k_429 : (Cond.fieldLink RX9 10 "ScriptDesk" "tape" "LScriptDesk$Tape;") ∈ gT := gT_i 429 (by decide +kernel) rfl
theorem k_430 : (Cond.fieldLink RX9 21 "ScriptDesk" "reader" "LScriptDesk$LineReader;") ∈ gT := gT_i 430 (by decide +kernel) rfl
theorem k_431 : (Cond.fieldLink RX9 28 "ScriptDesk" "elements" "Ljava/util/ArrayList;") ∈ gT := gT_i 431 (by decide +kernel) rfl
theorem k_432 : (Cond.fieldLink RX9 32 "ScriptDesk" "reordered" "Ljava/util/ArrayList;") ∈ gT := gT_i 432 (by decide +kernel) rfl
theorem k_433 : (Cond.fieldLink RX9 40 "ScriptDesk" "nobody" "LScriptDesk$Element;") ∈ gT := gT_i 433 (by decide +kernel) rfl
theorem k_434 : (Cond.fieldLink RX9 49 "ScriptDesk" "standing" "LScriptDesk$PieceRow;") ∈ gT := gT_i 434 (by decide +kernel) rfl
theorem k_435 : (Cond.fieldLink RX9 63 "ScriptDesk" "breaking" "LScriptDesk$Breaking;") ∈ gT := gT_i 435 (by decide +kernel) rfl
theorem k_436 : (Cond.fieldLink RX9 70 "ScriptDesk" "layout" "LScriptDesk$GroupLayout;") ∈ gT := gT_i 436 (by decide +kernel) rfl
theorem k_437 : (Cond.fieldLink RX9 77 "ScriptDesk" "sceneList" "LScriptDesk$SceneList;") ∈ gT := gT_i 437 (by decide +kernel) rfl
theorem k_438 : (Cond.fieldLink RX9 81 "ScriptDesk" "pageLength" "I") ∈ gT := gT_i 438 (by decide +kernel) rfl
theorem dX9_init_0 : decode cX9_init 0 = .ok (.aload_n 0, 1) := by decide +kernel
theorem dX9_init_1 : decode cX9_init 1 = .ok (.invokespecial 1, 3) := by decide +kernel
theorem dX9_init_4 : decode cX9_init 4 = .ok (.aload_n 0, 1) := by decide +kernel
theorem dX9_init_5 : decode cX9_init 5 = .ok (.new 7, 3) := by decide +kernel
theorem dX9_init_8 : decode cX9_init 8 = .ok (.dup, 1) := by decide +kernel
theorem dX9_init_9 : decode cX9_init 9 = .ok (.invokespecial 9, 3) := by decide +kernel
theorem dX8_init_0 : decode cX8_init 0 = .ok (.aload_n 0, 1) := by decide +kernel
theorem dX8_init_1 : decode cX8_init 1 = .ok (.invokespecial 1, 3) := by decide +kernel
theorem dX8_init_4 : decode cX8_init 4 = .ok (.aload_n 0, 1) := by decide +kernel
theorem dX8_init_5 : decode cX8_init 5 = .ok (.sipush 1200, 3) := by decide +kernel
theorem dX8_init_8 : decode cX8_init 8 = .ok (.newarray .byte, 2) := by decide +kernel
theorem dX8_init_10 : decode cX8_init 10 = .ok (.putfield 9, 3) := by decide +kernel
theorem dX8_init_13 : decode cX8_init 13 = .ok (.return_, 1) := by decide +kernel
theorem dX9_init_12 : decode cX9_init 12 = .ok (.putfield 10, 3) := by decide +kernel
theorem dX9_init_15 : decode cX9_init 15 = .ok (.aload_n 0, 1) := by decide +kernel
theorem dX9_init_16 : decode cX9_init 16 = .ok (.new 16, 3) := by decide +kernel
theorem dX9_init_19 : decode cX9_init 19 = .ok (.dup, 1) := by decide +kernel
theorem dX9_init_20 : decode cX9_init 20 = .ok (.aload_n 0, 1) := by decide +kernel
theorem dX9_init_21 : decode cX9_init 21 = .ok (.getfield 10, 3) := by decide +kernel
theorem dX9_init_24 : decode cX9_init 24 = .ok (.invokespecial 18, 3) := by decide +kernel
theorem dX4_init_0 : decode cX4_init 0 = .ok (.aload_n 0, 1) := by decide +kernel
theorem dX4_init_1 : decode cX4_init 1 = .ok (.invokespecial 3, 3) := by decide +kernel
theorem dX4_init_4 : decode cX4_init 4 = .ok (.aload_n 0, 1) := by decide +kernel
theorem dX4_init_5 : decode cX4_init 5 = .ok (.aload_n 1, 1) := by decide +kernel
theorem dX4_init_6 : decode cX4_init 6 = .ok (.putfield 9, 3) := by decide +kernel
theorem dX4_init_9 : decode cX4_init 9 = .ok (.return_, 1) := by decide +kernel
theorem dX9_init_27 : decode cX9_init 27 = .ok (.putfield 21, 3) := by decide +kernel
theorem dX9_init_30 : decode cX9_init 30 = .ok (.aload_n 0, 1) := by decide +kernel
theorem dX9_init_31 : decode cX9_init 31 = .ok (.new 25, 3) := by decide +kernel
theorem dX9_init_34 : decode cX9_init 34 = .ok (.dup, 1) := by decide +kernel
theorem dX9_init_35 : decode cX9_init 35 = .ok (.invokespecial 27, 3) := by decide +kernel
theorem dJx4a65c_init_da8c8_0 : decode cJx4a65c_init_da8c8 0 = .ok (.aload_n 0, 1) := by decide +kernel
theorem dJx4a65c_init_da8c8_1 : decode cJx4a65c_init_da8c8 1 = .ok (.invokespecial 1, 3) := by decide +kernel
theorem dJxc12de_init_da8c8_0 : decode cJxc12de_init_da8c8 0 = .ok (.aload_n 0, 1) := by decide +kernel
theorem dJxc12de_init_da8c8_1 : decode cJxc12de_init_da8c8 1 = .ok (.invokespecial 1, 3) := by decide +kernel
theorem dJxa1e45_init_da8c8_0 : decode cJxa1e45_init_da8c8 0 = .ok (.aload_n 0, 1) := by decide +kernel
theorem dJxa1e45_init_da8c8_1 : decode cJxa1e45_init_da8c8 1 = .ok (.invokespecial 1, 3) := by decide +kernel
theorem dJxa1e45_init_da8c8_4 : decode cJxa1e45_init_da8c8 4 = .ok (.return_, 1) := by decide +kernel
theorem dJxc12de_init_da8c8_4 : decode cJxc12de_init_da8c8 4 = .ok (.aload_n 0, 1) := by decide +kernel
theorem dJxc12de_init_da8c8_5 : decode cJxc12de_init_da8c8 5 = .ok (.iconst 0, 1) := by decide +kernel
theorem dJxc12de_init_da8c8_6 : decode cJxc12de_init_da8c8 6 = .ok (.putfield 7, 3) := by decide +kernel
theorem dJxc12de_init_da8c8_9 : decode cJxc12de_init_da8c8 9 = .ok (.return_, 1) := by decide +kernel
theorem dJx4a65c_init_da8c8_4 : decode cJx4a65c_init_da8c8 4 = .ok (.aload_n 0, 1) := by decide +kernel
theorem dJx4a65c_init_da8c8_5 : decode cJx4a65c_init_da8c8 5 = .ok (.getstatic 39, 3) := by decide +kernel
theorem dJx4a65c_init_da8c8_8 : decode cJx4a65c_init_da8c8 8 = .ok (.putfield 9, 3) := by decide +kernel
theorem dJx4a65c_init_da8c8_11 : decode cJx4a65c_init_da8c8 11 = .ok (.return_, 1) := by decide +kernel
theorem dX9_init_38 : decode cX9_init 38 = .ok (.putfield 28, 3) := by decide +kernel
theorem dX9_init_41 : decode cX9_init 41 = .ok (.aload_n 0, 1) := by decide +kernel
theorem dX9_init_42 : decode cX9_init 42 = .ok (.new 25, 3) := by decide +kernel
theorem dX9_init_45 : decode cX9_init 45 = .ok (.dup, 1) := by decide +kernel
theorem dX9_init_46 : decode cX9_init 46 = .ok (.invokespecial 27, 3) := by decide +kernel
theorem dX9_init_49 : decode cX9_init 49 = .ok (.putfield 32, 3) := by decide +kernel
theorem dX9_init_52 : decode cX9_init 52 = .ok (.aload_n 0, 1) := by decide +kernel
theorem dX9_init_53 : decode cX9_init 53 = .ok (.new 35, 3) := by decide +kernel
theorem dX9_init_56 : decode cX9_init 56 = .ok (.dup, 1) := by decide +kernel
theorem dX9_init_57 : decode cX9_init 57 = .ok (.iconst (-1), 1) := by decide +kernel
theorem dX9_init_58 : decode cX9_init 58 = .ok (.iconst 5, 1) := by decide +kernel
theorem dX9_init_59 : decode cX9_init 59 = .ok (.aload_n 0, 1) := by decide +kernel
theorem dX9_init_60 : decode cX9_init 60 = .ok (.getfield 10, 3) := by decide +kernel
theorem dX9_init_63 : decode cX9_init 63 = .ok (.iconst 0, 1) := by decide +kernel
theorem dX9_init_64 : decode cX9_init 64 = .ok (.iconst 0, 1) := by decide +kernel
theorem dX9_init_65 : decode cX9_init 65 = .ok (.invokespecial 37, 3) := by decide +kernel
theorem dX1_init_0 : decode cX1_init 0 = .ok (.aload_n 0, 1) := by decide +kernel
theorem dX1_init_1 : decode cX1_init 1 = .ok (.invokespecial 3, 3) := by decide +kernel
theorem dX1_init_4 : decode cX1_init 4 = .ok (.aload_n 0, 1) := by decide +kernel
theorem dX1_init_5 : decode cX1_init 5 = .ok (.iload_n 1, 1) := by decide +kernel
theorem dX1_init_6 : decode cX1_init 6 = .ok (.putfield 9, 3) := by decide +kernel
theorem dX1_init_9 : decode cX1_init 9 = .ok (.aload_n 0, 1) := by decide +kernel
theorem dX1_init_10 : decode cX1_init 10 = .ok (.iload_n 2, 1) := by decide +kernel
theorem dX1_init_11 : decode cX1_init 11 = .ok (.putfield 15, 3) := by decide +kernel
theorem dX1_init_14 : decode cX1_init 14 = .ok (.aload_n 0, 1) := by decide +kernel
theorem dX1_init_15 : decode cX1_init 15 = .ok (.iconst 0, 1) := by decide +kernel
theorem dX1_init_16 : decode cX1_init 16 = .ok (.iload 5, 2) := by decide +kernel
theorem dX1_init_18 : decode cX1_init 18 = .ok (.iload 4, 2) := by decide +kernel
theorem dX1_init_20 : decode cX1_init 20 = .ok (.isub, 1) := by decide +kernel
theorem dX1_init_21 : decode cX1_init 21 = .ok (.invokestatic 18, 3) := by decide +kernel
theorem dX1_init_24 : decode cX1_init 24 = .ok (.newarray .byte, 2) := by decide +kernel
theorem dX1_init_26 : decode cX1_init 26 = .ok (.putfield 24, 3) := by decide +kernel
theorem dX1_init_29 : decode cX1_init 29 = .ok (.aload_n 0, 1) := by decide +kernel
theorem dX1_init_30 : decode cX1_init 30 = .ok (.aload_n 3, 1) := by decide +kernel
theorem dX1_init_31 : decode cX1_init 31 = .ok (.iload 4, 2) := by decide +kernel
theorem dX1_init_33 : decode cX1_init 33 = .ok (.iload 5, 2) := by decide +kernel
theorem dX1_init_35 : decode cX1_init 35 = .ok (.invokevirtual 28, 3) := by decide +kernel
theorem dX1_takeWords_0 : decode cX1_takeWords 0 = .ok (.iconst 0, 1) := by decide +kernel
theorem dX1_takeWords_1 : decode cX1_takeWords 1 = .ok (.istore 4, 2) := by decide +kernel
theorem dX1_takeWords_3 : decode cX1_takeWords 3 = .ok (.iload_n 2, 1) := by decide +kernel
theorem dX1_takeWords_4 : decode cX1_takeWords 4 = .ok (.istore 5, 2) := by decide +kernel
theorem dX1_takeWords_6 : decode cX1_takeWords 6 = .ok (.iload 5, 2) := by decide +kernel
theorem dX1_takeWords_8 : decode cX1_takeWords 8 = .ok (.iload_n 3, 1) := by decide +kernel
theorem dX1_takeWords_9 : decode cX1_takeWords 9 = .ok (.if_icmp .ge 78, 3) := by decide +kernel
theorem dX1_takeWords_87 : decode cX1_takeWords 87 = .ok (.return_, 1) := by decide +kernel
theorem dX1_init_38 : decode cX1_init 38 = .ok (.iconst 2, 1) := by decide +kernel
theorem dX1_init_39 : decode cX1_init 39 = .ok (.aload_n 0, 1) := by decide +kernel
theorem dX1_init_40 : decode cX1_init 40 = .ok (.getfield 32, 3) := by decide +kernel
theorem dX1_init_43 : decode cX1_init 43 = .ok (.bipush 20, 2) := by decide +kernel
theorem dX1_init_45 : decode cX1_init 45 = .ok (.idiv, 1) := by decide +kernel
theorem dX1_init_46 : decode cX1_init 46 = .ok (.imul, 1) := by decide +kernel
theorem dX1_init_47 : decode cX1_init 47 = .ok (.iconst 1, 1) := by decide +kernel
theorem dX1_init_48 : decode cX1_init 48 = .ok (.iadd, 1) := by decide +kernel
theorem dX1_init_49 : decode cX1_init 49 = .ok (.istore 6, 2) := by decide +kernel
theorem dX1_init_51 : decode cX1_init 51 = .ok (.aload_n 0, 1) := by decide +kernel
theorem dX1_init_52 : decode cX1_init 52 = .ok (.iload 6, 2) := by decide +kernel
theorem dX1_init_54 : decode cX1_init 54 = .ok (.newarray .int, 2) := by decide +kernel
theorem dX1_init_56 : decode cX1_init 56 = .ok (.putfield 35, 3) := by decide +kernel
theorem dX1_init_59 : decode cX1_init 59 = .ok (.aload_n 0, 1) := by decide +kernel
theorem dX1_init_60 : decode cX1_init 60 = .ok (.iload 6, 2) := by decide +kernel
theorem dX1_init_62 : decode cX1_init 62 = .ok (.newarray .int, 2) := by decide +kernel
theorem dX1_init_64 : decode cX1_init 64 = .ok (.putfield 39, 3) := by decide +kernel
theorem dX1_init_67 : decode cX1_init 67 = .ok (.aload_n 0, 1) := by decide +kernel
theorem dX1_init_68 : decode cX1_init 68 = .ok (.invokevirtual 42, 3) := by decide +kernel
theorem dX1_fillRows_0 : decode cX1_fillRows 0 = .ok (.iconst 0, 1) := by decide +kernel
theorem dX1_fillRows_1 : decode cX1_fillRows 1 = .ok (.istore_n 1, 1) := by decide +kernel
theorem dX1_fillRows_2 : decode cX1_fillRows 2 = .ok (.iconst 0, 1) := by decide +kernel
theorem dX1_fillRows_3 : decode cX1_fillRows 3 = .ok (.istore_n 2, 1) := by decide +kernel
theorem dX1_fillRows_4 : decode cX1_fillRows 4 = .ok (.iload_n 2, 1) := by decide +kernel
theorem dX1_fillRows_5 : decode cX1_fillRows 5 = .ok (.aload_n 0, 1) := by decide +kernel
theorem dX1_fillRows_6 : decode cX1_fillRows 6 = .ok (.getfield 32, 3) := by decide +kernel
theorem dX1_fillRows_9 : decode cX1_fillRows 9 = .ok (.if_icmp .ge 68, 3) := by decide +kernel
theorem dX1_fillRows_77 : decode cX1_fillRows 77 = .ok (.return_, 1) := by decide +kernel
theorem dX1_init_71 : decode cX1_init 71 = .ok (.return_, 1) := by decide +kernel
theorem dX9_init_68 : decode cX9_init 68 = .ok (.putfield 40, 3) := by decide +kernel
theorem dX9_init_71 : decode cX9_init 71 = .ok (.aload_n 0, 1) := by decide +kernel
theorem dX9_init_72 : decode cX9_init 72 = .ok (.new 44, 3) := by decide +kernel
theorem dX9_init_75 : decode cX9_init 75 = .ok (.dup, 1) := by decide +kernel
theorem dX9_init_76 : decode cX9_init 76 = .ok (.aload_n 0, 1) := by decide +kernel
theorem dX9_init_77 : decode cX9_init 77 = .ok (.getfield 40, 3) := by decide +kernel
theorem dX9_init_80 : decode cX9_init 80 = .ok (.invokespecial 46, 3) := by decide +kernel
theorem dX6_init_0 : decode cX6_init 0 = .ok (.aload_n 0, 1) := by decide +kernel
theorem dX6_init_1 : decode cX6_init 1 = .ok (.invokespecial 3, 3) := by decide +kernel
theorem dX6_init_4 : decode cX6_init 4 = .ok (.aload_n 0, 1) := by decide +kernel
theorem dX6_init_5 : decode cX6_init 5 = .ok (.new 9, 3) := by decide +kernel
theorem dX6_init_8 : decode cX6_init 8 = .ok (.dup, 1) := by decide +kernel
theorem dX6_init_9 : decode cX6_init 9 = .ok (.invokespecial 11, 3) := by decide +kernel
theorem dX6_init_12 : decode cX6_init 12 = .ok (.putfield 12, 3) := by decide +kernel
theorem dX6_init_15 : decode cX6_init 15 = .ok (.aload_n 0, 1) := by decide +kernel
theorem dX6_init_16 : decode cX6_init 16 = .ok (.new 9, 3) := by decide +kernel
theorem dX6_init_19 : decode cX6_init 19 = .ok (.dup, 1) := by decide +kernel
theorem dX6_init_20 : decode cX6_init 20 = .ok (.invokespecial 11, 3) := by decide +kernel
theorem dX6_init_23 : decode cX6_init 23 = .ok (.putfield 18, 3) := by decide +kernel
theorem dX6_init_26 : decode cX6_init 26 = .ok (.aload_n 0, 1) := by decide +kernel
theorem dX6_init_27 : decode cX6_init 27 = .ok (.new 21, 3) := by decide +kernel
theorem dX6_init_30 : decode cX6_init 30 = .ok (.dup, 1) := by decide +kernel
theorem dX6_init_31 : decode cX6_init 31 = .ok (.aload_n 1, 1) := by decide +kernel
theorem dX6_init_32 : decode cX6_init 32 = .ok (.invokespecial 23, 3) := by decide +kernel
theorem dX5_init_0 : decode cX5_init 0 = .ok (.aload_n 0, 1) := by decide +kernel
theorem dX5_init_1 : decode cX5_init 1 = .ok (.invokespecial 1, 3) := by decide +kernel
theorem dX5_init_4 : decode cX5_init 4 = .ok (.aload_n 0, 1) := by decide +kernel
theorem dX5_init_5 : decode cX5_init 5 = .ok (.aload_n 1, 1) := by decide +kernel
theorem dX5_init_6 : decode cX5_init 6 = .ok (.putfield 7, 3) := by decide +kernel
theorem dX5_init_9 : decode cX5_init 9 = .ok (.return_, 1) := by decide +kernel
theorem dX6_init_35 : decode cX6_init 35 = .ok (.putfield 26, 3) := by decide +kernel
theorem dX6_init_38 : decode cX6_init 38 = .ok (.return_, 1) := by decide +kernel
theorem dX9_init_83 : decode cX9_init 83 = .ok (.putfield 49, 3) := by decide +kernel
theorem dX9_init_86 : decode cX9_init 86 = .ok (.new 53, 3) := by decide +kernel
theorem dX9_init_89 : decode cX9_init 89 = .ok (.dup, 1) := by decide +kernel
theorem dX9_init_90 : decode cX9_init 90 = .ok (.aload_n 0, 1) := by decide +kernel
theorem dX9_init_91 : decode cX9_init 91 = .ok (.getfield 49, 3) := by decide +kernel
theorem dX9_init_94 : decode cX9_init 94 = .ok (.invokespecial 55, 3) := by decide +kernel
theorem dX3_init_0 : decode cX3_init 0 = .ok (.aload_n 0, 1) := by decide +kernel
theorem dX3_init_1 : decode cX3_init 1 = .ok (.invokespecial 3, 3) := by decide +kernel
theorem dX3_init_4 : decode cX3_init 4 = .ok (.aload_n 0, 1) := by decide +kernel
theorem dX3_init_5 : decode cX3_init 5 = .ok (.aload_n 1, 1) := by decide +kernel
theorem dX3_init_6 : decode cX3_init 6 = .ok (.putfield 9, 3) := by decide +kernel
theorem dX3_init_9 : decode cX3_init 9 = .ok (.return_, 1) := by decide +kernel
theorem dX9_init_97 : decode cX9_init 97 = .ok (.astore_n 1, 1) := by decide +kernel
theorem dX9_init_98 : decode cX9_init 98 = .ok (.aload_n 0, 1) := by decide +kernel
theorem dX9_init_99 : decode cX9_init 99 = .ok (.new 58, 3) := by decide +kernel
theorem dX9_init_102 : decode cX9_init 102 = .ok (.dup, 1) := by decide +kernel
theorem dX9_init_103 : decode cX9_init 103 = .ok (.aload_n 0, 1) := by decide +kernel
theorem dX9_init_104 : decode cX9_init 104 = .ok (.getfield 49, 3) := by decide +kernel
theorem dX9_init_107 : decode cX9_init 107 = .ok (.aload_n 1, 1) := by decide +kernel
theorem dX9_init_108 : decode cX9_init 108 = .ok (.invokespecial 60, 3) := by decide +kernel
theorem dX0_init_0 : decode cX0_init 0 = .ok (.aload_n 0, 1) := by decide +kernel
theorem dX0_init_1 : decode cX0_init 1 = .ok (.invokespecial 3, 3) := by decide +kernel
theorem dX0_init_4 : decode cX0_init 4 = .ok (.aload_n 0, 1) := by decide +kernel
theorem dX0_init_5 : decode cX0_init 5 = .ok (.bipush 61, 2) := by decide +kernel
theorem dX0_init_7 : decode cX0_init 7 = .ok (.newarray .int, 2) := by decide +kernel
theorem dX0_init_9 : decode cX0_init 9 = .ok (.putfield 9, 3) := by decide +kernel
theorem dX0_init_12 : decode cX0_init 12 = .ok (.aload_n 0, 1) := by decide +kernel
theorem dX0_init_13 : decode cX0_init 13 = .ok (.sipush 128, 3) := by decide +kernel
theorem dX0_init_16 : decode cX0_init 16 = .ok (.newarray .int, 2) := by decide +kernel
theorem dX0_init_18 : decode cX0_init 18 = .ok (.putfield 15, 3) := by decide +kernel
theorem dX0_init_21 : decode cX0_init 21 = .ok (.aload_n 0, 1) := by decide +kernel
theorem dX0_init_22 : decode cX0_init 22 = .ok (.sipush 128, 3) := by decide +kernel
theorem dX0_init_25 : decode cX0_init 25 = .ok (.newarray .int, 2) := by decide +kernel
theorem dX0_init_27 : decode cX0_init 27 = .ok (.putfield 18, 3) := by decide +kernel
theorem dX0_init_30 : decode cX0_init 30 = .ok (.aload_n 0, 1) := by decide +kernel
theorem dX0_init_31 : decode cX0_init 31 = .ok (.aload_n 1, 1) := by decide +kernel
theorem dX0_init_32 : decode cX0_init 32 = .ok (.putfield 21, 3) := by decide +kernel
theorem dX0_init_35 : decode cX0_init 35 = .ok (.aload_n 0, 1) := by decide +kernel
theorem dX0_init_36 : decode cX0_init 36 = .ok (.aload_n 2, 1) := by decide +kernel
theorem dX0_init_37 : decode cX0_init 37 = .ok (.putfield 25, 3) := by decide +kernel
theorem dX0_init_40 : decode cX0_init 40 = .ok (.return_, 1) := by decide +kernel
theorem dX9_init_111 : decode cX9_init 111 = .ok (.putfield 63, 3) := by decide +kernel
theorem dX9_init_114 : decode cX9_init 114 = .ok (.aload_n 0, 1) := by decide +kernel
theorem dX9_init_115 : decode cX9_init 115 = .ok (.new 67, 3) := by decide +kernel
theorem dX9_init_118 : decode cX9_init 118 = .ok (.dup, 1) := by decide +kernel
theorem dX9_init_119 : decode cX9_init 119 = .ok (.aload_n 0, 1) := by decide +kernel
theorem dX9_init_120 : decode cX9_init 120 = .ok (.getfield 49, 3) := by decide +kernel
theorem dX9_init_123 : decode cX9_init 123 = .ok (.aload_n 1, 1) := by decide +kernel
theorem dX9_init_124 : decode cX9_init 124 = .ok (.invokespecial 69, 3) := by decide +kernel
theorem dX2_init_0 : decode cX2_init 0 = .ok (.aload_n 0, 1) := by decide +kernel
theorem dX2_init_1 : decode cX2_init 1 = .ok (.invokespecial 3, 3) := by decide +kernel
theorem dX2_init_4 : decode cX2_init 4 = .ok (.aload_n 0, 1) := by decide +kernel
theorem dX2_init_5 : decode cX2_init 5 = .ok (.bipush 28, 2) := by decide +kernel
theorem dX2_init_7 : decode cX2_init 7 = .ok (.newarray .int, 2) := by decide +kernel
theorem dX2_init_9 : decode cX2_init 9 = .ok (.putfield 9, 3) := by decide +kernel
theorem dX2_init_12 : decode cX2_init 12 = .ok (.aload_n 0, 1) := by decide +kernel
theorem dX2_init_13 : decode cX2_init 13 = .ok (.bipush 28, 2) := by decide +kernel
theorem dX2_init_15 : decode cX2_init 15 = .ok (.newarray .int, 2) := by decide +kernel
theorem dX2_init_17 : decode cX2_init 17 = .ok (.putfield 15, 3) := by decide +kernel
theorem dX2_init_20 : decode cX2_init 20 = .ok (.aload_n 0, 1) := by decide +kernel
theorem dX2_init_21 : decode cX2_init 21 = .ok (.bipush 28, 2) := by decide +kernel
theorem dX2_init_23 : decode cX2_init 23 = .ok (.newarray .int, 2) := by decide +kernel
theorem dX2_init_25 : decode cX2_init 25 = .ok (.putfield 18, 3) := by decide +kernel
theorem dX2_init_28 : decode cX2_init 28 = .ok (.aload_n 0, 1) := by decide +kernel
theorem dX2_init_29 : decode cX2_init 29 = .ok (.aload_n 1, 1) := by decide +kernel
theorem dX2_init_30 : decode cX2_init 30 = .ok (.putfield 21, 3) := by decide +kernel
theorem dX2_init_33 : decode cX2_init 33 = .ok (.aload_n 0, 1) := by decide +kernel
theorem dX2_init_34 : decode cX2_init 34 = .ok (.aload_n 2, 1) := by decide +kernel
theorem dX2_init_35 : decode cX2_init 35 = .ok (.putfield 25, 3) := by decide +kernel
theorem dX2_init_38 : decode cX2_init 38 = .ok (.return_, 1) := by decide +kernel
theorem dX9_init_127 : decode cX9_init 127 = .ok (.putfield 70, 3) := by decide +kernel
theorem dX9_init_130 : decode cX9_init 130 = .ok (.aload_n 0, 1) := by decide +kernel
theorem dX9_init_131 : decode cX9_init 131 = .ok (.new 74, 3) := by decide +kernel
theorem dX9_init_134 : decode cX9_init 134 = .ok (.dup, 1) := by decide +kernel
theorem dX9_init_135 : decode cX9_init 135 = .ok (.aload_n 0, 1) := by decide +kernel
theorem dX9_init_136 : decode cX9_init 136 = .ok (.getfield 49, 3) := by decide +kernel
theorem dX9_init_139 : decode cX9_init 139 = .ok (.invokespecial 76, 3) := by decide +kernel
theorem dX7_init_0 : decode cX7_init 0 = .ok (.aload_n 0, 1) := by decide +kernel
theorem dX7_init_1 : decode cX7_init 1 = .ok (.invokespecial 3, 3) := by decide +kernel
theorem dX7_init_4 : decode cX7_init 4 = .ok (.aload_n 0, 1) := by decide +kernel
theorem dX7_init_5 : decode cX7_init 5 = .ok (.aload_n 1, 1) := by decide +kernel
theorem dX7_init_6 : decode cX7_init 6 = .ok (.putfield 9, 3) := by decide +kernel
theorem dX7_init_9 : decode cX7_init 9 = .ok (.return_, 1) := by decide +kernel
theorem dX9_init_142 : decode cX9_init 142 = .ok (.putfield 77, 3) := by decide +kernel
theorem dX9_init_145 : decode cX9_init 145 = .ok (.aload_n 0, 1) := by decide +kernel
theorem dX9_init_146 : decode cX9_init 146 = .ok (.bipush 20, 2) := by decide +kernel
theorem dX9_init_148 : decode cX9_init 148 = .ok (.putfield 81, 3) := by decide +kernel
theorem dX9_init_151 : decode cX9_init 151 = .ok (.return_, 1) := by decide +kernel
set_option maxHeartbeats 1000000 in
set_option maxRecDepth 100000 in
theorem m_X8_init_1 (l : Launch) (D : va_G) (h0 : Nat) : cV l D yX8_init cX8_init 1 none 1 12 1 1200 [.ref h0] zT [(h0, .inr (9, [.null, .int 0]))] [] (fun u => ∃ (q1 : Nat) (a2 : ClassId), u = ([(h0, .inr (9, [.ref q1, .int 0])), (q1, .inl (a2, 1200, .inl (fun _ => 0)))], [(a2, .byte)])) := by
  refine q_sv (by decide) (Nat.le_of_ble_eq_true rfl) ?_
  intro p e s m below meth c A ls hAe hf hr hlocks hin hK hP hD hS hA hZ hl
  obtain ⟨hx, hb, hml, hown, hts⟩ := id hf
  have hl : lv_has ls 1 [(0, .ref h0)] := hl
  refine lv_aload_n hx hb dX8_init_0 rfl (lv_at hl 0 rfl) ?_
  refine W.objInit hx hb hown (hts _ k_120) (hts _ k_113) (hts _ k_114) rfl (by rw [hml]; exact hl.1) rfl dX8_init_1 (Nat.le_of_ble_eq_true rfl) (Nat.le_of_ble_eq_true rfl) ?_
  refine q_eq (pc := 4) (st := []) rfl ?_
  refine lv_aload_n hx hb dX8_init_4 rfl (lv_at hl 0 rfl) ?_
  refine lv_sipush (v := 1200) hx hb dX8_init_5 (by decide) ?_
  refine va_newa (atype := .byte) (ty := .byte) (a0 := (1200, .inl (fun _ => 0))) hx hb (hts (.arrayClass .byte) k_128) rfl hK hP hD hS hA (N' := 1200) (q_a0_byte 1200) (by decide) (by decide) (by decide) (Nat.le_of_ble_eq_true rfl) (Nat.le_of_ble_eq_true rfl) dX8_init_8 (fun q1 a2 H hK hP hD hS => ?_)
  refine W.widen (k := 1) (n := 1200) (by decide) (by decide) ?_
  have hP : va_P D vcl [(h0, .inr (9, [.null, .int 0])), (q1, .inl (a2, 1200, .inl (fun _ => 0)))] H := hP
  have hD : va_D A [(h0, .inr (9, [.null, .int 0])), (q1, .inl (a2, 1200, .inl (fun _ => 0)))] := hD
  have hK : va_K D vcl [(a2, .byte)] s := hK
  refine va_putF (D := D) (ci := 9) (v := .ref q1) (ty := .array .byte) (C := RX8) (T := TX8) (N := 2) hx hb hts inX8 tyX8 tyX8_ok nmX8 hown hK hP hD hS 0 rfl rfl 0 (by decide) (hts _ k_121) (fun _ h9 => h9) rfl hin rfl (by decide +kernel) rfl rfl (Nat.le_of_ble_eq_true rfl) dX8_init_10 (fun H locs hP hD hS => ?_)
  have hP : va_P D vcl [(h0, .inr (9, [.ref q1, .int 0])), (q1, .inl (a2, 1200, .inl (fun _ => 0)))] H := hP
  have hD : va_D A [(h0, .inr (9, [.ref q1, .int 0])), (q1, .inl (a2, 1200, .inl (fun _ => 0)))] := hD
  exact q_rv hf hr hlocks hK hP hD hS [0, 1] [0] (w1 := [(h0, .inr (9, [.ref q1, .int 0])), (q1, .inl (a2, 1200, .inl (fun _ => 0)))]) (t1 := [(a2, .byte)]) rfl (by decide) rfl (Nat.le_of_ble_eq_true rfl) (Nat.le_of_ble_eq_true rfl) ⟨q1, a2, rfl⟩ dX8_init_13
set_option maxHeartbeats 1000000 in
set_option maxRecDepth 100000 in
theorem m_X4_init_1 (l : Launch) (D : va_G) (h0 : Nat) (h1 : Nat) : cV l D yX4_init cX4_init 2 none 1 12 0 0 [.ref h0, .ref h1] zT [(h0, .inr (5, [.null, .int 0, .int 0, .int 0, .int 0, .int 0]))] [] (fun u => u = ([(h0, .inr (5, [.ref h1, .int 0, .int 0, .int 0, .int 0, .int 0]))], [])) := by
  refine q_sv (by decide) (Nat.le_of_ble_eq_true rfl) ?_
  intro p e s m below meth c A ls hAe hf hr hlocks hin hK hP hD hS hA hZ hl
  obtain ⟨hx, hb, hml, hown, hts⟩ := id hf
  have hl : lv_has ls 2 [(0, .ref h0), (1, .ref h1)] := hl
  refine lv_aload_n hx hb dX4_init_0 rfl (lv_at hl 0 rfl) ?_
  refine W.objInit hx hb hown (hts _ k_134) (hts _ k_113) (hts _ k_114) rfl (by rw [hml]; exact hl.1) rfl dX4_init_1 (Nat.le_of_ble_eq_true rfl) (Nat.le_of_ble_eq_true rfl) ?_
  refine q_eq (pc := 4) (st := []) rfl ?_
  refine lv_aload_n hx hb dX4_init_4 rfl (lv_at hl 0 rfl) ?_
  refine lv_aload_n hx hb dX4_init_5 rfl (lv_at hl 1 rfl) ?_
  refine va_putF (D := D) (ci := 5) (v := .ref h1) (ty := .object "ScriptDesk$Tape") (C := RX4) (T := TX4) (N := 6) hx hb hts inX4 tyX4 tyX4_ok nmX4 hown hK hP hD hS 0 rfl rfl 0 (by decide) (hts _ k_135) (fun _ h9 => h9) rfl hin rfl (by decide +kernel) rfl rfl (Nat.le_of_ble_eq_true rfl) dX4_init_6 (fun H locs hP hD hS => ?_)
  have hP : va_P D vcl [(h0, .inr (5, [.ref h1, .int 0, .int 0, .int 0, .int 0, .int 0]))] H := hP
  have hD : va_D A [(h0, .inr (5, [.ref h1, .int 0, .int 0, .int 0, .int 0, .int 0]))] := hD
  exact q_rv hf hr hlocks hK hP hD hS [0] [] (w1 := [(h0, .inr (5, [.ref h1, .int 0, .int 0, .int 0, .int 0, .int 0]))]) (t1 := []) rfl (by decide) rfl (Nat.le_of_ble_eq_true rfl) (Nat.le_of_ble_eq_true rfl) rfl dX4_init_9
set_option maxHeartbeats 1000000 in
set_option maxRecDepth 100000 in
theorem m_Jxa1e45_init_da8c8_1 (l : Launch) (D : va_G) (h0 : Nat) : cV l D yJxa1e45_init_da8c8 cJxa1e45_init_da8c8 1 none 1 12 0 0 [.ref h0] zT [(h0, .inr (0, [.int 0, .null, .int 0]))] [] (fun u => u = ([(h0, .inr (0, [.int 0, .null, .int 0]))], [])) := by
  refine q_sv (by decide) (Nat.le_of_ble_eq_true rfl) ?_
  intro p e s m below meth c A ls hAe hf hr hlocks hin hK hP hD hS hA hZ hl
  obtain ⟨hx, hb, hml, hown, hts⟩ := id hf
  have hl : lv_has ls 1 [(0, .ref h0)] := hl
  refine lv_aload_n hx hb dJxa1e45_init_da8c8_0 rfl (lv_at hl 0 rfl) ?_
  refine W.objInit hx hb hown (hts _ k_165) (hts _ k_113) (hts _ k_114) rfl (by rw [hml]; exact hl.1) rfl dJxa1e45_init_da8c8_1 (Nat.le_of_ble_eq_true rfl) (Nat.le_of_ble_eq_true rfl) ?_
  refine q_eq (pc := 4) (st := []) rfl ?_
  exact q_rv hf hr hlocks hK hP hD hS [0] [] (w1 := [(h0, .inr (0, [.int 0, .null, .int 0]))]) (t1 := []) rfl (by decide) rfl (Nat.le_of_ble_eq_true rfl) (Nat.le_of_ble_eq_true rfl) rfl dJxa1e45_init_da8c8_4
set_option maxHeartbeats 1000000 in
set_option maxRecDepth 100000 in
theorem m_Jxc12de_init_da8c8_1 (l : Launch) (D : va_G) (h0 : Nat) : cV l D yJxc12de_init_da8c8 cJxc12de_init_da8c8 1 none 2 32 0 0 [.ref h0] zT [(h0, .inr (0, [.int 0, .null, .int 0]))] [] (fun u => u = ([(h0, .inr (0, [.int 0, .null, .int 0]))], [])) := by
  refine q_sv (by decide) (Nat.le_of_ble_eq_true rfl) ?_
  intro p e s m below meth c A ls hAe hf hr hlocks hin hK hP hD hS hA hZ hl
  obtain ⟨hx, hb, hml, hown, hts⟩ := id hf
  have hl : lv_has ls 1 [(0, .ref h0)] := hl
  refine lv_aload_n hx hb dJxc12de_init_da8c8_0 rfl (lv_at hl 0 rfl) ?_
  refine q_bv (wc := [(h0, .inr (0, [.int 0, .null, .int 0]))]) (wr := []) (tc := []) (tr := []) (k := 0) (n := 0) hK hP hD hS hA [0] [] [] [] rfl rfl (by decide) (by decide) (by decide) rfl rfl (fun hPc hKc hDc hFc => (q_rI (As := []) (rest := []) hf (m_Jxa1e45_init_da8c8_1 _ D h0 _) k_164 k_162 k_163 k_87 rfl (nA := 0) (by decide +kernel) ⟨Nat.le_of_ble_eq_true rfl, Nat.le_of_ble_eq_true rfl⟩ hPc hKc hDc (fun _ _ _ _ h => h) (fun _ _ _ => trivial) rfl hl.1 rfl (Nat.le_of_ble_eq_true rfl) dJxc12de_init_da8c8_1 ⟨Nat.le_of_ble_eq_true rfl, Nat.le_of_ble_eq_true rfl⟩)) (by decide) (by decide) (fun u H locs hw hK hP hD hS => ?_)
  obtain rfl := hw
  have hP : va_P D vcl [(h0, .inr (0, [.int 0, .null, .int 0]))] H := hP
  have hD : va_D A [(h0, .inr (0, [.int 0, .null, .int 0]))] := hD
  have hK : va_K D vcl [] s := hK
  refine lv_aload_n hx hb dJxc12de_init_da8c8_4 rfl (lv_at hl 0 rfl) ?_
  refine lv_iconst (v := 0) hx hb dJxc12de_init_da8c8_5 (by decide) ?_
  refine va_put (D := D) (ci := 0) (v := .int 0) (ty := .int) (C := RJx4a65c) (T := TJx4a65c) (N := 3) hx hb hts inJx4a65c tyJx4a65c tyJx4a65c_ok nmJx4a65c hown hK hP hD hS 0 rfl rfl 0 (by decide) (hts _ k_170) (fun _ h9 => h9) rfl (by decide +kernel) rfl rfl (Nat.le_of_ble_eq_true rfl) dJxc12de_init_da8c8_6 (fun H locs hP hD hS => ?_)
  have hP : va_P D vcl [(h0, .inr (0, [.int 0, .null, .int 0]))] H := hP
  have hD : va_D A [(h0, .inr (0, [.int 0, .null, .int 0]))] := hD
  exact q_rv hf hr hlocks hK hP hD hS [0] [] (w1 := [(h0, .inr (0, [.int 0, .null, .int 0]))]) (t1 := []) rfl (by decide) rfl (Nat.le_of_ble_eq_true rfl) (Nat.le_of_ble_eq_true rfl) rfl dJxc12de_init_da8c8_9
set_option maxHeartbeats 1000000 in
set_option maxRecDepth 100000 in
theorem m_Jx4a65c_init_da8c8_1 (l : Launch) (D : va_G) (z0 : Nat) (h0 : Nat) : cV l D yJx4a65c_init_da8c8 cJx4a65c_init_da8c8 1 none 3 52 0 0 [.ref h0] (zN z0 [(h0, .inr (0, [.int 0, .null, .int 0]))]) [(h0, .inr (0, [.int 0, .null, .int 0]))] [] (fun u => u = ([(h0, .inr (0, [.int 0, .ref z0, .int 0]))], [])) := by
  refine q_sv (by decide) (Nat.le_of_ble_eq_true rfl) ?_
  intro p e s m below meth c A ls hAe hf hr hlocks hin hK hP hD hS hA hZ hl
  obtain ⟨hx, hb, hml, hown, hts⟩ := id hf
  obtain ⟨hZ, hN⟩ := hZ
  rw [hAe] at hZ
  have hl : lv_has ls 1 [(0, .ref h0)] := hl
  refine lv_aload_n hx hb dJx4a65c_init_da8c8_0 rfl (lv_at hl 0 rfl) ?_
  refine q_bv (wc := [(h0, .inr (0, [.int 0, .null, .int 0]))]) (wr := []) (tc := []) (tr := []) (k := 0) (n := 0) hK hP hD hS hA [0] [] [] [] rfl rfl (by decide) (by decide) (by decide) rfl rfl (fun hPc hKc hDc hFc => (q_rI (As := []) (rest := []) hf (m_Jxc12de_init_da8c8_1 _ D h0 _) k_161 k_159 k_160 k_88 rfl (nA := 0) (by decide +kernel) ⟨Nat.le_of_ble_eq_true rfl, Nat.le_of_ble_eq_true rfl⟩ hPc hKc hDc (fun _ _ _ _ h => h) (fun _ _ _ => trivial) rfl hl.1 rfl (Nat.le_of_ble_eq_true rfl) dJx4a65c_init_da8c8_1 ⟨Nat.le_of_ble_eq_true rfl, Nat.le_of_ble_eq_true rfl⟩)) (by decide) (by decide) (fun u H locs hw hK hP hD hS => ?_)
  obtain rfl := hw
  have hP : va_P D vcl [(h0, .inr (0, [.int 0, .null, .int 0]))] H := hP
  have hD : va_D A [(h0, .inr (0, [.int 0, .null, .int 0]))] := hD
  have hK : va_K D vcl [] s := hK
  refine lv_aload_n hx hb dJx4a65c_init_da8c8_4 rfl (lv_at hl 0 rfl) ?_
  refine va_gets hx hb hZ hS hown (hts _ k_166) (fun _ h9 => h9) dJx4a65c_init_da8c8_5 ?_
  refine va_put (D := D) (ci := 0) (v := .ref z0) (ty := .array (.object "java/lang/Object")) (C := RJx4a65c) (T := TJx4a65c) (N := 3) hx hb hts inJx4a65c tyJx4a65c tyJx4a65c_ok nmJx4a65c hown hK hP hD hS 0 rfl rfl 1 (by decide) (hts _ k_168) (fun _ h9 => h9) rfl (by decide +kernel) rfl rfl (Nat.le_of_ble_eq_true rfl) dJx4a65c_init_da8c8_8 (fun H locs hP hD hS => ?_)
  have hP : va_P D vcl [(h0, .inr (0, [.int 0, .ref z0, .int 0]))] H := hP
  have hD : va_D A [(h0, .inr (0, [.int 0, .ref z0, .int 0]))] := hD
  exact q_rv hf hr hlocks hK hP hD hS [0] [] (w1 := [(h0, .inr (0, [.int 0, .ref z0, .int 0]))]) (t1 := []) rfl (by decide) rfl (Nat.le_of_ble_eq_true rfl) (Nat.le_of_ble_eq_true rfl) rfl dJx4a65c_init_da8c8_11
set_option maxHeartbeats 1000000 in
set_option maxRecDepth 100000 in
theorem m_X1_takeWords_1 (l : Launch) (D : va_G) (h0 : Nat) (h1 : Nat) : cV l D yX1_takeWords cX1_takeWords 7 none 0 0 0 0 [.ref h0, .ref h1, .int 0, .int 0] zT [] [] (fun u => u = ([], [])) := by
  refine q_sv (by decide) (Nat.le_of_ble_eq_true rfl) ?_
  intro p e s m below meth c A ls hAe hf hr hlocks hin hK hP hD hS hA hZ hl
  obtain ⟨hx, hb, hml, hown, hts⟩ := id hf
  have hl : lv_has ls 7 [(0, .ref h0), (1, .ref h1), (2, .int 0), (3, .int 0)] := hl
  refine lv_iconst (v := 0) hx hb dX1_takeWords_0 (by decide) ?_
  refine lv_istore (lv' := [(4, .int 0), (0, .ref h0), (1, .ref h1), (2, .int 0), (3, .int 0)]) hx hb dX1_takeWords_1 hl (by decide) rfl (fun ls hl => ?_)
  refine lv_iload_n hx hb dX1_takeWords_3 rfl (lv_at hl 3 rfl) ?_
  refine lv_istore (lv' := [(5, .int 0), (4, .int 0), (0, .ref h0), (1, .ref h1), (2, .int 0), (3, .int 0)]) hx hb dX1_takeWords_4 hl (by decide) rfl (fun ls hl => ?_)
  refine lv_iload hx hb dX1_takeWords_6 (lv_at hl 0 rfl) ?_
  refine lv_iload_n hx hb dX1_takeWords_8 rfl (lv_at hl 5 rfl) ?_
  refine lv_icmp_ge (tgt := 87) hx hb dX1_takeWords_9 (by decide) (fun _ => ?_) (fun hno => absurd hno (by decide))
  exact q_rv hf hr hlocks hK hP hD hS [] [] (w1 := []) (t1 := []) rfl (by decide) rfl (Nat.le_of_ble_eq_true rfl) (Nat.le_of_ble_eq_true rfl) rfl dX1_takeWords_87
set_option maxHeartbeats 1000000 in
set_option maxRecDepth 100000 in
theorem m_X1_fillRows_1 (l : Launch) (D : va_G) (h0 : Nat) (h1 : Nat) (h2 : Nat) (h3 : Nat) : cV l D yX1_fillRows cX1_fillRows 5 none 0 0 0 0 [.ref h0] zT [(h0, .inr (2, [.int 5, .int (-1), .int 0, .ref h1, .int 0, .int 0, .ref h2, .ref h3, .int 0]))] [] (fun u => u = ([(h0, .inr (2, [.int 5, .int (-1), .int 0, .ref h1, .int 0, .int 0, .ref h2, .ref h3, .int 0]))], [])) := by
  refine q_sv (by decide) (Nat.le_of_ble_eq_true rfl) ?_
  intro p e s m below meth c A ls hAe hf hr hlocks hin hK hP hD hS hA hZ hl
  obtain ⟨hx, hb, hml, hown, hts⟩ := id hf
  have hl : lv_has ls 5 [(0, .ref h0)] := hl
  refine lv_iconst (v := 0) hx hb dX1_fillRows_0 (by decide) ?_
  refine lv_istore_n (lv' := [(1, .int 0), (0, .ref h0)]) hx hb dX1_fillRows_1 rfl hl (by decide) rfl (fun ls hl => ?_)
  refine lv_iconst (v := 0) hx hb dX1_fillRows_2 (by decide) ?_
  refine lv_istore_n (lv' := [(2, .int 0), (1, .int 0), (0, .ref h0)]) hx hb dX1_fillRows_3 rfl hl (by decide) rfl (fun ls hl => ?_)
  refine lv_iload_n hx hb dX1_fillRows_4 rfl (lv_at hl 0 rfl) ?_
  refine lv_aload_n hx hb dX1_fillRows_5 rfl (lv_at hl 2 rfl) ?_
  refine va_get (D := D) (ci := 2) (v := .int 0) (C := RX1) (T := TX1) (N := 9) hx hb hts inX1 hown hK hP 0 rfl rfl 4 (by decide) (hts _ k_237) (fun _ h9 => h9) rfl dX1_fillRows_6 ?_
  refine lv_icmp_ge (tgt := 77) hx hb dX1_fillRows_9 (by decide) (fun _ => ?_) (fun hno => absurd hno (by decide))
  exact q_rv hf hr hlocks hK hP hD hS [0] [] (w1 := [(h0, .inr (2, [.int 5, .int (-1), .int 0, .ref h1, .int 0, .int 0, .ref h2, .ref h3, .int 0]))]) (t1 := []) rfl (by decide) rfl (Nat.le_of_ble_eq_true rfl) (Nat.le_of_ble_eq_true rfl) rfl dX1_fillRows_77
set_option maxHeartbeats 1000000 in
set_option maxRecDepth 100000 in
theorem m_X1_init_1 (l : Launch) (D : va_G) (h0 : Nat) (h1 : Nat) : cV l D yX1_init cX1_init 7 none 1 26 3 2 [.ref h0, .int (-1), .int 5, .ref h1, .int 0, .int 0] zT [(h0, .inr (2, [.int 0, .int 0, .int 0, .null, .int 0, .int 0, .null, .null, .int 0]))] [] (fun u => ∃ (q1 : Nat) (a2 : ClassId) (q3 : Nat) (a4 : ClassId) (q5 : Nat) (a6 : ClassId), u = ([(q1, .inl (a2, 0, .inl (fun _ => 0))), (q3, .inl (a4, 1, .inl (fun _ => 0))), (q5, .inl (a6, 1, .inl (fun _ => 0))), (h0, .inr (2, [.int 5, .int (-1), .int 0, .ref q1, .int 0, .int 0, .ref q3, .ref q5, .int 0]))], [(a2, .byte), (a4, .int), (a6, .int)])) := by
  refine q_sv (by decide) (Nat.le_of_ble_eq_true rfl) ?_
  intro p e s m below meth c A ls hAe hf hr hlocks hin hK hP hD hS hA hZ hl
  obtain ⟨hx, hb, hml, hown, hts⟩ := id hf
  have hl : lv_has ls 7 [(0, .ref h0), (1, .int (-1)), (2, .int 5), (3, .ref h1), (4, .int 0), (5, .int 0)] := hl
  refine lv_aload_n hx hb dX1_init_0 rfl (lv_at hl 0 rfl) ?_
  refine W.objInit hx hb hown (hts _ k_185) (hts _ k_113) (hts _ k_114) rfl (by rw [hml]; exact hl.1) rfl dX1_init_1 (Nat.le_of_ble_eq_true rfl) (Nat.le_of_ble_eq_true rfl) ?_
  refine q_eq (pc := 4) (st := []) rfl ?_
  refine lv_aload_n hx hb dX1_init_4 rfl (lv_at hl 0 rfl) ?_
  refine lv_iload_n hx hb dX1_init_5 rfl (lv_at hl 1 rfl) ?_
  refine va_put (D := D) (ci := 2) (v := .int (-1)) (ty := .int) (C := RX1) (T := TX1) (N := 9) hx hb hts inX1 tyX1 tyX1_ok nmX1 hown hK hP hD hS 0 rfl rfl 1 (by decide) (hts _ k_231) (fun _ h9 => h9) rfl (by decide +kernel) rfl rfl (Nat.le_of_ble_eq_true rfl) dX1_init_6 (fun H locs hP hD hS => ?_)
  have hP : va_P D vcl [(h0, .inr (2, [.int 0, .int (-1), .int 0, .null, .int 0, .int 0, .null, .null, .int 0]))] H := hP
  have hD : va_D A [(h0, .inr (2, [.int 0, .int (-1), .int 0, .null, .int 0, .int 0, .null, .null, .int 0]))] := hD
  refine lv_aload_n hx hb dX1_init_9 rfl (lv_at hl 0 rfl) ?_
  refine lv_iload_n hx hb dX1_init_10 rfl (lv_at hl 2 rfl) ?_
  refine va_putF (D := D) (ci := 2) (v := .int 5) (ty := .int) (C := RX1) (T := TX1) (N := 9) hx hb hts inX1 tyX1 tyX1_ok nmX1 hown hK hP hD hS 0 rfl rfl 0 (by decide) (hts _ k_227) (fun _ h9 => h9) rfl hin rfl (by decide +kernel) rfl rfl (Nat.le_of_ble_eq_true rfl) dX1_init_11 (fun H locs hP hD hS => ?_)
  have hP : va_P D vcl [(h0, .inr (2, [.int 5, .int (-1), .int 0, .null, .int 0, .int 0, .null, .null, .int 0]))] H := hP
  have hD : va_D A [(h0, .inr (2, [.int 5, .int (-1), .int 0, .null, .int 0, .int 0, .null, .null, .int 0]))] := hD
  refine lv_aload_n hx hb dX1_init_14 rfl (lv_at hl 0 rfl) ?_
  refine lv_iconst (v := 0) hx hb dX1_init_15 (by decide) ?_
  refine lv_iload hx hb dX1_init_16 (lv_at hl 5 rfl) ?_
  refine lv_iload hx hb dX1_init_18 (lv_at hl 4 rfl) ?_
  refine lv_isub hx hb dX1_init_20 ?_
  refine q_seti (y := 0) (by decide) ?_
  refine va_mmax hx hb (by rw [hml]; exact hl.1.symm) hown (hts _ k_186) (hts _ k_187) (hts _ k_91) (hts _ k_188) (Nat.le_of_ble_eq_true rfl) (Nat.le_of_ble_eq_true rfl) (Nat.le_of_ble_eq_true rfl) (Nat.le_of_ble_eq_true rfl) dX1_init_21 ?_
  refine q_seti (y := 0) (by decide) ?_
  refine va_newa (atype := .byte) (ty := .byte) (a0 := (0, .inl (fun _ => 0))) hx hb (hts (.arrayClass .byte) k_128) rfl hK hP hD hS hA (N' := 0) (q_a0_byte 0) (by decide) (by decide) (by decide) (Nat.le_of_ble_eq_true rfl) (Nat.le_of_ble_eq_true rfl) dX1_init_24 (fun q1 a2 H hK hP hD hS => ?_)
  refine W.widen (k := 1) (n := 0) (by decide) (by decide) ?_
  have hP : va_P D vcl [(h0, .inr (2, [.int 5, .int (-1), .int 0, .null, .int 0, .int 0, .null, .null, .int 0])), (q1, .inl (a2, 0, .inl (fun _ => 0)))] H := hP
  have hD : va_D A [(h0, .inr (2, [.int 5, .int (-1), .int 0, .null, .int 0, .int 0, .null, .null, .int 0])), (q1, .inl (a2, 0, .inl (fun _ => 0)))] := hD
  have hK : va_K D vcl [(a2, .byte)] s := hK
  refine va_putF (D := D) (ci := 2) (v := .ref q1) (ty := .array .byte) (C := RX1) (T := TX1) (N := 9) hx hb hts inX1 tyX1 tyX1_ok nmX1 hown hK hP hD hS 0 rfl rfl 3 (by decide) (hts _ k_236) (fun _ h9 => h9) rfl hin rfl (by decide +kernel) rfl rfl (Nat.le_of_ble_eq_true rfl) dX1_init_26 (fun H locs hP hD hS => ?_)
  have hP : va_P D vcl [(h0, .inr (2, [.int 5, .int (-1), .int 0, .ref q1, .int 0, .int 0, .null, .null, .int 0])), (q1, .inl (a2, 0, .inl (fun _ => 0)))] H := hP
  have hD : va_D A [(h0, .inr (2, [.int 5, .int (-1), .int 0, .ref q1, .int 0, .int 0, .null, .null, .int 0])), (q1, .inl (a2, 0, .inl (fun _ => 0)))] := hD
  refine lv_aload_n hx hb dX1_init_29 rfl (lv_at hl 0 rfl) ?_
  refine lv_aload_n hx hb dX1_init_30 rfl (lv_at hl 3 rfl) ?_
  refine lv_iload hx hb dX1_init_31 (lv_at hl 4 rfl) ?_
  refine lv_iload hx hb dX1_init_33 (lv_at hl 5 rfl) ?_
  refine q_bv (wc := []) (wr := [(h0, .inr (2, [.int 5, .int (-1), .int 0, .ref q1, .int 0, .int 0, .null, .null, .int 0])), (q1, .inl (a2, 0, .inl (fun _ => 0)))]) (tc := []) (tr := [(a2, .byte)]) (k := 1) (n := 0) hK hP hD hS hA [] [0, 1] [] [0] rfl rfl (by decide) (by decide) (by decide) rfl rfl (fun hPc hKc hDc hFc => (q_rV (As := [.ref h1, .int 0, .int 0]) (rest := []) hf (m_X1_takeWords_1 _ D h0 h1 _) k_192 k_189 k_191 k_0 k_90 (nA := 3) (by decide +kernel) ⟨Nat.le_of_ble_eq_true rfl, Nat.le_of_ble_eq_true rfl⟩ hK hP (ci := 2) (q0 := 0) rfl rfl rfl hPc hKc hDc (fun _ _ _ _ h => h) (fun _ _ _ => trivial) rfl hl.1 rfl (Nat.le_of_ble_eq_true rfl) dX1_init_35 ⟨Nat.le_of_ble_eq_true rfl, Nat.le_of_ble_eq_true rfl⟩)) (by decide) (by decide) (fun u H locs hw hK hP hD hS => ?_)
  obtain rfl := hw
  have hP : va_P D vcl [(h0, .inr (2, [.int 5, .int (-1), .int 0, .ref q1, .int 0, .int 0, .null, .null, .int 0])), (q1, .inl (a2, 0, .inl (fun _ => 0)))] H := hP
  have hD : va_D A [(h0, .inr (2, [.int 5, .int (-1), .int 0, .ref q1, .int 0, .int 0, .null, .null, .int 0])), (q1, .inl (a2, 0, .inl (fun _ => 0)))] := hD
  have hK : va_K D vcl [(a2, .byte)] s := hK
  refine lv_iconst (v := 2) hx hb dX1_init_38 (by decide) ?_
  refine lv_aload_n hx hb dX1_init_39 rfl (lv_at hl 0 rfl) ?_
  refine va_get (D := D) (ci := 2) (v := .int 0) (C := RX1) (T := TX1) (N := 9) hx hb hts inX1 hown hK hP 0 rfl rfl 4 (by decide) (hts _ k_237) (fun _ h9 => h9) rfl dX1_init_40 ?_
  refine lv_bipush (v := 20) hx hb dX1_init_43 (by decide) ?_
  refine lv_idiv hx hb dX1_init_45 (by decide) ?_
  refine q_seti (y := 0) (by decide) ?_
  refine lv_imul hx hb dX1_init_46 ?_
  refine q_seti (y := 0) (by decide) ?_
  refine lv_iconst (v := 1) hx hb dX1_init_47 (by decide) ?_
  refine lv_iadd hx hb dX1_init_48 ?_
  refine q_seti (y := 1) (by decide) ?_
  refine lv_istore (lv' := [(6, .int 1), (0, .ref h0), (1, .int (-1)), (2, .int 5), (3, .ref h1), (4, .int 0), (5, .int 0)]) hx hb dX1_init_49 hl (by decide) rfl (fun ls hl => ?_)
  refine lv_aload_n hx hb dX1_init_51 rfl (lv_at hl 1 rfl) ?_
  refine lv_iload hx hb dX1_init_52 (lv_at hl 0 rfl) ?_
  refine va_newa (atype := .int) (ty := .int) (a0 := (1, .inl (fun _ => 0))) hx hb (hts (.arrayClass .int) k_261) rfl hK hP hD hS hA (N' := 1) (q_a0_int 1) (by decide) (by decide) (by decide) (Nat.le_of_ble_eq_true rfl) (Nat.le_of_ble_eq_true rfl) dX1_init_54 (fun q3 a4 H hK hP hD hS => ?_)
  refine W.widen (k := 2) (n := 1) (by decide) (by decide) ?_
  have hP : va_P D vcl [(h0, .inr (2, [.int 5, .int (-1), .int 0, .ref q1, .int 0, .int 0, .null, .null, .int 0])), (q1, .inl (a2, 0, .inl (fun _ => 0))), (q3, .inl (a4, 1, .inl (fun _ => 0)))] H := hP
  have hD : va_D A [(h0, .inr (2, [.int 5, .int (-1), .int 0, .ref q1, .int 0, .int 0, .null, .null, .int 0])), (q1, .inl (a2, 0, .inl (fun _ => 0))), (q3, .inl (a4, 1, .inl (fun _ => 0)))] := hD
  have hK : va_K D vcl [(a2, .byte), (a4, .int)] s := hK
  refine va_putF (D := D) (ci := 2) (v := .ref q3) (ty := .array .int) (C := RX1) (T := TX1) (N := 9) hx hb hts inX1 tyX1 tyX1_ok nmX1 hown hK hP hD hS 0 rfl rfl 6 (by decide) (hts _ k_239) (fun _ h9 => h9) rfl hin rfl (by decide +kernel) rfl rfl (Nat.le_of_ble_eq_true rfl) dX1_init_56 (fun H locs hP hD hS => ?_)
  have hP : va_P D vcl [(h0, .inr (2, [.int 5, .int (-1), .int 0, .ref q1, .int 0, .int 0, .ref q3, .null, .int 0])), (q1, .inl (a2, 0, .inl (fun _ => 0))), (q3, .inl (a4, 1, .inl (fun _ => 0)))] H := hP
  have hD : va_D A [(h0, .inr (2, [.int 5, .int (-1), .int 0, .ref q1, .int 0, .int 0, .ref q3, .null, .int 0])), (q1, .inl (a2, 0, .inl (fun _ => 0))), (q3, .inl (a4, 1, .inl (fun _ => 0)))] := hD
  refine lv_aload_n hx hb dX1_init_59 rfl (lv_at hl 1 rfl) ?_
  refine lv_iload hx hb dX1_init_60 (lv_at hl 0 rfl) ?_
  refine va_newa (atype := .int) (ty := .int) (a0 := (1, .inl (fun _ => 0))) hx hb (hts (.arrayClass .int) k_261) rfl hK hP hD hS hA (N' := 1) (q_a0_int 1) (by decide) (by decide) (by decide) (Nat.le_of_ble_eq_true rfl) (Nat.le_of_ble_eq_true rfl) dX1_init_62 (fun q5 a6 H hK hP hD hS => ?_)
  refine W.widen (k := 3) (n := 2) (by decide) (by decide) ?_
  have hP : va_P D vcl [(h0, .inr (2, [.int 5, .int (-1), .int 0, .ref q1, .int 0, .int 0, .ref q3, .null, .int 0])), (q1, .inl (a2, 0, .inl (fun _ => 0))), (q3, .inl (a4, 1, .inl (fun _ => 0))), (q5, .inl (a6, 1, .inl (fun _ => 0)))] H := hP
  have hD : va_D A [(h0, .inr (2, [.int 5, .int (-1), .int 0, .ref q1, .int 0, .int 0, .ref q3, .null, .int 0])), (q1, .inl (a2, 0, .inl (fun _ => 0))), (q3, .inl (a4, 1, .inl (fun _ => 0))), (q5, .inl (a6, 1, .inl (fun _ => 0)))] := hD
  have hK : va_K D vcl [(a2, .byte), (a4, .int), (a6, .int)] s := hK
  refine va_putF (D := D) (ci := 2) (v := .ref q5) (ty := .array .int) (C := RX1) (T := TX1) (N := 9) hx hb hts inX1 tyX1 tyX1_ok nmX1 hown hK hP hD hS 0 rfl rfl 7 (by decide) (hts _ k_240) (fun _ h9 => h9) rfl hin rfl (by decide +kernel) rfl rfl (Nat.le_of_ble_eq_true rfl) dX1_init_64 (fun H locs hP hD hS => ?_)
  have hP : va_P D vcl [(h0, .inr (2, [.int 5, .int (-1), .int 0, .ref q1, .int 0, .int 0, .ref q3, .ref q5, .int 0])), (q1, .inl (a2, 0, .inl (fun _ => 0))), (q3, .inl (a4, 1, .inl (fun _ => 0))), (q5, .inl (a6, 1, .inl (fun _ => 0)))] H := hP
  have hD : va_D A [(h0, .inr (2, [.int 5, .int (-1), .int 0, .ref q1, .int 0, .int 0, .ref q3, .ref q5, .int 0])), (q1, .inl (a2, 0, .inl (fun _ => 0))), (q3, .inl (a4, 1, .inl (fun _ => 0))), (q5, .inl (a6, 1, .inl (fun _ => 0)))] := hD
  refine lv_aload_n hx hb dX1_init_67 rfl (lv_at hl 1 rfl) ?_
  refine q_bv (wc := [(h0, .inr (2, [.int 5, .int (-1), .int 0, .ref q1, .int 0, .int 0, .ref q3, .ref q5, .int 0]))]) (wr := [(q1, .inl (a2, 0, .inl (fun _ => 0))), (q3, .inl (a4, 1, .inl (fun _ => 0))), (q5, .inl (a6, 1, .inl (fun _ => 0)))]) (tc := []) (tr := [(a2, .byte), (a4, .int), (a6, .int)]) (k := 3) (n := 2) hK hP hD hS hA [0] [1, 2, 3] [] [0, 1, 2] rfl rfl (by decide) (by decide) (by decide) rfl rfl (fun hPc hKc hDc hFc => (q_rV (As := []) (rest := []) hf (m_X1_fillRows_1 _ D h0 q1 q3 q5 _) k_209 k_206 k_208 k_2 k_90 (nA := 0) (by decide +kernel) ⟨Nat.le_of_ble_eq_true rfl, Nat.le_of_ble_eq_true rfl⟩ hK hP (ci := 2) (q0 := 0) rfl rfl rfl hPc hKc hDc (fun _ _ _ _ h => h) (fun _ _ _ => trivial) rfl hl.1 rfl (Nat.le_of_ble_eq_true rfl) dX1_init_68 ⟨Nat.le_of_ble_eq_true rfl, Nat.le_of_ble_eq_true rfl⟩)) (by decide) (by decide) (fun u H locs hw hK hP hD hS => ?_)
  obtain rfl := hw
  have hP : va_P D vcl [(q1, .inl (a2, 0, .inl (fun _ => 0))), (q3, .inl (a4, 1, .inl (fun _ => 0))), (q5, .inl (a6, 1, .inl (fun _ => 0))), (h0, .inr (2, [.int 5, .int (-1), .int 0, .ref q1, .int 0, .int 0, .ref q3, .ref q5, .int 0]))] H := hP
  have hD : va_D A [(q1, .inl (a2, 0, .inl (fun _ => 0))), (q3, .inl (a4, 1, .inl (fun _ => 0))), (q5, .inl (a6, 1, .inl (fun _ => 0))), (h0, .inr (2, [.int 5, .int (-1), .int 0, .ref q1, .int 0, .int 0, .ref q3, .ref q5, .int 0]))] := hD
  have hK : va_K D vcl [(a2, .byte), (a4, .int), (a6, .int)] s := hK
  exact q_rv hf hr hlocks hK hP hD hS [0, 1, 2, 3] [0, 1, 2] (w1 := [(q1, .inl (a2, 0, .inl (fun _ => 0))), (q3, .inl (a4, 1, .inl (fun _ => 0))), (q5, .inl (a6, 1, .inl (fun _ => 0))), (h0, .inr (2, [.int 5, .int (-1), .int 0, .ref q1, .int 0, .int 0, .ref q3, .ref q5, .int 0]))]) (t1 := [(a2, .byte), (a4, .int), (a6, .int)]) rfl (by decide) rfl (Nat.le_of_ble_eq_true rfl) (Nat.le_of_ble_eq_true rfl) ⟨q1, a2, q3, a4, q5, a6, rfl⟩ dX1_init_71
set_option maxHeartbeats 1000000 in
set_option maxRecDepth 100000 in
theorem m_X5_init_1 (l : Launch) (D : va_G) (h0 : Nat) (h1 : Nat) : cV l D yX5_init cX5_init 2 none 1 12 0 0 [.ref h0, .ref h1] zT [(h0, .inr (6, [.null, .int 0, .int 0, .int 0]))] [] (fun u => u = ([(h0, .inr (6, [.ref h1, .int 0, .int 0, .int 0]))], [])) := by
  refine q_sv (by decide) (Nat.le_of_ble_eq_true rfl) ?_
  intro p e s m below meth c A ls hAe hf hr hlocks hin hK hP hD hS hA hZ hl
  obtain ⟨hx, hb, hml, hown, hts⟩ := id hf
  have hl : lv_has ls 2 [(0, .ref h0), (1, .ref h1)] := hl
  refine lv_aload_n hx hb dX5_init_0 rfl (lv_at hl 0 rfl) ?_
  refine W.objInit hx hb hown (hts _ k_275) (hts _ k_113) (hts _ k_114) rfl (by rw [hml]; exact hl.1) rfl dX5_init_1 (Nat.le_of_ble_eq_true rfl) (Nat.le_of_ble_eq_true rfl) ?_
  refine q_eq (pc := 4) (st := []) rfl ?_
  refine lv_aload_n hx hb dX5_init_4 rfl (lv_at hl 0 rfl) ?_
  refine lv_aload_n hx hb dX5_init_5 rfl (lv_at hl 1 rfl) ?_
  refine va_put (D := D) (ci := 6) (v := .ref h1) (ty := .object "ScriptDesk$Element") (C := RX5) (T := TX5) (N := 4) hx hb hts inX5 tyX5 tyX5_ok nmX5 hown hK hP hD hS 0 rfl rfl 0 (by decide) (hts _ k_276) (fun _ h9 => h9) rfl (by decide +kernel) rfl rfl (Nat.le_of_ble_eq_true rfl) dX5_init_6 (fun H locs hP hD hS => ?_)
  have hP : va_P D vcl [(h0, .inr (6, [.ref h1, .int 0, .int 0, .int 0]))] H := hP
  have hD : va_D A [(h0, .inr (6, [.ref h1, .int 0, .int 0, .int 0]))] := hD
  exact q_rv hf hr hlocks hK hP hD hS [0] [] (w1 := [(h0, .inr (6, [.ref h1, .int 0, .int 0, .int 0]))]) (t1 := []) rfl (by decide) rfl (Nat.le_of_ble_eq_true rfl) (Nat.le_of_ble_eq_true rfl) rfl dX5_init_9
set_option maxHeartbeats 1000000 in
set_option maxRecDepth 100000 in
theorem m_X6_init_1 (l : Launch) (D : va_G) (z0 : Nat) (h0 : Nat) (h1 : Nat) : cV l D yX6_init cX6_init 2 none 4 72 3 10 [.ref h0, .ref h1] (zN z0 [(h0, .inr (7, [.null, .null, .null]))]) [(h0, .inr (7, [.null, .null, .null]))] [] (fun u => ∃ (q1 : Nat) (q2 : Nat) (q3 : Nat), u = ([(h0, .inr (7, [.ref q1, .ref q2, .ref q3])), (q1, .inr (0, [.int 0, .ref z0, .int 0])), (q2, .inr (0, [.int 0, .ref z0, .int 0])), (q3, .inr (6, [.ref h1, .int 0, .int 0, .int 0]))], [])) := by
  refine q_sv (by decide) (Nat.le_of_ble_eq_true rfl) ?_
  intro p e s m below meth c A ls hAe hf hr hlocks hin hK hP hD hS hA hZ hl
  obtain ⟨hx, hb, hml, hown, hts⟩ := id hf
  obtain ⟨hZ, hN⟩ := hZ
  rw [hAe] at hZ
  have hl : lv_has ls 2 [(0, .ref h0), (1, .ref h1)] := hl
  refine lv_aload_n hx hb dX6_init_0 rfl (lv_at hl 0 rfl) ?_
  refine W.objInit hx hb hown (hts _ k_267) (hts _ k_113) (hts _ k_114) rfl (by rw [hml]; exact hl.1) rfl dX6_init_1 (Nat.le_of_ble_eq_true rfl) (Nat.le_of_ble_eq_true rfl) ?_
  refine q_eq (pc := 4) (st := []) rfl ?_
  refine lv_aload_n hx hb dX6_init_4 rfl (lv_at hl 0 rfl) ?_
  refine va_new (ci := 0) (fs := [.int 0, .null, .int 0]) (C := RJx4a65c) (T := TJx4a65c) (N := 3) hx hb hts inJx4a65c tyJx4a65c tyJx4a65c_ok hown (hts _ k_268) (hts _ k_155) (hts _ k_89) hK hP hD hS hA rfl dfJx4a65c (Nat.le_of_ble_eq_true rfl) (Nat.le_of_ble_eq_true rfl) dX6_init_5 (fun q1 H hP hD hS => ?_)
  refine W.widen (k := 1) (n := 3) (by decide) (by decide) ?_
  have hP : va_P D vcl [(h0, .inr (7, [.null, .null, .null])), (q1, .inr (0, [.int 0, .null, .int 0]))] H := hP
  have hD : va_D A [(h0, .inr (7, [.null, .null, .null])), (q1, .inr (0, [.int 0, .null, .int 0]))] := hD
  refine lv_dup hx hb dX6_init_8 rfl ?_
  refine q_bv (wc := [(q1, .inr (0, [.int 0, .null, .int 0]))]) (wr := [(h0, .inr (7, [.null, .null, .null]))]) (tc := []) (tr := []) (k := 1) (n := 3) hK hP hD hS hA [1] [0] [] [] rfl rfl (by decide) (by decide) (by decide) rfl rfl (fun hPc hKc hDc hFc => (q_rI (As := []) (rest := [.ref q1, .ref h0]) hf (m_Jx4a65c_init_da8c8_1 _ D z0 q1 _) k_158 k_269 k_157 k_89 rfl (nA := 0) (by decide +kernel) ⟨Nat.le_of_ble_eq_true rfl, Nat.le_of_ble_eq_true rfl⟩ hPc hKc hDc zN_blind (zN_pass hZ hN hS hFc) rfl hl.1 rfl (Nat.le_of_ble_eq_true rfl) dX6_init_9 ⟨Nat.le_of_ble_eq_true rfl, Nat.le_of_ble_eq_true rfl⟩)) (by decide) (by decide) (fun u H locs hw hK hP hD hS => ?_)
  obtain rfl := hw
  have hP : va_P D vcl [(h0, .inr (7, [.null, .null, .null])), (q1, .inr (0, [.int 0, .ref z0, .int 0]))] H := hP
  have hD : va_D A [(h0, .inr (7, [.null, .null, .null])), (q1, .inr (0, [.int 0, .ref z0, .int 0]))] := hD
  have hK : va_K D vcl [] s := hK
  refine va_putF (D := D) (ci := 7) (v := .ref q1) (ty := .object "java/util/ArrayList") (C := RX6) (T := TX6) (N := 3) hx hb hts inX6 tyX6 tyX6_ok nmX6 hown hK hP hD hS 0 rfl rfl 0 (by decide) (hts _ k_304) (fun _ h9 => h9) rfl hin rfl (by decide +kernel) rfl rfl (Nat.le_of_ble_eq_true rfl) dX6_init_12 (fun H locs hP hD hS => ?_)
  have hP : va_P D vcl [(h0, .inr (7, [.ref q1, .null, .null])), (q1, .inr (0, [.int 0, .ref z0, .int 0]))] H := hP
  have hD : va_D A [(h0, .inr (7, [.ref q1, .null, .null])), (q1, .inr (0, [.int 0, .ref z0, .int 0]))] := hD
  refine lv_aload_n hx hb dX6_init_15 rfl (lv_at hl 0 rfl) ?_
  refine va_new (ci := 0) (fs := [.int 0, .null, .int 0]) (C := RJx4a65c) (T := TJx4a65c) (N := 3) hx hb hts inJx4a65c tyJx4a65c tyJx4a65c_ok hown (hts _ k_268) (hts _ k_155) (hts _ k_89) hK hP hD hS hA rfl dfJx4a65c (Nat.le_of_ble_eq_true rfl) (Nat.le_of_ble_eq_true rfl) dX6_init_16 (fun q2 H hP hD hS => ?_)
  refine W.widen (k := 2) (n := 6) (by decide) (by decide) ?_
  have hP : va_P D vcl [(h0, .inr (7, [.ref q1, .null, .null])), (q1, .inr (0, [.int 0, .ref z0, .int 0])), (q2, .inr (0, [.int 0, .null, .int 0]))] H := hP
  have hD : va_D A [(h0, .inr (7, [.ref q1, .null, .null])), (q1, .inr (0, [.int 0, .ref z0, .int 0])), (q2, .inr (0, [.int 0, .null, .int 0]))] := hD
  refine lv_dup hx hb dX6_init_19 rfl ?_
  refine q_bv (wc := [(q2, .inr (0, [.int 0, .null, .int 0]))]) (wr := [(h0, .inr (7, [.ref q1, .null, .null])), (q1, .inr (0, [.int 0, .ref z0, .int 0]))]) (tc := []) (tr := []) (k := 2) (n := 6) hK hP hD hS hA [2] [0, 1] [] [] rfl rfl (by decide) (by decide) (by decide) rfl rfl (fun hPc hKc hDc hFc => (q_rI (As := []) (rest := [.ref q2, .ref h0]) hf (m_Jx4a65c_init_da8c8_1 _ D z0 q2 _) k_158 k_269 k_157 k_89 rfl (nA := 0) (by decide +kernel) ⟨Nat.le_of_ble_eq_true rfl, Nat.le_of_ble_eq_true rfl⟩ hPc hKc hDc zN_blind (zN_pass hZ hN hS hFc) rfl hl.1 rfl (Nat.le_of_ble_eq_true rfl) dX6_init_20 ⟨Nat.le_of_ble_eq_true rfl, Nat.le_of_ble_eq_true rfl⟩)) (by decide) (by decide) (fun u H locs hw hK hP hD hS => ?_)
  obtain rfl := hw
  have hP : va_P D vcl [(h0, .inr (7, [.ref q1, .null, .null])), (q1, .inr (0, [.int 0, .ref z0, .int 0])), (q2, .inr (0, [.int 0, .ref z0, .int 0]))] H := hP
  have hD : va_D A [(h0, .inr (7, [.ref q1, .null, .null])), (q1, .inr (0, [.int 0, .ref z0, .int 0])), (q2, .inr (0, [.int 0, .ref z0, .int 0]))] := hD
  have hK : va_K D vcl [] s := hK
  refine va_putF (D := D) (ci := 7) (v := .ref q2) (ty := .object "java/util/ArrayList") (C := RX6) (T := TX6) (N := 3) hx hb hts inX6 tyX6 tyX6_ok nmX6 hown hK hP hD hS 0 rfl rfl 1 (by decide) (hts _ k_305) (fun _ h9 => h9) rfl hin rfl (by decide +kernel) rfl rfl (Nat.le_of_ble_eq_true rfl) dX6_init_23 (fun H locs hP hD hS => ?_)
  have hP : va_P D vcl [(h0, .inr (7, [.ref q1, .ref q2, .null])), (q1, .inr (0, [.int 0, .ref z0, .int 0])), (q2, .inr (0, [.int 0, .ref z0, .int 0]))] H := hP
  have hD : va_D A [(h0, .inr (7, [.ref q1, .ref q2, .null])), (q1, .inr (0, [.int 0, .ref z0, .int 0])), (q2, .inr (0, [.int 0, .ref z0, .int 0]))] := hD
  refine lv_aload_n hx hb dX6_init_26 rfl (lv_at hl 0 rfl) ?_
  refine va_new (ci := 6) (fs := [.null, .int 0, .int 0, .int 0]) (C := RX5) (T := TX5) (N := 4) hx hb hts inX5 tyX5 tyX5_ok hown (hts _ k_270) (hts _ k_271) (hts _ k_93) hK hP hD hS hA rfl dfX5 (Nat.le_of_ble_eq_true rfl) (Nat.le_of_ble_eq_true rfl) dX6_init_27 (fun q3 H hP hD hS => ?_)
  refine W.widen (k := 3) (n := 10) (by decide) (by decide) ?_
  have hP : va_P D vcl [(h0, .inr (7, [.ref q1, .ref q2, .null])), (q1, .inr (0, [.int 0, .ref z0, .int 0])), (q2, .inr (0, [.int 0, .ref z0, .int 0])), (q3, .inr (6, [.null, .int 0, .int 0, .int 0]))] H := hP
  have hD : va_D A [(h0, .inr (7, [.ref q1, .ref q2, .null])), (q1, .inr (0, [.int 0, .ref z0, .int 0])), (q2, .inr (0, [.int 0, .ref z0, .int 0])), (q3, .inr (6, [.null, .int 0, .int 0, .int 0]))] := hD
  refine lv_dup hx hb dX6_init_30 rfl ?_
  refine lv_aload_n hx hb dX6_init_31 rfl (lv_at hl 1 rfl) ?_
  refine q_bv (wc := [(q3, .inr (6, [.null, .int 0, .int 0, .int 0]))]) (wr := [(h0, .inr (7, [.ref q1, .ref q2, .null])), (q1, .inr (0, [.int 0, .ref z0, .int 0])), (q2, .inr (0, [.int 0, .ref z0, .int 0]))]) (tc := []) (tr := []) (k := 3) (n := 10) hK hP hD hS hA [3] [0, 1, 2] [] [] rfl rfl (by decide) (by decide) (by decide) rfl rfl (fun hPc hKc hDc hFc => (q_rI (As := [.ref h1]) (rest := [.ref q3, .ref h0]) hf (m_X5_init_1 _ D q3 h1 _) k_274 k_272 k_273 k_93 rfl (nA := 1) (by decide +kernel) ⟨Nat.le_of_ble_eq_true rfl, Nat.le_of_ble_eq_true rfl⟩ hPc hKc hDc (fun _ _ _ _ h => h) (fun _ _ _ => trivial) rfl hl.1 rfl (Nat.le_of_ble_eq_true rfl) dX6_init_32 ⟨Nat.le_of_ble_eq_true rfl, Nat.le_of_ble_eq_true rfl⟩)) (by decide) (by decide) (fun u H locs hw hK hP hD hS => ?_)
  obtain rfl := hw
  have hP : va_P D vcl [(h0, .inr (7, [.ref q1, .ref q2, .null])), (q1, .inr (0, [.int 0, .ref z0, .int 0])), (q2, .inr (0, [.int 0, .ref z0, .int 0])), (q3, .inr (6, [.ref h1, .int 0, .int 0, .int 0]))] H := hP
  have hD : va_D A [(h0, .inr (7, [.ref q1, .ref q2, .null])), (q1, .inr (0, [.int 0, .ref z0, .int 0])), (q2, .inr (0, [.int 0, .ref z0, .int 0])), (q3, .inr (6, [.ref h1, .int 0, .int 0, .int 0]))] := hD
  have hK : va_K D vcl [] s := hK
  refine va_putF (D := D) (ci := 7) (v := .ref q3) (ty := .object "ScriptDesk$Piece") (C := RX6) (T := TX6) (N := 3) hx hb hts inX6 tyX6 tyX6_ok nmX6 hown hK hP hD hS 0 rfl rfl 2 (by decide) (hts _ k_306) (fun _ h9 => h9) rfl hin rfl (by decide +kernel) rfl rfl (Nat.le_of_ble_eq_true rfl) dX6_init_35 (fun H locs hP hD hS => ?_)
  have hP : va_P D vcl [(h0, .inr (7, [.ref q1, .ref q2, .ref q3])), (q1, .inr (0, [.int 0, .ref z0, .int 0])), (q2, .inr (0, [.int 0, .ref z0, .int 0])), (q3, .inr (6, [.ref h1, .int 0, .int 0, .int 0]))] H := hP
  have hD : va_D A [(h0, .inr (7, [.ref q1, .ref q2, .ref q3])), (q1, .inr (0, [.int 0, .ref z0, .int 0])), (q2, .inr (0, [.int 0, .ref z0, .int 0])), (q3, .inr (6, [.ref h1, .int 0, .int 0, .int 0]))] := hD
  exact q_rv hf hr hlocks hK hP hD hS [0, 1, 2, 3] [] (w1 := [(h0, .inr (7, [.ref q1, .ref q2, .ref q3])), (q1, .inr (0, [.int 0, .ref z0, .int 0])), (q2, .inr (0, [.int 0, .ref z0, .int 0])), (q3, .inr (6, [.ref h1, .int 0, .int 0, .int 0]))]) (t1 := []) rfl (by decide) rfl (Nat.le_of_ble_eq_true rfl) (Nat.le_of_ble_eq_true rfl) ⟨q1, q2, q3, rfl⟩ dX6_init_38
set_option maxHeartbeats 1000000 in
set_option maxRecDepth 100000 in
theorem m_X3_init_1 (l : Launch) (D : va_G) (h0 : Nat) (h1 : Nat) : cV l D yX3_init cX3_init 2 none 1 12 0 0 [.ref h0, .ref h1] zT [(h0, .inr (4, [.null, .int 0, .int 0, .int 0, .int 0, .int 0, .int 0]))] [] (fun u => u = ([(h0, .inr (4, [.ref h1, .int 0, .int 0, .int 0, .int 0, .int 0, .int 0]))], [])) := by
  refine q_sv (by decide) (Nat.le_of_ble_eq_true rfl) ?_
  intro p e s m below meth c A ls hAe hf hr hlocks hin hK hP hD hS hA hZ hl
  obtain ⟨hx, hb, hml, hown, hts⟩ := id hf
  have hl : lv_has ls 2 [(0, .ref h0), (1, .ref h1)] := hl
  refine lv_aload_n hx hb dX3_init_0 rfl (lv_at hl 0 rfl) ?_
  refine W.objInit hx hb hown (hts _ k_319) (hts _ k_113) (hts _ k_114) rfl (by rw [hml]; exact hl.1) rfl dX3_init_1 (Nat.le_of_ble_eq_true rfl) (Nat.le_of_ble_eq_true rfl) ?_
  refine q_eq (pc := 4) (st := []) rfl ?_
  refine lv_aload_n hx hb dX3_init_4 rfl (lv_at hl 0 rfl) ?_
  refine lv_aload_n hx hb dX3_init_5 rfl (lv_at hl 1 rfl) ?_
  refine va_putF (D := D) (ci := 4) (v := .ref h1) (ty := .object "ScriptDesk$PieceRow") (C := RX3) (T := TX3) (N := 7) hx hb hts inX3 tyX3 tyX3_ok nmX3 hown hK hP hD hS 0 rfl rfl 0 (by decide) (hts _ k_320) (fun _ h9 => h9) rfl hin rfl (by decide +kernel) rfl rfl (Nat.le_of_ble_eq_true rfl) dX3_init_6 (fun H locs hP hD hS => ?_)
  have hP : va_P D vcl [(h0, .inr (4, [.ref h1, .int 0, .int 0, .int 0, .int 0, .int 0, .int 0]))] H := hP
  have hD : va_D A [(h0, .inr (4, [.ref h1, .int 0, .int 0, .int 0, .int 0, .int 0, .int 0]))] := hD
  exact q_rv hf hr hlocks hK hP hD hS [0] [] (w1 := [(h0, .inr (4, [.ref h1, .int 0, .int 0, .int 0, .int 0, .int 0, .int 0]))]) (t1 := []) rfl (by decide) rfl (Nat.le_of_ble_eq_true rfl) (Nat.le_of_ble_eq_true rfl) rfl dX3_init_9
set_option maxHeartbeats 1000000 in
set_option maxRecDepth 100000 in
theorem m_X0_init_1 (l : Launch) (D : va_G) (h0 : Nat) (h1 : Nat) (h2 : Nat) : cV l D yX0_init cX0_init 3 none 1 12 3 317 [.ref h0, .ref h1, .ref h2] zT [(h0, .inr (1, [.null, .null, .null, .int 0, .int 0, .null, .null, .int 0, .int 0, .int 0, .int 0]))] [] (fun u => ∃ (q1 : Nat) (a2 : ClassId) (q3 : Nat) (a4 : ClassId) (q5 : Nat) (a6 : ClassId), u = ([(h0, .inr (1, [.ref h1, .ref h2, .ref q1, .int 0, .int 0, .ref q3, .ref q5, .int 0, .int 0, .int 0, .int 0])), (q1, .inl (a2, 61, .inl (fun _ => 0))), (q3, .inl (a4, 128, .inl (fun _ => 0))), (q5, .inl (a6, 128, .inl (fun _ => 0)))], [(a2, .int), (a4, .int), (a6, .int)])) := by
  refine q_sv (by decide) (Nat.le_of_ble_eq_true rfl) ?_
  intro p e s m below meth c A ls hAe hf hr hlocks hin hK hP hD hS hA hZ hl
  obtain ⟨hx, hb, hml, hown, hts⟩ := id hf
  have hl : lv_has ls 3 [(0, .ref h0), (1, .ref h1), (2, .ref h2)] := hl
  refine lv_aload_n hx hb dX0_init_0 rfl (lv_at hl 0 rfl) ?_
  refine W.objInit hx hb hown (hts _ k_347) (hts _ k_113) (hts _ k_114) rfl (by rw [hml]; exact hl.1) rfl dX0_init_1 (Nat.le_of_ble_eq_true rfl) (Nat.le_of_ble_eq_true rfl) ?_
  refine q_eq (pc := 4) (st := []) rfl ?_
  refine lv_aload_n hx hb dX0_init_4 rfl (lv_at hl 0 rfl) ?_
  refine lv_bipush (v := 61) hx hb dX0_init_5 (by decide) ?_
  refine va_newa (atype := .int) (ty := .int) (a0 := (61, .inl (fun _ => 0))) hx hb (hts (.arrayClass .int) k_261) rfl hK hP hD hS hA (N' := 61) (q_a0_int 61) (by decide) (by decide) (by decide) (Nat.le_of_ble_eq_true rfl) (Nat.le_of_ble_eq_true rfl) dX0_init_7 (fun q1 a2 H hK hP hD hS => ?_)
  refine W.widen (k := 1) (n := 61) (by decide) (by decide) ?_
  have hP : va_P D vcl [(h0, .inr (1, [.null, .null, .null, .int 0, .int 0, .null, .null, .int 0, .int 0, .int 0, .int 0])), (q1, .inl (a2, 61, .inl (fun _ => 0)))] H := hP
  have hD : va_D A [(h0, .inr (1, [.null, .null, .null, .int 0, .int 0, .null, .null, .int 0, .int 0, .int 0, .int 0])), (q1, .inl (a2, 61, .inl (fun _ => 0)))] := hD
  have hK : va_K D vcl [(a2, .int)] s := hK
  refine va_putF (D := D) (ci := 1) (v := .ref q1) (ty := .array .int) (C := RX0) (T := TX0) (N := 11) hx hb hts inX0 tyX0 tyX0_ok nmX0 hown hK hP hD hS 0 rfl rfl 2 (by decide) (hts _ k_350) (fun _ h9 => h9) rfl hin rfl (by decide +kernel) rfl rfl (Nat.le_of_ble_eq_true rfl) dX0_init_9 (fun H locs hP hD hS => ?_)
  have hP : va_P D vcl [(h0, .inr (1, [.null, .null, .ref q1, .int 0, .int 0, .null, .null, .int 0, .int 0, .int 0, .int 0])), (q1, .inl (a2, 61, .inl (fun _ => 0)))] H := hP
  have hD : va_D A [(h0, .inr (1, [.null, .null, .ref q1, .int 0, .int 0, .null, .null, .int 0, .int 0, .int 0, .int 0])), (q1, .inl (a2, 61, .inl (fun _ => 0)))] := hD
  refine lv_aload_n hx hb dX0_init_12 rfl (lv_at hl 0 rfl) ?_
  refine lv_sipush (v := 128) hx hb dX0_init_13 (by decide) ?_
  refine va_newa (atype := .int) (ty := .int) (a0 := (128, .inl (fun _ => 0))) hx hb (hts (.arrayClass .int) k_261) rfl hK hP hD hS hA (N' := 128) (q_a0_int 128) (by decide) (by decide) (by decide) (Nat.le_of_ble_eq_true rfl) (Nat.le_of_ble_eq_true rfl) dX0_init_16 (fun q3 a4 H hK hP hD hS => ?_)
  refine W.widen (k := 2) (n := 189) (by decide) (by decide) ?_
  have hP : va_P D vcl [(h0, .inr (1, [.null, .null, .ref q1, .int 0, .int 0, .null, .null, .int 0, .int 0, .int 0, .int 0])), (q1, .inl (a2, 61, .inl (fun _ => 0))), (q3, .inl (a4, 128, .inl (fun _ => 0)))] H := hP
  have hD : va_D A [(h0, .inr (1, [.null, .null, .ref q1, .int 0, .int 0, .null, .null, .int 0, .int 0, .int 0, .int 0])), (q1, .inl (a2, 61, .inl (fun _ => 0))), (q3, .inl (a4, 128, .inl (fun _ => 0)))] := hD
  have hK : va_K D vcl [(a2, .int), (a4, .int)] s := hK
  refine va_put (D := D) (ci := 1) (v := .ref q3) (ty := .array .int) (C := RX0) (T := TX0) (N := 11) hx hb hts inX0 tyX0 tyX0_ok nmX0 hown hK hP hD hS 0 rfl rfl 5 (by decide) (hts _ k_353) (fun _ h9 => h9) rfl (by decide +kernel) rfl rfl (Nat.le_of_ble_eq_true rfl) dX0_init_18 (fun H locs hP hD hS => ?_)
  have hP : va_P D vcl [(h0, .inr (1, [.null, .null, .ref q1, .int 0, .int 0, .ref q3, .null, .int 0, .int 0, .int 0, .int 0])), (q1, .inl (a2, 61, .inl (fun _ => 0))), (q3, .inl (a4, 128, .inl (fun _ => 0)))] H := hP
  have hD : va_D A [(h0, .inr (1, [.null, .null, .ref q1, .int 0, .int 0, .ref q3, .null, .int 0, .int 0, .int 0, .int 0])), (q1, .inl (a2, 61, .inl (fun _ => 0))), (q3, .inl (a4, 128, .inl (fun _ => 0)))] := hD
  refine lv_aload_n hx hb dX0_init_21 rfl (lv_at hl 0 rfl) ?_
  refine lv_sipush (v := 128) hx hb dX0_init_22 (by decide) ?_
  refine va_newa (atype := .int) (ty := .int) (a0 := (128, .inl (fun _ => 0))) hx hb (hts (.arrayClass .int) k_261) rfl hK hP hD hS hA (N' := 128) (q_a0_int 128) (by decide) (by decide) (by decide) (Nat.le_of_ble_eq_true rfl) (Nat.le_of_ble_eq_true rfl) dX0_init_25 (fun q5 a6 H hK hP hD hS => ?_)
  refine W.widen (k := 3) (n := 317) (by decide) (by decide) ?_
  have hP : va_P D vcl [(h0, .inr (1, [.null, .null, .ref q1, .int 0, .int 0, .ref q3, .null, .int 0, .int 0, .int 0, .int 0])), (q1, .inl (a2, 61, .inl (fun _ => 0))), (q3, .inl (a4, 128, .inl (fun _ => 0))), (q5, .inl (a6, 128, .inl (fun _ => 0)))] H := hP
  have hD : va_D A [(h0, .inr (1, [.null, .null, .ref q1, .int 0, .int 0, .ref q3, .null, .int 0, .int 0, .int 0, .int 0])), (q1, .inl (a2, 61, .inl (fun _ => 0))), (q3, .inl (a4, 128, .inl (fun _ => 0))), (q5, .inl (a6, 128, .inl (fun _ => 0)))] := hD
  have hK : va_K D vcl [(a2, .int), (a4, .int), (a6, .int)] s := hK
  refine va_put (D := D) (ci := 1) (v := .ref q5) (ty := .array .int) (C := RX0) (T := TX0) (N := 11) hx hb hts inX0 tyX0 tyX0_ok nmX0 hown hK hP hD hS 0 rfl rfl 6 (by decide) (hts _ k_354) (fun _ h9 => h9) rfl (by decide +kernel) rfl rfl (Nat.le_of_ble_eq_true rfl) dX0_init_27 (fun H locs hP hD hS => ?_)
  have hP : va_P D vcl [(h0, .inr (1, [.null, .null, .ref q1, .int 0, .int 0, .ref q3, .ref q5, .int 0, .int 0, .int 0, .int 0])), (q1, .inl (a2, 61, .inl (fun _ => 0))), (q3, .inl (a4, 128, .inl (fun _ => 0))), (q5, .inl (a6, 128, .inl (fun _ => 0)))] H := hP
  have hD : va_D A [(h0, .inr (1, [.null, .null, .ref q1, .int 0, .int 0, .ref q3, .ref q5, .int 0, .int 0, .int 0, .int 0])), (q1, .inl (a2, 61, .inl (fun _ => 0))), (q3, .inl (a4, 128, .inl (fun _ => 0))), (q5, .inl (a6, 128, .inl (fun _ => 0)))] := hD
  refine lv_aload_n hx hb dX0_init_30 rfl (lv_at hl 0 rfl) ?_
  refine lv_aload_n hx hb dX0_init_31 rfl (lv_at hl 1 rfl) ?_
  refine va_putF (D := D) (ci := 1) (v := .ref h1) (ty := .object "ScriptDesk$PieceRow") (C := RX0) (T := TX0) (N := 11) hx hb hts inX0 tyX0 tyX0_ok nmX0 hown hK hP hD hS 0 rfl rfl 0 (by decide) (hts _ k_348) (fun _ h9 => h9) rfl hin rfl (by decide +kernel) rfl rfl (Nat.le_of_ble_eq_true rfl) dX0_init_32 (fun H locs hP hD hS => ?_)
  have hP : va_P D vcl [(h0, .inr (1, [.ref h1, .null, .ref q1, .int 0, .int 0, .ref q3, .ref q5, .int 0, .int 0, .int 0, .int 0])), (q1, .inl (a2, 61, .inl (fun _ => 0))), (q3, .inl (a4, 128, .inl (fun _ => 0))), (q5, .inl (a6, 128, .inl (fun _ => 0)))] H := hP
  have hD : va_D A [(h0, .inr (1, [.ref h1, .null, .ref q1, .int 0, .int 0, .ref q3, .ref q5, .int 0, .int 0, .int 0, .int 0])), (q1, .inl (a2, 61, .inl (fun _ => 0))), (q3, .inl (a4, 128, .inl (fun _ => 0))), (q5, .inl (a6, 128, .inl (fun _ => 0)))] := hD
  refine lv_aload_n hx hb dX0_init_35 rfl (lv_at hl 0 rfl) ?_
  refine lv_aload_n hx hb dX0_init_36 rfl (lv_at hl 2 rfl) ?_
  refine va_putF (D := D) (ci := 1) (v := .ref h2) (ty := .object "ScriptDesk$Leaf") (C := RX0) (T := TX0) (N := 11) hx hb hts inX0 tyX0 tyX0_ok nmX0 hown hK hP hD hS 0 rfl rfl 1 (by decide) (hts _ k_349) (fun _ h9 => h9) rfl hin rfl (by decide +kernel) rfl rfl (Nat.le_of_ble_eq_true rfl) dX0_init_37 (fun H locs hP hD hS => ?_)
  have hP : va_P D vcl [(h0, .inr (1, [.ref h1, .ref h2, .ref q1, .int 0, .int 0, .ref q3, .ref q5, .int 0, .int 0, .int 0, .int 0])), (q1, .inl (a2, 61, .inl (fun _ => 0))), (q3, .inl (a4, 128, .inl (fun _ => 0))), (q5, .inl (a6, 128, .inl (fun _ => 0)))] H := hP
  have hD : va_D A [(h0, .inr (1, [.ref h1, .ref h2, .ref q1, .int 0, .int 0, .ref q3, .ref q5, .int 0, .int 0, .int 0, .int 0])), (q1, .inl (a2, 61, .inl (fun _ => 0))), (q3, .inl (a4, 128, .inl (fun _ => 0))), (q5, .inl (a6, 128, .inl (fun _ => 0)))] := hD
  exact q_rv hf hr hlocks hK hP hD hS [0, 1, 2, 3] [0, 1, 2] (w1 := [(h0, .inr (1, [.ref h1, .ref h2, .ref q1, .int 0, .int 0, .ref q3, .ref q5, .int 0, .int 0, .int 0, .int 0])), (q1, .inl (a2, 61, .inl (fun _ => 0))), (q3, .inl (a4, 128, .inl (fun _ => 0))), (q5, .inl (a6, 128, .inl (fun _ => 0)))]) (t1 := [(a2, .int), (a4, .int), (a6, .int)]) rfl (by decide) rfl (Nat.le_of_ble_eq_true rfl) (Nat.le_of_ble_eq_true rfl) ⟨q1, a2, q3, a4, q5, a6, rfl⟩ dX0_init_40
set_option maxHeartbeats 1000000 in
set_option maxRecDepth 100000 in
theorem m_X2_init_1 (l : Launch) (D : va_G) (h0 : Nat) (h1 : Nat) (h2 : Nat) : cV l D yX2_init cX2_init 3 none 1 12 3 84 [.ref h0, .ref h1, .ref h2] zT [(h0, .inr (3, [.null, .null, .null, .null, .null, .int 0, .int 0, .int 0, .int 0, .int 0]))] [] (fun u => ∃ (q1 : Nat) (a2 : ClassId) (q3 : Nat) (a4 : ClassId) (q5 : Nat) (a6 : ClassId), u = ([(h0, .inr (3, [.ref h1, .ref h2, .ref q1, .ref q3, .ref q5, .int 0, .int 0, .int 0, .int 0, .int 0])), (q1, .inl (a2, 28, .inl (fun _ => 0))), (q3, .inl (a4, 28, .inl (fun _ => 0))), (q5, .inl (a6, 28, .inl (fun _ => 0)))], [(a2, .int), (a4, .int), (a6, .int)])) := by
  refine q_sv (by decide) (Nat.le_of_ble_eq_true rfl) ?_
  intro p e s m below meth c A ls hAe hf hr hlocks hin hK hP hD hS hA hZ hl
  obtain ⟨hx, hb, hml, hown, hts⟩ := id hf
  have hl : lv_has ls 3 [(0, .ref h0), (1, .ref h1), (2, .ref h2)] := hl
  refine lv_aload_n hx hb dX2_init_0 rfl (lv_at hl 0 rfl) ?_
  refine W.objInit hx hb hown (hts _ k_387) (hts _ k_113) (hts _ k_114) rfl (by rw [hml]; exact hl.1) rfl dX2_init_1 (Nat.le_of_ble_eq_true rfl) (Nat.le_of_ble_eq_true rfl) ?_
  refine q_eq (pc := 4) (st := []) rfl ?_
  refine lv_aload_n hx hb dX2_init_4 rfl (lv_at hl 0 rfl) ?_
  refine lv_bipush (v := 28) hx hb dX2_init_5 (by decide) ?_
  refine va_newa (atype := .int) (ty := .int) (a0 := (28, .inl (fun _ => 0))) hx hb (hts (.arrayClass .int) k_261) rfl hK hP hD hS hA (N' := 28) (q_a0_int 28) (by decide) (by decide) (by decide) (Nat.le_of_ble_eq_true rfl) (Nat.le_of_ble_eq_true rfl) dX2_init_7 (fun q1 a2 H hK hP hD hS => ?_)
  refine W.widen (k := 1) (n := 28) (by decide) (by decide) ?_
  have hP : va_P D vcl [(h0, .inr (3, [.null, .null, .null, .null, .null, .int 0, .int 0, .int 0, .int 0, .int 0])), (q1, .inl (a2, 28, .inl (fun _ => 0)))] H := hP
  have hD : va_D A [(h0, .inr (3, [.null, .null, .null, .null, .null, .int 0, .int 0, .int 0, .int 0, .int 0])), (q1, .inl (a2, 28, .inl (fun _ => 0)))] := hD
  have hK : va_K D vcl [(a2, .int)] s := hK
  refine va_put (D := D) (ci := 3) (v := .ref q1) (ty := .array .int) (C := RX2) (T := TX2) (N := 10) hx hb hts inX2 tyX2 tyX2_ok nmX2 hown hK hP hD hS 0 rfl rfl 2 (by decide) (hts _ k_390) (fun _ h9 => h9) rfl (by decide +kernel) rfl rfl (Nat.le_of_ble_eq_true rfl) dX2_init_9 (fun H locs hP hD hS => ?_)
  have hP : va_P D vcl [(h0, .inr (3, [.null, .null, .ref q1, .null, .null, .int 0, .int 0, .int 0, .int 0, .int 0])), (q1, .inl (a2, 28, .inl (fun _ => 0)))] H := hP
  have hD : va_D A [(h0, .inr (3, [.null, .null, .ref q1, .null, .null, .int 0, .int 0, .int 0, .int 0, .int 0])), (q1, .inl (a2, 28, .inl (fun _ => 0)))] := hD
  refine lv_aload_n hx hb dX2_init_12 rfl (lv_at hl 0 rfl) ?_
  refine lv_bipush (v := 28) hx hb dX2_init_13 (by decide) ?_
  refine va_newa (atype := .int) (ty := .int) (a0 := (28, .inl (fun _ => 0))) hx hb (hts (.arrayClass .int) k_261) rfl hK hP hD hS hA (N' := 28) (q_a0_int 28) (by decide) (by decide) (by decide) (Nat.le_of_ble_eq_true rfl) (Nat.le_of_ble_eq_true rfl) dX2_init_15 (fun q3 a4 H hK hP hD hS => ?_)
  refine W.widen (k := 2) (n := 56) (by decide) (by decide) ?_
  have hP : va_P D vcl [(h0, .inr (3, [.null, .null, .ref q1, .null, .null, .int 0, .int 0, .int 0, .int 0, .int 0])), (q1, .inl (a2, 28, .inl (fun _ => 0))), (q3, .inl (a4, 28, .inl (fun _ => 0)))] H := hP
  have hD : va_D A [(h0, .inr (3, [.null, .null, .ref q1, .null, .null, .int 0, .int 0, .int 0, .int 0, .int 0])), (q1, .inl (a2, 28, .inl (fun _ => 0))), (q3, .inl (a4, 28, .inl (fun _ => 0)))] := hD
  have hK : va_K D vcl [(a2, .int), (a4, .int)] s := hK
  refine va_put (D := D) (ci := 3) (v := .ref q3) (ty := .array .int) (C := RX2) (T := TX2) (N := 10) hx hb hts inX2 tyX2 tyX2_ok nmX2 hown hK hP hD hS 0 rfl rfl 3 (by decide) (hts _ k_391) (fun _ h9 => h9) rfl (by decide +kernel) rfl rfl (Nat.le_of_ble_eq_true rfl) dX2_init_17 (fun H locs hP hD hS => ?_)
  have hP : va_P D vcl [(h0, .inr (3, [.null, .null, .ref q1, .ref q3, .null, .int 0, .int 0, .int 0, .int 0, .int 0])), (q1, .inl (a2, 28, .inl (fun _ => 0))), (q3, .inl (a4, 28, .inl (fun _ => 0)))] H := hP
  have hD : va_D A [(h0, .inr (3, [.null, .null, .ref q1, .ref q3, .null, .int 0, .int 0, .int 0, .int 0, .int 0])), (q1, .inl (a2, 28, .inl (fun _ => 0))), (q3, .inl (a4, 28, .inl (fun _ => 0)))] := hD
  refine lv_aload_n hx hb dX2_init_20 rfl (lv_at hl 0 rfl) ?_
  refine lv_bipush (v := 28) hx hb dX2_init_21 (by decide) ?_
  refine va_newa (atype := .int) (ty := .int) (a0 := (28, .inl (fun _ => 0))) hx hb (hts (.arrayClass .int) k_261) rfl hK hP hD hS hA (N' := 28) (q_a0_int 28) (by decide) (by decide) (by decide) (Nat.le_of_ble_eq_true rfl) (Nat.le_of_ble_eq_true rfl) dX2_init_23 (fun q5 a6 H hK hP hD hS => ?_)
  refine W.widen (k := 3) (n := 84) (by decide) (by decide) ?_
  have hP : va_P D vcl [(h0, .inr (3, [.null, .null, .ref q1, .ref q3, .null, .int 0, .int 0, .int 0, .int 0, .int 0])), (q1, .inl (a2, 28, .inl (fun _ => 0))), (q3, .inl (a4, 28, .inl (fun _ => 0))), (q5, .inl (a6, 28, .inl (fun _ => 0)))] H := hP
  have hD : va_D A [(h0, .inr (3, [.null, .null, .ref q1, .ref q3, .null, .int 0, .int 0, .int 0, .int 0, .int 0])), (q1, .inl (a2, 28, .inl (fun _ => 0))), (q3, .inl (a4, 28, .inl (fun _ => 0))), (q5, .inl (a6, 28, .inl (fun _ => 0)))] := hD
  have hK : va_K D vcl [(a2, .int), (a4, .int), (a6, .int)] s := hK
  refine va_put (D := D) (ci := 3) (v := .ref q5) (ty := .array .int) (C := RX2) (T := TX2) (N := 10) hx hb hts inX2 tyX2 tyX2_ok nmX2 hown hK hP hD hS 0 rfl rfl 4 (by decide) (hts _ k_392) (fun _ h9 => h9) rfl (by decide +kernel) rfl rfl (Nat.le_of_ble_eq_true rfl) dX2_init_25 (fun H locs hP hD hS => ?_)
  have hP : va_P D vcl [(h0, .inr (3, [.null, .null, .ref q1, .ref q3, .ref q5, .int 0, .int 0, .int 0, .int 0, .int 0])), (q1, .inl (a2, 28, .inl (fun _ => 0))), (q3, .inl (a4, 28, .inl (fun _ => 0))), (q5, .inl (a6, 28, .inl (fun _ => 0)))] H := hP
  have hD : va_D A [(h0, .inr (3, [.null, .null, .ref q1, .ref q3, .ref q5, .int 0, .int 0, .int 0, .int 0, .int 0])), (q1, .inl (a2, 28, .inl (fun _ => 0))), (q3, .inl (a4, 28, .inl (fun _ => 0))), (q5, .inl (a6, 28, .inl (fun _ => 0)))] := hD
  refine lv_aload_n hx hb dX2_init_28 rfl (lv_at hl 0 rfl) ?_
  refine lv_aload_n hx hb dX2_init_29 rfl (lv_at hl 1 rfl) ?_
  refine va_putF (D := D) (ci := 3) (v := .ref h1) (ty := .object "ScriptDesk$PieceRow") (C := RX2) (T := TX2) (N := 10) hx hb hts inX2 tyX2 tyX2_ok nmX2 hown hK hP hD hS 0 rfl rfl 0 (by decide) (hts _ k_388) (fun _ h9 => h9) rfl hin rfl (by decide +kernel) rfl rfl (Nat.le_of_ble_eq_true rfl) dX2_init_30 (fun H locs hP hD hS => ?_)
  have hP : va_P D vcl [(h0, .inr (3, [.ref h1, .null, .ref q1, .ref q3, .ref q5, .int 0, .int 0, .int 0, .int 0, .int 0])), (q1, .inl (a2, 28, .inl (fun _ => 0))), (q3, .inl (a4, 28, .inl (fun _ => 0))), (q5, .inl (a6, 28, .inl (fun _ => 0)))] H := hP
  have hD : va_D A [(h0, .inr (3, [.ref h1, .null, .ref q1, .ref q3, .ref q5, .int 0, .int 0, .int 0, .int 0, .int 0])), (q1, .inl (a2, 28, .inl (fun _ => 0))), (q3, .inl (a4, 28, .inl (fun _ => 0))), (q5, .inl (a6, 28, .inl (fun _ => 0)))] := hD
  refine lv_aload_n hx hb dX2_init_33 rfl (lv_at hl 0 rfl) ?_
  refine lv_aload_n hx hb dX2_init_34 rfl (lv_at hl 2 rfl) ?_
  refine va_putF (D := D) (ci := 3) (v := .ref h2) (ty := .object "ScriptDesk$Leaf") (C := RX2) (T := TX2) (N := 10) hx hb hts inX2 tyX2 tyX2_ok nmX2 hown hK hP hD hS 0 rfl rfl 1 (by decide) (hts _ k_389) (fun _ h9 => h9) rfl hin rfl (by decide +kernel) rfl rfl (Nat.le_of_ble_eq_true rfl) dX2_init_35 (fun H locs hP hD hS => ?_)
  have hP : va_P D vcl [(h0, .inr (3, [.ref h1, .ref h2, .ref q1, .ref q3, .ref q5, .int 0, .int 0, .int 0, .int 0, .int 0])), (q1, .inl (a2, 28, .inl (fun _ => 0))), (q3, .inl (a4, 28, .inl (fun _ => 0))), (q5, .inl (a6, 28, .inl (fun _ => 0)))] H := hP
  have hD : va_D A [(h0, .inr (3, [.ref h1, .ref h2, .ref q1, .ref q3, .ref q5, .int 0, .int 0, .int 0, .int 0, .int 0])), (q1, .inl (a2, 28, .inl (fun _ => 0))), (q3, .inl (a4, 28, .inl (fun _ => 0))), (q5, .inl (a6, 28, .inl (fun _ => 0)))] := hD
  exact q_rv hf hr hlocks hK hP hD hS [0, 1, 2, 3] [0, 1, 2] (w1 := [(h0, .inr (3, [.ref h1, .ref h2, .ref q1, .ref q3, .ref q5, .int 0, .int 0, .int 0, .int 0, .int 0])), (q1, .inl (a2, 28, .inl (fun _ => 0))), (q3, .inl (a4, 28, .inl (fun _ => 0))), (q5, .inl (a6, 28, .inl (fun _ => 0)))]) (t1 := [(a2, .int), (a4, .int), (a6, .int)]) rfl (by decide) rfl (Nat.le_of_ble_eq_true rfl) (Nat.le_of_ble_eq_true rfl) ⟨q1, a2, q3, a4, q5, a6, rfl⟩ dX2_init_38
set_option maxHeartbeats 1000000 in
set_option maxRecDepth 100000 in
theorem m_X7_init_1 (l : Launch) (D : va_G) (h0 : Nat) (h1 : Nat) : cV l D yX7_init cX7_init 2 none 1 12 0 0 [.ref h0, .ref h1] zT [(h0, .inr (8, [.null]))] [] (fun u => u = ([(h0, .inr (8, [.ref h1]))], [])) := by
  refine q_sv (by decide) (Nat.le_of_ble_eq_true rfl) ?_
  intro p e s m below meth c A ls hAe hf hr hlocks hin hK hP hD hS hA hZ hl
  obtain ⟨hx, hb, hml, hown, hts⟩ := id hf
  have hl : lv_has ls 2 [(0, .ref h0), (1, .ref h1)] := hl
  refine lv_aload_n hx hb dX7_init_0 rfl (lv_at hl 0 rfl) ?_
  refine W.objInit hx hb hown (hts _ k_424) (hts _ k_113) (hts _ k_114) rfl (by rw [hml]; exact hl.1) rfl dX7_init_1 (Nat.le_of_ble_eq_true rfl) (Nat.le_of_ble_eq_true rfl) ?_
  refine q_eq (pc := 4) (st := []) rfl ?_
  refine lv_aload_n hx hb dX7_init_4 rfl (lv_at hl 0 rfl) ?_
  refine lv_aload_n hx hb dX7_init_5 rfl (lv_at hl 1 rfl) ?_
  refine va_putF (D := D) (ci := 8) (v := .ref h1) (ty := .object "ScriptDesk$PieceRow") (C := RX7) (T := TX7) (N := 1) hx hb hts inX7 tyX7 tyX7_ok nmX7 hown hK hP hD hS 0 rfl rfl 0 (by decide) (hts _ k_425) (fun _ h9 => h9) rfl hin rfl (by decide +kernel) rfl rfl (Nat.le_of_ble_eq_true rfl) dX7_init_6 (fun H locs hP hD hS => ?_)
  have hP : va_P D vcl [(h0, .inr (8, [.ref h1]))] H := hP
  have hD : va_D A [(h0, .inr (8, [.ref h1]))] := hD
  exact q_rv hf hr hlocks hK hP hD hS [0] [] (w1 := [(h0, .inr (8, [.ref h1]))]) (t1 := []) rfl (by decide) rfl (Nat.le_of_ble_eq_true rfl) (Nat.le_of_ble_eq_true rfl) rfl dX7_init_9
set_option maxHeartbeats 1000000 in
set_option maxRecDepth 100000 in
theorem m_X9_init_1 (l : Launch) (D : va_G) (z0 : Nat) (h0 : Nat) : cV l D yX9_init cX9_init 2 none 5 93 23 1668 [.ref h0] (zN z0 [(h0, .inr (10, [.null, .null, .null, .null, .null, .null, .null, .null, .null, .int 0, .int 0, .int 0]))]) [(h0, .inr (10, [.null, .null, .null, .null, .null, .null, .null, .null, .null, .int 0, .int 0, .int 0]))] [] (fun u => ∃ (q1 : Nat) (q2 : Nat) (a3 : ClassId) (q4 : Nat) (q5 : Nat) (q6 : Nat) (q7 : Nat) (q14 : Nat) (q15 : Nat) (q16 : Nat) (q17 : Nat) (q18 : Nat) (q19 : Nat) (q20 : Nat) (a21 : ClassId) (q22 : Nat) (a23 : ClassId) (q24 : Nat) (a25 : ClassId) (q26 : Nat) (q33 : Nat), u = ([(h0, .inr (10, [.ref q1, .ref q4, .ref q5, .ref q6, .ref q7, .ref q14, .ref q19, .ref q26, .ref q33, .int 20, .int 0, .int 0])), (q1, .inr (9, [.ref q2, .int 0])), (q2, .inl (a3, 1200, .inl (fun _ => 0))), (q4, .inr (5, [.ref q1, .int 0, .int 0, .int 0, .int 0, .int 0])), (q5, .inr (0, [.int 0, .ref z0, .int 0])), (q14, .inr (7, [.ref q15, .ref q16, .ref q17])), (q15, .inr (0, [.int 0, .ref z0, .int 0])), (q19, .inr (1, [.ref q14, .ref q18, .ref q20, .int 0, .int 0, .ref q22, .ref q24, .int 0, .int 0, .int 0, .int 0])), (q20, .inl (a21, 61, .inl (fun _ => 0))), (q22, .inl (a23, 128, .inl (fun _ => 0))), (q24, .inl (a25, 128, .inl (fun _ => 0))), (q33, .inr (8, [.ref q14]))], [(a3, .byte), (a21, .int), (a23, .int), (a25, .int)])) := by
  refine q_sv (by decide) (Nat.le_of_ble_eq_true rfl) ?_
  intro p e s m below meth c A ls hAe hf hr hlocks hin hK hP hD hS hA hZ hl
  obtain ⟨hx, hb, hml, hown, hts⟩ := id hf
  obtain ⟨hZ, hN⟩ := hZ
  rw [hAe] at hZ
  have hl : lv_has ls 2 [(0, .ref h0)] := hl
  refine lv_aload_n hx hb dX9_init_0 rfl (lv_at hl 0 rfl) ?_
  refine W.objInit hx hb hown (hts _ k_112) (hts _ k_113) (hts _ k_114) rfl (by rw [hml]; exact hl.1) rfl dX9_init_1 (Nat.le_of_ble_eq_true rfl) (Nat.le_of_ble_eq_true rfl) ?_
  refine q_eq (pc := 4) (st := []) rfl ?_
  refine lv_aload_n hx hb dX9_init_4 rfl (lv_at hl 0 rfl) ?_
  refine va_new (ci := 9) (fs := [.null, .int 0]) (C := RX8) (T := TX8) (N := 2) hx hb hts inX8 tyX8 tyX8_ok hown (hts _ k_115) (hts _ k_116) (hts _ k_85) hK hP hD hS hA rfl dfX8 (Nat.le_of_ble_eq_true rfl) (Nat.le_of_ble_eq_true rfl) dX9_init_5 (fun q1 H hP hD hS => ?_)
  refine W.widen (k := 1) (n := 2) (by decide) (by decide) ?_
  have hP : va_P D vcl [(h0, .inr (10, [.null, .null, .null, .null, .null, .null, .null, .null, .null, .int 0, .int 0, .int 0])), (q1, .inr (9, [.null, .int 0]))] H := hP
  have hD : va_D A [(h0, .inr (10, [.null, .null, .null, .null, .null, .null, .null, .null, .null, .int 0, .int 0, .int 0])), (q1, .inr (9, [.null, .int 0]))] := hD
  refine lv_dup hx hb dX9_init_8 rfl ?_
  refine q_bv (wc := [(q1, .inr (9, [.null, .int 0]))]) (wr := [(h0, .inr (10, [.null, .null, .null, .null, .null, .null, .null, .null, .null, .int 0, .int 0, .int 0]))]) (tc := []) (tr := []) (k := 2) (n := 1202) hK hP hD hS hA [1] [0] [] [] rfl rfl (by decide) (by decide) (by decide) rfl rfl (fun hPc hKc hDc hFc => (q_rIN (As := []) (rest := [.ref q1, .ref h0]) hf (m_X8_init_1 _ D q1 _) k_119 hN k_118 k_85 rfl (nA := 0) (by decide +kernel) ⟨Nat.le_of_ble_eq_true rfl, Nat.le_of_ble_eq_true rfl⟩ hPc hKc hDc (fun _ _ _ _ h => h) (fun _ _ _ => trivial) rfl hl.1 rfl (Nat.le_of_ble_eq_true rfl) dX9_init_9 ⟨Nat.le_of_ble_eq_true rfl, Nat.le_of_ble_eq_true rfl⟩)) (by decide) (by decide) (fun u H locs hw hK hP hD hS => ?_)
  obtain ⟨q2, a3, rfl⟩ := hw
  have hP : va_P D vcl [(h0, .inr (10, [.null, .null, .null, .null, .null, .null, .null, .null, .null, .int 0, .int 0, .int 0])), (q1, .inr (9, [.ref q2, .int 0])), (q2, .inl (a3, 1200, .inl (fun _ => 0)))] H := hP
  have hD : va_D A [(h0, .inr (10, [.null, .null, .null, .null, .null, .null, .null, .null, .null, .int 0, .int 0, .int 0])), (q1, .inr (9, [.ref q2, .int 0])), (q2, .inl (a3, 1200, .inl (fun _ => 0)))] := hD
  have hK : va_K D vcl [(a3, .byte)] s := hK
  refine va_putF (D := D) (ci := 10) (v := .ref q1) (ty := .object "ScriptDesk$Tape") (C := RX9) (T := TX9) (N := 12) hx hb hts inX9 tyX9 tyX9_ok nmX9 hown hK hP hD hS 0 rfl rfl 0 (by decide) (hts _ k_429) (fun _ h9 => h9) rfl hin rfl (by decide +kernel) rfl rfl (Nat.le_of_ble_eq_true rfl) dX9_init_12 (fun H locs hP hD hS => ?_)
  have hP : va_P D vcl [(h0, .inr (10, [.ref q1, .null, .null, .null, .null, .null, .null, .null, .null, .int 0, .int 0, .int 0])), (q1, .inr (9, [.ref q2, .int 0])), (q2, .inl (a3, 1200, .inl (fun _ => 0)))] H := hP
  have hD : va_D A [(h0, .inr (10, [.ref q1, .null, .null, .null, .null, .null, .null, .null, .null, .int 0, .int 0, .int 0])), (q1, .inr (9, [.ref q2, .int 0])), (q2, .inl (a3, 1200, .inl (fun _ => 0)))] := hD
  refine lv_aload_n hx hb dX9_init_15 rfl (lv_at hl 0 rfl) ?_
  refine va_new (ci := 5) (fs := [.null, .int 0, .int 0, .int 0, .int 0, .int 0]) (C := RX4) (T := TX4) (N := 6) hx hb hts inX4 tyX4 tyX4_ok hown (hts _ k_129) (hts _ k_130) (hts _ k_86) hK hP hD hS hA rfl dfX4 (Nat.le_of_ble_eq_true rfl) (Nat.le_of_ble_eq_true rfl) dX9_init_16 (fun q4 H hP hD hS => ?_)
  refine W.widen (k := 3) (n := 1208) (by decide) (by decide) ?_
  have hP : va_P D vcl [(h0, .inr (10, [.ref q1, .null, .null, .null, .null, .null, .null, .null, .null, .int 0, .int 0, .int 0])), (q1, .inr (9, [.ref q2, .int 0])), (q2, .inl (a3, 1200, .inl (fun _ => 0))), (q4, .inr (5, [.null, .int 0, .int 0, .int 0, .int 0, .int 0]))] H := hP
  have hD : va_D A [(h0, .inr (10, [.ref q1, .null, .null, .null, .null, .null, .null, .null, .null, .int 0, .int 0, .int 0])), (q1, .inr (9, [.ref q2, .int 0])), (q2, .inl (a3, 1200, .inl (fun _ => 0))), (q4, .inr (5, [.null, .int 0, .int 0, .int 0, .int 0, .int 0]))] := hD
  refine lv_dup hx hb dX9_init_19 rfl ?_
  refine lv_aload_n hx hb dX9_init_20 rfl (lv_at hl 0 rfl) ?_
  refine va_get (D := D) (ci := 10) (v := .ref q1) (C := RX9) (T := TX9) (N := 12) hx hb hts inX9 hown hK hP 0 rfl rfl 0 (by decide) (hts _ k_429) (fun _ h9 => h9) rfl dX9_init_21 ?_
  refine q_bv (wc := [(q4, .inr (5, [.null, .int 0, .int 0, .int 0, .int 0, .int 0]))]) (wr := [(h0, .inr (10, [.ref q1, .null, .null, .null, .null, .null, .null, .null, .null, .int 0, .int 0, .int 0])), (q1, .inr (9, [.ref q2, .int 0])), (q2, .inl (a3, 1200, .inl (fun _ => 0)))]) (tc := []) (tr := [(a3, .byte)]) (k := 3) (n := 1208) hK hP hD hS hA [3] [0, 1, 2] [] [0] rfl rfl (by decide) (by decide) (by decide) rfl rfl (fun hPc hKc hDc hFc => (q_rI (As := [.ref q1]) (rest := [.ref q4, .ref h0]) hf (m_X4_init_1 _ D q4 q1 _) k_133 k_131 k_132 k_86 rfl (nA := 1) (by decide +kernel) ⟨Nat.le_of_ble_eq_true rfl, Nat.le_of_ble_eq_true rfl⟩ hPc hKc hDc (fun _ _ _ _ h => h) (fun _ _ _ => trivial) rfl hl.1 rfl (Nat.le_of_ble_eq_true rfl) dX9_init_24 ⟨Nat.le_of_ble_eq_true rfl, Nat.le_of_ble_eq_true rfl⟩)) (by decide) (by decide) (fun u H locs hw hK hP hD hS => ?_)
  obtain rfl := hw
  have hP : va_P D vcl [(h0, .inr (10, [.ref q1, .null, .null, .null, .null, .null, .null, .null, .null, .int 0, .int 0, .int 0])), (q1, .inr (9, [.ref q2, .int 0])), (q2, .inl (a3, 1200, .inl (fun _ => 0))), (q4, .inr (5, [.ref q1, .int 0, .int 0, .int 0, .int 0, .int 0]))] H := hP
  have hD : va_D A [(h0, .inr (10, [.ref q1, .null, .null, .null, .null, .null, .null, .null, .null, .int 0, .int 0, .int 0])), (q1, .inr (9, [.ref q2, .int 0])), (q2, .inl (a3, 1200, .inl (fun _ => 0))), (q4, .inr (5, [.ref q1, .int 0, .int 0, .int 0, .int 0, .int 0]))] := hD
  have hK : va_K D vcl [(a3, .byte)] s := hK
  refine va_putF (D := D) (ci := 10) (v := .ref q4) (ty := .object "ScriptDesk$LineReader") (C := RX9) (T := TX9) (N := 12) hx hb hts inX9 tyX9 tyX9_ok nmX9 hown hK hP hD hS 0 rfl rfl 1 (by decide) (hts _ k_430) (fun _ h9 => h9) rfl hin rfl (by decide +kernel) rfl rfl (Nat.le_of_ble_eq_true rfl) dX9_init_27 (fun H locs hP hD hS => ?_)
  have hP : va_P D vcl [(h0, .inr (10, [.ref q1, .ref q4, .null, .null, .null, .null, .null, .null, .null, .int 0, .int 0, .int 0])), (q1, .inr (9, [.ref q2, .int 0])), (q2, .inl (a3, 1200, .inl (fun _ => 0))), (q4, .inr (5, [.ref q1, .int 0, .int 0, .int 0, .int 0, .int 0]))] H := hP
  have hD : va_D A [(h0, .inr (10, [.ref q1, .ref q4, .null, .null, .null, .null, .null, .null, .null, .int 0, .int 0, .int 0])), (q1, .inr (9, [.ref q2, .int 0])), (q2, .inl (a3, 1200, .inl (fun _ => 0))), (q4, .inr (5, [.ref q1, .int 0, .int 0, .int 0, .int 0, .int 0]))] := hD
  refine lv_aload_n hx hb dX9_init_30 rfl (lv_at hl 0 rfl) ?_
  refine va_new (ci := 0) (fs := [.int 0, .null, .int 0]) (C := RJx4a65c) (T := TJx4a65c) (N := 3) hx hb hts inJx4a65c tyJx4a65c tyJx4a65c_ok hown (hts _ k_154) (hts _ k_155) (hts _ k_89) hK hP hD hS hA rfl dfJx4a65c (Nat.le_of_ble_eq_true rfl) (Nat.le_of_ble_eq_true rfl) dX9_init_31 (fun q5 H hP hD hS => ?_)
  refine W.widen (k := 4) (n := 1211) (by decide) (by decide) ?_
  have hP : va_P D vcl [(h0, .inr (10, [.ref q1, .ref q4, .null, .null, .null, .null, .null, .null, .null, .int 0, .int 0, .int 0])), (q1, .inr (9, [.ref q2, .int 0])), (q2, .inl (a3, 1200, .inl (fun _ => 0))), (q4, .inr (5, [.ref q1, .int 0, .int 0, .int 0, .int 0, .int 0])), (q5, .inr (0, [.int 0, .null, .int 0]))] H := hP
  have hD : va_D A [(h0, .inr (10, [.ref q1, .ref q4, .null, .null, .null, .null, .null, .null, .null, .int 0, .int 0, .int 0])), (q1, .inr (9, [.ref q2, .int 0])), (q2, .inl (a3, 1200, .inl (fun _ => 0))), (q4, .inr (5, [.ref q1, .int 0, .int 0, .int 0, .int 0, .int 0])), (q5, .inr (0, [.int 0, .null, .int 0]))] := hD
  refine lv_dup hx hb dX9_init_34 rfl ?_
  refine q_bv (wc := [(q5, .inr (0, [.int 0, .null, .int 0]))]) (wr := [(h0, .inr (10, [.ref q1, .ref q4, .null, .null, .null, .null, .null, .null, .null, .int 0, .int 0, .int 0])), (q1, .inr (9, [.ref q2, .int 0])), (q2, .inl (a3, 1200, .inl (fun _ => 0))), (q4, .inr (5, [.ref q1, .int 0, .int 0, .int 0, .int 0, .int 0]))]) (tc := []) (tr := [(a3, .byte)]) (k := 4) (n := 1211) hK hP hD hS hA [4] [0, 1, 2, 3] [] [0] rfl rfl (by decide) (by decide) (by decide) rfl rfl (fun hPc hKc hDc hFc => (q_rI (As := []) (rest := [.ref q5, .ref h0]) hf (m_Jx4a65c_init_da8c8_1 _ D z0 q5 _) k_158 k_156 k_157 k_89 rfl (nA := 0) (by decide +kernel) ⟨Nat.le_of_ble_eq_true rfl, Nat.le_of_ble_eq_true rfl⟩ hPc hKc hDc zN_blind (zN_pass hZ hN hS hFc) rfl hl.1 rfl (Nat.le_of_ble_eq_true rfl) dX9_init_35 ⟨Nat.le_of_ble_eq_true rfl, Nat.le_of_ble_eq_true rfl⟩)) (by decide) (by decide) (fun u H locs hw hK hP hD hS => ?_)
  obtain rfl := hw
  have hP : va_P D vcl [(h0, .inr (10, [.ref q1, .ref q4, .null, .null, .null, .null, .null, .null, .null, .int 0, .int 0, .int 0])), (q1, .inr (9, [.ref q2, .int 0])), (q2, .inl (a3, 1200, .inl (fun _ => 0))), (q4, .inr (5, [.ref q1, .int 0, .int 0, .int 0, .int 0, .int 0])), (q5, .inr (0, [.int 0, .ref z0, .int 0]))] H := hP
  have hD : va_D A [(h0, .inr (10, [.ref q1, .ref q4, .null, .null, .null, .null, .null, .null, .null, .int 0, .int 0, .int 0])), (q1, .inr (9, [.ref q2, .int 0])), (q2, .inl (a3, 1200, .inl (fun _ => 0))), (q4, .inr (5, [.ref q1, .int 0, .int 0, .int 0, .int 0, .int 0])), (q5, .inr (0, [.int 0, .ref z0, .int 0]))] := hD
  have hK : va_K D vcl [(a3, .byte)] s := hK
  refine va_putF (D := D) (ci := 10) (v := .ref q5) (ty := .object "java/util/ArrayList") (C := RX9) (T := TX9) (N := 12) hx hb hts inX9 tyX9 tyX9_ok nmX9 hown hK hP hD hS 0 rfl rfl 2 (by decide) (hts _ k_431) (fun _ h9 => h9) rfl hin rfl (by decide +kernel) rfl rfl (Nat.le_of_ble_eq_true rfl) dX9_init_38 (fun H locs hP hD hS => ?_)
  have hP : va_P D vcl [(h0, .inr (10, [.ref q1, .ref q4, .ref q5, .null, .null, .null, .null, .null, .null, .int 0, .int 0, .int 0])), (q1, .inr (9, [.ref q2, .int 0])), (q2, .inl (a3, 1200, .inl (fun _ => 0))), (q4, .inr (5, [.ref q1, .int 0, .int 0, .int 0, .int 0, .int 0])), (q5, .inr (0, [.int 0, .ref z0, .int 0]))] H := hP
  have hD : va_D A [(h0, .inr (10, [.ref q1, .ref q4, .ref q5, .null, .null, .null, .null, .null, .null, .int 0, .int 0, .int 0])), (q1, .inr (9, [.ref q2, .int 0])), (q2, .inl (a3, 1200, .inl (fun _ => 0))), (q4, .inr (5, [.ref q1, .int 0, .int 0, .int 0, .int 0, .int 0])), (q5, .inr (0, [.int 0, .ref z0, .int 0]))] := hD
  refine lv_aload_n hx hb dX9_init_41 rfl (lv_at hl 0 rfl) ?_
  refine va_new (ci := 0) (fs := [.int 0, .null, .int 0]) (C := RJx4a65c) (T := TJx4a65c) (N := 3) hx hb hts inJx4a65c tyJx4a65c tyJx4a65c_ok hown (hts _ k_154) (hts _ k_155) (hts _ k_89) hK hP hD hS hA rfl dfJx4a65c (Nat.le_of_ble_eq_true rfl) (Nat.le_of_ble_eq_true rfl) dX9_init_42 (fun q6 H hP hD hS => ?_)
  refine W.widen (k := 5) (n := 1214) (by decide) (by decide) ?_
  have hP : va_P D vcl [(h0, .inr (10, [.ref q1, .ref q4, .ref q5, .null, .null, .null, .null, .null, .null, .int 0, .int 0, .int 0])), (q1, .inr (9, [.ref q2, .int 0])), (q2, .inl (a3, 1200, .inl (fun _ => 0))), (q4, .inr (5, [.ref q1, .int 0, .int 0, .int 0, .int 0, .int 0])), (q5, .inr (0, [.int 0, .ref z0, .int 0])), (q6, .inr (0, [.int 0, .null, .int 0]))] H := hP
  have hD : va_D A [(h0, .inr (10, [.ref q1, .ref q4, .ref q5, .null, .null, .null, .null, .null, .null, .int 0, .int 0, .int 0])), (q1, .inr (9, [.ref q2, .int 0])), (q2, .inl (a3, 1200, .inl (fun _ => 0))), (q4, .inr (5, [.ref q1, .int 0, .int 0, .int 0, .int 0, .int 0])), (q5, .inr (0, [.int 0, .ref z0, .int 0])), (q6, .inr (0, [.int 0, .null, .int 0]))] := hD
  refine lv_dup hx hb dX9_init_45 rfl ?_
  refine q_bv (wc := [(q6, .inr (0, [.int 0, .null, .int 0]))]) (wr := [(h0, .inr (10, [.ref q1, .ref q4, .ref q5, .null, .null, .null, .null, .null, .null, .int 0, .int 0, .int 0])), (q1, .inr (9, [.ref q2, .int 0])), (q2, .inl (a3, 1200, .inl (fun _ => 0))), (q4, .inr (5, [.ref q1, .int 0, .int 0, .int 0, .int 0, .int 0])), (q5, .inr (0, [.int 0, .ref z0, .int 0]))]) (tc := []) (tr := [(a3, .byte)]) (k := 5) (n := 1214) hK hP hD hS hA [5] [0, 1, 2, 3, 4] [] [0] rfl rfl (by decide) (by decide) (by decide) rfl rfl (fun hPc hKc hDc hFc => (q_rI (As := []) (rest := [.ref q6, .ref h0]) hf (m_Jx4a65c_init_da8c8_1 _ D z0 q6 _) k_158 k_156 k_157 k_89 rfl (nA := 0) (by decide +kernel) ⟨Nat.le_of_ble_eq_true rfl, Nat.le_of_ble_eq_true rfl⟩ hPc hKc hDc zN_blind (zN_pass hZ hN hS hFc) rfl hl.1 rfl (Nat.le_of_ble_eq_true rfl) dX9_init_46 ⟨Nat.le_of_ble_eq_true rfl, Nat.le_of_ble_eq_true rfl⟩)) (by decide) (by decide) (fun u H locs hw hK hP hD hS => ?_)
  obtain rfl := hw
  have hP : va_P D vcl [(h0, .inr (10, [.ref q1, .ref q4, .ref q5, .null, .null, .null, .null, .null, .null, .int 0, .int 0, .int 0])), (q1, .inr (9, [.ref q2, .int 0])), (q2, .inl (a3, 1200, .inl (fun _ => 0))), (q4, .inr (5, [.ref q1, .int 0, .int 0, .int 0, .int 0, .int 0])), (q5, .inr (0, [.int 0, .ref z0, .int 0])), (q6, .inr (0, [.int 0, .ref z0, .int 0]))] H := hP
  have hD : va_D A [(h0, .inr (10, [.ref q1, .ref q4, .ref q5, .null, .null, .null, .null, .null, .null, .int 0, .int 0, .int 0])), (q1, .inr (9, [.ref q2, .int 0])), (q2, .inl (a3, 1200, .inl (fun _ => 0))), (q4, .inr (5, [.ref q1, .int 0, .int 0, .int 0, .int 0, .int 0])), (q5, .inr (0, [.int 0, .ref z0, .int 0])), (q6, .inr (0, [.int 0, .ref z0, .int 0]))] := hD
  have hK : va_K D vcl [(a3, .byte)] s := hK
  refine va_putF (D := D) (ci := 10) (v := .ref q6) (ty := .object "java/util/ArrayList") (C := RX9) (T := TX9) (N := 12) hx hb hts inX9 tyX9 tyX9_ok nmX9 hown hK hP hD hS 0 rfl rfl 3 (by decide) (hts _ k_432) (fun _ h9 => h9) rfl hin rfl (by decide +kernel) rfl rfl (Nat.le_of_ble_eq_true rfl) dX9_init_49 (fun H locs hP hD hS => ?_)
  have hP : va_P D vcl [(h0, .inr (10, [.ref q1, .ref q4, .ref q5, .ref q6, .null, .null, .null, .null, .null, .int 0, .int 0, .int 0])), (q1, .inr (9, [.ref q2, .int 0])), (q2, .inl (a3, 1200, .inl (fun _ => 0))), (q4, .inr (5, [.ref q1, .int 0, .int 0, .int 0, .int 0, .int 0])), (q5, .inr (0, [.int 0, .ref z0, .int 0])), (q6, .inr (0, [.int 0, .ref z0, .int 0]))] H := hP
  have hD : va_D A [(h0, .inr (10, [.ref q1, .ref q4, .ref q5, .ref q6, .null, .null, .null, .null, .null, .int 0, .int 0, .int 0])), (q1, .inr (9, [.ref q2, .int 0])), (q2, .inl (a3, 1200, .inl (fun _ => 0))), (q4, .inr (5, [.ref q1, .int 0, .int 0, .int 0, .int 0, .int 0])), (q5, .inr (0, [.int 0, .ref z0, .int 0])), (q6, .inr (0, [.int 0, .ref z0, .int 0]))] := hD
  refine lv_aload_n hx hb dX9_init_52 rfl (lv_at hl 0 rfl) ?_
  refine va_new (ci := 2) (fs := [.int 0, .int 0, .int 0, .null, .int 0, .int 0, .null, .null, .int 0]) (C := RX1) (T := TX1) (N := 9) hx hb hts inX1 tyX1 tyX1_ok hown (hts _ k_180) (hts _ k_181) (hts _ k_90) hK hP hD hS hA rfl dfX1 (Nat.le_of_ble_eq_true rfl) (Nat.le_of_ble_eq_true rfl) dX9_init_53 (fun q7 H hP hD hS => ?_)
  refine W.widen (k := 6) (n := 1223) (by decide) (by decide) ?_
  have hP : va_P D vcl [(h0, .inr (10, [.ref q1, .ref q4, .ref q5, .ref q6, .null, .null, .null, .null, .null, .int 0, .int 0, .int 0])), (q1, .inr (9, [.ref q2, .int 0])), (q2, .inl (a3, 1200, .inl (fun _ => 0))), (q4, .inr (5, [.ref q1, .int 0, .int 0, .int 0, .int 0, .int 0])), (q5, .inr (0, [.int 0, .ref z0, .int 0])), (q6, .inr (0, [.int 0, .ref z0, .int 0])), (q7, .inr (2, [.int 0, .int 0, .int 0, .null, .int 0, .int 0, .null, .null, .int 0]))] H := hP
  have hD : va_D A [(h0, .inr (10, [.ref q1, .ref q4, .ref q5, .ref q6, .null, .null, .null, .null, .null, .int 0, .int 0, .int 0])), (q1, .inr (9, [.ref q2, .int 0])), (q2, .inl (a3, 1200, .inl (fun _ => 0))), (q4, .inr (5, [.ref q1, .int 0, .int 0, .int 0, .int 0, .int 0])), (q5, .inr (0, [.int 0, .ref z0, .int 0])), (q6, .inr (0, [.int 0, .ref z0, .int 0])), (q7, .inr (2, [.int 0, .int 0, .int 0, .null, .int 0, .int 0, .null, .null, .int 0]))] := hD
  refine lv_dup hx hb dX9_init_56 rfl ?_
  refine lv_iconst (v := (-1)) hx hb dX9_init_57 (by decide) ?_
  refine lv_iconst (v := 5) hx hb dX9_init_58 (by decide) ?_
  refine lv_aload_n hx hb dX9_init_59 rfl (lv_at hl 0 rfl) ?_
  refine va_get (D := D) (ci := 10) (v := .ref q1) (C := RX9) (T := TX9) (N := 12) hx hb hts inX9 hown hK hP 0 rfl rfl 0 (by decide) (hts _ k_429) (fun _ h9 => h9) rfl dX9_init_60 ?_
  refine lv_iconst (v := 0) hx hb dX9_init_63 (by decide) ?_
  refine lv_iconst (v := 0) hx hb dX9_init_64 (by decide) ?_
  refine q_bv (wc := [(q7, .inr (2, [.int 0, .int 0, .int 0, .null, .int 0, .int 0, .null, .null, .int 0]))]) (wr := [(h0, .inr (10, [.ref q1, .ref q4, .ref q5, .ref q6, .null, .null, .null, .null, .null, .int 0, .int 0, .int 0])), (q1, .inr (9, [.ref q2, .int 0])), (q2, .inl (a3, 1200, .inl (fun _ => 0))), (q4, .inr (5, [.ref q1, .int 0, .int 0, .int 0, .int 0, .int 0])), (q5, .inr (0, [.int 0, .ref z0, .int 0])), (q6, .inr (0, [.int 0, .ref z0, .int 0]))]) (tc := []) (tr := [(a3, .byte)]) (k := 9) (n := 1225) hK hP hD hS hA [6] [0, 1, 2, 3, 4, 5] [] [0] rfl rfl (by decide) (by decide) (by decide) rfl rfl (fun hPc hKc hDc hFc => (q_rI (As := [.int (-1), .int 5, .ref q1, .int 0, .int 0]) (rest := [.ref q7, .ref h0]) hf (m_X1_init_1 _ D q7 q1 _) k_184 k_182 k_183 k_90 rfl (nA := 5) (by decide +kernel) ⟨Nat.le_of_ble_eq_true rfl, Nat.le_of_ble_eq_true rfl⟩ hPc hKc hDc (fun _ _ _ _ h => h) (fun _ _ _ => trivial) rfl hl.1 rfl (Nat.le_of_ble_eq_true rfl) dX9_init_65 ⟨Nat.le_of_ble_eq_true rfl, Nat.le_of_ble_eq_true rfl⟩)) (by decide) (by decide) (fun u H locs hw hK hP hD hS => ?_)
  obtain ⟨q8, a9, q10, a11, q12, a13, rfl⟩ := hw
  have hP : va_P D vcl [(h0, .inr (10, [.ref q1, .ref q4, .ref q5, .ref q6, .null, .null, .null, .null, .null, .int 0, .int 0, .int 0])), (q1, .inr (9, [.ref q2, .int 0])), (q2, .inl (a3, 1200, .inl (fun _ => 0))), (q4, .inr (5, [.ref q1, .int 0, .int 0, .int 0, .int 0, .int 0])), (q5, .inr (0, [.int 0, .ref z0, .int 0])), (q6, .inr (0, [.int 0, .ref z0, .int 0])), (q8, .inl (a9, 0, .inl (fun _ => 0))), (q10, .inl (a11, 1, .inl (fun _ => 0))), (q12, .inl (a13, 1, .inl (fun _ => 0))), (q7, .inr (2, [.int 5, .int (-1), .int 0, .ref q8, .int 0, .int 0, .ref q10, .ref q12, .int 0]))] H := hP
  have hD : va_D A [(h0, .inr (10, [.ref q1, .ref q4, .ref q5, .ref q6, .null, .null, .null, .null, .null, .int 0, .int 0, .int 0])), (q1, .inr (9, [.ref q2, .int 0])), (q2, .inl (a3, 1200, .inl (fun _ => 0))), (q4, .inr (5, [.ref q1, .int 0, .int 0, .int 0, .int 0, .int 0])), (q5, .inr (0, [.int 0, .ref z0, .int 0])), (q6, .inr (0, [.int 0, .ref z0, .int 0])), (q8, .inl (a9, 0, .inl (fun _ => 0))), (q10, .inl (a11, 1, .inl (fun _ => 0))), (q12, .inl (a13, 1, .inl (fun _ => 0))), (q7, .inr (2, [.int 5, .int (-1), .int 0, .ref q8, .int 0, .int 0, .ref q10, .ref q12, .int 0]))] := hD
  have hK : va_K D vcl [(a3, .byte), (a9, .byte), (a11, .int), (a13, .int)] s := hK
  refine va_putF (D := D) (ci := 10) (v := .ref q7) (ty := .object "ScriptDesk$Element") (C := RX9) (T := TX9) (N := 12) hx hb hts inX9 tyX9 tyX9_ok nmX9 hown hK hP hD hS 0 rfl rfl 4 (by decide) (hts _ k_433) (fun _ h9 => h9) rfl hin rfl (by decide +kernel) rfl rfl (Nat.le_of_ble_eq_true rfl) dX9_init_68 (fun H locs hP hD hS => ?_)
  have hP : va_P D vcl [(h0, .inr (10, [.ref q1, .ref q4, .ref q5, .ref q6, .ref q7, .null, .null, .null, .null, .int 0, .int 0, .int 0])), (q1, .inr (9, [.ref q2, .int 0])), (q2, .inl (a3, 1200, .inl (fun _ => 0))), (q4, .inr (5, [.ref q1, .int 0, .int 0, .int 0, .int 0, .int 0])), (q5, .inr (0, [.int 0, .ref z0, .int 0])), (q6, .inr (0, [.int 0, .ref z0, .int 0])), (q8, .inl (a9, 0, .inl (fun _ => 0))), (q10, .inl (a11, 1, .inl (fun _ => 0))), (q12, .inl (a13, 1, .inl (fun _ => 0))), (q7, .inr (2, [.int 5, .int (-1), .int 0, .ref q8, .int 0, .int 0, .ref q10, .ref q12, .int 0]))] H := hP
  have hD : va_D A [(h0, .inr (10, [.ref q1, .ref q4, .ref q5, .ref q6, .ref q7, .null, .null, .null, .null, .int 0, .int 0, .int 0])), (q1, .inr (9, [.ref q2, .int 0])), (q2, .inl (a3, 1200, .inl (fun _ => 0))), (q4, .inr (5, [.ref q1, .int 0, .int 0, .int 0, .int 0, .int 0])), (q5, .inr (0, [.int 0, .ref z0, .int 0])), (q6, .inr (0, [.int 0, .ref z0, .int 0])), (q8, .inl (a9, 0, .inl (fun _ => 0))), (q10, .inl (a11, 1, .inl (fun _ => 0))), (q12, .inl (a13, 1, .inl (fun _ => 0))), (q7, .inr (2, [.int 5, .int (-1), .int 0, .ref q8, .int 0, .int 0, .ref q10, .ref q12, .int 0]))] := hD
  refine lv_aload_n hx hb dX9_init_71 rfl (lv_at hl 0 rfl) ?_
  refine va_new (ci := 7) (fs := [.null, .null, .null]) (C := RX6) (T := TX6) (N := 3) hx hb hts inX6 tyX6 tyX6_ok hown (hts _ k_262) (hts _ k_263) (hts _ k_92) hK hP hD hS hA rfl dfX6 (Nat.le_of_ble_eq_true rfl) (Nat.le_of_ble_eq_true rfl) dX9_init_72 (fun q14 H hP hD hS => ?_)
  refine W.widen (k := 10) (n := 1228) (by decide) (by decide) ?_
  have hP : va_P D vcl [(h0, .inr (10, [.ref q1, .ref q4, .ref q5, .ref q6, .ref q7, .null, .null, .null, .null, .int 0, .int 0, .int 0])), (q1, .inr (9, [.ref q2, .int 0])), (q2, .inl (a3, 1200, .inl (fun _ => 0))), (q4, .inr (5, [.ref q1, .int 0, .int 0, .int 0, .int 0, .int 0])), (q5, .inr (0, [.int 0, .ref z0, .int 0])), (q6, .inr (0, [.int 0, .ref z0, .int 0])), (q8, .inl (a9, 0, .inl (fun _ => 0))), (q10, .inl (a11, 1, .inl (fun _ => 0))), (q12, .inl (a13, 1, .inl (fun _ => 0))), (q7, .inr (2, [.int 5, .int (-1), .int 0, .ref q8, .int 0, .int 0, .ref q10, .ref q12, .int 0])), (q14, .inr (7, [.null, .null, .null]))] H := hP
  have hD : va_D A [(h0, .inr (10, [.ref q1, .ref q4, .ref q5, .ref q6, .ref q7, .null, .null, .null, .null, .int 0, .int 0, .int 0])), (q1, .inr (9, [.ref q2, .int 0])), (q2, .inl (a3, 1200, .inl (fun _ => 0))), (q4, .inr (5, [.ref q1, .int 0, .int 0, .int 0, .int 0, .int 0])), (q5, .inr (0, [.int 0, .ref z0, .int 0])), (q6, .inr (0, [.int 0, .ref z0, .int 0])), (q8, .inl (a9, 0, .inl (fun _ => 0))), (q10, .inl (a11, 1, .inl (fun _ => 0))), (q12, .inl (a13, 1, .inl (fun _ => 0))), (q7, .inr (2, [.int 5, .int (-1), .int 0, .ref q8, .int 0, .int 0, .ref q10, .ref q12, .int 0])), (q14, .inr (7, [.null, .null, .null]))] := hD
  refine lv_dup hx hb dX9_init_75 rfl ?_
  refine lv_aload_n hx hb dX9_init_76 rfl (lv_at hl 0 rfl) ?_
  refine va_get (D := D) (ci := 10) (v := .ref q7) (C := RX9) (T := TX9) (N := 12) hx hb hts inX9 hown hK hP 0 rfl rfl 4 (by decide) (hts _ k_433) (fun _ h9 => h9) rfl dX9_init_77 ?_
  refine q_bv (wc := [(q14, .inr (7, [.null, .null, .null]))]) (wr := [(h0, .inr (10, [.ref q1, .ref q4, .ref q5, .ref q6, .ref q7, .null, .null, .null, .null, .int 0, .int 0, .int 0])), (q1, .inr (9, [.ref q2, .int 0])), (q2, .inl (a3, 1200, .inl (fun _ => 0))), (q4, .inr (5, [.ref q1, .int 0, .int 0, .int 0, .int 0, .int 0])), (q5, .inr (0, [.int 0, .ref z0, .int 0])), (q6, .inr (0, [.int 0, .ref z0, .int 0])), (q8, .inl (a9, 0, .inl (fun _ => 0))), (q10, .inl (a11, 1, .inl (fun _ => 0))), (q12, .inl (a13, 1, .inl (fun _ => 0))), (q7, .inr (2, [.int 5, .int (-1), .int 0, .ref q8, .int 0, .int 0, .ref q10, .ref q12, .int 0]))]) (tc := []) (tr := [(a3, .byte), (a9, .byte), (a11, .int), (a13, .int)]) (k := 13) (n := 1238) hK hP hD hS hA [10] [0, 1, 2, 3, 4, 5, 6, 7, 8, 9] [] [0, 1, 2, 3] rfl rfl (by decide) (by decide) (by decide) rfl rfl (fun hPc hKc hDc hFc => (q_rI (As := [.ref q7]) (rest := [.ref q14, .ref h0]) hf (m_X6_init_1 _ D z0 q14 q7 _) k_266 k_264 k_265 k_92 rfl (nA := 1) (by decide +kernel) ⟨Nat.le_of_ble_eq_true rfl, Nat.le_of_ble_eq_true rfl⟩ hPc hKc hDc zN_blind (zN_pass hZ hN hS hFc) rfl hl.1 rfl (Nat.le_of_ble_eq_true rfl) dX9_init_80 ⟨Nat.le_of_ble_eq_true rfl, Nat.le_of_ble_eq_true rfl⟩)) (by decide) (by decide) (fun u H locs hw hK hP hD hS => ?_)
  obtain ⟨q15, q16, q17, rfl⟩ := hw
  have hP : va_P D vcl [(h0, .inr (10, [.ref q1, .ref q4, .ref q5, .ref q6, .ref q7, .null, .null, .null, .null, .int 0, .int 0, .int 0])), (q1, .inr (9, [.ref q2, .int 0])), (q2, .inl (a3, 1200, .inl (fun _ => 0))), (q4, .inr (5, [.ref q1, .int 0, .int 0, .int 0, .int 0, .int 0])), (q5, .inr (0, [.int 0, .ref z0, .int 0])), (q6, .inr (0, [.int 0, .ref z0, .int 0])), (q8, .inl (a9, 0, .inl (fun _ => 0))), (q10, .inl (a11, 1, .inl (fun _ => 0))), (q12, .inl (a13, 1, .inl (fun _ => 0))), (q7, .inr (2, [.int 5, .int (-1), .int 0, .ref q8, .int 0, .int 0, .ref q10, .ref q12, .int 0])), (q14, .inr (7, [.ref q15, .ref q16, .ref q17])), (q15, .inr (0, [.int 0, .ref z0, .int 0])), (q16, .inr (0, [.int 0, .ref z0, .int 0])), (q17, .inr (6, [.ref q7, .int 0, .int 0, .int 0]))] H := hP
  have hD : va_D A [(h0, .inr (10, [.ref q1, .ref q4, .ref q5, .ref q6, .ref q7, .null, .null, .null, .null, .int 0, .int 0, .int 0])), (q1, .inr (9, [.ref q2, .int 0])), (q2, .inl (a3, 1200, .inl (fun _ => 0))), (q4, .inr (5, [.ref q1, .int 0, .int 0, .int 0, .int 0, .int 0])), (q5, .inr (0, [.int 0, .ref z0, .int 0])), (q6, .inr (0, [.int 0, .ref z0, .int 0])), (q8, .inl (a9, 0, .inl (fun _ => 0))), (q10, .inl (a11, 1, .inl (fun _ => 0))), (q12, .inl (a13, 1, .inl (fun _ => 0))), (q7, .inr (2, [.int 5, .int (-1), .int 0, .ref q8, .int 0, .int 0, .ref q10, .ref q12, .int 0])), (q14, .inr (7, [.ref q15, .ref q16, .ref q17])), (q15, .inr (0, [.int 0, .ref z0, .int 0])), (q16, .inr (0, [.int 0, .ref z0, .int 0])), (q17, .inr (6, [.ref q7, .int 0, .int 0, .int 0]))] := hD
  have hK : va_K D vcl [(a3, .byte), (a9, .byte), (a11, .int), (a13, .int)] s := hK
  refine va_putF (D := D) (ci := 10) (v := .ref q14) (ty := .object "ScriptDesk$PieceRow") (C := RX9) (T := TX9) (N := 12) hx hb hts inX9 tyX9 tyX9_ok nmX9 hown hK hP hD hS 0 rfl rfl 5 (by decide) (hts _ k_434) (fun _ h9 => h9) rfl hin rfl (by decide +kernel) rfl rfl (Nat.le_of_ble_eq_true rfl) dX9_init_83 (fun H locs hP hD hS => ?_)
  have hP : va_P D vcl [(h0, .inr (10, [.ref q1, .ref q4, .ref q5, .ref q6, .ref q7, .ref q14, .null, .null, .null, .int 0, .int 0, .int 0])), (q1, .inr (9, [.ref q2, .int 0])), (q2, .inl (a3, 1200, .inl (fun _ => 0))), (q4, .inr (5, [.ref q1, .int 0, .int 0, .int 0, .int 0, .int 0])), (q5, .inr (0, [.int 0, .ref z0, .int 0])), (q6, .inr (0, [.int 0, .ref z0, .int 0])), (q8, .inl (a9, 0, .inl (fun _ => 0))), (q10, .inl (a11, 1, .inl (fun _ => 0))), (q12, .inl (a13, 1, .inl (fun _ => 0))), (q7, .inr (2, [.int 5, .int (-1), .int 0, .ref q8, .int 0, .int 0, .ref q10, .ref q12, .int 0])), (q14, .inr (7, [.ref q15, .ref q16, .ref q17])), (q15, .inr (0, [.int 0, .ref z0, .int 0])), (q16, .inr (0, [.int 0, .ref z0, .int 0])), (q17, .inr (6, [.ref q7, .int 0, .int 0, .int 0]))] H := hP
  have hD : va_D A [(h0, .inr (10, [.ref q1, .ref q4, .ref q5, .ref q6, .ref q7, .ref q14, .null, .null, .null, .int 0, .int 0, .int 0])), (q1, .inr (9, [.ref q2, .int 0])), (q2, .inl (a3, 1200, .inl (fun _ => 0))), (q4, .inr (5, [.ref q1, .int 0, .int 0, .int 0, .int 0, .int 0])), (q5, .inr (0, [.int 0, .ref z0, .int 0])), (q6, .inr (0, [.int 0, .ref z0, .int 0])), (q8, .inl (a9, 0, .inl (fun _ => 0))), (q10, .inl (a11, 1, .inl (fun _ => 0))), (q12, .inl (a13, 1, .inl (fun _ => 0))), (q7, .inr (2, [.int 5, .int (-1), .int 0, .ref q8, .int 0, .int 0, .ref q10, .ref q12, .int 0])), (q14, .inr (7, [.ref q15, .ref q16, .ref q17])), (q15, .inr (0, [.int 0, .ref z0, .int 0])), (q16, .inr (0, [.int 0, .ref z0, .int 0])), (q17, .inr (6, [.ref q7, .int 0, .int 0, .int 0]))] := hD
  refine va_new (ci := 4) (fs := [.null, .int 0, .int 0, .int 0, .int 0, .int 0, .int 0]) (C := RX3) (T := TX3) (N := 7) hx hb hts inX3 tyX3 tyX3_ok hown (hts _ k_314) (hts _ k_315) (hts _ k_94) hK hP hD hS hA rfl dfX3 (Nat.le_of_ble_eq_true rfl) (Nat.le_of_ble_eq_true rfl) dX9_init_86 (fun q18 H hP hD hS => ?_)
  refine W.widen (k := 14) (n := 1245) (by decide) (by decide) ?_
  have hP : va_P D vcl [(h0, .inr (10, [.ref q1, .ref q4, .ref q5, .ref q6, .ref q7, .ref q14, .null, .null, .null, .int 0, .int 0, .int 0])), (q1, .inr (9, [.ref q2, .int 0])), (q2, .inl (a3, 1200, .inl (fun _ => 0))), (q4, .inr (5, [.ref q1, .int 0, .int 0, .int 0, .int 0, .int 0])), (q5, .inr (0, [.int 0, .ref z0, .int 0])), (q6, .inr (0, [.int 0, .ref z0, .int 0])), (q8, .inl (a9, 0, .inl (fun _ => 0))), (q10, .inl (a11, 1, .inl (fun _ => 0))), (q12, .inl (a13, 1, .inl (fun _ => 0))), (q7, .inr (2, [.int 5, .int (-1), .int 0, .ref q8, .int 0, .int 0, .ref q10, .ref q12, .int 0])), (q14, .inr (7, [.ref q15, .ref q16, .ref q17])), (q15, .inr (0, [.int 0, .ref z0, .int 0])), (q16, .inr (0, [.int 0, .ref z0, .int 0])), (q17, .inr (6, [.ref q7, .int 0, .int 0, .int 0])), (q18, .inr (4, [.null, .int 0, .int 0, .int 0, .int 0, .int 0, .int 0]))] H := hP
  have hD : va_D A [(h0, .inr (10, [.ref q1, .ref q4, .ref q5, .ref q6, .ref q7, .ref q14, .null, .null, .null, .int 0, .int 0, .int 0])), (q1, .inr (9, [.ref q2, .int 0])), (q2, .inl (a3, 1200, .inl (fun _ => 0))), (q4, .inr (5, [.ref q1, .int 0, .int 0, .int 0, .int 0, .int 0])), (q5, .inr (0, [.int 0, .ref z0, .int 0])), (q6, .inr (0, [.int 0, .ref z0, .int 0])), (q8, .inl (a9, 0, .inl (fun _ => 0))), (q10, .inl (a11, 1, .inl (fun _ => 0))), (q12, .inl (a13, 1, .inl (fun _ => 0))), (q7, .inr (2, [.int 5, .int (-1), .int 0, .ref q8, .int 0, .int 0, .ref q10, .ref q12, .int 0])), (q14, .inr (7, [.ref q15, .ref q16, .ref q17])), (q15, .inr (0, [.int 0, .ref z0, .int 0])), (q16, .inr (0, [.int 0, .ref z0, .int 0])), (q17, .inr (6, [.ref q7, .int 0, .int 0, .int 0])), (q18, .inr (4, [.null, .int 0, .int 0, .int 0, .int 0, .int 0, .int 0]))] := hD
  refine lv_dup hx hb dX9_init_89 rfl ?_
  refine lv_aload_n hx hb dX9_init_90 rfl (lv_at hl 0 rfl) ?_
  refine va_get (D := D) (ci := 10) (v := .ref q14) (C := RX9) (T := TX9) (N := 12) hx hb hts inX9 hown hK hP 0 rfl rfl 5 (by decide) (hts _ k_434) (fun _ h9 => h9) rfl dX9_init_91 ?_
  refine q_bv (wc := [(q18, .inr (4, [.null, .int 0, .int 0, .int 0, .int 0, .int 0, .int 0]))]) (wr := [(h0, .inr (10, [.ref q1, .ref q4, .ref q5, .ref q6, .ref q7, .ref q14, .null, .null, .null, .int 0, .int 0, .int 0])), (q1, .inr (9, [.ref q2, .int 0])), (q2, .inl (a3, 1200, .inl (fun _ => 0))), (q4, .inr (5, [.ref q1, .int 0, .int 0, .int 0, .int 0, .int 0])), (q5, .inr (0, [.int 0, .ref z0, .int 0])), (q6, .inr (0, [.int 0, .ref z0, .int 0])), (q8, .inl (a9, 0, .inl (fun _ => 0))), (q10, .inl (a11, 1, .inl (fun _ => 0))), (q12, .inl (a13, 1, .inl (fun _ => 0))), (q7, .inr (2, [.int 5, .int (-1), .int 0, .ref q8, .int 0, .int 0, .ref q10, .ref q12, .int 0])), (q14, .inr (7, [.ref q15, .ref q16, .ref q17])), (q15, .inr (0, [.int 0, .ref z0, .int 0])), (q16, .inr (0, [.int 0, .ref z0, .int 0])), (q17, .inr (6, [.ref q7, .int 0, .int 0, .int 0]))]) (tc := []) (tr := [(a3, .byte), (a9, .byte), (a11, .int), (a13, .int)]) (k := 14) (n := 1245) hK hP hD hS hA [14] [0, 1, 2, 3, 4, 5, 6, 7, 8, 9, 10, 11, 12, 13] [] [0, 1, 2, 3] rfl rfl (by decide) (by decide) (by decide) rfl rfl (fun hPc hKc hDc hFc => (q_rI (As := [.ref q14]) (rest := [.ref q18]) hf (m_X3_init_1 _ D q18 q14 _) k_318 k_316 k_317 k_94 rfl (nA := 1) (by decide +kernel) ⟨Nat.le_of_ble_eq_true rfl, Nat.le_of_ble_eq_true rfl⟩ hPc hKc hDc (fun _ _ _ _ h => h) (fun _ _ _ => trivial) rfl hl.1 rfl (Nat.le_of_ble_eq_true rfl) dX9_init_94 ⟨Nat.le_of_ble_eq_true rfl, Nat.le_of_ble_eq_true rfl⟩)) (by decide) (by decide) (fun u H locs hw hK hP hD hS => ?_)
  obtain rfl := hw
  have hP : va_P D vcl [(h0, .inr (10, [.ref q1, .ref q4, .ref q5, .ref q6, .ref q7, .ref q14, .null, .null, .null, .int 0, .int 0, .int 0])), (q1, .inr (9, [.ref q2, .int 0])), (q2, .inl (a3, 1200, .inl (fun _ => 0))), (q4, .inr (5, [.ref q1, .int 0, .int 0, .int 0, .int 0, .int 0])), (q5, .inr (0, [.int 0, .ref z0, .int 0])), (q6, .inr (0, [.int 0, .ref z0, .int 0])), (q8, .inl (a9, 0, .inl (fun _ => 0))), (q10, .inl (a11, 1, .inl (fun _ => 0))), (q12, .inl (a13, 1, .inl (fun _ => 0))), (q7, .inr (2, [.int 5, .int (-1), .int 0, .ref q8, .int 0, .int 0, .ref q10, .ref q12, .int 0])), (q14, .inr (7, [.ref q15, .ref q16, .ref q17])), (q15, .inr (0, [.int 0, .ref z0, .int 0])), (q16, .inr (0, [.int 0, .ref z0, .int 0])), (q17, .inr (6, [.ref q7, .int 0, .int 0, .int 0])), (q18, .inr (4, [.ref q14, .int 0, .int 0, .int 0, .int 0, .int 0, .int 0]))] H := hP
  have hD : va_D A [(h0, .inr (10, [.ref q1, .ref q4, .ref q5, .ref q6, .ref q7, .ref q14, .null, .null, .null, .int 0, .int 0, .int 0])), (q1, .inr (9, [.ref q2, .int 0])), (q2, .inl (a3, 1200, .inl (fun _ => 0))), (q4, .inr (5, [.ref q1, .int 0, .int 0, .int 0, .int 0, .int 0])), (q5, .inr (0, [.int 0, .ref z0, .int 0])), (q6, .inr (0, [.int 0, .ref z0, .int 0])), (q8, .inl (a9, 0, .inl (fun _ => 0))), (q10, .inl (a11, 1, .inl (fun _ => 0))), (q12, .inl (a13, 1, .inl (fun _ => 0))), (q7, .inr (2, [.int 5, .int (-1), .int 0, .ref q8, .int 0, .int 0, .ref q10, .ref q12, .int 0])), (q14, .inr (7, [.ref q15, .ref q16, .ref q17])), (q15, .inr (0, [.int 0, .ref z0, .int 0])), (q16, .inr (0, [.int 0, .ref z0, .int 0])), (q17, .inr (6, [.ref q7, .int 0, .int 0, .int 0])), (q18, .inr (4, [.ref q14, .int 0, .int 0, .int 0, .int 0, .int 0, .int 0]))] := hD
  have hK : va_K D vcl [(a3, .byte), (a9, .byte), (a11, .int), (a13, .int)] s := hK
  refine lv_astore_n (lv' := [(1, .ref q18), (0, .ref h0)]) hx hb dX9_init_97 rfl hl (by decide) rfl (fun ls hl => ?_)
  refine lv_aload_n hx hb dX9_init_98 rfl (lv_at hl 1 rfl) ?_
  refine va_new (ci := 1) (fs := [.null, .null, .null, .int 0, .int 0, .null, .null, .int 0, .int 0, .int 0, .int 0]) (C := RX0) (T := TX0) (N := 11) hx hb hts inX0 tyX0 tyX0_ok hown (hts _ k_342) (hts _ k_343) (hts _ k_95) hK hP hD hS hA rfl dfX0 (Nat.le_of_ble_eq_true rfl) (Nat.le_of_ble_eq_true rfl) dX9_init_99 (fun q19 H hP hD hS => ?_)
  refine W.widen (k := 15) (n := 1256) (by decide) (by decide) ?_
  have hP : va_P D vcl [(h0, .inr (10, [.ref q1, .ref q4, .ref q5, .ref q6, .ref q7, .ref q14, .null, .null, .null, .int 0, .int 0, .int 0])), (q1, .inr (9, [.ref q2, .int 0])), (q2, .inl (a3, 1200, .inl (fun _ => 0))), (q4, .inr (5, [.ref q1, .int 0, .int 0, .int 0, .int 0, .int 0])), (q5, .inr (0, [.int 0, .ref z0, .int 0])), (q6, .inr (0, [.int 0, .ref z0, .int 0])), (q8, .inl (a9, 0, .inl (fun _ => 0))), (q10, .inl (a11, 1, .inl (fun _ => 0))), (q12, .inl (a13, 1, .inl (fun _ => 0))), (q7, .inr (2, [.int 5, .int (-1), .int 0, .ref q8, .int 0, .int 0, .ref q10, .ref q12, .int 0])), (q14, .inr (7, [.ref q15, .ref q16, .ref q17])), (q15, .inr (0, [.int 0, .ref z0, .int 0])), (q16, .inr (0, [.int 0, .ref z0, .int 0])), (q17, .inr (6, [.ref q7, .int 0, .int 0, .int 0])), (q18, .inr (4, [.ref q14, .int 0, .int 0, .int 0, .int 0, .int 0, .int 0])), (q19, .inr (1, [.null, .null, .null, .int 0, .int 0, .null, .null, .int 0, .int 0, .int 0, .int 0]))] H := hP
  have hD : va_D A [(h0, .inr (10, [.ref q1, .ref q4, .ref q5, .ref q6, .ref q7, .ref q14, .null, .null, .null, .int 0, .int 0, .int 0])), (q1, .inr (9, [.ref q2, .int 0])), (q2, .inl (a3, 1200, .inl (fun _ => 0))), (q4, .inr (5, [.ref q1, .int 0, .int 0, .int 0, .int 0, .int 0])), (q5, .inr (0, [.int 0, .ref z0, .int 0])), (q6, .inr (0, [.int 0, .ref z0, .int 0])), (q8, .inl (a9, 0, .inl (fun _ => 0))), (q10, .inl (a11, 1, .inl (fun _ => 0))), (q12, .inl (a13, 1, .inl (fun _ => 0))), (q7, .inr (2, [.int 5, .int (-1), .int 0, .ref q8, .int 0, .int 0, .ref q10, .ref q12, .int 0])), (q14, .inr (7, [.ref q15, .ref q16, .ref q17])), (q15, .inr (0, [.int 0, .ref z0, .int 0])), (q16, .inr (0, [.int 0, .ref z0, .int 0])), (q17, .inr (6, [.ref q7, .int 0, .int 0, .int 0])), (q18, .inr (4, [.ref q14, .int 0, .int 0, .int 0, .int 0, .int 0, .int 0])), (q19, .inr (1, [.null, .null, .null, .int 0, .int 0, .null, .null, .int 0, .int 0, .int 0, .int 0]))] := hD
  refine lv_dup hx hb dX9_init_102 rfl ?_
  refine lv_aload_n hx hb dX9_init_103 rfl (lv_at hl 1 rfl) ?_
  refine va_get (D := D) (ci := 10) (v := .ref q14) (C := RX9) (T := TX9) (N := 12) hx hb hts inX9 hown hK hP 0 rfl rfl 5 (by decide) (hts _ k_434) (fun _ h9 => h9) rfl dX9_init_104 ?_
  refine lv_aload_n hx hb dX9_init_107 rfl (lv_at hl 0 rfl) ?_
  refine q_bv (wc := [(q19, .inr (1, [.null, .null, .null, .int 0, .int 0, .null, .null, .int 0, .int 0, .int 0, .int 0]))]) (wr := [(h0, .inr (10, [.ref q1, .ref q4, .ref q5, .ref q6, .ref q7, .ref q14, .null, .null, .null, .int 0, .int 0, .int 0])), (q1, .inr (9, [.ref q2, .int 0])), (q2, .inl (a3, 1200, .inl (fun _ => 0))), (q4, .inr (5, [.ref q1, .int 0, .int 0, .int 0, .int 0, .int 0])), (q5, .inr (0, [.int 0, .ref z0, .int 0])), (q6, .inr (0, [.int 0, .ref z0, .int 0])), (q8, .inl (a9, 0, .inl (fun _ => 0))), (q10, .inl (a11, 1, .inl (fun _ => 0))), (q12, .inl (a13, 1, .inl (fun _ => 0))), (q7, .inr (2, [.int 5, .int (-1), .int 0, .ref q8, .int 0, .int 0, .ref q10, .ref q12, .int 0])), (q14, .inr (7, [.ref q15, .ref q16, .ref q17])), (q15, .inr (0, [.int 0, .ref z0, .int 0])), (q16, .inr (0, [.int 0, .ref z0, .int 0])), (q17, .inr (6, [.ref q7, .int 0, .int 0, .int 0])), (q18, .inr (4, [.ref q14, .int 0, .int 0, .int 0, .int 0, .int 0, .int 0]))]) (tc := []) (tr := [(a3, .byte), (a9, .byte), (a11, .int), (a13, .int)]) (k := 18) (n := 1573) hK hP hD hS hA [15] [0, 1, 2, 3, 4, 5, 6, 7, 8, 9, 10, 11, 12, 13, 14] [] [0, 1, 2, 3] rfl rfl (by decide) (by decide) (by decide) rfl rfl (fun hPc hKc hDc hFc => (q_rI (As := [.ref q14, .ref q18]) (rest := [.ref q19, .ref h0]) hf (m_X0_init_1 _ D q19 q14 q18 _) k_346 k_344 k_345 k_95 rfl (nA := 2) (by decide +kernel) ⟨Nat.le_of_ble_eq_true rfl, Nat.le_of_ble_eq_true rfl⟩ hPc hKc hDc (fun _ _ _ _ h => h) (fun _ _ _ => trivial) rfl hl.1 rfl (Nat.le_of_ble_eq_true rfl) dX9_init_108 ⟨Nat.le_of_ble_eq_true rfl, Nat.le_of_ble_eq_true rfl⟩)) (by decide) (by decide) (fun u H locs hw hK hP hD hS => ?_)
  obtain ⟨q20, a21, q22, a23, q24, a25, rfl⟩ := hw
  have hP : va_P D vcl [(h0, .inr (10, [.ref q1, .ref q4, .ref q5, .ref q6, .ref q7, .ref q14, .null, .null, .null, .int 0, .int 0, .int 0])), (q1, .inr (9, [.ref q2, .int 0])), (q2, .inl (a3, 1200, .inl (fun _ => 0))), (q4, .inr (5, [.ref q1, .int 0, .int 0, .int 0, .int 0, .int 0])), (q5, .inr (0, [.int 0, .ref z0, .int 0])), (q6, .inr (0, [.int 0, .ref z0, .int 0])), (q8, .inl (a9, 0, .inl (fun _ => 0))), (q10, .inl (a11, 1, .inl (fun _ => 0))), (q12, .inl (a13, 1, .inl (fun _ => 0))), (q7, .inr (2, [.int 5, .int (-1), .int 0, .ref q8, .int 0, .int 0, .ref q10, .ref q12, .int 0])), (q14, .inr (7, [.ref q15, .ref q16, .ref q17])), (q15, .inr (0, [.int 0, .ref z0, .int 0])), (q16, .inr (0, [.int 0, .ref z0, .int 0])), (q17, .inr (6, [.ref q7, .int 0, .int 0, .int 0])), (q18, .inr (4, [.ref q14, .int 0, .int 0, .int 0, .int 0, .int 0, .int 0])), (q19, .inr (1, [.ref q14, .ref q18, .ref q20, .int 0, .int 0, .ref q22, .ref q24, .int 0, .int 0, .int 0, .int 0])), (q20, .inl (a21, 61, .inl (fun _ => 0))), (q22, .inl (a23, 128, .inl (fun _ => 0))), (q24, .inl (a25, 128, .inl (fun _ => 0)))] H := hP
  have hD : va_D A [(h0, .inr (10, [.ref q1, .ref q4, .ref q5, .ref q6, .ref q7, .ref q14, .null, .null, .null, .int 0, .int 0, .int 0])), (q1, .inr (9, [.ref q2, .int 0])), (q2, .inl (a3, 1200, .inl (fun _ => 0))), (q4, .inr (5, [.ref q1, .int 0, .int 0, .int 0, .int 0, .int 0])), (q5, .inr (0, [.int 0, .ref z0, .int 0])), (q6, .inr (0, [.int 0, .ref z0, .int 0])), (q8, .inl (a9, 0, .inl (fun _ => 0))), (q10, .inl (a11, 1, .inl (fun _ => 0))), (q12, .inl (a13, 1, .inl (fun _ => 0))), (q7, .inr (2, [.int 5, .int (-1), .int 0, .ref q8, .int 0, .int 0, .ref q10, .ref q12, .int 0])), (q14, .inr (7, [.ref q15, .ref q16, .ref q17])), (q15, .inr (0, [.int 0, .ref z0, .int 0])), (q16, .inr (0, [.int 0, .ref z0, .int 0])), (q17, .inr (6, [.ref q7, .int 0, .int 0, .int 0])), (q18, .inr (4, [.ref q14, .int 0, .int 0, .int 0, .int 0, .int 0, .int 0])), (q19, .inr (1, [.ref q14, .ref q18, .ref q20, .int 0, .int 0, .ref q22, .ref q24, .int 0, .int 0, .int 0, .int 0])), (q20, .inl (a21, 61, .inl (fun _ => 0))), (q22, .inl (a23, 128, .inl (fun _ => 0))), (q24, .inl (a25, 128, .inl (fun _ => 0)))] := hD
  have hK : va_K D vcl [(a3, .byte), (a9, .byte), (a11, .int), (a13, .int), (a21, .int), (a23, .int), (a25, .int)] s := hK
  refine va_putF (D := D) (ci := 10) (v := .ref q19) (ty := .object "ScriptDesk$Breaking") (C := RX9) (T := TX9) (N := 12) hx hb hts inX9 tyX9 tyX9_ok nmX9 hown hK hP hD hS 0 rfl rfl 6 (by decide) (hts _ k_435) (fun _ h9 => h9) rfl hin rfl (by decide +kernel) rfl rfl (Nat.le_of_ble_eq_true rfl) dX9_init_111 (fun H locs hP hD hS => ?_)
  have hP : va_P D vcl [(h0, .inr (10, [.ref q1, .ref q4, .ref q5, .ref q6, .ref q7, .ref q14, .ref q19, .null, .null, .int 0, .int 0, .int 0])), (q1, .inr (9, [.ref q2, .int 0])), (q2, .inl (a3, 1200, .inl (fun _ => 0))), (q4, .inr (5, [.ref q1, .int 0, .int 0, .int 0, .int 0, .int 0])), (q5, .inr (0, [.int 0, .ref z0, .int 0])), (q6, .inr (0, [.int 0, .ref z0, .int 0])), (q8, .inl (a9, 0, .inl (fun _ => 0))), (q10, .inl (a11, 1, .inl (fun _ => 0))), (q12, .inl (a13, 1, .inl (fun _ => 0))), (q7, .inr (2, [.int 5, .int (-1), .int 0, .ref q8, .int 0, .int 0, .ref q10, .ref q12, .int 0])), (q14, .inr (7, [.ref q15, .ref q16, .ref q17])), (q15, .inr (0, [.int 0, .ref z0, .int 0])), (q16, .inr (0, [.int 0, .ref z0, .int 0])), (q17, .inr (6, [.ref q7, .int 0, .int 0, .int 0])), (q18, .inr (4, [.ref q14, .int 0, .int 0, .int 0, .int 0, .int 0, .int 0])), (q19, .inr (1, [.ref q14, .ref q18, .ref q20, .int 0, .int 0, .ref q22, .ref q24, .int 0, .int 0, .int 0, .int 0])), (q20, .inl (a21, 61, .inl (fun _ => 0))), (q22, .inl (a23, 128, .inl (fun _ => 0))), (q24, .inl (a25, 128, .inl (fun _ => 0)))] H := hP
  have hD : va_D A [(h0, .inr (10, [.ref q1, .ref q4, .ref q5, .ref q6, .ref q7, .ref q14, .ref q19, .null, .null, .int 0, .int 0, .int 0])), (q1, .inr (9, [.ref q2, .int 0])), (q2, .inl (a3, 1200, .inl (fun _ => 0))), (q4, .inr (5, [.ref q1, .int 0, .int 0, .int 0, .int 0, .int 0])), (q5, .inr (0, [.int 0, .ref z0, .int 0])), (q6, .inr (0, [.int 0, .ref z0, .int 0])), (q8, .inl (a9, 0, .inl (fun _ => 0))), (q10, .inl (a11, 1, .inl (fun _ => 0))), (q12, .inl (a13, 1, .inl (fun _ => 0))), (q7, .inr (2, [.int 5, .int (-1), .int 0, .ref q8, .int 0, .int 0, .ref q10, .ref q12, .int 0])), (q14, .inr (7, [.ref q15, .ref q16, .ref q17])), (q15, .inr (0, [.int 0, .ref z0, .int 0])), (q16, .inr (0, [.int 0, .ref z0, .int 0])), (q17, .inr (6, [.ref q7, .int 0, .int 0, .int 0])), (q18, .inr (4, [.ref q14, .int 0, .int 0, .int 0, .int 0, .int 0, .int 0])), (q19, .inr (1, [.ref q14, .ref q18, .ref q20, .int 0, .int 0, .ref q22, .ref q24, .int 0, .int 0, .int 0, .int 0])), (q20, .inl (a21, 61, .inl (fun _ => 0))), (q22, .inl (a23, 128, .inl (fun _ => 0))), (q24, .inl (a25, 128, .inl (fun _ => 0)))] := hD
  refine lv_aload_n hx hb dX9_init_114 rfl (lv_at hl 1 rfl) ?_
  refine va_new (ci := 3) (fs := [.null, .null, .null, .null, .null, .int 0, .int 0, .int 0, .int 0, .int 0]) (C := RX2) (T := TX2) (N := 10) hx hb hts inX2 tyX2 tyX2_ok hown (hts _ k_382) (hts _ k_383) (hts _ k_96) hK hP hD hS hA rfl dfX2 (Nat.le_of_ble_eq_true rfl) (Nat.le_of_ble_eq_true rfl) dX9_init_115 (fun q26 H hP hD hS => ?_)
  refine W.widen (k := 19) (n := 1583) (by decide) (by decide) ?_
  have hP : va_P D vcl [(h0, .inr (10, [.ref q1, .ref q4, .ref q5, .ref q6, .ref q7, .ref q14, .ref q19, .null, .null, .int 0, .int 0, .int 0])), (q1, .inr (9, [.ref q2, .int 0])), (q2, .inl (a3, 1200, .inl (fun _ => 0))), (q4, .inr (5, [.ref q1, .int 0, .int 0, .int 0, .int 0, .int 0])), (q5, .inr (0, [.int 0, .ref z0, .int 0])), (q6, .inr (0, [.int 0, .ref z0, .int 0])), (q8, .inl (a9, 0, .inl (fun _ => 0))), (q10, .inl (a11, 1, .inl (fun _ => 0))), (q12, .inl (a13, 1, .inl (fun _ => 0))), (q7, .inr (2, [.int 5, .int (-1), .int 0, .ref q8, .int 0, .int 0, .ref q10, .ref q12, .int 0])), (q14, .inr (7, [.ref q15, .ref q16, .ref q17])), (q15, .inr (0, [.int 0, .ref z0, .int 0])), (q16, .inr (0, [.int 0, .ref z0, .int 0])), (q17, .inr (6, [.ref q7, .int 0, .int 0, .int 0])), (q18, .inr (4, [.ref q14, .int 0, .int 0, .int 0, .int 0, .int 0, .int 0])), (q19, .inr (1, [.ref q14, .ref q18, .ref q20, .int 0, .int 0, .ref q22, .ref q24, .int 0, .int 0, .int 0, .int 0])), (q20, .inl (a21, 61, .inl (fun _ => 0))), (q22, .inl (a23, 128, .inl (fun _ => 0))), (q24, .inl (a25, 128, .inl (fun _ => 0))), (q26, .inr (3, [.null, .null, .null, .null, .null, .int 0, .int 0, .int 0, .int 0, .int 0]))] H := hP
  have hD : va_D A [(h0, .inr (10, [.ref q1, .ref q4, .ref q5, .ref q6, .ref q7, .ref q14, .ref q19, .null, .null, .int 0, .int 0, .int 0])), (q1, .inr (9, [.ref q2, .int 0])), (q2, .inl (a3, 1200, .inl (fun _ => 0))), (q4, .inr (5, [.ref q1, .int 0, .int 0, .int 0, .int 0, .int 0])), (q5, .inr (0, [.int 0, .ref z0, .int 0])), (q6, .inr (0, [.int 0, .ref z0, .int 0])), (q8, .inl (a9, 0, .inl (fun _ => 0))), (q10, .inl (a11, 1, .inl (fun _ => 0))), (q12, .inl (a13, 1, .inl (fun _ => 0))), (q7, .inr (2, [.int 5, .int (-1), .int 0, .ref q8, .int 0, .int 0, .ref q10, .ref q12, .int 0])), (q14, .inr (7, [.ref q15, .ref q16, .ref q17])), (q15, .inr (0, [.int 0, .ref z0, .int 0])), (q16, .inr (0, [.int 0, .ref z0, .int 0])), (q17, .inr (6, [.ref q7, .int 0, .int 0, .int 0])), (q18, .inr (4, [.ref q14, .int 0, .int 0, .int 0, .int 0, .int 0, .int 0])), (q19, .inr (1, [.ref q14, .ref q18, .ref q20, .int 0, .int 0, .ref q22, .ref q24, .int 0, .int 0, .int 0, .int 0])), (q20, .inl (a21, 61, .inl (fun _ => 0))), (q22, .inl (a23, 128, .inl (fun _ => 0))), (q24, .inl (a25, 128, .inl (fun _ => 0))), (q26, .inr (3, [.null, .null, .null, .null, .null, .int 0, .int 0, .int 0, .int 0, .int 0]))] := hD
  refine lv_dup hx hb dX9_init_118 rfl ?_
  refine lv_aload_n hx hb dX9_init_119 rfl (lv_at hl 1 rfl) ?_
  refine va_get (D := D) (ci := 10) (v := .ref q14) (C := RX9) (T := TX9) (N := 12) hx hb hts inX9 hown hK hP 0 rfl rfl 5 (by decide) (hts _ k_434) (fun _ h9 => h9) rfl dX9_init_120 ?_
  refine lv_aload_n hx hb dX9_init_123 rfl (lv_at hl 0 rfl) ?_
  refine q_bv (wc := [(q26, .inr (3, [.null, .null, .null, .null, .null, .int 0, .int 0, .int 0, .int 0, .int 0]))]) (wr := [(h0, .inr (10, [.ref q1, .ref q4, .ref q5, .ref q6, .ref q7, .ref q14, .ref q19, .null, .null, .int 0, .int 0, .int 0])), (q1, .inr (9, [.ref q2, .int 0])), (q2, .inl (a3, 1200, .inl (fun _ => 0))), (q4, .inr (5, [.ref q1, .int 0, .int 0, .int 0, .int 0, .int 0])), (q5, .inr (0, [.int 0, .ref z0, .int 0])), (q6, .inr (0, [.int 0, .ref z0, .int 0])), (q8, .inl (a9, 0, .inl (fun _ => 0))), (q10, .inl (a11, 1, .inl (fun _ => 0))), (q12, .inl (a13, 1, .inl (fun _ => 0))), (q7, .inr (2, [.int 5, .int (-1), .int 0, .ref q8, .int 0, .int 0, .ref q10, .ref q12, .int 0])), (q14, .inr (7, [.ref q15, .ref q16, .ref q17])), (q15, .inr (0, [.int 0, .ref z0, .int 0])), (q16, .inr (0, [.int 0, .ref z0, .int 0])), (q17, .inr (6, [.ref q7, .int 0, .int 0, .int 0])), (q18, .inr (4, [.ref q14, .int 0, .int 0, .int 0, .int 0, .int 0, .int 0])), (q19, .inr (1, [.ref q14, .ref q18, .ref q20, .int 0, .int 0, .ref q22, .ref q24, .int 0, .int 0, .int 0, .int 0])), (q20, .inl (a21, 61, .inl (fun _ => 0))), (q22, .inl (a23, 128, .inl (fun _ => 0))), (q24, .inl (a25, 128, .inl (fun _ => 0)))]) (tc := []) (tr := [(a3, .byte), (a9, .byte), (a11, .int), (a13, .int), (a21, .int), (a23, .int), (a25, .int)]) (k := 22) (n := 1667) hK hP hD hS hA [19] [0, 1, 2, 3, 4, 5, 6, 7, 8, 9, 10, 11, 12, 13, 14, 15, 16, 17, 18] [] [0, 1, 2, 3, 4, 5, 6] rfl rfl (by decide) (by decide) (by decide) rfl rfl (fun hPc hKc hDc hFc => (q_rI (As := [.ref q14, .ref q18]) (rest := [.ref q26, .ref h0]) hf (m_X2_init_1 _ D q26 q14 q18 _) k_386 k_384 k_385 k_96 rfl (nA := 2) (by decide +kernel) ⟨Nat.le_of_ble_eq_true rfl, Nat.le_of_ble_eq_true rfl⟩ hPc hKc hDc (fun _ _ _ _ h => h) (fun _ _ _ => trivial) rfl hl.1 rfl (Nat.le_of_ble_eq_true rfl) dX9_init_124 ⟨Nat.le_of_ble_eq_true rfl, Nat.le_of_ble_eq_true rfl⟩)) (by decide) (by decide) (fun u H locs hw hK hP hD hS => ?_)
  obtain ⟨q27, a28, q29, a30, q31, a32, rfl⟩ := hw
  have hP : va_P D vcl [(h0, .inr (10, [.ref q1, .ref q4, .ref q5, .ref q6, .ref q7, .ref q14, .ref q19, .null, .null, .int 0, .int 0, .int 0])), (q1, .inr (9, [.ref q2, .int 0])), (q2, .inl (a3, 1200, .inl (fun _ => 0))), (q4, .inr (5, [.ref q1, .int 0, .int 0, .int 0, .int 0, .int 0])), (q5, .inr (0, [.int 0, .ref z0, .int 0])), (q6, .inr (0, [.int 0, .ref z0, .int 0])), (q8, .inl (a9, 0, .inl (fun _ => 0))), (q10, .inl (a11, 1, .inl (fun _ => 0))), (q12, .inl (a13, 1, .inl (fun _ => 0))), (q7, .inr (2, [.int 5, .int (-1), .int 0, .ref q8, .int 0, .int 0, .ref q10, .ref q12, .int 0])), (q14, .inr (7, [.ref q15, .ref q16, .ref q17])), (q15, .inr (0, [.int 0, .ref z0, .int 0])), (q16, .inr (0, [.int 0, .ref z0, .int 0])), (q17, .inr (6, [.ref q7, .int 0, .int 0, .int 0])), (q18, .inr (4, [.ref q14, .int 0, .int 0, .int 0, .int 0, .int 0, .int 0])), (q19, .inr (1, [.ref q14, .ref q18, .ref q20, .int 0, .int 0, .ref q22, .ref q24, .int 0, .int 0, .int 0, .int 0])), (q20, .inl (a21, 61, .inl (fun _ => 0))), (q22, .inl (a23, 128, .inl (fun _ => 0))), (q24, .inl (a25, 128, .inl (fun _ => 0))), (q26, .inr (3, [.ref q14, .ref q18, .ref q27, .ref q29, .ref q31, .int 0, .int 0, .int 0, .int 0, .int 0])), (q27, .inl (a28, 28, .inl (fun _ => 0))), (q29, .inl (a30, 28, .inl (fun _ => 0))), (q31, .inl (a32, 28, .inl (fun _ => 0)))] H := hP
  have hD : va_D A [(h0, .inr (10, [.ref q1, .ref q4, .ref q5, .ref q6, .ref q7, .ref q14, .ref q19, .null, .null, .int 0, .int 0, .int 0])), (q1, .inr (9, [.ref q2, .int 0])), (q2, .inl (a3, 1200, .inl (fun _ => 0))), (q4, .inr (5, [.ref q1, .int 0, .int 0, .int 0, .int 0, .int 0])), (q5, .inr (0, [.int 0, .ref z0, .int 0])), (q6, .inr (0, [.int 0, .ref z0, .int 0])), (q8, .inl (a9, 0, .inl (fun _ => 0))), (q10, .inl (a11, 1, .inl (fun _ => 0))), (q12, .inl (a13, 1, .inl (fun _ => 0))), (q7, .inr (2, [.int 5, .int (-1), .int 0, .ref q8, .int 0, .int 0, .ref q10, .ref q12, .int 0])), (q14, .inr (7, [.ref q15, .ref q16, .ref q17])), (q15, .inr (0, [.int 0, .ref z0, .int 0])), (q16, .inr (0, [.int 0, .ref z0, .int 0])), (q17, .inr (6, [.ref q7, .int 0, .int 0, .int 0])), (q18, .inr (4, [.ref q14, .int 0, .int 0, .int 0, .int 0, .int 0, .int 0])), (q19, .inr (1, [.ref q14, .ref q18, .ref q20, .int 0, .int 0, .ref q22, .ref q24, .int 0, .int 0, .int 0, .int 0])), (q20, .inl (a21, 61, .inl (fun _ => 0))), (q22, .inl (a23, 128, .inl (fun _ => 0))), (q24, .inl (a25, 128, .inl (fun _ => 0))), (q26, .inr (3, [.ref q14, .ref q18, .ref q27, .ref q29, .ref q31, .int 0, .int 0, .int 0, .int 0, .int 0])), (q27, .inl (a28, 28, .inl (fun _ => 0))), (q29, .inl (a30, 28, .inl (fun _ => 0))), (q31, .inl (a32, 28, .inl (fun _ => 0)))] := hD
  have hK : va_K D vcl [(a3, .byte), (a9, .byte), (a11, .int), (a13, .int), (a21, .int), (a23, .int), (a25, .int), (a28, .int), (a30, .int), (a32, .int)] s := hK
  refine va_putF (D := D) (ci := 10) (v := .ref q26) (ty := .object "ScriptDesk$GroupLayout") (C := RX9) (T := TX9) (N := 12) hx hb hts inX9 tyX9 tyX9_ok nmX9 hown hK hP hD hS 0 rfl rfl 7 (by decide) (hts _ k_436) (fun _ h9 => h9) rfl hin rfl (by decide +kernel) rfl rfl (Nat.le_of_ble_eq_true rfl) dX9_init_127 (fun H locs hP hD hS => ?_)
  have hP : va_P D vcl [(h0, .inr (10, [.ref q1, .ref q4, .ref q5, .ref q6, .ref q7, .ref q14, .ref q19, .ref q26, .null, .int 0, .int 0, .int 0])), (q1, .inr (9, [.ref q2, .int 0])), (q2, .inl (a3, 1200, .inl (fun _ => 0))), (q4, .inr (5, [.ref q1, .int 0, .int 0, .int 0, .int 0, .int 0])), (q5, .inr (0, [.int 0, .ref z0, .int 0])), (q6, .inr (0, [.int 0, .ref z0, .int 0])), (q8, .inl (a9, 0, .inl (fun _ => 0))), (q10, .inl (a11, 1, .inl (fun _ => 0))), (q12, .inl (a13, 1, .inl (fun _ => 0))), (q7, .inr (2, [.int 5, .int (-1), .int 0, .ref q8, .int 0, .int 0, .ref q10, .ref q12, .int 0])), (q14, .inr (7, [.ref q15, .ref q16, .ref q17])), (q15, .inr (0, [.int 0, .ref z0, .int 0])), (q16, .inr (0, [.int 0, .ref z0, .int 0])), (q17, .inr (6, [.ref q7, .int 0, .int 0, .int 0])), (q18, .inr (4, [.ref q14, .int 0, .int 0, .int 0, .int 0, .int 0, .int 0])), (q19, .inr (1, [.ref q14, .ref q18, .ref q20, .int 0, .int 0, .ref q22, .ref q24, .int 0, .int 0, .int 0, .int 0])), (q20, .inl (a21, 61, .inl (fun _ => 0))), (q22, .inl (a23, 128, .inl (fun _ => 0))), (q24, .inl (a25, 128, .inl (fun _ => 0))), (q26, .inr (3, [.ref q14, .ref q18, .ref q27, .ref q29, .ref q31, .int 0, .int 0, .int 0, .int 0, .int 0])), (q27, .inl (a28, 28, .inl (fun _ => 0))), (q29, .inl (a30, 28, .inl (fun _ => 0))), (q31, .inl (a32, 28, .inl (fun _ => 0)))] H := hP
  have hD : va_D A [(h0, .inr (10, [.ref q1, .ref q4, .ref q5, .ref q6, .ref q7, .ref q14, .ref q19, .ref q26, .null, .int 0, .int 0, .int 0])), (q1, .inr (9, [.ref q2, .int 0])), (q2, .inl (a3, 1200, .inl (fun _ => 0))), (q4, .inr (5, [.ref q1, .int 0, .int 0, .int 0, .int 0, .int 0])), (q5, .inr (0, [.int 0, .ref z0, .int 0])), (q6, .inr (0, [.int 0, .ref z0, .int 0])), (q8, .inl (a9, 0, .inl (fun _ => 0))), (q10, .inl (a11, 1, .inl (fun _ => 0))), (q12, .inl (a13, 1, .inl (fun _ => 0))), (q7, .inr (2, [.int 5, .int (-1), .int 0, .ref q8, .int 0, .int 0, .ref q10, .ref q12, .int 0])), (q14, .inr (7, [.ref q15, .ref q16, .ref q17])), (q15, .inr (0, [.int 0, .ref z0, .int 0])), (q16, .inr (0, [.int 0, .ref z0, .int 0])), (q17, .inr (6, [.ref q7, .int 0, .int 0, .int 0])), (q18, .inr (4, [.ref q14, .int 0, .int 0, .int 0, .int 0, .int 0, .int 0])), (q19, .inr (1, [.ref q14, .ref q18, .ref q20, .int 0, .int 0, .ref q22, .ref q24, .int 0, .int 0, .int 0, .int 0])), (q20, .inl (a21, 61, .inl (fun _ => 0))), (q22, .inl (a23, 128, .inl (fun _ => 0))), (q24, .inl (a25, 128, .inl (fun _ => 0))), (q26, .inr (3, [.ref q14, .ref q18, .ref q27, .ref q29, .ref q31, .int 0, .int 0, .int 0, .int 0, .int 0])), (q27, .inl (a28, 28, .inl (fun _ => 0))), (q29, .inl (a30, 28, .inl (fun _ => 0))), (q31, .inl (a32, 28, .inl (fun _ => 0)))] := hD
  refine lv_aload_n hx hb dX9_init_130 rfl (lv_at hl 1 rfl) ?_
  refine va_new (ci := 8) (fs := [.null]) (C := RX7) (T := TX7) (N := 1) hx hb hts inX7 tyX7 tyX7_ok hown (hts _ k_419) (hts _ k_420) (hts _ k_97) hK hP hD hS hA rfl dfX7 (Nat.le_of_ble_eq_true rfl) (Nat.le_of_ble_eq_true rfl) dX9_init_131 (fun q33 H hP hD hS => ?_)
  refine W.widen (k := 23) (n := 1668) (by decide) (by decide) ?_
  have hP : va_P D vcl [(h0, .inr (10, [.ref q1, .ref q4, .ref q5, .ref q6, .ref q7, .ref q14, .ref q19, .ref q26, .null, .int 0, .int 0, .int 0])), (q1, .inr (9, [.ref q2, .int 0])), (q2, .inl (a3, 1200, .inl (fun _ => 0))), (q4, .inr (5, [.ref q1, .int 0, .int 0, .int 0, .int 0, .int 0])), (q5, .inr (0, [.int 0, .ref z0, .int 0])), (q6, .inr (0, [.int 0, .ref z0, .int 0])), (q8, .inl (a9, 0, .inl (fun _ => 0))), (q10, .inl (a11, 1, .inl (fun _ => 0))), (q12, .inl (a13, 1, .inl (fun _ => 0))), (q7, .inr (2, [.int 5, .int (-1), .int 0, .ref q8, .int 0, .int 0, .ref q10, .ref q12, .int 0])), (q14, .inr (7, [.ref q15, .ref q16, .ref q17])), (q15, .inr (0, [.int 0, .ref z0, .int 0])), (q16, .inr (0, [.int 0, .ref z0, .int 0])), (q17, .inr (6, [.ref q7, .int 0, .int 0, .int 0])), (q18, .inr (4, [.ref q14, .int 0, .int 0, .int 0, .int 0, .int 0, .int 0])), (q19, .inr (1, [.ref q14, .ref q18, .ref q20, .int 0, .int 0, .ref q22, .ref q24, .int 0, .int 0, .int 0, .int 0])), (q20, .inl (a21, 61, .inl (fun _ => 0))), (q22, .inl (a23, 128, .inl (fun _ => 0))), (q24, .inl (a25, 128, .inl (fun _ => 0))), (q26, .inr (3, [.ref q14, .ref q18, .ref q27, .ref q29, .ref q31, .int 0, .int 0, .int 0, .int 0, .int 0])), (q27, .inl (a28, 28, .inl (fun _ => 0))), (q29, .inl (a30, 28, .inl (fun _ => 0))), (q31, .inl (a32, 28, .inl (fun _ => 0))), (q33, .inr (8, [.null]))] H := hP
  have hD : va_D A [(h0, .inr (10, [.ref q1, .ref q4, .ref q5, .ref q6, .ref q7, .ref q14, .ref q19, .ref q26, .null, .int 0, .int 0, .int 0])), (q1, .inr (9, [.ref q2, .int 0])), (q2, .inl (a3, 1200, .inl (fun _ => 0))), (q4, .inr (5, [.ref q1, .int 0, .int 0, .int 0, .int 0, .int 0])), (q5, .inr (0, [.int 0, .ref z0, .int 0])), (q6, .inr (0, [.int 0, .ref z0, .int 0])), (q8, .inl (a9, 0, .inl (fun _ => 0))), (q10, .inl (a11, 1, .inl (fun _ => 0))), (q12, .inl (a13, 1, .inl (fun _ => 0))), (q7, .inr (2, [.int 5, .int (-1), .int 0, .ref q8, .int 0, .int 0, .ref q10, .ref q12, .int 0])), (q14, .inr (7, [.ref q15, .ref q16, .ref q17])), (q15, .inr (0, [.int 0, .ref z0, .int 0])), (q16, .inr (0, [.int 0, .ref z0, .int 0])), (q17, .inr (6, [.ref q7, .int 0, .int 0, .int 0])), (q18, .inr (4, [.ref q14, .int 0, .int 0, .int 0, .int 0, .int 0, .int 0])), (q19, .inr (1, [.ref q14, .ref q18, .ref q20, .int 0, .int 0, .ref q22, .ref q24, .int 0, .int 0, .int 0, .int 0])), (q20, .inl (a21, 61, .inl (fun _ => 0))), (q22, .inl (a23, 128, .inl (fun _ => 0))), (q24, .inl (a25, 128, .inl (fun _ => 0))), (q26, .inr (3, [.ref q14, .ref q18, .ref q27, .ref q29, .ref q31, .int 0, .int 0, .int 0, .int 0, .int 0])), (q27, .inl (a28, 28, .inl (fun _ => 0))), (q29, .inl (a30, 28, .inl (fun _ => 0))), (q31, .inl (a32, 28, .inl (fun _ => 0))), (q33, .inr (8, [.null]))] := hD
  refine lv_dup hx hb dX9_init_134 rfl ?_
  refine lv_aload_n hx hb dX9_init_135 rfl (lv_at hl 1 rfl) ?_
  refine va_get (D := D) (ci := 10) (v := .ref q14) (C := RX9) (T := TX9) (N := 12) hx hb hts inX9 hown hK hP 0 rfl rfl 5 (by decide) (hts _ k_434) (fun _ h9 => h9) rfl dX9_init_136 ?_
  refine q_bv (wc := [(q33, .inr (8, [.null]))]) (wr := [(h0, .inr (10, [.ref q1, .ref q4, .ref q5, .ref q6, .ref q7, .ref q14, .ref q19, .ref q26, .null, .int 0, .int 0, .int 0])), (q1, .inr (9, [.ref q2, .int 0])), (q2, .inl (a3, 1200, .inl (fun _ => 0))), (q4, .inr (5, [.ref q1, .int 0, .int 0, .int 0, .int 0, .int 0])), (q5, .inr (0, [.int 0, .ref z0, .int 0])), (q6, .inr (0, [.int 0, .ref z0, .int 0])), (q8, .inl (a9, 0, .inl (fun _ => 0))), (q10, .inl (a11, 1, .inl (fun _ => 0))), (q12, .inl (a13, 1, .inl (fun _ => 0))), (q7, .inr (2, [.int 5, .int (-1), .int 0, .ref q8, .int 0, .int 0, .ref q10, .ref q12, .int 0])), (q14, .inr (7, [.ref q15, .ref q16, .ref q17])), (q15, .inr (0, [.int 0, .ref z0, .int 0])), (q16, .inr (0, [.int 0, .ref z0, .int 0])), (q17, .inr (6, [.ref q7, .int 0, .int 0, .int 0])), (q18, .inr (4, [.ref q14, .int 0, .int 0, .int 0, .int 0, .int 0, .int 0])), (q19, .inr (1, [.ref q14, .ref q18, .ref q20, .int 0, .int 0, .ref q22, .ref q24, .int 0, .int 0, .int 0, .int 0])), (q20, .inl (a21, 61, .inl (fun _ => 0))), (q22, .inl (a23, 128, .inl (fun _ => 0))), (q24, .inl (a25, 128, .inl (fun _ => 0))), (q26, .inr (3, [.ref q14, .ref q18, .ref q27, .ref q29, .ref q31, .int 0, .int 0, .int 0, .int 0, .int 0])), (q27, .inl (a28, 28, .inl (fun _ => 0))), (q29, .inl (a30, 28, .inl (fun _ => 0))), (q31, .inl (a32, 28, .inl (fun _ => 0)))]) (tc := []) (tr := [(a3, .byte), (a9, .byte), (a11, .int), (a13, .int), (a21, .int), (a23, .int), (a25, .int), (a28, .int), (a30, .int), (a32, .int)]) (k := 23) (n := 1668) hK hP hD hS hA [23] [0, 1, 2, 3, 4, 5, 6, 7, 8, 9, 10, 11, 12, 13, 14, 15, 16, 17, 18, 19, 20, 21, 22] [] [0, 1, 2, 3, 4, 5, 6, 7, 8, 9] rfl rfl (by decide) (by decide) (by decide) rfl rfl (fun hPc hKc hDc hFc => (q_rI (As := [.ref q14]) (rest := [.ref q33, .ref h0]) hf (m_X7_init_1 _ D q33 q14 _) k_423 k_421 k_422 k_97 rfl (nA := 1) (by decide +kernel) ⟨Nat.le_of_ble_eq_true rfl, Nat.le_of_ble_eq_true rfl⟩ hPc hKc hDc (fun _ _ _ _ h => h) (fun _ _ _ => trivial) rfl hl.1 rfl (Nat.le_of_ble_eq_true rfl) dX9_init_139 ⟨Nat.le_of_ble_eq_true rfl, Nat.le_of_ble_eq_true rfl⟩)) (by decide) (by decide) (fun u H locs hw hK hP hD hS => ?_)
  obtain rfl := hw
  have hP : va_P D vcl [(h0, .inr (10, [.ref q1, .ref q4, .ref q5, .ref q6, .ref q7, .ref q14, .ref q19, .ref q26, .null, .int 0, .int 0, .int 0])), (q1, .inr (9, [.ref q2, .int 0])), (q2, .inl (a3, 1200, .inl (fun _ => 0))), (q4, .inr (5, [.ref q1, .int 0, .int 0, .int 0, .int 0, .int 0])), (q5, .inr (0, [.int 0, .ref z0, .int 0])), (q6, .inr (0, [.int 0, .ref z0, .int 0])), (q8, .inl (a9, 0, .inl (fun _ => 0))), (q10, .inl (a11, 1, .inl (fun _ => 0))), (q12, .inl (a13, 1, .inl (fun _ => 0))), (q7, .inr (2, [.int 5, .int (-1), .int 0, .ref q8, .int 0, .int 0, .ref q10, .ref q12, .int 0])), (q14, .inr (7, [.ref q15, .ref q16, .ref q17])), (q15, .inr (0, [.int 0, .ref z0, .int 0])), (q16, .inr (0, [.int 0, .ref z0, .int 0])), (q17, .inr (6, [.ref q7, .int 0, .int 0, .int 0])), (q18, .inr (4, [.ref q14, .int 0, .int 0, .int 0, .int 0, .int 0, .int 0])), (q19, .inr (1, [.ref q14, .ref q18, .ref q20, .int 0, .int 0, .ref q22, .ref q24, .int 0, .int 0, .int 0, .int 0])), (q20, .inl (a21, 61, .inl (fun _ => 0))), (q22, .inl (a23, 128, .inl (fun _ => 0))), (q24, .inl (a25, 128, .inl (fun _ => 0))), (q26, .inr (3, [.ref q14, .ref q18, .ref q27, .ref q29, .ref q31, .int 0, .int 0, .int 0, .int 0, .int 0])), (q27, .inl (a28, 28, .inl (fun _ => 0))), (q29, .inl (a30, 28, .inl (fun _ => 0))), (q31, .inl (a32, 28, .inl (fun _ => 0))), (q33, .inr (8, [.ref q14]))] H := hP
  have hD : va_D A [(h0, .inr (10, [.ref q1, .ref q4, .ref q5, .ref q6, .ref q7, .ref q14, .ref q19, .ref q26, .null, .int 0, .int 0, .int 0])), (q1, .inr (9, [.ref q2, .int 0])), (q2, .inl (a3, 1200, .inl (fun _ => 0))), (q4, .inr (5, [.ref q1, .int 0, .int 0, .int 0, .int 0, .int 0])), (q5, .inr (0, [.int 0, .ref z0, .int 0])), (q6, .inr (0, [.int 0, .ref z0, .int 0])), (q8, .inl (a9, 0, .inl (fun _ => 0))), (q10, .inl (a11, 1, .inl (fun _ => 0))), (q12, .inl (a13, 1, .inl (fun _ => 0))), (q7, .inr (2, [.int 5, .int (-1), .int 0, .ref q8, .int 0, .int 0, .ref q10, .ref q12, .int 0])), (q14, .inr (7, [.ref q15, .ref q16, .ref q17])), (q15, .inr (0, [.int 0, .ref z0, .int 0])), (q16, .inr (0, [.int 0, .ref z0, .int 0])), (q17, .inr (6, [.ref q7, .int 0, .int 0, .int 0])), (q18, .inr (4, [.ref q14, .int 0, .int 0, .int 0, .int 0, .int 0, .int 0])), (q19, .inr (1, [.ref q14, .ref q18, .ref q20, .int 0, .int 0, .ref q22, .ref q24, .int 0, .int 0, .int 0, .int 0])), (q20, .inl (a21, 61, .inl (fun _ => 0))), (q22, .inl (a23, 128, .inl (fun _ => 0))), (q24, .inl (a25, 128, .inl (fun _ => 0))), (q26, .inr (3, [.ref q14, .ref q18, .ref q27, .ref q29, .ref q31, .int 0, .int 0, .int 0, .int 0, .int 0])), (q27, .inl (a28, 28, .inl (fun _ => 0))), (q29, .inl (a30, 28, .inl (fun _ => 0))), (q31, .inl (a32, 28, .inl (fun _ => 0))), (q33, .inr (8, [.ref q14]))] := hD
  have hK : va_K D vcl [(a3, .byte), (a9, .byte), (a11, .int), (a13, .int), (a21, .int), (a23, .int), (a25, .int), (a28, .int), (a30, .int), (a32, .int)] s := hK
  refine va_putF (D := D) (ci := 10) (v := .ref q33) (ty := .object "ScriptDesk$SceneList") (C := RX9) (T := TX9) (N := 12) hx hb hts inX9 tyX9 tyX9_ok nmX9 hown hK hP hD hS 0 rfl rfl 8 (by decide) (hts _ k_437) (fun _ h9 => h9) rfl hin rfl (by decide +kernel) rfl rfl (Nat.le_of_ble_eq_true rfl) dX9_init_142 (fun H locs hP hD hS => ?_)
  have hP : va_P D vcl [(h0, .inr (10, [.ref q1, .ref q4, .ref q5, .ref q6, .ref q7, .ref q14, .ref q19, .ref q26, .ref q33, .int 0, .int 0, .int 0])), (q1, .inr (9, [.ref q2, .int 0])), (q2, .inl (a3, 1200, .inl (fun _ => 0))), (q4, .inr (5, [.ref q1, .int 0, .int 0, .int 0, .int 0, .int 0])), (q5, .inr (0, [.int 0, .ref z0, .int 0])), (q6, .inr (0, [.int 0, .ref z0, .int 0])), (q8, .inl (a9, 0, .inl (fun _ => 0))), (q10, .inl (a11, 1, .inl (fun _ => 0))), (q12, .inl (a13, 1, .inl (fun _ => 0))), (q7, .inr (2, [.int 5, .int (-1), .int 0, .ref q8, .int 0, .int 0, .ref q10, .ref q12, .int 0])), (q14, .inr (7, [.ref q15, .ref q16, .ref q17])), (q15, .inr (0, [.int 0, .ref z0, .int 0])), (q16, .inr (0, [.int 0, .ref z0, .int 0])), (q17, .inr (6, [.ref q7, .int 0, .int 0, .int 0])), (q18, .inr (4, [.ref q14, .int 0, .int 0, .int 0, .int 0, .int 0, .int 0])), (q19, .inr (1, [.ref q14, .ref q18, .ref q20, .int 0, .int 0, .ref q22, .ref q24, .int 0, .int 0, .int 0, .int 0])), (q20, .inl (a21, 61, .inl (fun _ => 0))), (q22, .inl (a23, 128, .inl (fun _ => 0))), (q24, .inl (a25, 128, .inl (fun _ => 0))), (q26, .inr (3, [.ref q14, .ref q18, .ref q27, .ref q29, .ref q31, .int 0, .int 0, .int 0, .int 0, .int 0])), (q27, .inl (a28, 28, .inl (fun _ => 0))), (q29, .inl (a30, 28, .inl (fun _ => 0))), (q31, .inl (a32, 28, .inl (fun _ => 0))), (q33, .inr (8, [.ref q14]))] H := hP
  have hD : va_D A [(h0, .inr (10, [.ref q1, .ref q4, .ref q5, .ref q6, .ref q7, .ref q14, .ref q19, .ref q26, .ref q33, .int 0, .int 0, .int 0])), (q1, .inr (9, [.ref q2, .int 0])), (q2, .inl (a3, 1200, .inl (fun _ => 0))), (q4, .inr (5, [.ref q1, .int 0, .int 0, .int 0, .int 0, .int 0])), (q5, .inr (0, [.int 0, .ref z0, .int 0])), (q6, .inr (0, [.int 0, .ref z0, .int 0])), (q8, .inl (a9, 0, .inl (fun _ => 0))), (q10, .inl (a11, 1, .inl (fun _ => 0))), (q12, .inl (a13, 1, .inl (fun _ => 0))), (q7, .inr (2, [.int 5, .int (-1), .int 0, .ref q8, .int 0, .int 0, .ref q10, .ref q12, .int 0])), (q14, .inr (7, [.ref q15, .ref q16, .ref q17])), (q15, .inr (0, [.int 0, .ref z0, .int 0])), (q16, .inr (0, [.int 0, .ref z0, .int 0])), (q17, .inr (6, [.ref q7, .int 0, .int 0, .int 0])), (q18, .inr (4, [.ref q14, .int 0, .int 0, .int 0, .int 0, .int 0, .int 0])), (q19, .inr (1, [.ref q14, .ref q18, .ref q20, .int 0, .int 0, .ref q22, .ref q24, .int 0, .int 0, .int 0, .int 0])), (q20, .inl (a21, 61, .inl (fun _ => 0))), (q22, .inl (a23, 128, .inl (fun _ => 0))), (q24, .inl (a25, 128, .inl (fun _ => 0))), (q26, .inr (3, [.ref q14, .ref q18, .ref q27, .ref q29, .ref q31, .int 0, .int 0, .int 0, .int 0, .int 0])), (q27, .inl (a28, 28, .inl (fun _ => 0))), (q29, .inl (a30, 28, .inl (fun _ => 0))), (q31, .inl (a32, 28, .inl (fun _ => 0))), (q33, .inr (8, [.ref q14]))] := hD
  refine lv_aload_n hx hb dX9_init_145 rfl (lv_at hl 1 rfl) ?_
  refine lv_bipush (v := 20) hx hb dX9_init_146 (by decide) ?_
  refine va_put (D := D) (ci := 10) (v := .int 20) (ty := .int) (C := RX9) (T := TX9) (N := 12) hx hb hts inX9 tyX9 tyX9_ok nmX9 hown hK hP hD hS 0 rfl rfl 9 (by decide) (hts _ k_438) (fun _ h9 => h9) rfl (by decide +kernel) rfl rfl (Nat.le_of_ble_eq_true rfl) dX9_init_148 (fun H locs hP hD hS => ?_)
  have hP : va_P D vcl [(h0, .inr (10, [.ref q1, .ref q4, .ref q5, .ref q6, .ref q7, .ref q14, .ref q19, .ref q26, .ref q33, .int 20, .int 0, .int 0])), (q1, .inr (9, [.ref q2, .int 0])), (q2, .inl (a3, 1200, .inl (fun _ => 0))), (q4, .inr (5, [.ref q1, .int 0, .int 0, .int 0, .int 0, .int 0])), (q5, .inr (0, [.int 0, .ref z0, .int 0])), (q6, .inr (0, [.int 0, .ref z0, .int 0])), (q8, .inl (a9, 0, .inl (fun _ => 0))), (q10, .inl (a11, 1, .inl (fun _ => 0))), (q12, .inl (a13, 1, .inl (fun _ => 0))), (q7, .inr (2, [.int 5, .int (-1), .int 0, .ref q8, .int 0, .int 0, .ref q10, .ref q12, .int 0])), (q14, .inr (7, [.ref q15, .ref q16, .ref q17])), (q15, .inr (0, [.int 0, .ref z0, .int 0])), (q16, .inr (0, [.int 0, .ref z0, .int 0])), (q17, .inr (6, [.ref q7, .int 0, .int 0, .int 0])), (q18, .inr (4, [.ref q14, .int 0, .int 0, .int 0, .int 0, .int 0, .int 0])), (q19, .inr (1, [.ref q14, .ref q18, .ref q20, .int 0, .int 0, .ref q22, .ref q24, .int 0, .int 0, .int 0, .int 0])), (q20, .inl (a21, 61, .inl (fun _ => 0))), (q22, .inl (a23, 128, .inl (fun _ => 0))), (q24, .inl (a25, 128, .inl (fun _ => 0))), (q26, .inr (3, [.ref q14, .ref q18, .ref q27, .ref q29, .ref q31, .int 0, .int 0, .int 0, .int 0, .int 0])), (q27, .inl (a28, 28, .inl (fun _ => 0))), (q29, .inl (a30, 28, .inl (fun _ => 0))), (q31, .inl (a32, 28, .inl (fun _ => 0))), (q33, .inr (8, [.ref q14]))] H := hP
  have hD : va_D A [(h0, .inr (10, [.ref q1, .ref q4, .ref q5, .ref q6, .ref q7, .ref q14, .ref q19, .ref q26, .ref q33, .int 20, .int 0, .int 0])), (q1, .inr (9, [.ref q2, .int 0])), (q2, .inl (a3, 1200, .inl (fun _ => 0))), (q4, .inr (5, [.ref q1, .int 0, .int 0, .int 0, .int 0, .int 0])), (q5, .inr (0, [.int 0, .ref z0, .int 0])), (q6, .inr (0, [.int 0, .ref z0, .int 0])), (q8, .inl (a9, 0, .inl (fun _ => 0))), (q10, .inl (a11, 1, .inl (fun _ => 0))), (q12, .inl (a13, 1, .inl (fun _ => 0))), (q7, .inr (2, [.int 5, .int (-1), .int 0, .ref q8, .int 0, .int 0, .ref q10, .ref q12, .int 0])), (q14, .inr (7, [.ref q15, .ref q16, .ref q17])), (q15, .inr (0, [.int 0, .ref z0, .int 0])), (q16, .inr (0, [.int 0, .ref z0, .int 0])), (q17, .inr (6, [.ref q7, .int 0, .int 0, .int 0])), (q18, .inr (4, [.ref q14, .int 0, .int 0, .int 0, .int 0, .int 0, .int 0])), (q19, .inr (1, [.ref q14, .ref q18, .ref q20, .int 0, .int 0, .ref q22, .ref q24, .int 0, .int 0, .int 0, .int 0])), (q20, .inl (a21, 61, .inl (fun _ => 0))), (q22, .inl (a23, 128, .inl (fun _ => 0))), (q24, .inl (a25, 128, .inl (fun _ => 0))), (q26, .inr (3, [.ref q14, .ref q18, .ref q27, .ref q29, .ref q31, .int 0, .int 0, .int 0, .int 0, .int 0])), (q27, .inl (a28, 28, .inl (fun _ => 0))), (q29, .inl (a30, 28, .inl (fun _ => 0))), (q31, .inl (a32, 28, .inl (fun _ => 0))), (q33, .inr (8, [.ref q14]))] := hD
  exact q_rv hf hr hlocks hK hP hD hS [0, 1, 2, 3, 4, 10, 11, 15, 16, 17, 18, 23] [0, 4, 5, 6] (w1 := [(h0, .inr (10, [.ref q1, .ref q4, .ref q5, .ref q6, .ref q7, .ref q14, .ref q19, .ref q26, .ref q33, .int 20, .int 0, .int 0])), (q1, .inr (9, [.ref q2, .int 0])), (q2, .inl (a3, 1200, .inl (fun _ => 0))), (q4, .inr (5, [.ref q1, .int 0, .int 0, .int 0, .int 0, .int 0])), (q5, .inr (0, [.int 0, .ref z0, .int 0])), (q14, .inr (7, [.ref q15, .ref q16, .ref q17])), (q15, .inr (0, [.int 0, .ref z0, .int 0])), (q19, .inr (1, [.ref q14, .ref q18, .ref q20, .int 0, .int 0, .ref q22, .ref q24, .int 0, .int 0, .int 0, .int 0])), (q20, .inl (a21, 61, .inl (fun _ => 0))), (q22, .inl (a23, 128, .inl (fun _ => 0))), (q24, .inl (a25, 128, .inl (fun _ => 0))), (q33, .inr (8, [.ref q14]))]) (t1 := [(a3, .byte), (a21, .int), (a23, .int), (a25, .int)]) rfl (by decide) rfl (Nat.le_of_ble_eq_true rfl) (Nat.le_of_ble_eq_true rfl) ⟨q1, q2, a3, q4, q5, q6, q7, q14, q15, q16, q17, q18, q19, q20, a21, q22, a23, q24, a25, q26, q33, rfl⟩ dX9_init_151
