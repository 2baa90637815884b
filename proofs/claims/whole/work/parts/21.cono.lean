/-! ===== the constructors, one by one ===== -/
theorem kb_72 : (Int8.ofInt (72)).toInt32 = (72 : Int32) := by decide
theorem ks_276 : (Int16.ofInt (276)).toInt32 = (276 : Int32) := by decide
theorem ks_160 : (Int16.ofInt (160)).toInt32 = (160 : Int32) := by decide
theorem ks_25344 : (Int16.ofInt (25344)).toInt32 = (25344 : Int32) := by decide
theorem ks_2304 : (Int16.ofInt (2304)).toInt32 = (2304 : Int32) := by decide
theorem kb_96 : (Int8.ofInt (96)).toInt32 = (96 : Int32) := by decide
theorem ks_169 : (Int16.ofInt (169)).toInt32 = (169 : Int32) := by decide
theorem kb_46 : (Int8.ofInt (46)).toInt32 = (46 : Int32) := by decide
theorem ob_im : Cond.instanceMethod objectInit ∈ fd_TB := fd_tbi 132 (by decide +kernel) rfl
theorem ob_cd : Cond.code objectInit ⟨#[0xb1]⟩ 1 none ∈ fd_TB := fd_tbi 133 (by decide +kernel) rfl
theorem ac_int : Cond.arrayClass .int ∈ fd_TB := fd_tbi 213 (by decide +kernel) rfl
theorem ac_byte : Cond.arrayClass .byte ∈ fd_TB := fd_tbi 736 (by decide +kernel) rfl
theorem ac_boolean : Cond.arrayClass .boolean ∈ fd_TB := fd_tbi 302 (by decide +kernel) rfl
theorem ac_char : Cond.arrayClass .char ∈ fd_TB := fd_tbi 154 (by decide +kernel) rfl
theorem ac_long : Cond.arrayClass .long ∈ fd_TB := fd_tbi 169 (by decide +kernel) rfl
theorem bl_X7 : ∀ j, j < 4 → defaultValue (tyX7 j) = vp_V [.null, .int 0, .int 0, .int 0] j := by decide +kernel
theorem ob_X7 : Cond.methodLink RX7 3 objectInit ∈ fd_TB := fd_tbi 139 (by decide +kernel) rfl
theorem fo_X7_11 : fd_Fo RX7 11 7 0 := ⟨RX7, TX7, 4, rfl, by decide, inX7, fd_tbi 140 (by decide +kernel) rfl⟩
theorem fq_X7_0 : fd_Fq RX7 7 0 (.array .char) := ⟨RX7, TX7, 4, tyX7, rfl, tyX7_ok, nmX7, rfl, rfl⟩
theorem bl_X4 : ∀ j, j < 2 → defaultValue (tyX4 j) = vp_V [.null, .int 0] j := by decide +kernel
theorem ob_X4 : Cond.methodLink RX4 3 objectInit ∈ fd_TB := fd_tbi 160 (by decide +kernel) rfl
theorem fo_X4_11 : fd_Fo RX4 11 4 0 := ⟨RX4, TX4, 2, rfl, by decide, inX4, fd_tbi 161 (by decide +kernel) rfl⟩
theorem fq_X4_0 : fd_Fq RX4 4 0 (.array .long) := ⟨RX4, TX4, 2, tyX4, rfl, tyX4_ok, nmX4, rfl, rfl⟩
theorem bl_X3 : ∀ j, j < 10 → defaultValue (tyX3 j) = vp_V [.int 0, .int 0, .null, .null, .null, .null, .null, .null, .int 0, .int 0] j := by decide +kernel
theorem ob_X3 : Cond.methodLink RX3 3 objectInit ∈ fd_TB := fd_tbi 175 (by decide +kernel) rfl
theorem fo_X3_9 : fd_Fo RX3 9 3 2 := ⟨RX3, TX3, 10, rfl, by decide, inX3, fd_tbi 184 (by decide +kernel) rfl⟩
theorem fq_X3_2 : fd_Fq RX3 3 2 (.array .int) := ⟨RX3, TX3, 10, tyX3, rfl, tyX3_ok, nmX3, rfl, rfl⟩
theorem fo_X3_15 : fd_Fo RX3 15 3 3 := ⟨RX3, TX3, 10, rfl, by decide, inX3, fd_tbi 185 (by decide +kernel) rfl⟩
theorem fq_X3_3 : fd_Fq RX3 3 3 (.array .int) := ⟨RX3, TX3, 10, tyX3, rfl, tyX3_ok, nmX3, rfl, rfl⟩
theorem fo_X3_18 : fd_Fo RX3 18 3 4 := ⟨RX3, TX3, 10, rfl, by decide, inX3, fd_tbi 186 (by decide +kernel) rfl⟩
theorem fq_X3_4 : fd_Fq RX3 3 4 (.array .int) := ⟨RX3, TX3, 10, tyX3, rfl, tyX3_ok, nmX3, rfl, rfl⟩
theorem fo_X3_21 : fd_Fo RX3 21 3 5 := ⟨RX3, TX3, 10, rfl, by decide, inX3, fd_tbi 187 (by decide +kernel) rfl⟩
theorem fq_X3_5 : fd_Fq RX3 3 5 (.array .int) := ⟨RX3, TX3, 10, tyX3, rfl, tyX3_ok, nmX3, rfl, rfl⟩
theorem cl_X3_24 : Cond.classLink RX3 24 ("[" ++ (FieldType.array .int).toString) ∈ fd_TB := fd_tbi 176 (by decide +kernel) rfl
theorem fo_X3_26 : fd_Fo RX3 26 3 6 := ⟨RX3, TX3, 10, rfl, by decide, inX3, fd_tbi 188 (by decide +kernel) rfl⟩
theorem fq_X3_6 : fd_Fq RX3 3 6 (.array (.array .int)) := ⟨RX3, TX3, 10, tyX3, rfl, tyX3_ok, nmX3, rfl, rfl⟩
theorem fo_X3_29 : fd_Fo RX3 29 3 7 := ⟨RX3, TX3, 10, rfl, by decide, inX3, fd_tbi 189 (by decide +kernel) rfl⟩
theorem fq_X3_7 : fd_Fq RX3 3 7 (.array (.array .int)) := ⟨RX3, TX3, 10, tyX3, rfl, tyX3_ok, nmX3, rfl, rfl⟩
theorem bl_X8 : ∀ j, j < 4 → defaultValue (tyX8 j) = vp_V [.int 0, .int 0, .int 0, .int 0] j := by decide +kernel
theorem ob_X8 : Cond.methodLink RX8 3 objectInit ∈ fd_TB := fd_tbi 219 (by decide +kernel) rfl
theorem fo_X8_9 : fd_Fo RX8 9 8 0 := ⟨RX8, TX8, 4, rfl, by decide, inX8, fd_tbi 220 (by decide +kernel) rfl⟩
theorem fq_X8_0 : fd_Fq RX8 8 0 .int := ⟨RX8, TX8, 4, tyX8, rfl, tyX8_ok, nmX8, rfl, rfl⟩
theorem fo_X8_15 : fd_Fo RX8 15 8 1 := ⟨RX8, TX8, 4, rfl, by decide, inX8, fd_tbi 221 (by decide +kernel) rfl⟩
theorem fq_X8_1 : fd_Fq RX8 8 1 .int := ⟨RX8, TX8, 4, tyX8, rfl, tyX8_ok, nmX8, rfl, rfl⟩
theorem fo_X8_18 : fd_Fo RX8 18 8 2 := ⟨RX8, TX8, 4, rfl, by decide, inX8, fd_tbi 222 (by decide +kernel) rfl⟩
theorem fq_X8_2 : fd_Fq RX8 8 2 .int := ⟨RX8, TX8, 4, tyX8, rfl, tyX8_ok, nmX8, rfl, rfl⟩
theorem fo_X8_21 : fd_Fo RX8 21 8 3 := ⟨RX8, TX8, 4, rfl, by decide, inX8, fd_tbi 223 (by decide +kernel) rfl⟩
theorem fq_X8_3 : fd_Fq RX8 8 3 .int := ⟨RX8, TX8, 4, tyX8, rfl, tyX8_ok, nmX8, rfl, rfl⟩
theorem bl_X1 : ∀ j, j < 5 → defaultValue (tyX1 j) = vp_V [.int 0, .int 0, .null, .null, .null] j := by decide +kernel
theorem ob_X1 : Cond.methodLink RX1 3 objectInit ∈ fd_TB := fd_tbi 238 (by decide +kernel) rfl
theorem fo_X1_9 : fd_Fo RX1 9 1 2 := ⟨RX1, TX1, 5, rfl, by decide, inX1, fd_tbi 244 (by decide +kernel) rfl⟩
theorem fq_X1_2 : fd_Fq RX1 1 2 (.array .int) := ⟨RX1, TX1, 5, tyX1, rfl, tyX1_ok, nmX1, rfl, rfl⟩
theorem fo_X1_15 : fd_Fo RX1 15 1 3 := ⟨RX1, TX1, 5, rfl, by decide, inX1, fd_tbi 247 (by decide +kernel) rfl⟩
theorem fq_X1_3 : fd_Fq RX1 1 3 (.array .int) := ⟨RX1, TX1, 5, tyX1, rfl, tyX1_ok, nmX1, rfl, rfl⟩
theorem fo_X1_18 : fd_Fo RX1 18 1 4 := ⟨RX1, TX1, 5, rfl, by decide, inX1, fd_tbi 249 (by decide +kernel) rfl⟩
theorem fq_X1_4 : fd_Fq RX1 1 4 (.array .int) := ⟨RX1, TX1, 5, tyX1, rfl, tyX1_ok, nmX1, rfl, rfl⟩
theorem bl_X2 : ∀ j, j < 11 → defaultValue (tyX2 j) = vp_V [.null, .int 0, .null, .int 0, .null, .int 0, .int 0, .null, .int 0, .null, .null] j := by decide +kernel
theorem ob_X2 : Cond.methodLink RX2 3 objectInit ∈ fd_TB := fd_tbi 267 (by decide +kernel) rfl
theorem fo_X2_11 : fd_Fo RX2 11 2 0 := ⟨RX2, TX2, 11, rfl, by decide, inX2, fd_tbi 268 (by decide +kernel) rfl⟩
theorem fq_X2_0 : fd_Fq RX2 2 0 (.array .int) := ⟨RX2, TX2, 11, tyX2, rfl, tyX2_ok, nmX2, rfl, rfl⟩
theorem fo_X2_15 : fd_Fo RX2 15 2 2 := ⟨RX2, TX2, 11, rfl, by decide, inX2, fd_tbi 270 (by decide +kernel) rfl⟩
theorem fq_X2_2 : fd_Fq RX2 2 2 (.array .int) := ⟨RX2, TX2, 11, tyX2, rfl, tyX2_ok, nmX2, rfl, rfl⟩
theorem fo_X2_18 : fd_Fo RX2 18 2 4 := ⟨RX2, TX2, 11, rfl, by decide, inX2, fd_tbi 272 (by decide +kernel) rfl⟩
theorem fq_X2_4 : fd_Fq RX2 2 4 (.array .int) := ⟨RX2, TX2, 11, tyX2, rfl, tyX2_ok, nmX2, rfl, rfl⟩
theorem fo_X2_21 : fd_Fo RX2 21 2 7 := ⟨RX2, TX2, 11, rfl, by decide, inX2, fd_tbi 275 (by decide +kernel) rfl⟩
theorem fq_X2_7 : fd_Fq RX2 2 7 (.array .boolean) := ⟨RX2, TX2, 11, tyX2, rfl, tyX2_ok, nmX2, rfl, rfl⟩
theorem fo_X2_25 : fd_Fo RX2 25 2 9 := ⟨RX2, TX2, 11, rfl, by decide, inX2, fd_tbi 277 (by decide +kernel) rfl⟩
theorem fq_X2_9 : fd_Fq RX2 2 9 (.array .int) := ⟨RX2, TX2, 11, tyX2, rfl, tyX2_ok, nmX2, rfl, rfl⟩
theorem fo_X2_28 : fd_Fo RX2 28 2 10 := ⟨RX2, TX2, 11, rfl, by decide, inX2, fd_tbi 278 (by decide +kernel) rfl⟩
theorem fq_X2_10 : fd_Fq RX2 2 10 (.array .int) := ⟨RX2, TX2, 11, tyX2, rfl, tyX2_ok, nmX2, rfl, rfl⟩
theorem bl_X10 : ∀ j, j < 10 → defaultValue (tyX10 j) = vp_V [.int 0, .int 0, .int 0, .int 0, .int 0, .int 0, .int 0, .int 0, .null, .null] j := by decide +kernel
theorem ob_X10 : Cond.methodLink RX10 3 objectInit ∈ fd_TB := fd_tbi 308 (by decide +kernel) rfl
theorem fo_X10_9 : fd_Fo RX10 9 10 4 := ⟨RX10, TX10, 10, rfl, by decide, inX10, fd_tbi 318 (by decide +kernel) rfl⟩
theorem fq_X10_4 : fd_Fq RX10 10 4 .int := ⟨RX10, TX10, 10, tyX10, rfl, tyX10_ok, nmX10, rfl, rfl⟩
theorem fo_X10_15 : fd_Fo RX10 15 10 8 := ⟨RX10, TX10, 10, rfl, by decide, inX10, fd_tbi 326 (by decide +kernel) rfl⟩
theorem fq_X10_8 : fd_Fq RX10 10 8 (.array .int) := ⟨RX10, TX10, 10, tyX10, rfl, tyX10_ok, nmX10, rfl, rfl⟩
theorem fo_X10_19 : fd_Fo RX10 19 10 9 := ⟨RX10, TX10, 10, rfl, by decide, inX10, fd_tbi 328 (by decide +kernel) rfl⟩
theorem fq_X10_9 : fd_Fq RX10 10 9 (.array .int) := ⟨RX10, TX10, 10, tyX10, rfl, tyX10_ok, nmX10, rfl, rfl⟩
theorem bl_X5 : ∀ j, j < 5 → defaultValue (tyX5 j) = vp_V [.null, .int 0, .int 0, .null, .null] j := by decide +kernel
theorem ob_X5 : Cond.methodLink RX5 3 objectInit ∈ fd_TB := fd_tbi 356 (by decide +kernel) rfl
theorem cl_X5_11 : Cond.classLink RX5 11 RX10 ∈ fd_TB := fd_tbi 357 (by decide +kernel) rfl
theorem fo_X5_13 : fd_Fo RX5 13 5 0 := ⟨RX5, TX5, 5, rfl, by decide, inX5, fd_tbi 360 (by decide +kernel) rfl⟩
theorem fq_X5_0 : fd_Fq RX5 5 0 (.array (.object "OneFiddle$Story")) := ⟨RX5, TX5, 5, tyX5, rfl, tyX5_ok, nmX5, rfl, rfl⟩
theorem fo_X5_17 : fd_Fo RX5 17 5 3 := ⟨RX5, TX5, 5, rfl, by decide, inX5, fd_tbi 364 (by decide +kernel) rfl⟩
theorem fq_X5_3 : fd_Fq RX5 5 3 (.array (.object "OneFiddle$Story")) := ⟨RX5, TX5, 5, tyX5, rfl, tyX5_ok, nmX5, rfl, rfl⟩
theorem fo_X5_20 : fd_Fo RX5 20 5 4 := ⟨RX5, TX5, 5, rfl, by decide, inX5, fd_tbi 365 (by decide +kernel) rfl⟩
theorem fq_X5_4 : fd_Fq RX5 5 4 (.array .boolean) := ⟨RX5, TX5, 5, tyX5, rfl, tyX5_ok, nmX5, rfl, rfl⟩
theorem cn_X5_11 : Cond.classLink RX5 11 RX10 ∈ fd_TB := fd_tbi 357 (by decide +kernel) rfl
theorem is_X10 : Cond.instantiable RX10 10 ∈ fd_TB := fd_tbi 304 (by decide +kernel) rfl
theorem ii_X10 : Cond.initialized RX10 ∈ fd_TB := fd_tbi 110 (by decide +kernel) rfl
theorem mi_X5_24 : Cond.methodLink RX5 24 yX10_init ∈ fd_TB ∨ ∃ host, Cond.methodLinkNest RX5 24 yX10_init host ∈ fd_NW := Or.inr ⟨RX11, fd_nwi 257 (by decide +kernel) rfl⟩
theorem yi_X10 : fd_Yi yX10_init cX10_init 1 := ⟨fd_tbi 306 (by decide +kernel) rfl, fd_tbi 110 (by decide +kernel) rfl, fd_tbi 307 (by decide +kernel) rfl, by decide, rfl, by decide, by decide, by decide +kernel⟩
theorem bl_X0 : ∀ j, j < 2 → defaultValue (tyX0 j) = vp_V [.null, .null] j := by decide +kernel
theorem ob_X0 : Cond.methodLink RX0 3 objectInit ∈ fd_TB := fd_tbi 382 (by decide +kernel) rfl
theorem fo_X0_11 : fd_Fo RX0 11 0 0 := ⟨RX0, TX0, 2, rfl, by decide, inX0, fd_tbi 383 (by decide +kernel) rfl⟩
theorem fq_X0_0 : fd_Fq RX0 0 0 (.array .int) := ⟨RX0, TX0, 2, tyX0, rfl, tyX0_ok, nmX0, rfl, rfl⟩
theorem fo_X0_15 : fd_Fo RX0 15 0 1 := ⟨RX0, TX0, 2, rfl, by decide, inX0, fd_tbi 384 (by decide +kernel) rfl⟩
theorem fq_X0_1 : fd_Fq RX0 0 1 (.array .int) := ⟨RX0, TX0, 2, tyX0, rfl, tyX0_ok, nmX0, rfl, rfl⟩
theorem bl_X6 : ∀ j, j < 13 → defaultValue (tyX6 j) = vp_V [.int 0, .int 0, .int 0, .int 0, .null, .null, .null, .null, .null, .null, .null, .null, .int 0] j := by decide +kernel
theorem ob_X6 : Cond.methodLink RX6 3 objectInit ∈ fd_TB := fd_tbi 395 (by decide +kernel) rfl
theorem cl_X6_11 : Cond.classLink RX6 11 ("[" ++ (FieldType.array .int).toString) ∈ fd_TB := fd_tbi 396 (by decide +kernel) rfl
theorem fo_X6_13 : fd_Fo RX6 13 6 4 := ⟨RX6, TX6, 13, rfl, by decide, inX6, fd_tbi 401 (by decide +kernel) rfl⟩
theorem fq_X6_4 : fd_Fq RX6 6 4 (.array (.array .int)) := ⟨RX6, TX6, 13, tyX6, rfl, tyX6_ok, nmX6, rfl, rfl⟩
theorem fo_X6_16 : fd_Fo RX6 16 6 5 := ⟨RX6, TX6, 13, rfl, by decide, inX6, fd_tbi 402 (by decide +kernel) rfl⟩
theorem fq_X6_5 : fd_Fq RX6 6 5 (.array (.array .int)) := ⟨RX6, TX6, 13, tyX6, rfl, tyX6_ok, nmX6, rfl, rfl⟩
theorem fo_X6_19 : fd_Fo RX6 19 6 6 := ⟨RX6, TX6, 13, rfl, by decide, inX6, fd_tbi 403 (by decide +kernel) rfl⟩
theorem fq_X6_6 : fd_Fq RX6 6 6 (.array (.array .int)) := ⟨RX6, TX6, 13, tyX6, rfl, tyX6_ok, nmX6, rfl, rfl⟩
theorem fo_X6_22 : fd_Fo RX6 22 6 7 := ⟨RX6, TX6, 13, rfl, by decide, inX6, fd_tbi 404 (by decide +kernel) rfl⟩
theorem fq_X6_7 : fd_Fq RX6 6 7 (.array (.array .int)) := ⟨RX6, TX6, 13, tyX6, rfl, tyX6_ok, nmX6, rfl, rfl⟩
theorem fo_X6_25 : fd_Fo RX6 25 6 8 := ⟨RX6, TX6, 13, rfl, by decide, inX6, fd_tbi 405 (by decide +kernel) rfl⟩
theorem fq_X6_8 : fd_Fq RX6 6 8 (.array .int) := ⟨RX6, TX6, 13, tyX6, rfl, tyX6_ok, nmX6, rfl, rfl⟩
theorem fo_X6_29 : fd_Fo RX6 29 6 9 := ⟨RX6, TX6, 13, rfl, by decide, inX6, fd_tbi 406 (by decide +kernel) rfl⟩
theorem fq_X6_9 : fd_Fq RX6 6 9 (.array .boolean) := ⟨RX6, TX6, 13, tyX6, rfl, tyX6_ok, nmX6, rfl, rfl⟩
theorem fo_X6_33 : fd_Fo RX6 33 6 10 := ⟨RX6, TX6, 13, rfl, by decide, inX6, fd_tbi 407 (by decide +kernel) rfl⟩
theorem fq_X6_10 : fd_Fq RX6 6 10 (.array .int) := ⟨RX6, TX6, 13, tyX6, rfl, tyX6_ok, nmX6, rfl, rfl⟩
theorem fo_X6_36 : fd_Fo RX6 36 6 11 := ⟨RX6, TX6, 13, rfl, by decide, inX6, fd_tbi 408 (by decide +kernel) rfl⟩
theorem fq_X6_11 : fd_Fq RX6 6 11 (.array .int) := ⟨RX6, TX6, 13, tyX6, rfl, tyX6_ok, nmX6, rfl, rfl⟩
theorem bl_X9 : ∀ j, j < 9 → defaultValue (tyX9 j) = vp_V [.int 0, .null, .null, .null, .null, .null, .null, .null, .null] j := by decide +kernel
theorem ob_X9 : Cond.methodLink RX9 3 objectInit ∈ fd_TB := fd_tbi 442 (by decide +kernel) rfl
theorem cl_X9_9 : Cond.classLink RX9 9 ("[" ++ (FieldType.array .int).toString) ∈ fd_TB := fd_tbi 443 (by decide +kernel) rfl
theorem fo_X9_11 : fd_Fo RX9 11 9 1 := ⟨RX9, TX9, 9, rfl, by decide, inX9, fd_tbi 446 (by decide +kernel) rfl⟩
theorem fq_X9_1 : fd_Fq RX9 9 1 (.array (.array .int)) := ⟨RX9, TX9, 9, tyX9, rfl, tyX9_ok, nmX9, rfl, rfl⟩
theorem fo_X9_16 : fd_Fo RX9 16 9 2 := ⟨RX9, TX9, 9, rfl, by decide, inX9, fd_tbi 447 (by decide +kernel) rfl⟩
theorem fq_X9_2 : fd_Fq RX9 9 2 (.array .int) := ⟨RX9, TX9, 9, tyX9, rfl, tyX9_ok, nmX9, rfl, rfl⟩
theorem fo_X9_20 : fd_Fo RX9 20 9 3 := ⟨RX9, TX9, 9, rfl, by decide, inX9, fd_tbi 448 (by decide +kernel) rfl⟩
theorem fq_X9_3 : fd_Fq RX9 9 3 (.array .int) := ⟨RX9, TX9, 9, tyX9, rfl, tyX9_ok, nmX9, rfl, rfl⟩
theorem fo_X9_23 : fd_Fo RX9 23 9 4 := ⟨RX9, TX9, 9, rfl, by decide, inX9, fd_tbi 449 (by decide +kernel) rfl⟩
theorem fq_X9_4 : fd_Fq RX9 9 4 (.array .int) := ⟨RX9, TX9, 9, tyX9, rfl, tyX9_ok, nmX9, rfl, rfl⟩
theorem fo_X9_26 : fd_Fo RX9 26 9 5 := ⟨RX9, TX9, 9, rfl, by decide, inX9, fd_tbi 450 (by decide +kernel) rfl⟩
theorem fq_X9_5 : fd_Fq RX9 9 5 (.array .int) := ⟨RX9, TX9, 9, tyX9, rfl, tyX9_ok, nmX9, rfl, rfl⟩
theorem fo_X9_29 : fd_Fo RX9 29 9 6 := ⟨RX9, TX9, 9, rfl, by decide, inX9, fd_tbi 451 (by decide +kernel) rfl⟩
theorem fq_X9_6 : fd_Fq RX9 9 6 (.array .boolean) := ⟨RX9, TX9, 9, tyX9, rfl, tyX9_ok, nmX9, rfl, rfl⟩
theorem fo_X9_33 : fd_Fo RX9 33 9 7 := ⟨RX9, TX9, 9, rfl, by decide, inX9, fd_tbi 452 (by decide +kernel) rfl⟩
theorem fq_X9_7 : fd_Fq RX9 9 7 (.array .int) := ⟨RX9, TX9, 9, tyX9, rfl, tyX9_ok, nmX9, rfl, rfl⟩
theorem fo_X9_36 : fd_Fo RX9 36 9 8 := ⟨RX9, TX9, 9, rfl, by decide, inX9, fd_tbi 453 (by decide +kernel) rfl⟩
theorem fq_X9_8 : fd_Fq RX9 9 8 (.array (.array .int)) := ⟨RX9, TX9, 9, tyX9, rfl, tyX9_ok, nmX9, rfl, rfl⟩
theorem bl_X11 : ∀ j, j < 13 → defaultValue (tyX11 j) = vp_V [.null, .null, .null, .null, .null, .null, .null, .null, .null, .null, .null, .null, .int 0] j := by decide +kernel
theorem ob_X11 : Cond.methodLink RX11 1 objectInit ∈ fd_TB := fd_tbi 131 (by decide +kernel) rfl
theorem cn_X11_7 : Cond.classLink RX11 7 RX7 ∈ fd_TB := fd_tbi 134 (by decide +kernel) rfl
theorem is_X7 : Cond.instantiable RX7 4 ∈ fd_TB := fd_tbi 135 (by decide +kernel) rfl
theorem ii_X7 : Cond.initialized RX7 ∈ fd_TB := fd_tbi 104 (by decide +kernel) rfl
theorem mi_X11_9 : Cond.methodLink RX11 9 yX7_init ∈ fd_TB ∨ ∃ host, Cond.methodLinkNest RX11 9 yX7_init host ∈ fd_NW := Or.inr ⟨RX11, fd_nwi 34 (by decide +kernel) rfl⟩
theorem yi_X7 : fd_Yi yX7_init cX7_init 1 := ⟨fd_tbi 137 (by decide +kernel) rfl, fd_tbi 104 (by decide +kernel) rfl, fd_tbi 138 (by decide +kernel) rfl, by decide, rfl, by decide, by decide, by decide +kernel⟩
theorem fo_X11_10 : fd_Fo RX11 10 11 0 := ⟨RX11, TX11, 13, rfl, by decide, inX11, fd_tbi 473 (by decide +kernel) rfl⟩
theorem fq_X11_0 : fd_Fq RX11 11 0 (.object "OneFiddle$Script") := ⟨RX11, TX11, 13, tyX11, rfl, tyX11_ok, nmX11, rfl, rfl⟩
theorem cn_X11_16 : Cond.classLink RX11 16 RX4 ∈ fd_TB := fd_tbi 155 (by decide +kernel) rfl
theorem is_X4 : Cond.instantiable RX4 2 ∈ fd_TB := fd_tbi 156 (by decide +kernel) rfl
theorem ii_X4 : Cond.initialized RX4 ∈ fd_TB := fd_tbi 105 (by decide +kernel) rfl
theorem mi_X11_18 : Cond.methodLink RX11 18 yX4_init ∈ fd_TB ∨ ∃ host, Cond.methodLinkNest RX11 18 yX4_init host ∈ fd_NW := Or.inr ⟨RX11, fd_nwi 55 (by decide +kernel) rfl⟩
theorem yi_X4 : fd_Yi yX4_init cX4_init 1 := ⟨fd_tbi 158 (by decide +kernel) rfl, fd_tbi 105 (by decide +kernel) rfl, fd_tbi 159 (by decide +kernel) rfl, by decide, rfl, by decide, by decide, by decide +kernel⟩
theorem fo_X11_19 : fd_Fo RX11 19 11 1 := ⟨RX11, TX11, 13, rfl, by decide, inX11, fd_tbi 474 (by decide +kernel) rfl⟩
theorem fq_X11_1 : fd_Fq RX11 11 1 (.object "OneFiddle$Numbers") := ⟨RX11, TX11, 13, tyX11, rfl, tyX11_ok, nmX11, rfl, rfl⟩
theorem cn_X11_23 : Cond.classLink RX11 23 RX3 ∈ fd_TB := fd_tbi 170 (by decide +kernel) rfl
theorem is_X3 : Cond.instantiable RX3 10 ∈ fd_TB := fd_tbi 171 (by decide +kernel) rfl
theorem ii_X3 : Cond.initialized RX3 ∈ fd_TB := fd_tbi 106 (by decide +kernel) rfl
theorem mi_X11_25 : Cond.methodLink RX11 25 yX3_init ∈ fd_TB ∨ ∃ host, Cond.methodLinkNest RX11 25 yX3_init host ∈ fd_NW := Or.inr ⟨RX11, fd_nwi 70 (by decide +kernel) rfl⟩
theorem yi_X3 : fd_Yi yX3_init cX3_init 1 := ⟨fd_tbi 173 (by decide +kernel) rfl, fd_tbi 106 (by decide +kernel) rfl, fd_tbi 174 (by decide +kernel) rfl, by decide, rfl, by decide, by decide, by decide +kernel⟩
theorem fo_X11_26 : fd_Fo RX11 26 11 2 := ⟨RX11, TX11, 13, rfl, by decide, inX11, fd_tbi 475 (by decide +kernel) rfl⟩
theorem fq_X11_2 : fd_Fq RX11 11 2 (.object "OneFiddle$Land") := ⟨RX11, TX11, 13, tyX11, rfl, tyX11_ok, nmX11, rfl, rfl⟩
theorem cn_X11_30 : Cond.classLink RX11 30 RX8 ∈ fd_TB := fd_tbi 214 (by decide +kernel) rfl
theorem is_X8 : Cond.instantiable RX8 4 ∈ fd_TB := fd_tbi 215 (by decide +kernel) rfl
theorem ii_X8 : Cond.initialized RX8 ∈ fd_TB := fd_tbi 107 (by decide +kernel) rfl
theorem mi_X11_32 : Cond.methodLink RX11 32 yX8_init ∈ fd_TB ∨ ∃ host, Cond.methodLinkNest RX11 32 yX8_init host ∈ fd_NW := Or.inr ⟨RX11, fd_nwi 114 (by decide +kernel) rfl⟩
theorem yi_X8 : fd_Yi yX8_init cX8_init 1 := ⟨fd_tbi 217 (by decide +kernel) rfl, fd_tbi 107 (by decide +kernel) rfl, fd_tbi 218 (by decide +kernel) rfl, by decide, rfl, by decide, by decide, by decide +kernel⟩
theorem fo_X11_33 : fd_Fo RX11 33 11 3 := ⟨RX11, TX11, 13, rfl, by decide, inX11, fd_tbi 476 (by decide +kernel) rfl⟩
theorem fq_X11_3 : fd_Fq RX11 11 3 (.object "OneFiddle$Sky") := ⟨RX11, TX11, 13, tyX11, rfl, tyX11_ok, nmX11, rfl, rfl⟩
theorem cn_X11_37 : Cond.classLink RX11 37 RX1 ∈ fd_TB := fd_tbi 233 (by decide +kernel) rfl
theorem is_X1 : Cond.instantiable RX1 5 ∈ fd_TB := fd_tbi 234 (by decide +kernel) rfl
theorem ii_X1 : Cond.initialized RX1 ∈ fd_TB := fd_tbi 108 (by decide +kernel) rfl
theorem mi_X11_39 : Cond.methodLink RX11 39 yX1_init ∈ fd_TB ∨ ∃ host, Cond.methodLinkNest RX11 39 yX1_init host ∈ fd_NW := Or.inr ⟨RX11, fd_nwi 133 (by decide +kernel) rfl⟩
theorem yi_X1 : fd_Yi yX1_init cX1_init 1 := ⟨fd_tbi 236 (by decide +kernel) rfl, fd_tbi 108 (by decide +kernel) rfl, fd_tbi 237 (by decide +kernel) rfl, by decide, rfl, by decide, by decide, by decide +kernel⟩
theorem fo_X11_40 : fd_Fo RX11 40 11 4 := ⟨RX11, TX11, 13, rfl, by decide, inX11, fd_tbi 477 (by decide +kernel) rfl⟩
theorem fq_X11_4 : fd_Fq RX11 11 4 (.object "OneFiddle$Fairs") := ⟨RX11, TX11, 13, tyX11, rfl, tyX11_ok, nmX11, rfl, rfl⟩
theorem cn_X11_44 : Cond.classLink RX11 44 RX2 ∈ fd_TB := fd_tbi 262 (by decide +kernel) rfl
theorem is_X2 : Cond.instantiable RX2 11 ∈ fd_TB := fd_tbi 263 (by decide +kernel) rfl
theorem ii_X2 : Cond.initialized RX2 ∈ fd_TB := fd_tbi 109 (by decide +kernel) rfl
theorem mi_X11_46 : Cond.methodLink RX11 46 yX2_init ∈ fd_TB ∨ ∃ host, Cond.methodLinkNest RX11 46 yX2_init host ∈ fd_NW := Or.inr ⟨RX11, fd_nwi 162 (by decide +kernel) rfl⟩
theorem yi_X2 : fd_Yi yX2_init cX2_init 1 := ⟨fd_tbi 265 (by decide +kernel) rfl, fd_tbi 109 (by decide +kernel) rfl, fd_tbi 266 (by decide +kernel) rfl, by decide, rfl, by decide, by decide, by decide +kernel⟩
theorem fo_X11_47 : fd_Fo RX11 47 11 5 := ⟨RX11, TX11, 13, rfl, by decide, inX11, fd_tbi 478 (by decide +kernel) rfl⟩
theorem fq_X11_5 : fd_Fq RX11 11 5 (.object "OneFiddle$Fatigue") := ⟨RX11, TX11, 13, tyX11, rfl, tyX11_ok, nmX11, rfl, rfl⟩
theorem cn_X11_51 : Cond.classLink RX11 51 RX10 ∈ fd_TB := fd_tbi 303 (by decide +kernel) rfl
theorem mi_X11_53 : Cond.methodLink RX11 53 yX10_init ∈ fd_TB ∨ ∃ host, Cond.methodLinkNest RX11 53 yX10_init host ∈ fd_NW := Or.inr ⟨RX11, fd_nwi 203 (by decide +kernel) rfl⟩
theorem fo_X11_54 : fd_Fo RX11 54 11 6 := ⟨RX11, TX11, 13, rfl, by decide, inX11, fd_tbi 479 (by decide +kernel) rfl⟩
theorem fq_X11_6 : fd_Fq RX11 11 6 (.object "OneFiddle$Story") := ⟨RX11, TX11, 13, tyX11, rfl, tyX11_ok, nmX11, rfl, rfl⟩
theorem fo_X11_58 : fd_Fo RX11 58 11 7 := ⟨RX11, TX11, 13, rfl, by decide, inX11, fd_tbi 480 (by decide +kernel) rfl⟩
theorem fq_X11_7 : fd_Fq RX11 11 7 (.object "OneFiddle$Story") := ⟨RX11, TX11, 13, tyX11, rfl, tyX11_ok, nmX11, rfl, rfl⟩
theorem cn_X11_61 : Cond.classLink RX11 61 RX5 ∈ fd_TB := fd_tbi 351 (by decide +kernel) rfl
theorem is_X5 : Cond.instantiable RX5 5 ∈ fd_TB := fd_tbi 352 (by decide +kernel) rfl
theorem ii_X5 : Cond.initialized RX5 ∈ fd_TB := fd_tbi 111 (by decide +kernel) rfl
theorem mi_X11_63 : Cond.methodLink RX11 63 yX5_init ∈ fd_TB ∨ ∃ host, Cond.methodLinkNest RX11 63 yX5_init host ∈ fd_NW := Or.inl (fd_tbi 353 (by decide +kernel) rfl)
theorem yi_X5 : fd_Yi yX5_init cX5_init 2 := ⟨fd_tbi 354 (by decide +kernel) rfl, fd_tbi 111 (by decide +kernel) rfl, fd_tbi 355 (by decide +kernel) rfl, by decide, rfl, by decide, by decide, by decide +kernel⟩
theorem fo_X11_64 : fd_Fo RX11 64 11 8 := ⟨RX11, TX11, 13, rfl, by decide, inX11, fd_tbi 481 (by decide +kernel) rfl⟩
theorem fq_X11_8 : fd_Fq RX11 11 8 (.object "OneFiddle$Past") := ⟨RX11, TX11, 13, tyX11, rfl, tyX11_ok, nmX11, rfl, rfl⟩
theorem cn_X11_68 : Cond.classLink RX11 68 RX0 ∈ fd_TB := fd_tbi 377 (by decide +kernel) rfl
theorem is_X0 : Cond.instantiable RX0 2 ∈ fd_TB := fd_tbi 378 (by decide +kernel) rfl
theorem ii_X0 : Cond.initialized RX0 ∈ fd_TB := fd_tbi 112 (by decide +kernel) rfl
theorem mi_X11_70 : Cond.methodLink RX11 70 yX0_init ∈ fd_TB ∨ ∃ host, Cond.methodLinkNest RX11 70 yX0_init host ∈ fd_NW := Or.inr ⟨RX11, fd_nwi 277 (by decide +kernel) rfl⟩
theorem yi_X0 : fd_Yi yX0_init cX0_init 1 := ⟨fd_tbi 380 (by decide +kernel) rfl, fd_tbi 112 (by decide +kernel) rfl, fd_tbi 381 (by decide +kernel) rfl, by decide, rfl, by decide, by decide, by decide +kernel⟩
theorem fo_X11_71 : fd_Fo RX11 71 11 9 := ⟨RX11, TX11, 13, rfl, by decide, inX11, fd_tbi 482 (by decide +kernel) rfl⟩
theorem fq_X11_9 : fd_Fq RX11 11 9 (.object "OneFiddle$Acts") := ⟨RX11, TX11, 13, tyX11, rfl, tyX11_ok, nmX11, rfl, rfl⟩
theorem cn_X11_75 : Cond.classLink RX11 75 RX6 ∈ fd_TB := fd_tbi 390 (by decide +kernel) rfl
theorem is_X6 : Cond.instantiable RX6 13 ∈ fd_TB := fd_tbi 391 (by decide +kernel) rfl
theorem ii_X6 : Cond.initialized RX6 ∈ fd_TB := fd_tbi 113 (by decide +kernel) rfl
theorem mi_X11_77 : Cond.methodLink RX11 77 yX6_init ∈ fd_TB ∨ ∃ host, Cond.methodLinkNest RX11 77 yX6_init host ∈ fd_NW := Or.inr ⟨RX11, fd_nwi 290 (by decide +kernel) rfl⟩
theorem yi_X6 : fd_Yi yX6_init cX6_init 1 := ⟨fd_tbi 393 (by decide +kernel) rfl, fd_tbi 113 (by decide +kernel) rfl, fd_tbi 394 (by decide +kernel) rfl, by decide, rfl, by decide, by decide, by decide +kernel⟩
theorem fo_X11_78 : fd_Fo RX11 78 11 10 := ⟨RX11, TX11, 13, rfl, by decide, inX11, fd_tbi 483 (by decide +kernel) rfl⟩
theorem fq_X11_10 : fd_Fq RX11 11 10 (.object "OneFiddle$Rounds") := ⟨RX11, TX11, 13, tyX11, rfl, tyX11_ok, nmX11, rfl, rfl⟩
theorem cn_X11_82 : Cond.classLink RX11 82 RX9 ∈ fd_TB := fd_tbi 437 (by decide +kernel) rfl
theorem is_X9 : Cond.instantiable RX9 9 ∈ fd_TB := fd_tbi 438 (by decide +kernel) rfl
theorem ii_X9 : Cond.initialized RX9 ∈ fd_TB := fd_tbi 114 (by decide +kernel) rfl
theorem mi_X11_84 : Cond.methodLink RX11 84 yX9_init ∈ fd_TB ∨ ∃ host, Cond.methodLinkNest RX11 84 yX9_init host ∈ fd_NW := Or.inr ⟨RX11, fd_nwi 337 (by decide +kernel) rfl⟩
theorem yi_X9 : fd_Yi yX9_init cX9_init 1 := ⟨fd_tbi 440 (by decide +kernel) rfl, fd_tbi 114 (by decide +kernel) rfl, fd_tbi 441 (by decide +kernel) rfl, by decide, rfl, by decide, by decide, by decide +kernel⟩
theorem fo_X11_85 : fd_Fo RX11 85 11 11 := ⟨RX11, TX11, 13, rfl, by decide, inX11, fd_tbi 484 (by decide +kernel) rfl⟩
theorem fq_X11_11 : fd_Fq RX11 11 11 (.object "OneFiddle$Songs") := ⟨RX11, TX11, 13, tyX11, rfl, tyX11_ok, nmX11, rfl, rfl⟩
theorem bl_X12 : ∀ j, j < 62 → defaultValue (tyX12 j) = vp_V [.null, .int 0, .null, .int 0, .null, .int 0, .null, .null, .null, .int 0, .int 0, .int 0, .int 0, .null, .int 0, .null, .int 0, .int 0, .null, .int 0, .int 0, .int 0, .int 0, .null, .null, .int 0, .int 0, .null, .null, .null, .int 0, .int 0, .null, .null, .int 0, .null, .int 0, .int 0, .int 0, .int 0, .int 0, .null, .null, .null, .null, .null, .null, .int 0, .null, .null, .null, .null, .null, .int 0, .null, .null, .null, .null, .int 0, .null, .null, .null] j := by decide +kernel
theorem ob_X12 : Cond.methodLink RX12 3 objectInit ∈ fd_TB := fd_tbi 1414 (by decide +kernel) rfl
theorem fo_X12_9 : fd_Fo RX12 9 12 0 := ⟨RX12, TX12, 62, rfl, by decide, inX12, fd_tbi 1416 (by decide +kernel) rfl⟩
theorem fq_X12_0 : fd_Fq RX12 12 0 (.array .int) := ⟨RX12, TX12, 62, tyX12, rfl, tyX12_ok, nmX12, rfl, rfl⟩
theorem fo_X12_13 : fd_Fo RX12 13 12 2 := ⟨RX12, TX12, 62, rfl, by decide, inX12, fd_tbi 1418 (by decide +kernel) rfl⟩
theorem fq_X12_2 : fd_Fq RX12 12 2 (.array .int) := ⟨RX12, TX12, 62, tyX12, rfl, tyX12_ok, nmX12, rfl, rfl⟩
theorem fo_X12_16 : fd_Fo RX12 16 12 4 := ⟨RX12, TX12, 62, rfl, by decide, inX12, fd_tbi 1420 (by decide +kernel) rfl⟩
theorem fq_X12_4 : fd_Fq RX12 12 4 (.array .int) := ⟨RX12, TX12, 62, tyX12, rfl, tyX12_ok, nmX12, rfl, rfl⟩
theorem fo_X12_19 : fd_Fo RX12 19 12 6 := ⟨RX12, TX12, 62, rfl, by decide, inX12, fd_tbi 1422 (by decide +kernel) rfl⟩
theorem fq_X12_6 : fd_Fq RX12 12 6 (.array .int) := ⟨RX12, TX12, 62, tyX12, rfl, tyX12_ok, nmX12, rfl, rfl⟩
theorem fo_X12_22 : fd_Fo RX12 22 12 7 := ⟨RX12, TX12, 62, rfl, by decide, inX12, fd_tbi 1423 (by decide +kernel) rfl⟩
theorem fq_X12_7 : fd_Fq RX12 12 7 (.array .int) := ⟨RX12, TX12, 62, tyX12, rfl, tyX12_ok, nmX12, rfl, rfl⟩
theorem fo_X12_25 : fd_Fo RX12 25 12 8 := ⟨RX12, TX12, 62, rfl, by decide, inX12, fd_tbi 1424 (by decide +kernel) rfl⟩
theorem fq_X12_8 : fd_Fq RX12 12 8 (.array .int) := ⟨RX12, TX12, 62, tyX12, rfl, tyX12_ok, nmX12, rfl, rfl⟩
theorem fo_X12_28 : fd_Fo RX12 28 12 9 := ⟨RX12, TX12, 62, rfl, by decide, inX12, fd_tbi 1425 (by decide +kernel) rfl⟩
theorem fq_X12_9 : fd_Fq RX12 12 9 .int := ⟨RX12, TX12, 62, tyX12, rfl, tyX12_ok, nmX12, rfl, rfl⟩
theorem fo_X12_32 : fd_Fo RX12 32 12 11 := ⟨RX12, TX12, 62, rfl, by decide, inX12, fd_tbi 1427 (by decide +kernel) rfl⟩
theorem fq_X12_11 : fd_Fq RX12 12 11 .int := ⟨RX12, TX12, 62, tyX12, rfl, tyX12_ok, nmX12, rfl, rfl⟩
theorem fo_X12_35 : fd_Fo RX12 35 12 13 := ⟨RX12, TX12, 62, rfl, by decide, inX12, fd_tbi 1429 (by decide +kernel) rfl⟩
theorem fq_X12_13 : fd_Fq RX12 12 13 (.array .byte) := ⟨RX12, TX12, 62, tyX12, rfl, tyX12_ok, nmX12, rfl, rfl⟩
theorem fo_X12_39 : fd_Fo RX12 39 12 15 := ⟨RX12, TX12, 62, rfl, by decide, inX12, fd_tbi 1431 (by decide +kernel) rfl⟩
theorem fq_X12_15 : fd_Fq RX12 12 15 (.array .long) := ⟨RX12, TX12, 62, tyX12, rfl, tyX12_ok, nmX12, rfl, rfl⟩
theorem fo_X12_43 : fd_Fo RX12 43 12 23 := ⟨RX12, TX12, 62, rfl, by decide, inX12, fd_tbi 1439 (by decide +kernel) rfl⟩
theorem fq_X12_23 : fd_Fq RX12 12 23 (.array .int) := ⟨RX12, TX12, 62, tyX12, rfl, tyX12_ok, nmX12, rfl, rfl⟩
theorem fo_X12_46 : fd_Fo RX12 46 12 24 := ⟨RX12, TX12, 62, rfl, by decide, inX12, fd_tbi 1440 (by decide +kernel) rfl⟩
theorem fq_X12_24 : fd_Fq RX12 12 24 (.array .int) := ⟨RX12, TX12, 62, tyX12, rfl, tyX12_ok, nmX12, rfl, rfl⟩
theorem fo_X12_49 : fd_Fo RX12 49 12 27 := ⟨RX12, TX12, 62, rfl, by decide, inX12, fd_tbi 1443 (by decide +kernel) rfl⟩
theorem fq_X12_27 : fd_Fq RX12 12 27 (.array .int) := ⟨RX12, TX12, 62, tyX12, rfl, tyX12_ok, nmX12, rfl, rfl⟩
theorem fo_X12_52 : fd_Fo RX12 52 12 28 := ⟨RX12, TX12, 62, rfl, by decide, inX12, fd_tbi 1444 (by decide +kernel) rfl⟩
theorem fq_X12_28 : fd_Fq RX12 12 28 (.array .int) := ⟨RX12, TX12, 62, tyX12, rfl, tyX12_ok, nmX12, rfl, rfl⟩
theorem fo_X12_55 : fd_Fo RX12 55 12 29 := ⟨RX12, TX12, 62, rfl, by decide, inX12, fd_tbi 1445 (by decide +kernel) rfl⟩
theorem fq_X12_29 : fd_Fq RX12 12 29 (.array .byte) := ⟨RX12, TX12, 62, tyX12, rfl, tyX12_ok, nmX12, rfl, rfl⟩
theorem fo_X12_58 : fd_Fo RX12 58 12 32 := ⟨RX12, TX12, 62, rfl, by decide, inX12, fd_tbi 1448 (by decide +kernel) rfl⟩
theorem fq_X12_32 : fd_Fq RX12 12 32 (.array .int) := ⟨RX12, TX12, 62, tyX12, rfl, tyX12_ok, nmX12, rfl, rfl⟩
theorem fo_X12_61 : fd_Fo RX12 61 12 33 := ⟨RX12, TX12, 62, rfl, by decide, inX12, fd_tbi 1449 (by decide +kernel) rfl⟩
theorem fq_X12_33 : fd_Fq RX12 12 33 (.array .int) := ⟨RX12, TX12, 62, tyX12, rfl, tyX12_ok, nmX12, rfl, rfl⟩
theorem fo_X12_64 : fd_Fo RX12 64 12 35 := ⟨RX12, TX12, 62, rfl, by decide, inX12, fd_tbi 1451 (by decide +kernel) rfl⟩
theorem fq_X12_35 : fd_Fq RX12 12 35 (.array .int) := ⟨RX12, TX12, 62, tyX12, rfl, tyX12_ok, nmX12, rfl, rfl⟩
theorem fo_X12_67 : fd_Fo RX12 67 12 41 := ⟨RX12, TX12, 62, rfl, by decide, inX12, fd_tbi 1457 (by decide +kernel) rfl⟩
theorem fq_X12_41 : fd_Fq RX12 12 41 (.array .int) := ⟨RX12, TX12, 62, tyX12, rfl, tyX12_ok, nmX12, rfl, rfl⟩
theorem fo_X12_70 : fd_Fo RX12 70 12 42 := ⟨RX12, TX12, 62, rfl, by decide, inX12, fd_tbi 1458 (by decide +kernel) rfl⟩
theorem fq_X12_42 : fd_Fq RX12 12 42 (.array .int) := ⟨RX12, TX12, 62, tyX12, rfl, tyX12_ok, nmX12, rfl, rfl⟩
theorem fo_X12_73 : fd_Fo RX12 73 12 43 := ⟨RX12, TX12, 62, rfl, by decide, inX12, fd_tbi 1459 (by decide +kernel) rfl⟩
theorem fq_X12_43 : fd_Fq RX12 12 43 (.array .int) := ⟨RX12, TX12, 62, tyX12, rfl, tyX12_ok, nmX12, rfl, rfl⟩
theorem fo_X12_76 : fd_Fo RX12 76 12 44 := ⟨RX12, TX12, 62, rfl, by decide, inX12, fd_tbi 1460 (by decide +kernel) rfl⟩
theorem fq_X12_44 : fd_Fq RX12 12 44 (.array .int) := ⟨RX12, TX12, 62, tyX12, rfl, tyX12_ok, nmX12, rfl, rfl⟩
theorem fo_X12_79 : fd_Fo RX12 79 12 45 := ⟨RX12, TX12, 62, rfl, by decide, inX12, fd_tbi 1461 (by decide +kernel) rfl⟩
theorem fq_X12_45 : fd_Fq RX12 12 45 (.array .int) := ⟨RX12, TX12, 62, tyX12, rfl, tyX12_ok, nmX12, rfl, rfl⟩
theorem fo_X12_82 : fd_Fo RX12 82 12 46 := ⟨RX12, TX12, 62, rfl, by decide, inX12, fd_tbi 1462 (by decide +kernel) rfl⟩
theorem fq_X12_46 : fd_Fq RX12 12 46 (.array .int) := ⟨RX12, TX12, 62, tyX12, rfl, tyX12_ok, nmX12, rfl, rfl⟩
theorem fo_X12_85 : fd_Fo RX12 85 12 48 := ⟨RX12, TX12, 62, rfl, by decide, inX12, fd_tbi 1464 (by decide +kernel) rfl⟩
theorem fq_X12_48 : fd_Fq RX12 12 48 (.array .boolean) := ⟨RX12, TX12, 62, tyX12, rfl, tyX12_ok, nmX12, rfl, rfl⟩
theorem fo_X12_89 : fd_Fo RX12 89 12 49 := ⟨RX12, TX12, 62, rfl, by decide, inX12, fd_tbi 1465 (by decide +kernel) rfl⟩
theorem fq_X12_49 : fd_Fq RX12 12 49 (.array .boolean) := ⟨RX12, TX12, 62, tyX12, rfl, tyX12_ok, nmX12, rfl, rfl⟩
theorem fo_X12_92 : fd_Fo RX12 92 12 50 := ⟨RX12, TX12, 62, rfl, by decide, inX12, fd_tbi 1466 (by decide +kernel) rfl⟩
theorem fq_X12_50 : fd_Fq RX12 12 50 (.array .byte) := ⟨RX12, TX12, 62, tyX12, rfl, tyX12_ok, nmX12, rfl, rfl⟩
theorem fo_X12_95 : fd_Fo RX12 95 12 51 := ⟨RX12, TX12, 62, rfl, by decide, inX12, fd_tbi 1467 (by decide +kernel) rfl⟩
theorem fq_X12_51 : fd_Fq RX12 12 51 (.array .int) := ⟨RX12, TX12, 62, tyX12, rfl, tyX12_ok, nmX12, rfl, rfl⟩
theorem fo_X12_98 : fd_Fo RX12 98 12 52 := ⟨RX12, TX12, 62, rfl, by decide, inX12, fd_tbi 1468 (by decide +kernel) rfl⟩
theorem fq_X12_52 : fd_Fq RX12 12 52 (.array .int) := ⟨RX12, TX12, 62, tyX12, rfl, tyX12_ok, nmX12, rfl, rfl⟩
theorem fo_X12_101 : fd_Fo RX12 101 12 54 := ⟨RX12, TX12, 62, rfl, by decide, inX12, fd_tbi 1470 (by decide +kernel) rfl⟩
theorem fq_X12_54 : fd_Fq RX12 12 54 (.array .byte) := ⟨RX12, TX12, 62, tyX12, rfl, tyX12_ok, nmX12, rfl, rfl⟩
theorem fo_X12_104 : fd_Fo RX12 104 12 55 := ⟨RX12, TX12, 62, rfl, by decide, inX12, fd_tbi 1471 (by decide +kernel) rfl⟩
theorem fq_X12_55 : fd_Fq RX12 12 55 (.array .int) := ⟨RX12, TX12, 62, tyX12, rfl, tyX12_ok, nmX12, rfl, rfl⟩
theorem fo_X12_107 : fd_Fo RX12 107 12 56 := ⟨RX12, TX12, 62, rfl, by decide, inX12, fd_tbi 1472 (by decide +kernel) rfl⟩
theorem fq_X12_56 : fd_Fq RX12 12 56 (.array .int) := ⟨RX12, TX12, 62, tyX12, rfl, tyX12_ok, nmX12, rfl, rfl⟩
theorem fo_X12_110 : fd_Fo RX12 110 12 57 := ⟨RX12, TX12, 62, rfl, by decide, inX12, fd_tbi 1473 (by decide +kernel) rfl⟩
theorem fq_X12_57 : fd_Fq RX12 12 57 (.array .int) := ⟨RX12, TX12, 62, tyX12, rfl, tyX12_ok, nmX12, rfl, rfl⟩
theorem fo_X12_113 : fd_Fo RX12 113 12 59 := ⟨RX12, TX12, 62, rfl, by decide, inX12, fd_tbi 1475 (by decide +kernel) rfl⟩
theorem fq_X12_59 : fd_Fq RX12 12 59 (.array .int) := ⟨RX12, TX12, 62, tyX12, rfl, tyX12_ok, nmX12, rfl, rfl⟩
theorem fo_X12_116 : fd_Fo RX12 116 12 60 := ⟨RX12, TX12, 62, rfl, by decide, inX12, fd_tbi 1476 (by decide +kernel) rfl⟩
theorem fq_X12_60 : fd_Fq RX12 12 60 (.array .boolean) := ⟨RX12, TX12, 62, tyX12, rfl, tyX12_ok, nmX12, rfl, rfl⟩
theorem fo_X12_119 : fd_Fo RX12 119 12 61 := ⟨RX12, TX12, 62, rfl, by decide, inX12, fd_tbi 1477 (by decide +kernel) rfl⟩
theorem fq_X12_61 : fd_Fq RX12 12 61 (.array .int) := ⟨RX12, TX12, 62, tyX12, rfl, tyX12_ok, nmX12, rfl, rfl⟩
theorem k_mil : Cond.constant RX12 122 (1000000 : Int32) ∈ fd_TB := fd_tbi 1415 (by decide +kernel) rfl
def zf_X7 (g : fd_G) (n : Nat) : List Value := [.ref (g.1 + (n + 0)), .int 0, .int 0, .int 0]
def zt_X7 (g : fd_G) (n : Nat) : List va_E := [] ++ [fd_na g 3 80]
theorem zl_X7 (g : fd_G) (n : Nat) : (zt_X7 g n).length = 1 := by simp [zt_X7, fd_rr, List.length_replicate]
theorem c_X7_init (l : Launch) (g : fd_G) : fd_ConI l g yX7_init cX7_init 1 1 1 80 7 [.null, .int 0, .int 0, .int 0] (zf_X7 g) (zt_X7 g) := fd_mkI (by decide) rfl (by decide) (fun X es k h1 h2 hk F Fc hR => by
  subst h1
  subst h2
  refine fd_zal F dX7_init_0 rfl rfl ?_
  refine fd_zob F dX7_init_1 ob_X7 ob_im ob_cd (by decide) ?_
  refine fd_zal F dX7_init_4 rfl rfl ?_
  refine fd_zbi F dX7_init_5 kb_80 ?_
  refine fd_Zna F (m := 0) rfl dX7_init_7 ac_char (t := 3) (N := 80) rfl (by decide) (by decide) (by decide) (by decide) (fun _ => rfl) (hR _ _ (by decide) (by decide)) ?_
  refine fd_Zpu F Fc hk fo_X7_11 fq_X7_0 dX7_init_9 (Nat.le_of_ble_eq_true rfl) rfl rfl ?_
  exact fd_zret F dX7_init_12 rfl rfl rfl)
def zf_X4 (g : fd_G) (n : Nat) : List Value := [.ref (g.1 + (n + 0)), .int 0]
def zt_X4 (g : fd_G) (n : Nat) : List va_E := [] ++ [fd_na g 4 16]
theorem zl_X4 (g : fd_G) (n : Nat) : (zt_X4 g n).length = 1 := by simp [zt_X4, fd_rr, List.length_replicate]
theorem c_X4_init (l : Launch) (g : fd_G) : fd_ConI l g yX4_init cX4_init 1 1 1 16 4 [.null, .int 0] (zf_X4 g) (zt_X4 g) := fd_mkI (by decide) rfl (by decide) (fun X es k h1 h2 hk F Fc hR => by
  subst h1
  subst h2
  refine fd_zal F dX4_init_0 rfl rfl ?_
  refine fd_zob F dX4_init_1 ob_X4 ob_im ob_cd (by decide) ?_
  refine fd_zal F dX4_init_4 rfl rfl ?_
  refine fd_zbi F dX4_init_5 kb_16 ?_
  refine fd_Zna F (m := 0) rfl dX4_init_7 ac_long (t := 4) (N := 16) rfl (by decide) (by decide) (by decide) (by decide) (fun _ => rfl) (hR _ _ (by decide) (by decide)) ?_
  refine fd_Zpu F Fc hk fo_X4_11 fq_X4_0 dX4_init_9 (Nat.le_of_ble_eq_true rfl) rfl rfl ?_
  exact fd_zret F dX4_init_12 rfl rfl rfl)
def zf_X3 (g : fd_G) (n : Nat) : List Value := [.int 0, .int 0, .ref (g.1 + (n + 0)), .ref (g.1 + (n + 1)), .ref (g.1 + (n + 2)), .ref (g.1 + (n + 3)), .ref (g.1 + (n + 4)), .ref (g.1 + (n + 14)), .int 0, .int 0]
def zt_X3 (g : fd_G) (n : Nat) : List va_E := [] ++ [fd_na g 0 9] ++ [fd_na g 0 24] ++ [fd_na g 0 24] ++ [fd_na g 0 24] ++ fd_rr g (n + 4) 9 9 ++ fd_rr g (n + 14) 9 9
theorem zl_X3 (g : fd_G) (n : Nat) : (zt_X3 g n).length = 24 := by simp [zt_X3, fd_rr, List.length_replicate]
theorem c_X3_init (l : Launch) (g : fd_G) : fd_ConI l g yX3_init cX3_init 1 1 24 261 3 [.int 0, .int 0, .null, .null, .null, .null, .null, .null, .int 0, .int 0] (zf_X3 g) (zt_X3 g) := fd_mkI (by decide) rfl (by decide) (fun X es k h1 h2 hk F Fc hR => by
  subst h1
  subst h2
  refine fd_zal F dX3_init_0 rfl rfl ?_
  refine fd_zob F dX3_init_1 ob_X3 ob_im ob_cd (by decide) ?_
  refine fd_zal F dX3_init_4 rfl rfl ?_
  refine fd_zbi F dX3_init_5 kb_9 ?_
  refine fd_Zna F (m := 0) rfl dX3_init_7 ac_int (t := 0) (N := 9) rfl (by decide) (by decide) (by decide) (by decide) (fun _ => rfl) (hR _ _ (by decide) (by decide)) ?_
  refine fd_Zpu F Fc hk fo_X3_9 fq_X3_2 dX3_init_9 (Nat.le_of_ble_eq_true rfl) rfl rfl ?_
  refine fd_zal F dX3_init_12 rfl rfl ?_
  refine fd_zbi F dX3_init_13 kb_24 ?_
  refine fd_Zna F (m := 1) rfl dX3_init_15 ac_int (t := 0) (N := 24) rfl (by decide) (by decide) (by decide) (by decide) (fun _ => rfl) (hR _ _ (by decide) (by decide)) ?_
  refine fd_Zpu F Fc hk fo_X3_15 fq_X3_3 dX3_init_17 (Nat.le_of_ble_eq_true rfl) rfl rfl ?_
  refine fd_zal F dX3_init_20 rfl rfl ?_
  refine fd_zbi F dX3_init_21 kb_24 ?_
  refine fd_Zna F (m := 2) rfl dX3_init_23 ac_int (t := 0) (N := 24) rfl (by decide) (by decide) (by decide) (by decide) (fun _ => rfl) (hR _ _ (by decide) (by decide)) ?_
  refine fd_Zpu F Fc hk fo_X3_18 fq_X3_4 dX3_init_25 (Nat.le_of_ble_eq_true rfl) rfl rfl ?_
  refine fd_zal F dX3_init_28 rfl rfl ?_
  refine fd_zbi F dX3_init_29 kb_24 ?_
  refine fd_Zna F (m := 3) rfl dX3_init_31 ac_int (t := 0) (N := 24) rfl (by decide) (by decide) (by decide) (by decide) (fun _ => rfl) (hR _ _ (by decide) (by decide)) ?_
  refine fd_Zpu F Fc hk fo_X3_21 fq_X3_5 dX3_init_33 (Nat.le_of_ble_eq_true rfl) rfl rfl ?_
  refine fd_zal F dX3_init_36 rfl rfl ?_
  refine fd_zbi F dX3_init_37 kb_9 ?_
  refine fd_zbi F dX3_init_39 kb_9 ?_
  refine fd_Zmu F Fc (m := 4) rfl dX3_init_41 cl_X3_24 ac_int (N := 9) (K := 9) (by decide) (by decide) (by decide) (by decide) (by decide) (by decide) (by decide) (hR _ _ (by decide) (by decide)) ?_
  refine fd_Zpu F Fc hk fo_X3_26 fq_X3_6 dX3_init_45 (Nat.le_of_ble_eq_true rfl) rfl rfl ?_
  refine fd_zal F dX3_init_48 rfl rfl ?_
  refine fd_zbi F dX3_init_49 kb_9 ?_
  refine fd_zbi F dX3_init_51 kb_9 ?_
  refine fd_Zmu F Fc (m := 14) rfl dX3_init_53 cl_X3_24 ac_int (N := 9) (K := 9) (by decide) (by decide) (by decide) (by decide) (by decide) (by decide) (by decide) (hR _ _ (by decide) (by decide)) ?_
  refine fd_Zpu F Fc hk fo_X3_29 fq_X3_7 dX3_init_57 (Nat.le_of_ble_eq_true rfl) rfl rfl ?_
  exact fd_zret F dX3_init_60 rfl rfl rfl)
def zf_X8 (g : fd_G) (n : Nat) : List Value := [.int (20), .int (0), .int (99), .int (0)]
def zt_X8 (g : fd_G) (n : Nat) : List va_E := []
theorem zl_X8 (g : fd_G) (n : Nat) : (zt_X8 g n).length = 0 := by simp [zt_X8, fd_rr, List.length_replicate]
theorem c_X8_init (l : Launch) (g : fd_G) : fd_ConI l g yX8_init cX8_init 1 1 0 0 8 [.int 0, .int 0, .int 0, .int 0] (zf_X8 g) (zt_X8 g) := fd_mkI (by decide) rfl (by decide) (fun X es k h1 h2 hk F Fc hR => by
  subst h1
  subst h2
  refine fd_zal F dX8_init_0 rfl rfl ?_
  refine fd_zob F dX8_init_1 ob_X8 ob_im ob_cd (by decide) ?_
  refine fd_zal F dX8_init_4 rfl rfl ?_
  refine fd_zbi F dX8_init_5 kb_20 ?_
  refine fd_Zpu F Fc hk fo_X8_9 fq_X8_0 dX8_init_7 (Nat.le_of_ble_eq_true rfl) rfl rfl ?_
  refine fd_zal F dX8_init_10 rfl rfl ?_
  refine fd_zic F dX8_init_11 ki_0 ?_
  refine fd_Zpu F Fc hk fo_X8_15 fq_X8_1 dX8_init_12 (Nat.le_of_ble_eq_true rfl) rfl rfl ?_
  refine fd_zal F dX8_init_15 rfl rfl ?_
  refine fd_zbi F dX8_init_16 kb_99 ?_
  refine fd_Zpu F Fc hk fo_X8_18 fq_X8_2 dX8_init_18 (Nat.le_of_ble_eq_true rfl) rfl rfl ?_
  refine fd_zal F dX8_init_21 rfl rfl ?_
  refine fd_zic F dX8_init_22 ki_0 ?_
  refine fd_Zpu F Fc hk fo_X8_21 fq_X8_3 dX8_init_23 (Nat.le_of_ble_eq_true rfl) rfl rfl ?_
  exact fd_zret F dX8_init_26 rfl rfl rfl)
def zf_X1 (g : fd_G) (n : Nat) : List Value := [.int 0, .int 0, .ref (g.1 + (n + 0)), .ref (g.1 + (n + 1)), .ref (g.1 + (n + 2))]
def zt_X1 (g : fd_G) (n : Nat) : List va_E := [] ++ [fd_na g 0 8] ++ [fd_na g 0 8] ++ [fd_na g 0 8]
theorem zl_X1 (g : fd_G) (n : Nat) : (zt_X1 g n).length = 3 := by simp [zt_X1, fd_rr, List.length_replicate]
theorem c_X1_init (l : Launch) (g : fd_G) : fd_ConI l g yX1_init cX1_init 1 1 3 24 1 [.int 0, .int 0, .null, .null, .null] (zf_X1 g) (zt_X1 g) := fd_mkI (by decide) rfl (by decide) (fun X es k h1 h2 hk F Fc hR => by
  subst h1
  subst h2
  refine fd_zal F dX1_init_0 rfl rfl ?_
  refine fd_zob F dX1_init_1 ob_X1 ob_im ob_cd (by decide) ?_
  refine fd_zal F dX1_init_4 rfl rfl ?_
  refine fd_zbi F dX1_init_5 kb_8 ?_
  refine fd_Zna F (m := 0) rfl dX1_init_7 ac_int (t := 0) (N := 8) rfl (by decide) (by decide) (by decide) (by decide) (fun _ => rfl) (hR _ _ (by decide) (by decide)) ?_
  refine fd_Zpu F Fc hk fo_X1_9 fq_X1_2 dX1_init_9 (Nat.le_of_ble_eq_true rfl) rfl rfl ?_
  refine fd_zal F dX1_init_12 rfl rfl ?_
  refine fd_zbi F dX1_init_13 kb_8 ?_
  refine fd_Zna F (m := 1) rfl dX1_init_15 ac_int (t := 0) (N := 8) rfl (by decide) (by decide) (by decide) (by decide) (fun _ => rfl) (hR _ _ (by decide) (by decide)) ?_
  refine fd_Zpu F Fc hk fo_X1_15 fq_X1_3 dX1_init_17 (Nat.le_of_ble_eq_true rfl) rfl rfl ?_
  refine fd_zal F dX1_init_20 rfl rfl ?_
  refine fd_zbi F dX1_init_21 kb_8 ?_
  refine fd_Zna F (m := 2) rfl dX1_init_23 ac_int (t := 0) (N := 8) rfl (by decide) (by decide) (by decide) (by decide) (fun _ => rfl) (hR _ _ (by decide) (by decide)) ?_
  refine fd_Zpu F Fc hk fo_X1_18 fq_X1_4 dX1_init_25 (Nat.le_of_ble_eq_true rfl) rfl rfl ?_
  exact fd_zret F dX1_init_28 rfl rfl rfl)
def zf_X2 (g : fd_G) (n : Nat) : List Value := [.ref (g.1 + (n + 0)), .int 0, .ref (g.1 + (n + 1)), .int 0, .ref (g.1 + (n + 2)), .int 0, .int 0, .ref (g.1 + (n + 3)), .int 0, .ref (g.1 + (n + 4)), .ref (g.1 + (n + 5))]
def zt_X2 (g : fd_G) (n : Nat) : List va_E := [] ++ [fd_na g 0 40] ++ [fd_na g 0 40] ++ [fd_na g 0 40] ++ [fd_na g 2 5] ++ [fd_na g 0 40] ++ [fd_na g 0 6]
theorem zl_X2 (g : fd_G) (n : Nat) : (zt_X2 g n).length = 6 := by simp [zt_X2, fd_rr, List.length_replicate]
theorem c_X2_init (l : Launch) (g : fd_G) : fd_ConI l g yX2_init cX2_init 1 1 6 171 2 [.null, .int 0, .null, .int 0, .null, .int 0, .int 0, .null, .int 0, .null, .null] (zf_X2 g) (zt_X2 g) := fd_mkI (by decide) rfl (by decide) (fun X es k h1 h2 hk F Fc hR => by
  subst h1
  subst h2
  refine fd_zal F dX2_init_0 rfl rfl ?_
  refine fd_zob F dX2_init_1 ob_X2 ob_im ob_cd (by decide) ?_
  refine fd_zal F dX2_init_4 rfl rfl ?_
  refine fd_zbi F dX2_init_5 kb_40 ?_
  refine fd_Zna F (m := 0) rfl dX2_init_7 ac_int (t := 0) (N := 40) rfl (by decide) (by decide) (by decide) (by decide) (fun _ => rfl) (hR _ _ (by decide) (by decide)) ?_
  refine fd_Zpu F Fc hk fo_X2_11 fq_X2_0 dX2_init_9 (Nat.le_of_ble_eq_true rfl) rfl rfl ?_
  refine fd_zal F dX2_init_12 rfl rfl ?_
  refine fd_zbi F dX2_init_13 kb_40 ?_
  refine fd_Zna F (m := 1) rfl dX2_init_15 ac_int (t := 0) (N := 40) rfl (by decide) (by decide) (by decide) (by decide) (fun _ => rfl) (hR _ _ (by decide) (by decide)) ?_
  refine fd_Zpu F Fc hk fo_X2_15 fq_X2_2 dX2_init_17 (Nat.le_of_ble_eq_true rfl) rfl rfl ?_
  refine fd_zal F dX2_init_20 rfl rfl ?_
  refine fd_zbi F dX2_init_21 kb_40 ?_
  refine fd_Zna F (m := 2) rfl dX2_init_23 ac_int (t := 0) (N := 40) rfl (by decide) (by decide) (by decide) (by decide) (fun _ => rfl) (hR _ _ (by decide) (by decide)) ?_
  refine fd_Zpu F Fc hk fo_X2_18 fq_X2_4 dX2_init_25 (Nat.le_of_ble_eq_true rfl) rfl rfl ?_
  refine fd_zal F dX2_init_28 rfl rfl ?_
  refine fd_zic F dX2_init_29 ki_5 ?_
  refine fd_Zna F (m := 3) rfl dX2_init_30 ac_boolean (t := 2) (N := 5) rfl (by decide) (by decide) (by decide) (by decide) (fun _ => rfl) (hR _ _ (by decide) (by decide)) ?_
  refine fd_Zpu F Fc hk fo_X2_21 fq_X2_7 dX2_init_32 (Nat.le_of_ble_eq_true rfl) rfl rfl ?_
  refine fd_zal F dX2_init_35 rfl rfl ?_
  refine fd_zbi F dX2_init_36 kb_40 ?_
  refine fd_Zna F (m := 4) rfl dX2_init_38 ac_int (t := 0) (N := 40) rfl (by decide) (by decide) (by decide) (by decide) (fun _ => rfl) (hR _ _ (by decide) (by decide)) ?_
  refine fd_Zpu F Fc hk fo_X2_25 fq_X2_9 dX2_init_40 (Nat.le_of_ble_eq_true rfl) rfl rfl ?_
  refine fd_zal F dX2_init_43 rfl rfl ?_
  refine fd_zbi F dX2_init_44 kb_6 ?_
  refine fd_Zna F (m := 5) rfl dX2_init_46 ac_int (t := 0) (N := 6) rfl (by decide) (by decide) (by decide) (by decide) (fun _ => rfl) (hR _ _ (by decide) (by decide)) ?_
  refine fd_Zpu F Fc hk fo_X2_28 fq_X2_10 dX2_init_48 (Nat.le_of_ble_eq_true rfl) rfl rfl ?_
  exact fd_zret F dX2_init_51 rfl rfl rfl)
def zf_X10 (g : fd_G) (n : Nat) : List Value := [.int 0, .int 0, .int 0, .int 0, .int (4), .int 0, .int 0, .int 0, .ref (g.1 + (n + 0)), .ref (g.1 + (n + 1))]
def zt_X10 (g : fd_G) (n : Nat) : List va_E := [] ++ [fd_na g 0 8] ++ [fd_na g 0 8]
theorem zl_X10 (g : fd_G) (n : Nat) : (zt_X10 g n).length = 2 := by simp [zt_X10, fd_rr, List.length_replicate]
theorem c_X10_init (l : Launch) (g : fd_G) : fd_ConI l g yX10_init cX10_init 1 1 2 16 10 [.int 0, .int 0, .int 0, .int 0, .int 0, .int 0, .int 0, .int 0, .null, .null] (zf_X10 g) (zt_X10 g) := fd_mkI (by decide) rfl (by decide) (fun X es k h1 h2 hk F Fc hR => by
  subst h1
  subst h2
  refine fd_zal F dX10_init_0 rfl rfl ?_
  refine fd_zob F dX10_init_1 ob_X10 ob_im ob_cd (by decide) ?_
  refine fd_zal F dX10_init_4 rfl rfl ?_
  refine fd_zic F dX10_init_5 ki_4 ?_
  refine fd_Zpu F Fc hk fo_X10_9 fq_X10_4 dX10_init_6 (Nat.le_of_ble_eq_true rfl) rfl rfl ?_
  refine fd_zal F dX10_init_9 rfl rfl ?_
  refine fd_zbi F dX10_init_10 kb_8 ?_
  refine fd_Zna F (m := 0) rfl dX10_init_12 ac_int (t := 0) (N := 8) rfl (by decide) (by decide) (by decide) (by decide) (fun _ => rfl) (hR _ _ (by decide) (by decide)) ?_
  refine fd_Zpu F Fc hk fo_X10_15 fq_X10_8 dX10_init_14 (Nat.le_of_ble_eq_true rfl) rfl rfl ?_
  refine fd_zal F dX10_init_17 rfl rfl ?_
  refine fd_zbi F dX10_init_18 kb_8 ?_
  refine fd_Zna F (m := 1) rfl dX10_init_20 ac_int (t := 0) (N := 8) rfl (by decide) (by decide) (by decide) (by decide) (fun _ => rfl) (hR _ _ (by decide) (by decide)) ?_
  refine fd_Zpu F Fc hk fo_X10_19 fq_X10_9 dX10_init_22 (Nat.le_of_ble_eq_true rfl) rfl rfl ?_
  exact fd_zret F dX10_init_25 rfl rfl rfl)
def ps (g : fd_G) (n o : Nat) : Nat → List va_E
  | 0 => []
  | i + 1 => ps g n o i ++ (.inr (10, zf_X10 g (n + (o + 3 * i + 1))) :: zt_X10 g (n + (o + 3 * i + 1)))
theorem ps_len (g : fd_G) (n o i : Nat) : (ps g n o i).length = 3 * i := by
  induction i with
  | zero => rfl
  | succ i ih => simp only [ps, List.length_append, List.length_cons, ih, zl_X10]; omega
def pq (g : fd_G) (n o N i : Nat) : va_E := .inl (g.2.1 6, N, .inr (.inr (.inr (.inr fun j => if j < i then some (g.1 + (n + (o + 3 * j))) else none))))
theorem pq_up {g : fd_G} {n o N i : Nat} : pq g n o N (i + 1) = .inl (g.2.1 6, N, .inr (.inr (.inr (.inr (va_up (fun j => if j < i then some (g.1 + (n + (o + 3 * j))) else none) i (some (g.1 + (n + (o + 3 * i))))))))) := by
  unfold pq
  refine congrArg (fun f => (.inl (g.2.1 6, N, .inr (.inr (.inr (.inr f)))) : va_E)) (funext fun j => ?_)
  unfold va_up
  by_cases h : j = i
  · subst h
    simp
  · by_cases h2 : j < i
    · simp [h, h2, show j < i + 1 by omega]
    · simp [h, h2, show ¬ j < i + 1 by omega]
theorem zg {α : Type} {l r : List α} {x : α} {m : Nat} (h : l.length = m) : (l ++ x :: r)[m]? = some x := by
  subst h
  simp
theorem pq0 {g : fd_G} {n o N : Nat} : pq g n o N 0 = .inl (g.2.1 6, N, .inr (.inr (.inr (.inr fun _ => none)))) := by simp [pq]
theorem ps0 {g : fd_G} {n o : Nat} : ps g n o 0 = [] := rfl
theorem fd_zE {X : fd_X} {n p kc ks k c : Nat} {Q : State → Prop} {st L : List Value} {es : List va_E} {fs : List Value} {tl tl' : List va_E} (h : tl = tl') (kk : fd_Z X n Q p st L (fd_zs es k c fs tl') kc ks) : fd_Z X n Q p st L (fd_zs es k c fs tl) kc ks := by
  rw [h]
  exact kk
theorem pl_a {X : fd_X} {Q : State → Prop} {es : List va_E} {k : Nat} (F : fd_F X cX5_init RX5 2 none 2) (Fc : fd_Fc X) (hR : ∀ a b, a ≤ 45 → b ≤ 380 → fd_Rm X a b) (hk : k < es.length) {fs : List Value} (hf : fs[0]? = some (.ref (fd_b X + (es.length + 0)))) {kc ks : Nat} (hkc : kc + 3 * 12 ≤ 45) (hks : ks + 26 * 12 ≤ 380) (kk : fd_Z X 2 Q 55 [] [.ref k, .int (nI 12)] (fd_zs es k 5 fs (pq X.1 es.length 3 12 12 :: .inl (X.1.2.1 6, 2, .inr (.inr (.inr (.inr fun _ => none)))) :: fd_na X.1 2 2 :: ps X.1 es.length 3 12)) (kc + 3 * 12) (ks + 26 * 12)) : ∀ (r i : Nat) {L : List Value}, i + r = 12 → L = [.ref k, .int (nI i)] → fd_Z X 2 Q 30 [] L (fd_zs es k 5 fs (pq X.1 es.length 3 12 i :: .inl (X.1.2.1 6, 2, .inr (.inr (.inr (.inr fun _ => none)))) :: fd_na X.1 2 2 :: ps X.1 es.length 3 i)) (kc + 3 * i) (ks + 26 * i) := by
  intro r
  induction r with
  | zero =>
    intro i L hi hL
    subst hL
    have : i = 12 := by omega
    subst this
    refine fd_zil F dX5_init_30 rfl rfl ?_
    refine fd_zbi F dX5_init_31 kb_12 ?_
    refine fd_zge F dX5_init_33 (j := 55) rfl (fun _ => ?_) (fun h => absurd h (by decide))
    exact kk
  | succ r ih =>
    intro i L hi hL
    subst hL
    refine fd_zil F dX5_init_30 rfl rfl ?_
    refine fd_zbi F dX5_init_31 kb_12 ?_
    have hi1 : i < 12 := by omega
    refine fd_zge F dX5_init_33 (j := 55) rfl (fun h => ?_) (fun _ => ?_)
    · exfalso
      have h2 : (12 : Int32) ≤ nI i := h
      have h3 : (12 : Int32) = nI 12 := by decide
      rw [h3, nI_leI (by omega) (by omega)] at h2
      omega
    refine fd_zal F dX5_init_36 rfl rfl ?_
    refine fd_zget F fo_X5_13 dX5_init_37 (zs_at hk) hf ?_
    refine fd_zil F dX5_init_40 rfl rfl ?_
    refine fd_Znew F (m := (3 + 3 * i)) (by simp [ps_len]; omega) dX5_init_41 inX10 tyX10 tyX10_ok cn_X5_11 is_X10 ii_X10 (ci := 10) rfl bl_X10 (hR _ _ (by omega) (by omega)) ?_
    refine fd_zdup F dX5_init_44 ?_
    refine fd_Zca F Fc.a (m := (3 + 3 * i)) (by simp [ps_len]; omega) (c_X10_init _ _) yi_X10 mi_X5_24 (by decide) dX5_init_45 (Nat.le_of_ble_eq_true rfl) (hR _ _ (by omega) (by omega)) ?_
    refine fd_Zaa F dX5_init_48 (a := 0) (j := (3 + 3 * i)) rfl (zg (by simp [ps_len]; omega)) (by
      unfold vp_in
      rw [nI_clamp (by omega)]
      intro h
      rcases h with h | h
      · exact nI_pos (by omega) h
      · omega) ?_
    refine fd_zinc F dX5_init_49 rfl (by decide) rfl ?_
    refine fd_zgo F dX5_init_52 (j := 30) rfl ?_
    have e1 : nI i + Int32.ofInt 1 = nI (i + 1) := by
      have h1 : Int32.ofInt 1 = nI 1 := by decide
      rw [h1]
      exact nI_add i 1
    have e2 : fd_st1 [.ref k, .int (nI i)] 1 (.int (nI i + Int32.ofInt 1)) = [.ref k, .int (nI (i + 1))] := by
      rw [← e1]
      rfl
    have := ih (i + 1) (by omega) e2
    rw [nI_clamp (by omega)]
    have e3 : kc + 3 * (i + 1) = kc + 3 * i + 1 + 2 := by omega
    have e4 : ks + 26 * (i + 1) = ks + 26 * i + 10 + 16 := by omega
    rw [e3, e4] at this
    refine fd_zE ?_ this
    show _ :: (_ :: _) = pq _ _ _ _ _ :: (_ :: _)
    refine congr (congrArg List.cons (pq_up.symm)) (congr (congrArg List.cons rfl) ?_)
    show _ :: _ = _ :: _
    refine congr (congrArg List.cons rfl) ?_
    simp [ps]
theorem pl_b {X : fd_X} {Q : State → Prop} {es : List va_E} {k : Nat} (F : fd_F X cX5_init RX5 2 none 2) (Fc : fd_Fc X) (hR : ∀ a b, a ≤ 45 → b ≤ 380 → fd_Rm X a b) (hk : k < es.length) {fs : List Value} (hf : fs[3]? = some (.ref (fd_b X + (es.length + 1)))) {kc ks : Nat} (hkc : kc + 3 * 2 ≤ 45) (hks : ks + 26 * 2 ≤ 380) (kk : fd_Z X 2 Q 81 [] [.ref k, .int (nI 2)] (fd_zs es k 5 fs (pq X.1 es.length 3 12 12 :: pq X.1 es.length 39 2 2 :: fd_na X.1 2 2 :: (ps X.1 es.length 3 12 ++ ps X.1 es.length 39 2))) (kc + 3 * 2) (ks + 26 * 2)) : ∀ (r i : Nat) {L : List Value}, i + r = 2 → L = [.ref k, .int (nI i)] → fd_Z X 2 Q 57 [] L (fd_zs es k 5 fs (pq X.1 es.length 3 12 12 :: pq X.1 es.length 39 2 i :: fd_na X.1 2 2 :: (ps X.1 es.length 3 12 ++ ps X.1 es.length 39 i))) (kc + 3 * i) (ks + 26 * i) := by
  intro r
  induction r with
  | zero =>
    intro i L hi hL
    subst hL
    have : i = 2 := by omega
    subst this
    refine fd_zil F dX5_init_57 rfl rfl ?_
    refine fd_zic F dX5_init_58 ki_2 ?_
    refine fd_zge F dX5_init_59 (j := 81) rfl (fun _ => ?_) (fun h => absurd h (by decide))
    exact kk
  | succ r ih =>
    intro i L hi hL
    subst hL
    refine fd_zil F dX5_init_57 rfl rfl ?_
    refine fd_zic F dX5_init_58 ki_2 ?_
    have hi1 : i < 2 := by omega
    refine fd_zge F dX5_init_59 (j := 81) rfl (fun h => ?_) (fun _ => ?_)
    · exfalso
      have h2 : (2 : Int32) ≤ nI i := h
      have h3 : (2 : Int32) = nI 2 := by decide
      rw [h3, nI_leI (by omega) (by omega)] at h2
      omega
    refine fd_zal F dX5_init_62 rfl rfl ?_
    refine fd_zget F fo_X5_17 dX5_init_63 (zs_at hk) hf ?_
    refine fd_zil F dX5_init_66 rfl rfl ?_
    refine fd_Znew F (m := (39 + 3 * i)) (by simp [ps_len]; omega) dX5_init_67 inX10 tyX10 tyX10_ok cn_X5_11 is_X10 ii_X10 (ci := 10) rfl bl_X10 (hR _ _ (by omega) (by omega)) ?_
    refine fd_zdup F dX5_init_70 ?_
    refine fd_Zca F Fc.a (m := (39 + 3 * i)) (by simp [ps_len]; omega) (c_X10_init _ _) yi_X10 mi_X5_24 (by decide) dX5_init_71 (Nat.le_of_ble_eq_true rfl) (hR _ _ (by omega) (by omega)) ?_
    refine fd_Zaa F dX5_init_74 (a := 1) (j := (39 + 3 * i)) rfl (zg (by simp [ps_len]; omega)) (by
      unfold vp_in
      rw [nI_clamp (by omega)]
      intro h
      rcases h with h | h
      · exact nI_pos (by omega) h
      · omega) ?_
    refine fd_zinc F dX5_init_75 rfl (by decide) rfl ?_
    refine fd_zgo F dX5_init_78 (j := 57) rfl ?_
    have e1 : nI i + Int32.ofInt 1 = nI (i + 1) := by
      have h1 : Int32.ofInt 1 = nI 1 := by decide
      rw [h1]
      exact nI_add i 1
    have e2 : fd_st1 [.ref k, .int (nI i)] 1 (.int (nI i + Int32.ofInt 1)) = [.ref k, .int (nI (i + 1))] := by
      rw [← e1]
      rfl
    have := ih (i + 1) (by omega) e2
    rw [nI_clamp (by omega)]
    have e3 : kc + 3 * (i + 1) = kc + 3 * i + 1 + 2 := by omega
    have e4 : ks + 26 * (i + 1) = ks + 26 * i + 10 + 16 := by omega
    rw [e3, e4] at this
    refine fd_zE ?_ this
    show pq _ _ _ _ _ :: (_ :: _) = pq _ _ _ _ _ :: (_ :: _)
    refine congr (congrArg List.cons rfl) (congr (congrArg List.cons (pq_up.symm)) ?_)
    show _ :: _ = _ :: _
    refine congr (congrArg List.cons rfl) ?_
    simp [ps]

def zf_X5 (g : fd_G) (n : Nat) : List Value := [.ref (g.1 + (n + 0)), .int 0, .int 0, .ref (g.1 + (n + 1)), .ref (g.1 + (n + 2))]
def zt_X5 (g : fd_G) (n : Nat) : List va_E := [] ++ (pq g n 3 12 12 :: pq g n 39 2 2 :: fd_na g 2 2 :: (ps g n 3 12 ++ ps g n 39 2))
theorem zl_X5 (g : fd_G) (n : Nat) : (zt_X5 g n).length = 45 := by simp [zt_X5, fd_rr, ps_len]
theorem c_X5_init (l : Launch) (g : fd_G) : fd_ConI l g yX5_init cX5_init 2 2 45 380 5 [.null, .int 0, .int 0, .null, .null] (zf_X5 g) (zt_X5 g) := fd_mkI (by decide) rfl (by decide) (fun X es k h1 h2 hk F Fc hR => by
  subst h1
  subst h2
  refine fd_zal F dX5_init_0 rfl rfl ?_
  refine fd_zob F dX5_init_1 ob_X5 ob_im ob_cd (by decide) ?_
  refine fd_zal F dX5_init_4 rfl rfl ?_
  refine fd_zbi F dX5_init_5 kb_12 ?_
  refine fd_Zan F Fc (m := 0) rfl dX5_init_7 cl_X5_11 (N := 12) (by decide) (by decide) (by decide) (hR _ _ (by decide) (by decide)) ?_
  refine fd_Zpu F Fc hk fo_X5_13 fq_X5_0 dX5_init_10 (Nat.le_of_ble_eq_true rfl) rfl rfl ?_
  refine fd_zal F dX5_init_13 rfl rfl ?_
  refine fd_zic F dX5_init_14 ki_2 ?_
  refine fd_Zan F Fc (m := 1) rfl dX5_init_15 cl_X5_11 (N := 2) (by decide) (by decide) (by decide) (hR _ _ (by decide) (by decide)) ?_
  refine fd_Zpu F Fc hk fo_X5_17 fq_X5_3 dX5_init_18 (Nat.le_of_ble_eq_true rfl) rfl rfl ?_
  refine fd_zal F dX5_init_21 rfl rfl ?_
  refine fd_zic F dX5_init_22 ki_2 ?_
  refine fd_Zna F (m := 2) rfl dX5_init_23 ac_boolean (t := 2) (N := 2) rfl (by decide) (by decide) (by decide) (by decide) (fun _ => rfl) (hR _ _ (by decide) (by decide)) ?_
  refine fd_Zpu F Fc hk fo_X5_20 fq_X5_4 dX5_init_25 (Nat.le_of_ble_eq_true rfl) rfl rfl ?_
  refine fd_zic F dX5_init_28 ki_0 ?_
  refine fd_zis F dX5_init_29 rfl (by decide) ?_
  refine fd_zE (tl' := pq X.1 es.length 3 12 0 :: .inl (X.1.2.1 6, 2, .inr (.inr (.inr (.inr fun _ => none)))) :: fd_na X.1 2 2 :: ps X.1 es.length 3 0) (by first | (rw [pq0, ps0]; done) | (rw [pq0, ps0]; rfl)) ?_
  refine pl_a F Fc hR hk rfl (kc := 3) (ks := 16) (by decide) (by decide) ?_ 12 0 rfl rfl
  refine fd_zic F dX5_init_55 ki_0 ?_
  refine fd_zis F dX5_init_56 rfl (by decide) ?_
  refine fd_zE (tl' := pq X.1 es.length 3 12 12 :: pq X.1 es.length 39 2 0 :: fd_na X.1 2 2 :: (ps X.1 es.length 3 12 ++ ps X.1 es.length 39 0)) (by rw [pq0, ps0, List.append_nil]) ?_
  refine pl_b F Fc hR hk rfl (kc := 3 + 3 * 12) (ks := 16 + 26 * 12) (by decide) (by decide) ?_ 2 0 rfl rfl
  exact fd_zret F dX5_init_81 rfl rfl rfl)
def zf_X0 (g : fd_G) (n : Nat) : List Value := [.ref (g.1 + (n + 0)), .ref (g.1 + (n + 1))]
def zt_X0 (g : fd_G) (n : Nat) : List va_E := [] ++ [fd_na g 0 60] ++ [fd_na g 0 60]
theorem zl_X0 (g : fd_G) (n : Nat) : (zt_X0 g n).length = 2 := by simp [zt_X0, fd_rr, List.length_replicate]
theorem c_X0_init (l : Launch) (g : fd_G) : fd_ConI l g yX0_init cX0_init 1 1 2 120 0 [.null, .null] (zf_X0 g) (zt_X0 g) := fd_mkI (by decide) rfl (by decide) (fun X es k h1 h2 hk F Fc hR => by
  subst h1
  subst h2
  refine fd_zal F dX0_init_0 rfl rfl ?_
  refine fd_zob F dX0_init_1 ob_X0 ob_im ob_cd (by decide) ?_
  refine fd_zal F dX0_init_4 rfl rfl ?_
  refine fd_zbi F dX0_init_5 kb_60 ?_
  refine fd_Zna F (m := 0) rfl dX0_init_7 ac_int (t := 0) (N := 60) rfl (by decide) (by decide) (by decide) (by decide) (fun _ => rfl) (hR _ _ (by decide) (by decide)) ?_
  refine fd_Zpu F Fc hk fo_X0_11 fq_X0_0 dX0_init_9 (Nat.le_of_ble_eq_true rfl) rfl rfl ?_
  refine fd_zal F dX0_init_12 rfl rfl ?_
  refine fd_zbi F dX0_init_13 kb_60 ?_
  refine fd_Zna F (m := 1) rfl dX0_init_15 ac_int (t := 0) (N := 60) rfl (by decide) (by decide) (by decide) (by decide) (fun _ => rfl) (hR _ _ (by decide) (by decide)) ?_
  refine fd_Zpu F Fc hk fo_X0_15 fq_X0_1 dX0_init_17 (Nat.le_of_ble_eq_true rfl) rfl rfl ?_
  exact fd_zret F dX0_init_20 rfl rfl rfl)
def zf_X6 (g : fd_G) (n : Nat) : List Value := [.int 0, .int 0, .int 0, .int 0, .ref (g.1 + (n + 0)), .ref (g.1 + (n + 13)), .ref (g.1 + (n + 26)), .ref (g.1 + (n + 40)), .ref (g.1 + (n + 54)), .ref (g.1 + (n + 55)), .ref (g.1 + (n + 56)), .ref (g.1 + (n + 57)), .int 0]
def zt_X6 (g : fd_G) (n : Nat) : List va_E := [] ++ fd_rr g (n + 0) 12 9 ++ fd_rr g (n + 13) 12 9 ++ fd_rr g (n + 26) 13 256 ++ fd_rr g (n + 40) 13 256 ++ [fd_na g 0 256] ++ [fd_na g 2 256] ++ [fd_na g 0 12] ++ [fd_na g 0 13]
theorem zl_X6 (g : fd_G) (n : Nat) : (zt_X6 g n).length = 58 := by simp [zt_X6, fd_rr, List.length_replicate]
theorem c_X6_init (l : Launch) (g : fd_G) : fd_ConI l g yX6_init cX6_init 1 1 58 7459 6 [.int 0, .int 0, .int 0, .int 0, .null, .null, .null, .null, .null, .null, .null, .null, .int 0] (zf_X6 g) (zt_X6 g) := fd_mkI (by decide) rfl (by decide) (fun X es k h1 h2 hk F Fc hR => by
  subst h1
  subst h2
  refine fd_zal F dX6_init_0 rfl rfl ?_
  refine fd_zob F dX6_init_1 ob_X6 ob_im ob_cd (by decide) ?_
  refine fd_zal F dX6_init_4 rfl rfl ?_
  refine fd_zbi F dX6_init_5 kb_12 ?_
  refine fd_zbi F dX6_init_7 kb_9 ?_
  refine fd_Zmu F Fc (m := 0) rfl dX6_init_9 cl_X6_11 ac_int (N := 12) (K := 9) (by decide) (by decide) (by decide) (by decide) (by decide) (by decide) (by decide) (hR _ _ (by decide) (by decide)) ?_
  refine fd_Zpu F Fc hk fo_X6_13 fq_X6_4 dX6_init_13 (Nat.le_of_ble_eq_true rfl) rfl rfl ?_
  refine fd_zal F dX6_init_16 rfl rfl ?_
  refine fd_zbi F dX6_init_17 kb_12 ?_
  refine fd_zbi F dX6_init_19 kb_9 ?_
  refine fd_Zmu F Fc (m := 13) rfl dX6_init_21 cl_X6_11 ac_int (N := 12) (K := 9) (by decide) (by decide) (by decide) (by decide) (by decide) (by decide) (by decide) (hR _ _ (by decide) (by decide)) ?_
  refine fd_Zpu F Fc hk fo_X6_16 fq_X6_5 dX6_init_25 (Nat.le_of_ble_eq_true rfl) rfl rfl ?_
  refine fd_zal F dX6_init_28 rfl rfl ?_
  refine fd_zbi F dX6_init_29 kb_13 ?_
  refine fd_zsi F dX6_init_31 ks_256 ?_
  refine fd_Zmu F Fc (m := 26) rfl dX6_init_34 cl_X6_11 ac_int (N := 13) (K := 256) (by decide) (by decide) (by decide) (by decide) (by decide) (by decide) (by decide) (hR _ _ (by decide) (by decide)) ?_
  refine fd_Zpu F Fc hk fo_X6_19 fq_X6_6 dX6_init_38 (Nat.le_of_ble_eq_true rfl) rfl rfl ?_
  refine fd_zal F dX6_init_41 rfl rfl ?_
  refine fd_zbi F dX6_init_42 kb_13 ?_
  refine fd_zsi F dX6_init_44 ks_256 ?_
  refine fd_Zmu F Fc (m := 40) rfl dX6_init_47 cl_X6_11 ac_int (N := 13) (K := 256) (by decide) (by decide) (by decide) (by decide) (by decide) (by decide) (by decide) (hR _ _ (by decide) (by decide)) ?_
  refine fd_Zpu F Fc hk fo_X6_22 fq_X6_7 dX6_init_51 (Nat.le_of_ble_eq_true rfl) rfl rfl ?_
  refine fd_zal F dX6_init_54 rfl rfl ?_
  refine fd_zsi F dX6_init_55 ks_256 ?_
  refine fd_Zna F (m := 54) rfl dX6_init_58 ac_int (t := 0) (N := 256) rfl (by decide) (by decide) (by decide) (by decide) (fun _ => rfl) (hR _ _ (by decide) (by decide)) ?_
  refine fd_Zpu F Fc hk fo_X6_25 fq_X6_8 dX6_init_60 (Nat.le_of_ble_eq_true rfl) rfl rfl ?_
  refine fd_zal F dX6_init_63 rfl rfl ?_
  refine fd_zsi F dX6_init_64 ks_256 ?_
  refine fd_Zna F (m := 55) rfl dX6_init_67 ac_boolean (t := 2) (N := 256) rfl (by decide) (by decide) (by decide) (by decide) (fun _ => rfl) (hR _ _ (by decide) (by decide)) ?_
  refine fd_Zpu F Fc hk fo_X6_29 fq_X6_9 dX6_init_69 (Nat.le_of_ble_eq_true rfl) rfl rfl ?_
  refine fd_zal F dX6_init_72 rfl rfl ?_
  refine fd_zbi F dX6_init_73 kb_12 ?_
  refine fd_Zna F (m := 56) rfl dX6_init_75 ac_int (t := 0) (N := 12) rfl (by decide) (by decide) (by decide) (by decide) (fun _ => rfl) (hR _ _ (by decide) (by decide)) ?_
  refine fd_Zpu F Fc hk fo_X6_33 fq_X6_10 dX6_init_77 (Nat.le_of_ble_eq_true rfl) rfl rfl ?_
  refine fd_zal F dX6_init_80 rfl rfl ?_
  refine fd_zbi F dX6_init_81 kb_13 ?_
  refine fd_Zna F (m := 57) rfl dX6_init_83 ac_int (t := 0) (N := 13) rfl (by decide) (by decide) (by decide) (by decide) (fun _ => rfl) (hR _ _ (by decide) (by decide)) ?_
  refine fd_Zpu F Fc hk fo_X6_36 fq_X6_11 dX6_init_85 (Nat.le_of_ble_eq_true rfl) rfl rfl ?_
  exact fd_zret F dX6_init_88 rfl rfl rfl)
def zf_X9 (g : fd_G) (n : Nat) : List Value := [.int 0, .ref (g.1 + (n + 0)), .ref (g.1 + (n + 10)), .ref (g.1 + (n + 11)), .ref (g.1 + (n + 12)), .ref (g.1 + (n + 13)), .ref (g.1 + (n + 14)), .ref (g.1 + (n + 15)), .ref (g.1 + (n + 16))]
def zt_X9 (g : fd_G) (n : Nat) : List va_E := [] ++ fd_rr g (n + 0) 9 12 ++ [fd_na g 0 9] ++ [fd_na g 0 8] ++ [fd_na g 0 13] ++ [fd_na g 0 13] ++ [fd_na g 2 8] ++ [fd_na g 0 8] ++ fd_rr g (n + 16) 8 8
theorem zl_X9 (g : fd_G) (n : Nat) : (zt_X9 g n).length = 25 := by simp [zt_X9, fd_rr, List.length_replicate]
theorem c_X9_init (l : Launch) (g : fd_G) : fd_ConI l g yX9_init cX9_init 1 1 25 248 9 [.int 0, .null, .null, .null, .null, .null, .null, .null, .null] (zf_X9 g) (zt_X9 g) := fd_mkI (by decide) rfl (by decide) (fun X es k h1 h2 hk F Fc hR => by
  subst h1
  subst h2
  refine fd_zal F dX9_init_0 rfl rfl ?_
  refine fd_zob F dX9_init_1 ob_X9 ob_im ob_cd (by decide) ?_
  refine fd_zal F dX9_init_4 rfl rfl ?_
  refine fd_zbi F dX9_init_5 kb_9 ?_
  refine fd_zbi F dX9_init_7 kb_12 ?_
  refine fd_Zmu F Fc (m := 0) rfl dX9_init_9 cl_X9_9 ac_int (N := 9) (K := 12) (by decide) (by decide) (by decide) (by decide) (by decide) (by decide) (by decide) (hR _ _ (by decide) (by decide)) ?_
  refine fd_Zpu F Fc hk fo_X9_11 fq_X9_1 dX9_init_13 (Nat.le_of_ble_eq_true rfl) rfl rfl ?_
  refine fd_zal F dX9_init_16 rfl rfl ?_
  refine fd_zbi F dX9_init_17 kb_9 ?_
  refine fd_Zna F (m := 10) rfl dX9_init_19 ac_int (t := 0) (N := 9) rfl (by decide) (by decide) (by decide) (by decide) (fun _ => rfl) (hR _ _ (by decide) (by decide)) ?_
  refine fd_Zpu F Fc hk fo_X9_16 fq_X9_2 dX9_init_21 (Nat.le_of_ble_eq_true rfl) rfl rfl ?_
  refine fd_zal F dX9_init_24 rfl rfl ?_
  refine fd_zbi F dX9_init_25 kb_8 ?_
  refine fd_Zna F (m := 11) rfl dX9_init_27 ac_int (t := 0) (N := 8) rfl (by decide) (by decide) (by decide) (by decide) (fun _ => rfl) (hR _ _ (by decide) (by decide)) ?_
  refine fd_Zpu F Fc hk fo_X9_20 fq_X9_3 dX9_init_29 (Nat.le_of_ble_eq_true rfl) rfl rfl ?_
  refine fd_zal F dX9_init_32 rfl rfl ?_
  refine fd_zbi F dX9_init_33 kb_13 ?_
  refine fd_Zna F (m := 12) rfl dX9_init_35 ac_int (t := 0) (N := 13) rfl (by decide) (by decide) (by decide) (by decide) (fun _ => rfl) (hR _ _ (by decide) (by decide)) ?_
  refine fd_Zpu F Fc hk fo_X9_23 fq_X9_4 dX9_init_37 (Nat.le_of_ble_eq_true rfl) rfl rfl ?_
  refine fd_zal F dX9_init_40 rfl rfl ?_
  refine fd_zbi F dX9_init_41 kb_13 ?_
  refine fd_Zna F (m := 13) rfl dX9_init_43 ac_int (t := 0) (N := 13) rfl (by decide) (by decide) (by decide) (by decide) (fun _ => rfl) (hR _ _ (by decide) (by decide)) ?_
  refine fd_Zpu F Fc hk fo_X9_26 fq_X9_5 dX9_init_45 (Nat.le_of_ble_eq_true rfl) rfl rfl ?_
  refine fd_zal F dX9_init_48 rfl rfl ?_
  refine fd_zbi F dX9_init_49 kb_8 ?_
  refine fd_Zna F (m := 14) rfl dX9_init_51 ac_boolean (t := 2) (N := 8) rfl (by decide) (by decide) (by decide) (by decide) (fun _ => rfl) (hR _ _ (by decide) (by decide)) ?_
  refine fd_Zpu F Fc hk fo_X9_29 fq_X9_6 dX9_init_53 (Nat.le_of_ble_eq_true rfl) rfl rfl ?_
  refine fd_zal F dX9_init_56 rfl rfl ?_
  refine fd_zbi F dX9_init_57 kb_8 ?_
  refine fd_Zna F (m := 15) rfl dX9_init_59 ac_int (t := 0) (N := 8) rfl (by decide) (by decide) (by decide) (by decide) (fun _ => rfl) (hR _ _ (by decide) (by decide)) ?_
  refine fd_Zpu F Fc hk fo_X9_33 fq_X9_7 dX9_init_61 (Nat.le_of_ble_eq_true rfl) rfl rfl ?_
  refine fd_zal F dX9_init_64 rfl rfl ?_
  refine fd_zbi F dX9_init_65 kb_8 ?_
  refine fd_zbi F dX9_init_67 kb_8 ?_
  refine fd_Zmu F Fc (m := 16) rfl dX9_init_69 cl_X9_9 ac_int (N := 8) (K := 8) (by decide) (by decide) (by decide) (by decide) (by decide) (by decide) (by decide) (hR _ _ (by decide) (by decide)) ?_
  refine fd_Zpu F Fc hk fo_X9_36 fq_X9_8 dX9_init_73 (Nat.le_of_ble_eq_true rfl) rfl rfl ?_
  exact fd_zret F dX9_init_76 rfl rfl rfl)
def zf_X11 (g : fd_G) (n : Nat) : List Value := [.ref (g.1 + (n + 0)), .ref (g.1 + (n + 2)), .ref (g.1 + (n + 4)), .ref (g.1 + (n + 29)), .ref (g.1 + (n + 30)), .ref (g.1 + (n + 34)), .ref (g.1 + (n + 41)), .ref (g.1 + (n + 44)), .ref (g.1 + (n + 47)), .ref (g.1 + (n + 93)), .ref (g.1 + (n + 96)), .ref (g.1 + (n + 155)), .int 0]
def zt_X11 (g : fd_G) (n : Nat) : List va_E := [] ++ (.inr (7, zf_X7 g (n + 1)) :: zt_X7 g (n + 1)) ++ (.inr (4, zf_X4 g (n + 3)) :: zt_X4 g (n + 3)) ++ (.inr (3, zf_X3 g (n + 5)) :: zt_X3 g (n + 5)) ++ (.inr (8, zf_X8 g (n + 30)) :: zt_X8 g (n + 30)) ++ (.inr (1, zf_X1 g (n + 31)) :: zt_X1 g (n + 31)) ++ (.inr (2, zf_X2 g (n + 35)) :: zt_X2 g (n + 35)) ++ (.inr (10, zf_X10 g (n + 42)) :: zt_X10 g (n + 42)) ++ (.inr (10, zf_X10 g (n + 45)) :: zt_X10 g (n + 45)) ++ (.inr (5, zf_X5 g (n + 48)) :: zt_X5 g (n + 48)) ++ (.inr (0, zf_X0 g (n + 94)) :: zt_X0 g (n + 94)) ++ (.inr (6, zf_X6 g (n + 97)) :: zt_X6 g (n + 97)) ++ (.inr (9, zf_X9 g (n + 156)) :: zt_X9 g (n + 156))
theorem zl_X11 (g : fd_G) (n : Nat) : (zt_X11 g n).length = 181 := by simp [zt_X11, fd_rr, List.length_replicate, zl_X7, zl_X4, zl_X3, zl_X8, zl_X1, zl_X2, zl_X10, zl_X5, zl_X0, zl_X6, zl_X9]
theorem c_X11_init (l : Launch) (g : fd_G) : fd_ConI l g yX11_init cX11_init 1 3 181 8876 11 [.null, .null, .null, .null, .null, .null, .null, .null, .null, .null, .null, .null, .int 0] (zf_X11 g) (zt_X11 g) := fd_mkI (by decide) rfl (by decide) (fun X es k h1 h2 hk F Fc hR => by
  subst h1
  subst h2
  refine fd_zal F dX11_init_0 rfl rfl ?_
  refine fd_zob F dX11_init_1 ob_X11 ob_im ob_cd (by decide) ?_
  refine fd_zal F dX11_init_4 rfl rfl ?_
  refine fd_Znew F (m := 0) (by simp only [List.length_append, List.length_cons, List.length_nil, zl_X7, zl_X4, zl_X3, zl_X8, zl_X1, zl_X2, zl_X10, zl_X5, zl_X0, zl_X6, zl_X9]) dX11_init_5 inX7 tyX7 tyX7_ok cn_X11_7 is_X7 ii_X7 (ci := 7) rfl bl_X7 (hR _ _ (by decide) (by decide)) ?_
  refine fd_zdup F dX11_init_8 ?_
  refine fd_Zca F Fc.a (m := 0) (by simp only [List.length_append, List.length_cons, List.length_nil, zl_X7, zl_X4, zl_X3, zl_X8, zl_X1, zl_X2, zl_X10, zl_X5, zl_X0, zl_X6, zl_X9]) (c_X7_init _ _) yi_X7 mi_X11_9 (by decide) dX11_init_9 (Nat.le_of_ble_eq_true rfl) (hR _ _ (by decide) (by decide)) ?_
  refine fd_Zpu F Fc hk fo_X11_10 fq_X11_0 dX11_init_12 (Nat.le_of_ble_eq_true rfl) rfl rfl ?_
  refine fd_zal F dX11_init_15 rfl rfl ?_
  refine fd_Znew F (m := 2) (by simp only [List.length_append, List.length_cons, List.length_nil, zl_X7, zl_X4, zl_X3, zl_X8, zl_X1, zl_X2, zl_X10, zl_X5, zl_X0, zl_X6, zl_X9]) dX11_init_16 inX4 tyX4 tyX4_ok cn_X11_16 is_X4 ii_X4 (ci := 4) rfl bl_X4 (hR _ _ (by decide) (by decide)) ?_
  refine fd_zdup F dX11_init_19 ?_
  refine fd_Zca F Fc.a (m := 2) (by simp only [List.length_append, List.length_cons, List.length_nil, zl_X7, zl_X4, zl_X3, zl_X8, zl_X1, zl_X2, zl_X10, zl_X5, zl_X0, zl_X6, zl_X9]) (c_X4_init _ _) yi_X4 mi_X11_18 (by decide) dX11_init_20 (Nat.le_of_ble_eq_true rfl) (hR _ _ (by decide) (by decide)) ?_
  refine fd_Zpu F Fc hk fo_X11_19 fq_X11_1 dX11_init_23 (Nat.le_of_ble_eq_true rfl) rfl rfl ?_
  refine fd_zal F dX11_init_26 rfl rfl ?_
  refine fd_Znew F (m := 4) (by simp only [List.length_append, List.length_cons, List.length_nil, zl_X7, zl_X4, zl_X3, zl_X8, zl_X1, zl_X2, zl_X10, zl_X5, zl_X0, zl_X6, zl_X9]) dX11_init_27 inX3 tyX3 tyX3_ok cn_X11_23 is_X3 ii_X3 (ci := 3) rfl bl_X3 (hR _ _ (by decide) (by decide)) ?_
  refine fd_zdup F dX11_init_30 ?_
  refine fd_Zca F Fc.a (m := 4) (by simp only [List.length_append, List.length_cons, List.length_nil, zl_X7, zl_X4, zl_X3, zl_X8, zl_X1, zl_X2, zl_X10, zl_X5, zl_X0, zl_X6, zl_X9]) (c_X3_init _ _) yi_X3 mi_X11_25 (by decide) dX11_init_31 (Nat.le_of_ble_eq_true rfl) (hR _ _ (by decide) (by decide)) ?_
  refine fd_Zpu F Fc hk fo_X11_26 fq_X11_2 dX11_init_34 (Nat.le_of_ble_eq_true rfl) rfl rfl ?_
  refine fd_zal F dX11_init_37 rfl rfl ?_
  refine fd_Znew F (m := 29) (by simp only [List.length_append, List.length_cons, List.length_nil, zl_X7, zl_X4, zl_X3, zl_X8, zl_X1, zl_X2, zl_X10, zl_X5, zl_X0, zl_X6, zl_X9]) dX11_init_38 inX8 tyX8 tyX8_ok cn_X11_30 is_X8 ii_X8 (ci := 8) rfl bl_X8 (hR _ _ (by decide) (by decide)) ?_
  refine fd_zdup F dX11_init_41 ?_
  refine fd_Zca F Fc.a (m := 29) (by simp only [List.length_append, List.length_cons, List.length_nil, zl_X7, zl_X4, zl_X3, zl_X8, zl_X1, zl_X2, zl_X10, zl_X5, zl_X0, zl_X6, zl_X9]) (c_X8_init _ _) yi_X8 mi_X11_32 (by decide) dX11_init_42 (Nat.le_of_ble_eq_true rfl) (hR _ _ (by decide) (by decide)) ?_
  refine fd_Zpu F Fc hk fo_X11_33 fq_X11_3 dX11_init_45 (Nat.le_of_ble_eq_true rfl) rfl rfl ?_
  refine fd_zal F dX11_init_48 rfl rfl ?_
  refine fd_Znew F (m := 30) (by simp only [List.length_append, List.length_cons, List.length_nil, zl_X7, zl_X4, zl_X3, zl_X8, zl_X1, zl_X2, zl_X10, zl_X5, zl_X0, zl_X6, zl_X9]) dX11_init_49 inX1 tyX1 tyX1_ok cn_X11_37 is_X1 ii_X1 (ci := 1) rfl bl_X1 (hR _ _ (by decide) (by decide)) ?_
  refine fd_zdup F dX11_init_52 ?_
  refine fd_Zca F Fc.a (m := 30) (by simp only [List.length_append, List.length_cons, List.length_nil, zl_X7, zl_X4, zl_X3, zl_X8, zl_X1, zl_X2, zl_X10, zl_X5, zl_X0, zl_X6, zl_X9]) (c_X1_init _ _) yi_X1 mi_X11_39 (by decide) dX11_init_53 (Nat.le_of_ble_eq_true rfl) (hR _ _ (by decide) (by decide)) ?_
  refine fd_Zpu F Fc hk fo_X11_40 fq_X11_4 dX11_init_56 (Nat.le_of_ble_eq_true rfl) rfl rfl ?_
  refine fd_zal F dX11_init_59 rfl rfl ?_
  refine fd_Znew F (m := 34) (by simp only [List.length_append, List.length_cons, List.length_nil, zl_X7, zl_X4, zl_X3, zl_X8, zl_X1, zl_X2, zl_X10, zl_X5, zl_X0, zl_X6, zl_X9]) dX11_init_60 inX2 tyX2 tyX2_ok cn_X11_44 is_X2 ii_X2 (ci := 2) rfl bl_X2 (hR _ _ (by decide) (by decide)) ?_
  refine fd_zdup F dX11_init_63 ?_
  refine fd_Zca F Fc.a (m := 34) (by simp only [List.length_append, List.length_cons, List.length_nil, zl_X7, zl_X4, zl_X3, zl_X8, zl_X1, zl_X2, zl_X10, zl_X5, zl_X0, zl_X6, zl_X9]) (c_X2_init _ _) yi_X2 mi_X11_46 (by decide) dX11_init_64 (Nat.le_of_ble_eq_true rfl) (hR _ _ (by decide) (by decide)) ?_
  refine fd_Zpu F Fc hk fo_X11_47 fq_X11_5 dX11_init_67 (Nat.le_of_ble_eq_true rfl) rfl rfl ?_
  refine fd_zal F dX11_init_70 rfl rfl ?_
  refine fd_Znew F (m := 41) (by simp only [List.length_append, List.length_cons, List.length_nil, zl_X7, zl_X4, zl_X3, zl_X8, zl_X1, zl_X2, zl_X10, zl_X5, zl_X0, zl_X6, zl_X9]) dX11_init_71 inX10 tyX10 tyX10_ok cn_X11_51 is_X10 ii_X10 (ci := 10) rfl bl_X10 (hR _ _ (by decide) (by decide)) ?_
  refine fd_zdup F dX11_init_74 ?_
  refine fd_Zca F Fc.a (m := 41) (by simp only [List.length_append, List.length_cons, List.length_nil, zl_X7, zl_X4, zl_X3, zl_X8, zl_X1, zl_X2, zl_X10, zl_X5, zl_X0, zl_X6, zl_X9]) (c_X10_init _ _) yi_X10 mi_X11_53 (by decide) dX11_init_75 (Nat.le_of_ble_eq_true rfl) (hR _ _ (by decide) (by decide)) ?_
  refine fd_Zpu F Fc hk fo_X11_54 fq_X11_6 dX11_init_78 (Nat.le_of_ble_eq_true rfl) rfl rfl ?_
  refine fd_zal F dX11_init_81 rfl rfl ?_
  refine fd_Znew F (m := 44) (by simp only [List.length_append, List.length_cons, List.length_nil, zl_X7, zl_X4, zl_X3, zl_X8, zl_X1, zl_X2, zl_X10, zl_X5, zl_X0, zl_X6, zl_X9]) dX11_init_82 inX10 tyX10 tyX10_ok cn_X11_51 is_X10 ii_X10 (ci := 10) rfl bl_X10 (hR _ _ (by decide) (by decide)) ?_
  refine fd_zdup F dX11_init_85 ?_
  refine fd_Zca F Fc.a (m := 44) (by simp only [List.length_append, List.length_cons, List.length_nil, zl_X7, zl_X4, zl_X3, zl_X8, zl_X1, zl_X2, zl_X10, zl_X5, zl_X0, zl_X6, zl_X9]) (c_X10_init _ _) yi_X10 mi_X11_53 (by decide) dX11_init_86 (Nat.le_of_ble_eq_true rfl) (hR _ _ (by decide) (by decide)) ?_
  refine fd_Zpu F Fc hk fo_X11_58 fq_X11_7 dX11_init_89 (Nat.le_of_ble_eq_true rfl) rfl rfl ?_
  refine fd_zal F dX11_init_92 rfl rfl ?_
  refine fd_Znew F (m := 47) (by simp only [List.length_append, List.length_cons, List.length_nil, zl_X7, zl_X4, zl_X3, zl_X8, zl_X1, zl_X2, zl_X10, zl_X5, zl_X0, zl_X6, zl_X9]) dX11_init_93 inX5 tyX5 tyX5_ok cn_X11_61 is_X5 ii_X5 (ci := 5) rfl bl_X5 (hR _ _ (by decide) (by decide)) ?_
  refine fd_zdup F dX11_init_96 ?_
  refine fd_Zca F Fc.a (m := 47) (by simp only [List.length_append, List.length_cons, List.length_nil, zl_X7, zl_X4, zl_X3, zl_X8, zl_X1, zl_X2, zl_X10, zl_X5, zl_X0, zl_X6, zl_X9]) (c_X5_init _ _) yi_X5 mi_X11_63 (by decide) dX11_init_97 (Nat.le_of_ble_eq_true rfl) (hR _ _ (by decide) (by decide)) ?_
  refine fd_Zpu F Fc hk fo_X11_64 fq_X11_8 dX11_init_100 (Nat.le_of_ble_eq_true rfl) rfl rfl ?_
  refine fd_zal F dX11_init_103 rfl rfl ?_
  refine fd_Znew F (m := 93) (by simp only [List.length_append, List.length_cons, List.length_nil, zl_X7, zl_X4, zl_X3, zl_X8, zl_X1, zl_X2, zl_X10, zl_X5, zl_X0, zl_X6, zl_X9]) dX11_init_104 inX0 tyX0 tyX0_ok cn_X11_68 is_X0 ii_X0 (ci := 0) rfl bl_X0 (hR _ _ (by decide) (by decide)) ?_
  refine fd_zdup F dX11_init_107 ?_
  refine fd_Zca F Fc.a (m := 93) (by simp only [List.length_append, List.length_cons, List.length_nil, zl_X7, zl_X4, zl_X3, zl_X8, zl_X1, zl_X2, zl_X10, zl_X5, zl_X0, zl_X6, zl_X9]) (c_X0_init _ _) yi_X0 mi_X11_70 (by decide) dX11_init_108 (Nat.le_of_ble_eq_true rfl) (hR _ _ (by decide) (by decide)) ?_
  refine fd_Zpu F Fc hk fo_X11_71 fq_X11_9 dX11_init_111 (Nat.le_of_ble_eq_true rfl) rfl rfl ?_
  refine fd_zal F dX11_init_114 rfl rfl ?_
  refine fd_Znew F (m := 96) (by simp only [List.length_append, List.length_cons, List.length_nil, zl_X7, zl_X4, zl_X3, zl_X8, zl_X1, zl_X2, zl_X10, zl_X5, zl_X0, zl_X6, zl_X9]) dX11_init_115 inX6 tyX6 tyX6_ok cn_X11_75 is_X6 ii_X6 (ci := 6) rfl bl_X6 (hR _ _ (by decide) (by decide)) ?_
  refine fd_zdup F dX11_init_118 ?_
  refine fd_Zca F Fc.a (m := 96) (by simp only [List.length_append, List.length_cons, List.length_nil, zl_X7, zl_X4, zl_X3, zl_X8, zl_X1, zl_X2, zl_X10, zl_X5, zl_X0, zl_X6, zl_X9]) (c_X6_init _ _) yi_X6 mi_X11_77 (by decide) dX11_init_119 (Nat.le_of_ble_eq_true rfl) (hR _ _ (by decide) (by decide)) ?_
  refine fd_Zpu F Fc hk fo_X11_78 fq_X11_10 dX11_init_122 (Nat.le_of_ble_eq_true rfl) rfl rfl ?_
  refine fd_zal F dX11_init_125 rfl rfl ?_
  refine fd_Znew F (m := 155) (by simp only [List.length_append, List.length_cons, List.length_nil, zl_X7, zl_X4, zl_X3, zl_X8, zl_X1, zl_X2, zl_X10, zl_X5, zl_X0, zl_X6, zl_X9]) dX11_init_126 inX9 tyX9 tyX9_ok cn_X11_82 is_X9 ii_X9 (ci := 9) rfl bl_X9 (hR _ _ (by decide) (by decide)) ?_
  refine fd_zdup F dX11_init_129 ?_
  refine fd_Zca F Fc.a (m := 155) (by simp only [List.length_append, List.length_cons, List.length_nil, zl_X7, zl_X4, zl_X3, zl_X8, zl_X1, zl_X2, zl_X10, zl_X5, zl_X0, zl_X6, zl_X9]) (c_X9_init _ _) yi_X9 mi_X11_84 (by decide) dX11_init_130 (Nat.le_of_ble_eq_true rfl) (hR _ _ (by decide) (by decide)) ?_
  refine fd_Zpu F Fc hk fo_X11_85 fq_X11_11 dX11_init_133 (Nat.le_of_ble_eq_true rfl) rfl rfl ?_
  exact fd_zret F dX11_init_136 rfl rfl rfl)
