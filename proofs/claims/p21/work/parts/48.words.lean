theorem cl_L_8 : Cond.classLink RL 8 RX10 ∈ TB := tb_mem 81 (by decide +kernel) rfl
theorem ins_X10 : Cond.instantiable RX10 8 ∈ TB := tb_mem 82 (by decide +kernel) rfl
theorem mi_L_22 : Cond.methodLink RL 22 yX10_init ∈ TB := tb_mem 83 (by decide +kernel) rfl
theorem mo_X10_1 : Cond.methodLink RX10 1 Lib.objectInit ∈ TB := tb_mem 86 (by decide +kernel) rfl
theorem im_obj : Cond.instanceMethod Lib.objectInit ∈ TB := tb_mem 87 (by decide +kernel) rfl
theorem cd_obj : Cond.code Lib.objectInit ⟨#[0xb1]⟩ 1 none ∈ TB := tb_mem 88 (by decide +kernel) rfl
theorem cl_X10_7 : Cond.classLink RX10 7 RX4 ∈ TB := tb_mem 89 (by decide +kernel) rfl
theorem ins_X4 : Cond.instantiable RX4 17 ∈ TB := tb_mem 90 (by decide +kernel) rfl
theorem mi_X10_9 : Cond.methodLink RX10 9 yX4_init ∈ TB := tb_mem 91 (by decide +kernel) rfl
theorem mo_X4_3 : Cond.methodLink RX4 3 Lib.objectInit ∈ TB := tb_mem 94 (by decide +kernel) rfl
theorem cl_X4_9 : Cond.classLink RX4 9 RX3 ∈ TB := tb_mem 95 (by decide +kernel) rfl
theorem ins_X3 : Cond.instantiable RX3 6 ∈ TB := tb_mem 96 (by decide +kernel) rfl
theorem mi_X4_11 : Cond.methodLinkNest RX4 11 yX3_init "GrowHouse" ∈ lw_tbl := List.mem_of_getElem? (i := 97) (by decide +kernel)
theorem im_X3_init : Cond.instanceMethod yX3_init ∈ TB := tb_mem 98 (by decide +kernel) rfl
theorem cd_X3_init : Cond.code yX3_init cX3_init 1 none ∈ TB := tb_mem 99 (by decide +kernel) rfl
theorem mo_X3_3 : Cond.methodLink RX3 3 Lib.objectInit ∈ TB := tb_mem 100 (by decide +kernel) rfl
theorem ac_int : Cond.arrayClass .int ∈ TB := tb_mem 126 (by decide +kernel) rfl
theorem cl_X4_18 : Cond.classLink RX4 18 RX6 ∈ TB := tb_mem 127 (by decide +kernel) rfl
theorem ins_X6 : Cond.instantiable RX6 3 ∈ TB := tb_mem 128 (by decide +kernel) rfl
theorem mi_X4_20 : Cond.methodLinkNest RX4 20 yX6_init "GrowHouse" ∈ lw_tbl := List.mem_of_getElem? (i := 129) (by decide +kernel)
theorem im_X6_init : Cond.instanceMethod yX6_init ∈ TB := tb_mem 130 (by decide +kernel) rfl
theorem cd_X6_init : Cond.code yX6_init cX6_init 1 none ∈ TB := tb_mem 131 (by decide +kernel) rfl
theorem mo_X6_3 : Cond.methodLink RX6 3 Lib.objectInit ∈ TB := tb_mem 132 (by decide +kernel) rfl
theorem cl_X4_25 : Cond.classLink RX4 25 RX5 ∈ TB := tb_mem 146 (by decide +kernel) rfl
theorem cl_X4_35 : Cond.classLink RX4 35 RX1 ∈ TB := tb_mem 148 (by decide +kernel) rfl
theorem ins_X1 : Cond.instantiable RX1 7 ∈ TB := tb_mem 149 (by decide +kernel) rfl
theorem mi_X4_37 : Cond.methodLinkNest RX4 37 yX1_init "GrowHouse" ∈ lw_tbl := List.mem_of_getElem? (i := 150) (by decide +kernel)
theorem im_X1_init : Cond.instanceMethod yX1_init ∈ TB := tb_mem 151 (by decide +kernel) rfl
theorem cd_X1_init : Cond.code yX1_init cX1_init 1 none ∈ TB := tb_mem 152 (by decide +kernel) rfl
theorem mo_X1_1 : Cond.methodLink RX1 1 Lib.objectInit ∈ TB := tb_mem 153 (by decide +kernel) rfl
theorem ins_X5 : Cond.instantiable RX5 2 ∈ TB := tb_mem 183 (by decide +kernel) rfl
theorem mi_X4_45 : Cond.methodLink RX4 45 yX5_init ∈ TB := tb_mem 184 (by decide +kernel) rfl
theorem mo_X5_3 : Cond.methodLink RX5 3 Lib.objectInit ∈ TB := tb_mem 187 (by decide +kernel) rfl
theorem cl_X10_27 : Cond.classLink RX10 27 RX8 ∈ TB := tb_mem 272 (by decide +kernel) rfl
theorem ins_X8 : Cond.instantiable RX8 3 ∈ TB := tb_mem 273 (by decide +kernel) rfl
theorem mi_X10_29 : Cond.methodLinkNest RX10 29 yX8_init "GrowHouse" ∈ lw_tbl := List.mem_of_getElem? (i := 274) (by decide +kernel)
theorem im_X8_init : Cond.instanceMethod yX8_init ∈ TB := tb_mem 275 (by decide +kernel) rfl
theorem cd_X8_init : Cond.code yX8_init cX8_init 1 none ∈ TB := tb_mem 276 (by decide +kernel) rfl
theorem mo_X8_3 : Cond.methodLink RX8 3 Lib.objectInit ∈ TB := tb_mem 277 (by decide +kernel) rfl
theorem ac_boolean : Cond.arrayClass .boolean ∈ TB := tb_mem 288 (by decide +kernel) rfl
theorem cl_X10_37 : Cond.classLink RX10 37 RX9 ∈ TB := tb_mem 289 (by decide +kernel) rfl
theorem ins_X9 : Cond.instantiable RX9 2 ∈ TB := tb_mem 290 (by decide +kernel) rfl
theorem mi_X10_39 : Cond.methodLinkNest RX10 39 yX9_init "GrowHouse" ∈ lw_tbl := List.mem_of_getElem? (i := 291) (by decide +kernel)
theorem im_X9_init : Cond.instanceMethod yX9_init ∈ TB := tb_mem 292 (by decide +kernel) rfl
theorem cd_X9_init : Cond.code yX9_init cX9_init 1 none ∈ TB := tb_mem 293 (by decide +kernel) rfl
theorem mo_X9_3 : Cond.methodLink RX9 3 Lib.objectInit ∈ TB := tb_mem 294 (by decide +kernel) rfl
theorem ac_byte : Cond.arrayClass .byte ∈ TB := tb_mem 304 (by decide +kernel) rfl
theorem cl_X10_44 : Cond.classLink RX10 44 RX7 ∈ TB := tb_mem 305 (by decide +kernel) rfl
theorem ins_X7 : Cond.instantiable RX7 10 ∈ TB := tb_mem 306 (by decide +kernel) rfl
theorem mi_X10_46 : Cond.methodLinkNest RX10 46 yX7_init "GrowHouse" ∈ lw_tbl := List.mem_of_getElem? (i := 307) (by decide +kernel)
theorem im_X7_init : Cond.instanceMethod yX7_init ∈ TB := tb_mem 308 (by decide +kernel) rfl
theorem cd_X7_init : Cond.code yX7_init cX7_init 1 none ∈ TB := tb_mem 309 (by decide +kernel) rfl
theorem mo_X7_3 : Cond.methodLink RX7 3 Lib.objectInit ∈ TB := tb_mem 310 (by decide +kernel) rfl
theorem cl_X7_9 : Cond.classLink RX7 9 RX2 ∈ TB := tb_mem 311 (by decide +kernel) rfl
theorem cl_L_23 : Cond.classLink RL 23 RX11 ∈ TB := tb_mem 1037 (by decide +kernel) rfl
theorem ins_X11 : Cond.instantiable RX11 24 ∈ TB := tb_mem 1038 (by decide +kernel) rfl
theorem mi_L_25 : Cond.methodLink RL 25 yX11_init ∈ TB := tb_mem 1039 (by decide +kernel) rfl
theorem mo_X11_1 : Cond.methodLink RX11 1 Lib.objectInit ∈ TB := tb_mem 1042 (by decide +kernel) rfl
theorem ac_long : Cond.arrayClass .long ∈ TB := tb_mem 1518 (by decide +kernel) rfl
