theorem cd_J0_coder_7d493 : Cond.code yJ0_coder_7d493 cJ0_coder_7d493 1 (Option.some Jvm.ClassFile.FieldType.byte) ∈ TB := tb_mem 806 (by decide +kernel) rfl
theorem im_J0_coder_7d493 : Cond.instanceMethod yJ0_coder_7d493 ∈ TB := tb_mem 804 (by decide +kernel) rfl
theorem se_J0_coder_7d493 : Cond.selects yJ0_coder_7d493.cls yJ0_coder_7d493 yJ0_coder_7d493 ∈ TB := tb_mem 805 (by decide +kernel) rfl
theorem ml_J0_335 : Cond.methodLink RJ0 335 yJ0_coder_7d493 ∈ TB := tb_mem 803 (by decide +kernel) rfl
theorem cw_J0_335 {s : State} {args : Array Value} {d D : Nat} (hts : ∀ w ∈ TB, w.before args s = true) (hD : d < D) : CallW (rmL D) s args RJ0 RJ0 335 yJ0_coder_7d493 cJ0_coder_7d493 1 (Option.some Jvm.ClassFile.FieldType.byte) (.code yJ0_coder_7d493 cJ0_coder_7d493 1 (Option.some Jvm.ClassFile.FieldType.byte) :: TB) (rmL d) 0 0 0 := m_cwV (y := yJ0_coder_7d493) hts ml_J0_335 im_J0_coder_7d493 se_J0_coder_7d493 ini_J0 cd_J0_coder_7d493 (by decide) hD (by decide +kernel)
theorem cd_J0_isLatin1_aae02 : Cond.code yJ0_isLatin1_aae02 cJ0_isLatin1_aae02 1 (Option.some Jvm.ClassFile.FieldType.boolean) ∈ TB := tb_mem 816 (by decide +kernel) rfl
theorem im_J0_isLatin1_aae02 : Cond.instanceMethod yJ0_isLatin1_aae02 ∈ TB := tb_mem 814 (by decide +kernel) rfl
theorem se_J0_isLatin1_aae02 : Cond.selects yJ0_isLatin1_aae02.cls yJ0_isLatin1_aae02 yJ0_isLatin1_aae02 ∈ TB := tb_mem 815 (by decide +kernel) rfl
theorem ml_J0_492 : Cond.methodLink RJ0 492 yJ0_isLatin1_aae02 ∈ TB := tb_mem 813 (by decide +kernel) rfl
theorem cw_J0_492 {s : State} {args : Array Value} {d D : Nat} (hts : ∀ w ∈ TB, w.before args s = true) (hD : d < D) : CallW (rmL D) s args RJ0 RJ0 492 yJ0_isLatin1_aae02 cJ0_isLatin1_aae02 1 (Option.some Jvm.ClassFile.FieldType.boolean) (.code yJ0_isLatin1_aae02 cJ0_isLatin1_aae02 1 (Option.some Jvm.ClassFile.FieldType.boolean) :: TB) (rmL d) 0 0 0 := m_cwV (y := yJ0_isLatin1_aae02) hts ml_J0_492 im_J0_isLatin1_aae02 se_J0_isLatin1_aae02 ini_J0 cd_J0_isLatin1_aae02 (by decide) hD (by decide +kernel)
theorem cd_J1_charAt_3b067 : Cond.code yJ1_charAt_3b067 cJ1_charAt_3b067 2 (Option.some Jvm.ClassFile.FieldType.char) ∈ TB := tb_mem 819 (by decide +kernel) rfl
theorem sc_J1_charAt_3b067 : Cond.static yJ1_charAt_3b067 ∈ TB := tb_mem 818 (by decide +kernel) rfl
theorem ml_J0_495 : Cond.methodLink RJ0 495 yJ1_charAt_3b067 ∈ TB := tb_mem 817 (by decide +kernel) rfl
theorem cw_J0_495 {s : State} {args : Array Value} {d D : Nat} (hts : ∀ w ∈ TB, w.before args s = true) (hD : d < D) : CallB (rmL D) s args RJ0 495 yJ1_charAt_3b067 cJ1_charAt_3b067 2 (Option.some Jvm.ClassFile.FieldType.char) (.code yJ1_charAt_3b067 cJ1_charAt_3b067 2 (Option.some Jvm.ClassFile.FieldType.char) :: TB) (rmL d) 0 0 2 ∧ (Cond.static yJ1_charAt_3b067).before args s = true := m_cwS (y := yJ1_charAt_3b067) hts ml_J0_495 sc_J1_charAt_3b067 ini_J1 cd_J1_charAt_3b067 (by decide) hD (by decide +kernel)
theorem cd_J2_charAt_3b067 : Cond.code yJ2_charAt_3b067 cJ2_charAt_3b067 2 (Option.some Jvm.ClassFile.FieldType.char) ∈ TB := tb_mem 830 (by decide +kernel) rfl
theorem sc_J2_charAt_3b067 : Cond.static yJ2_charAt_3b067 ∈ TB := tb_mem 829 (by decide +kernel) rfl
theorem ml_J0_498 : Cond.methodLink RJ0 498 yJ2_charAt_3b067 ∈ TB := tb_mem 828 (by decide +kernel) rfl
theorem cw_J0_498 {s : State} {args : Array Value} {d D : Nat} (hts : ∀ w ∈ TB, w.before args s = true) (hD : d < D) : CallB (rmL D) s args RJ0 498 yJ2_charAt_3b067 cJ2_charAt_3b067 2 (Option.some Jvm.ClassFile.FieldType.char) (.code yJ2_charAt_3b067 cJ2_charAt_3b067 2 (Option.some Jvm.ClassFile.FieldType.char) :: TB) (rmL d) 0 0 2 ∧ (Cond.static yJ2_charAt_3b067).before args s = true := m_cwS (y := yJ2_charAt_3b067) hts ml_J0_498 sc_J2_charAt_3b067 ini_J2 cd_J2_charAt_3b067 (by decide) hD (by decide +kernel)
theorem cd_J3_checkIndex_8e157 : Cond.code yJ3_checkIndex_8e157 cJ3_checkIndex_8e157 3 (Option.some Jvm.ClassFile.FieldType.int) ∈ TB := tb_mem 827 (by decide +kernel) rfl
theorem sc_J3_checkIndex_8e157 : Cond.static yJ3_checkIndex_8e157 ∈ TB := tb_mem 826 (by decide +kernel) rfl
theorem ml_J0_1059 : Cond.methodLink RJ0 1059 yJ3_checkIndex_8e157 ∈ TB := tb_mem 825 (by decide +kernel) rfl
theorem cw_J0_1059 {s : State} {args : Array Value} {d D : Nat} (hts : ∀ w ∈ TB, w.before args s = true) (hD : d < D) : CallB (rmL D) s args RJ0 1059 yJ3_checkIndex_8e157 cJ3_checkIndex_8e157 3 (Option.some Jvm.ClassFile.FieldType.int) (.code yJ3_checkIndex_8e157 cJ3_checkIndex_8e157 3 (Option.some Jvm.ClassFile.FieldType.int) :: TB) (rmL d) 0 0 3 ∧ (Cond.static yJ3_checkIndex_8e157).before args s = true := m_cwS (y := yJ3_checkIndex_8e157) hts ml_J0_1059 sc_J3_checkIndex_8e157 ini_J3 cd_J3_checkIndex_8e157 (by decide) hD (by decide +kernel)
theorem cd_J0_checkIndex_df160 : Cond.code yJ0_checkIndex_df160 cJ0_checkIndex_df160 2 (Option.none : Option Jvm.ClassFile.FieldType) ∈ TB := tb_mem 822 (by decide +kernel) rfl
theorem sc_J0_checkIndex_df160 : Cond.static yJ0_checkIndex_df160 ∈ TB := tb_mem 821 (by decide +kernel) rfl
theorem ml_J1_9 : Cond.methodLink RJ1 9 yJ0_checkIndex_df160 ∈ TB := tb_mem 820 (by decide +kernel) rfl
theorem cw_J1_9 {s : State} {args : Array Value} {d D : Nat} (hts : ∀ w ∈ TB, w.before args s = true) (hD : d < D) : CallB (rmL D) s args RJ1 9 yJ0_checkIndex_df160 cJ0_checkIndex_df160 2 (Option.none : Option Jvm.ClassFile.FieldType) (.code yJ0_checkIndex_df160 cJ0_checkIndex_df160 2 (Option.none : Option Jvm.ClassFile.FieldType) :: TB) (rmL d) 0 0 2 ∧ (Cond.static yJ0_checkIndex_df160).before args s = true := m_cwS (y := yJ0_checkIndex_df160) hts ml_J1_9 sc_J0_checkIndex_df160 ini_J0 cd_J0_checkIndex_df160 (by decide) hD (by decide +kernel)
theorem cd_J2_length_9d52b : Cond.code yJ2_length_9d52b cJ2_length_9d52b 1 (Option.some Jvm.ClassFile.FieldType.int) ∈ TB := tb_mem 836 (by decide +kernel) rfl
theorem sc_J2_length_9d52b : Cond.static yJ2_length_9d52b ∈ TB := tb_mem 835 (by decide +kernel) rfl
theorem ml_J2_48 : Cond.methodLink RJ2 48 yJ2_length_9d52b ∈ TB := tb_mem 834 (by decide +kernel) rfl
theorem cw_J2_48 {s : State} {args : Array Value} {d D : Nat} (hts : ∀ w ∈ TB, w.before args s = true) (hD : d < D) : CallB (rmL D) s args RJ2 48 yJ2_length_9d52b cJ2_length_9d52b 1 (Option.some Jvm.ClassFile.FieldType.int) (.code yJ2_length_9d52b cJ2_length_9d52b 1 (Option.some Jvm.ClassFile.FieldType.int) :: TB) (rmL d) 0 0 1 ∧ (Cond.static yJ2_length_9d52b).before args s = true := m_cwS (y := yJ2_length_9d52b) hts ml_J2_48 sc_J2_length_9d52b ini_J2 cd_J2_length_9d52b (by decide) hD (by decide +kernel)
theorem cd_J2_checkIndex_2214a : Cond.code yJ2_checkIndex_2214a cJ2_checkIndex_2214a 2 (Option.none : Option Jvm.ClassFile.FieldType) ∈ TB := tb_mem 833 (by decide +kernel) rfl
theorem sc_J2_checkIndex_2214a : Cond.static yJ2_checkIndex_2214a ∈ TB := tb_mem 832 (by decide +kernel) rfl
theorem ml_J2_67 : Cond.methodLink RJ2 67 yJ2_checkIndex_2214a ∈ TB := tb_mem 831 (by decide +kernel) rfl
theorem cw_J2_67 {s : State} {args : Array Value} {d D : Nat} (hts : ∀ w ∈ TB, w.before args s = true) (hD : d < D) : CallB (rmL D) s args RJ2 67 yJ2_checkIndex_2214a cJ2_checkIndex_2214a 2 (Option.none : Option Jvm.ClassFile.FieldType) (.code yJ2_checkIndex_2214a cJ2_checkIndex_2214a 2 (Option.none : Option Jvm.ClassFile.FieldType) :: TB) (rmL d) 0 0 2 ∧ (Cond.static yJ2_checkIndex_2214a).before args s = true := m_cwS (y := yJ2_checkIndex_2214a) hts ml_J2_67 sc_J2_checkIndex_2214a ini_J2 cd_J2_checkIndex_2214a (by decide) hD (by decide +kernel)
theorem cd_J2_getChar_3b067 : Cond.code yJ2_getChar_3b067 cJ2_getChar_3b067 2 (Option.some Jvm.ClassFile.FieldType.char) ∈ TB := tb_mem 840 (by decide +kernel) rfl
theorem sc_J2_getChar_3b067 : Cond.static yJ2_getChar_3b067 ∈ TB := tb_mem 839 (by decide +kernel) rfl
theorem ml_J2_71 : Cond.methodLink RJ2 71 yJ2_getChar_3b067 ∈ TB := tb_mem 838 (by decide +kernel) rfl
theorem cw_J2_71 {s : State} {args : Array Value} {d D : Nat} (hts : ∀ w ∈ TB, w.before args s = true) (hD : d < D) : CallB (rmL D) s args RJ2 71 yJ2_getChar_3b067 cJ2_getChar_3b067 2 (Option.some Jvm.ClassFile.FieldType.char) (.code yJ2_getChar_3b067 cJ2_getChar_3b067 2 (Option.some Jvm.ClassFile.FieldType.char) :: TB) (rmL d) 0 0 2 ∧ (Cond.static yJ2_getChar_3b067).before args s = true := m_cwS (y := yJ2_getChar_3b067) hts ml_J2_71 sc_J2_getChar_3b067 ini_J2 cd_J2_getChar_3b067 (by decide) hD (by decide +kernel)
theorem ml_J2_414 : Cond.methodLink RJ2 414 yJ0_checkIndex_df160 ∈ TB := tb_mem 837 (by decide +kernel) rfl
theorem cw_J2_414 {s : State} {args : Array Value} {d D : Nat} (hts : ∀ w ∈ TB, w.before args s = true) (hD : d < D) : CallB (rmL D) s args RJ2 414 yJ0_checkIndex_df160 cJ0_checkIndex_df160 2 (Option.none : Option Jvm.ClassFile.FieldType) (.code yJ0_checkIndex_df160 cJ0_checkIndex_df160 2 (Option.none : Option Jvm.ClassFile.FieldType) :: TB) (rmL d) 0 0 2 ∧ (Cond.static yJ0_checkIndex_df160).before args s = true := m_cwS (y := yJ0_checkIndex_df160) hts ml_J2_414 sc_J0_checkIndex_df160 ini_J0 cd_J0_checkIndex_df160 (by decide) hD (by decide +kernel)
theorem cd_X10_read : Cond.code yX10_read cX10_read 2 (Option.some Jvm.ClassFile.FieldType.int) ∈ TB := tb_mem 949 (by decide +kernel) rfl
theorem im_X10_read : Cond.instanceMethod yX10_read ∈ TB := tb_mem 947 (by decide +kernel) rfl
theorem se_X10_read : Cond.selects yX10_read.cls yX10_read yX10_read ∈ TB := tb_mem 948 (by decide +kernel) rfl
theorem ml_L_7 : Cond.methodLink RL 7 yX10_read ∈ TB := tb_mem 946 (by decide +kernel) rfl
theorem cw_L_7 {s : State} {args : Array Value} {d D : Nat} (hts : ∀ w ∈ TB, w.before args s = true) (hD : d < D) : CallW (rmL D) s args RL RX10 7 yX10_read cX10_read 2 (Option.some Jvm.ClassFile.FieldType.int) (.code yX10_read cX10_read 2 (Option.some Jvm.ClassFile.FieldType.int) :: TB) (rmL d) 0 0 1 := m_cwV (y := yX10_read) hts ml_L_7 im_X10_read se_X10_read ini_X10 cd_X10_read (by decide) hD (by decide +kernel)
theorem cd_X10_served : Cond.code yX10_served cX10_served 4 (Option.some Jvm.ClassFile.FieldType.int) ∈ TB := tb_mem 1019 (by decide +kernel) rfl
theorem im_X10_served : Cond.instanceMethod yX10_served ∈ TB := tb_mem 1017 (by decide +kernel) rfl
theorem se_X10_served : Cond.selects yX10_served.cls yX10_served yX10_served ∈ TB := tb_mem 1018 (by decide +kernel) rfl
theorem ml_L_15 : Cond.methodLink RL 15 yX10_served ∈ TB := tb_mem 1016 (by decide +kernel) rfl
theorem cw_L_15 {s : State} {args : Array Value} {d D : Nat} (hts : ∀ w ∈ TB, w.before args s = true) (hD : d < D) : CallW (rmL D) s args RL RX10 15 yX10_served cX10_served 4 (Option.some Jvm.ClassFile.FieldType.int) (.code yX10_served cX10_served 4 (Option.some Jvm.ClassFile.FieldType.int) :: TB) (rmL d) 0 0 2 := m_cwV (y := yX10_served) hts ml_L_15 im_X10_served se_X10_served ini_X10 cd_X10_served (by decide) hD (by decide +kernel)
theorem cd_X10_word : Cond.code yX10_word cX10_word 3 (Option.some Jvm.ClassFile.FieldType.int) ∈ TB := tb_mem 1035 (by decide +kernel) rfl
theorem im_X10_word : Cond.instanceMethod yX10_word ∈ TB := tb_mem 1033 (by decide +kernel) rfl
theorem se_X10_word : Cond.selects yX10_word.cls yX10_word yX10_word ∈ TB := tb_mem 1034 (by decide +kernel) rfl
theorem ml_L_19 : Cond.methodLink RL 19 yX10_word ∈ TB := tb_mem 1032 (by decide +kernel) rfl
theorem cw_L_19 {s : State} {args : Array Value} {d D : Nat} (hts : ∀ w ∈ TB, w.before args s = true) (hD : d < D) : CallW (rmL D) s args RL RX10 19 yX10_word cX10_word 3 (Option.some Jvm.ClassFile.FieldType.int) (.code yX10_word cX10_word 3 (Option.some Jvm.ClassFile.FieldType.int) :: TB) (rmL d) 0 0 2 := m_cwV (y := yX10_word) hts ml_L_19 im_X10_word se_X10_word ini_X10 cd_X10_word (by decide) hD (by decide +kernel)
theorem cd_X10_init : Cond.code yX10_init cX10_init 2 (Option.none : Option Jvm.ClassFile.FieldType) ∈ TB := tb_mem 85 (by decide +kernel) rfl
theorem im_X10_init : Cond.instanceMethod yX10_init ∈ TB := tb_mem 84 (by decide +kernel) rfl
theorem ml_L_22 : Cond.methodLink RL 22 yX10_init ∈ TB := tb_mem 83 (by decide +kernel) rfl
theorem cd_X11_init : Cond.code yX11_init cX11_init 1 (Option.none : Option Jvm.ClassFile.FieldType) ∈ TB := tb_mem 1041 (by decide +kernel) rfl
theorem im_X11_init : Cond.instanceMethod yX11_init ∈ TB := tb_mem 1040 (by decide +kernel) rfl
theorem ml_L_25 : Cond.methodLink RL 25 yX11_init ∈ TB := tb_mem 1039 (by decide +kernel) rfl
theorem cd_X10_make : Cond.code yX10_make cX10_make 4 (Option.some Jvm.ClassFile.FieldType.int) ∈ TB := tb_mem 373 (by decide +kernel) rfl
theorem im_X10_make : Cond.instanceMethod yX10_make ∈ TB := tb_mem 371 (by decide +kernel) rfl
theorem se_X10_make : Cond.selects yX10_make.cls yX10_make yX10_make ∈ TB := tb_mem 372 (by decide +kernel) rfl
theorem ml_L_26 : Cond.methodLink RL 26 yX10_make ∈ TB := tb_mem 370 (by decide +kernel) rfl
theorem cw_L_26 {s : State} {args : Array Value} {d D : Nat} (hts : ∀ w ∈ TB, w.before args s = true) (hD : d < D) : CallW (rmL D) s args RL RX10 26 yX10_make cX10_make 4 (Option.some Jvm.ClassFile.FieldType.int) (.code yX10_make cX10_make 4 (Option.some Jvm.ClassFile.FieldType.int) :: TB) (rmL d) 0 0 2 := m_cwV (y := yX10_make) hts ml_L_26 im_X10_make se_X10_make ini_X10 cd_X10_make (by decide) hD (by decide +kernel)
theorem cd_X11_make : Cond.code yX11_make cX11_make 3 (Option.some Jvm.ClassFile.FieldType.int) ∈ TB := tb_mem 1123 (by decide +kernel) rfl
theorem im_X11_make : Cond.instanceMethod yX11_make ∈ TB := tb_mem 1121 (by decide +kernel) rfl
theorem se_X11_make : Cond.selects yX11_make.cls yX11_make yX11_make ∈ TB := tb_mem 1122 (by decide +kernel) rfl
theorem ml_L_29 : Cond.methodLink RL 29 yX11_make ∈ TB := tb_mem 1120 (by decide +kernel) rfl
theorem cw_L_29 {s : State} {args : Array Value} {d D : Nat} (hts : ∀ w ∈ TB, w.before args s = true) (hD : d < D) : CallW (rmL D) s args RL RX11 29 yX11_make cX11_make 3 (Option.some Jvm.ClassFile.FieldType.int) (.code yX11_make cX11_make 3 (Option.some Jvm.ClassFile.FieldType.int) :: TB) (rmL d) 0 0 2 := m_cwV (y := yX11_make) hts ml_L_29 im_X11_make se_X11_make ini_X11 cd_X11_make (by decide) hD (by decide +kernel)
theorem cd_X10_set : Cond.code yX10_set cX10_set 3 (Option.some Jvm.ClassFile.FieldType.int) ∈ TB := tb_mem 386 (by decide +kernel) rfl
theorem im_X10_set : Cond.instanceMethod yX10_set ∈ TB := tb_mem 384 (by decide +kernel) rfl
theorem se_X10_set : Cond.selects yX10_set.cls yX10_set yX10_set ∈ TB := tb_mem 385 (by decide +kernel) rfl
theorem ml_L_30 : Cond.methodLink RL 30 yX10_set ∈ TB := tb_mem 383 (by decide +kernel) rfl
theorem cw_L_30 {s : State} {args : Array Value} {d D : Nat} (hts : ∀ w ∈ TB, w.before args s = true) (hD : d < D) : CallW (rmL D) s args RL RX10 30 yX10_set cX10_set 3 (Option.some Jvm.ClassFile.FieldType.int) (.code yX10_set cX10_set 3 (Option.some Jvm.ClassFile.FieldType.int) :: TB) (rmL d) 0 0 2 := m_cwV (y := yX10_set) hts ml_L_30 im_X10_set se_X10_set ini_X10 cd_X10_set (by decide) hD (by decide +kernel)
theorem cd_X11_set : Cond.code yX11_set cX11_set 4 (Option.some Jvm.ClassFile.FieldType.int) ∈ TB := tb_mem 1134 (by decide +kernel) rfl
theorem im_X11_set : Cond.instanceMethod yX11_set ∈ TB := tb_mem 1132 (by decide +kernel) rfl
theorem se_X11_set : Cond.selects yX11_set.cls yX11_set yX11_set ∈ TB := tb_mem 1133 (by decide +kernel) rfl
theorem ml_L_33 : Cond.methodLink RL 33 yX11_set ∈ TB := tb_mem 1131 (by decide +kernel) rfl
theorem cw_L_33 {s : State} {args : Array Value} {d D : Nat} (hts : ∀ w ∈ TB, w.before args s = true) (hD : d < D) : CallW (rmL D) s args RL RX11 33 yX11_set cX11_set 4 (Option.some Jvm.ClassFile.FieldType.int) (.code yX11_set cX11_set 4 (Option.some Jvm.ClassFile.FieldType.int) :: TB) (rmL d) 0 0 2 := m_cwV (y := yX11_set) hts ml_L_33 im_X11_set se_X11_set ini_X11 cd_X11_set (by decide) hD (by decide +kernel)
theorem cd_X10_grow : Cond.code yX10_grow cX10_grow 1 (Option.some Jvm.ClassFile.FieldType.int) ∈ TB := tb_mem 414 (by decide +kernel) rfl
theorem im_X10_grow : Cond.instanceMethod yX10_grow ∈ TB := tb_mem 412 (by decide +kernel) rfl
theorem se_X10_grow : Cond.selects yX10_grow.cls yX10_grow yX10_grow ∈ TB := tb_mem 413 (by decide +kernel) rfl
theorem ml_L_34 : Cond.methodLink RL 34 yX10_grow ∈ TB := tb_mem 411 (by decide +kernel) rfl
theorem cw_L_34 {s : State} {args : Array Value} {d D : Nat} (hts : ∀ w ∈ TB, w.before args s = true) (hD : d < D) : CallW (rmL D) s args RL RX10 34 yX10_grow cX10_grow 1 (Option.some Jvm.ClassFile.FieldType.int) (.code yX10_grow cX10_grow 1 (Option.some Jvm.ClassFile.FieldType.int) :: TB) (rmL d) 0 0 0 := m_cwV (y := yX10_grow) hts ml_L_34 im_X10_grow se_X10_grow ini_X10 cd_X10_grow (by decide) hD (by decide +kernel)
theorem cd_X11_grow : Cond.code yX11_grow cX11_grow 2 (Option.some Jvm.ClassFile.FieldType.int) ∈ TB := tb_mem 1146 (by decide +kernel) rfl
theorem im_X11_grow : Cond.instanceMethod yX11_grow ∈ TB := tb_mem 1144 (by decide +kernel) rfl
theorem se_X11_grow : Cond.selects yX11_grow.cls yX11_grow yX11_grow ∈ TB := tb_mem 1145 (by decide +kernel) rfl
theorem ml_L_38 : Cond.methodLink RL 38 yX11_grow ∈ TB := tb_mem 1143 (by decide +kernel) rfl
theorem cw_L_38 {s : State} {args : Array Value} {d D : Nat} (hts : ∀ w ∈ TB, w.before args s = true) (hD : d < D) : CallW (rmL D) s args RL RX11 38 yX11_grow cX11_grow 2 (Option.some Jvm.ClassFile.FieldType.int) (.code yX11_grow cX11_grow 2 (Option.some Jvm.ClassFile.FieldType.int) :: TB) (rmL d) 0 0 0 := m_cwV (y := yX11_grow) hts ml_L_38 im_X11_grow se_X11_grow ini_X11 cd_X11_grow (by decide) hD (by decide +kernel)
theorem cd_X10_steps : Cond.code yX10_steps cX10_steps 2 (Option.some Jvm.ClassFile.FieldType.int) ∈ TB := tb_mem 430 (by decide +kernel) rfl
theorem im_X10_steps : Cond.instanceMethod yX10_steps ∈ TB := tb_mem 428 (by decide +kernel) rfl
theorem se_X10_steps : Cond.selects yX10_steps.cls yX10_steps yX10_steps ∈ TB := tb_mem 429 (by decide +kernel) rfl
theorem ml_L_39 : Cond.methodLink RL 39 yX10_steps ∈ TB := tb_mem 427 (by decide +kernel) rfl
theorem cw_L_39 {s : State} {args : Array Value} {d D : Nat} (hts : ∀ w ∈ TB, w.before args s = true) (hD : d < D) : CallW (rmL D) s args RL RX10 39 yX10_steps cX10_steps 2 (Option.some Jvm.ClassFile.FieldType.int) (.code yX10_steps cX10_steps 2 (Option.some Jvm.ClassFile.FieldType.int) :: TB) (rmL d) 0 0 1 := m_cwV (y := yX10_steps) hts ml_L_39 im_X10_steps se_X10_steps ini_X10 cd_X10_steps (by decide) hD (by decide +kernel)
theorem cd_X11_steps : Cond.code yX11_steps cX11_steps 2 (Option.some Jvm.ClassFile.FieldType.int) ∈ TB := tb_mem 1157 (by decide +kernel) rfl
theorem im_X11_steps : Cond.instanceMethod yX11_steps ∈ TB := tb_mem 1155 (by decide +kernel) rfl
theorem se_X11_steps : Cond.selects yX11_steps.cls yX11_steps yX11_steps ∈ TB := tb_mem 1156 (by decide +kernel) rfl
theorem ml_L_42 : Cond.methodLink RL 42 yX11_steps ∈ TB := tb_mem 1154 (by decide +kernel) rfl
theorem cw_L_42 {s : State} {args : Array Value} {d D : Nat} (hts : ∀ w ∈ TB, w.before args s = true) (hD : d < D) : CallW (rmL D) s args RL RX11 42 yX11_steps cX11_steps 2 (Option.some Jvm.ClassFile.FieldType.int) (.code yX11_steps cX11_steps 2 (Option.some Jvm.ClassFile.FieldType.int) :: TB) (rmL d) 0 0 1 := m_cwV (y := yX11_steps) hts ml_L_42 im_X11_steps se_X11_steps ini_X11 cd_X11_steps (by decide) hD (by decide +kernel)
theorem cd_X10_crash : Cond.code yX10_crash cX10_crash 1 (Option.some Jvm.ClassFile.FieldType.boolean) ∈ TB := tb_mem 523 (by decide +kernel) rfl
theorem im_X10_crash : Cond.instanceMethod yX10_crash ∈ TB := tb_mem 521 (by decide +kernel) rfl
theorem se_X10_crash : Cond.selects yX10_crash.cls yX10_crash yX10_crash ∈ TB := tb_mem 522 (by decide +kernel) rfl
theorem ml_L_43 : Cond.methodLink RL 43 yX10_crash ∈ TB := tb_mem 520 (by decide +kernel) rfl
theorem cw_L_43 {s : State} {args : Array Value} {d D : Nat} (hts : ∀ w ∈ TB, w.before args s = true) (hD : d < D) : CallW (rmL D) s args RL RX10 43 yX10_crash cX10_crash 1 (Option.some Jvm.ClassFile.FieldType.boolean) (.code yX10_crash cX10_crash 1 (Option.some Jvm.ClassFile.FieldType.boolean) :: TB) (rmL d) 0 0 0 := m_cwV (y := yX10_crash) hts ml_L_43 im_X10_crash se_X10_crash ini_X10 cd_X10_crash (by decide) hD (by decide +kernel)
theorem cd_X11_crash : Cond.code yX11_crash cX11_crash 1 (Option.some Jvm.ClassFile.FieldType.boolean) ∈ TB := tb_mem 1218 (by decide +kernel) rfl
theorem im_X11_crash : Cond.instanceMethod yX11_crash ∈ TB := tb_mem 1216 (by decide +kernel) rfl
theorem se_X11_crash : Cond.selects yX11_crash.cls yX11_crash yX11_crash ∈ TB := tb_mem 1217 (by decide +kernel) rfl
theorem ml_L_47 : Cond.methodLink RL 47 yX11_crash ∈ TB := tb_mem 1215 (by decide +kernel) rfl
theorem cw_L_47 {s : State} {args : Array Value} {d D : Nat} (hts : ∀ w ∈ TB, w.before args s = true) (hD : d < D) : CallW (rmL D) s args RL RX11 47 yX11_crash cX11_crash 1 (Option.some Jvm.ClassFile.FieldType.boolean) (.code yX11_crash cX11_crash 1 (Option.some Jvm.ClassFile.FieldType.boolean) :: TB) (rmL d) 0 0 0 := m_cwV (y := yX11_crash) hts ml_L_47 im_X11_crash se_X11_crash ini_X11 cd_X11_crash (by decide) hD (by decide +kernel)
theorem sc_L_read : Cond.static yL_read ∈ TB := tb_mem 943 (by decide +kernel) rfl
theorem ml_L_48 : Cond.methodLink RL 48 yL_read ∈ TB := tb_mem 942 (by decide +kernel) rfl
theorem cd_X11_read : Cond.code yX11_read cX11_read 2 (Option.some Jvm.ClassFile.FieldType.int) ∈ TB := tb_mem 1226 (by decide +kernel) rfl
theorem im_X11_read : Cond.instanceMethod yX11_read ∈ TB := tb_mem 1224 (by decide +kernel) rfl
theorem se_X11_read : Cond.selects yX11_read.cls yX11_read yX11_read ∈ TB := tb_mem 1225 (by decide +kernel) rfl
theorem ml_L_53 : Cond.methodLink RL 53 yX11_read ∈ TB := tb_mem 1223 (by decide +kernel) rfl
theorem cw_L_53 {s : State} {args : Array Value} {d D : Nat} (hts : ∀ w ∈ TB, w.before args s = true) (hD : d < D) : CallW (rmL D) s args RL RX11 53 yX11_read cX11_read 2 (Option.some Jvm.ClassFile.FieldType.int) (.code yX11_read cX11_read 2 (Option.some Jvm.ClassFile.FieldType.int) :: TB) (rmL d) 0 0 1 := m_cwV (y := yX11_read) hts ml_L_53 im_X11_read se_X11_read ini_X11 cd_X11_read (by decide) hD (by decide +kernel)
theorem cd_X10_write : Cond.code yX10_write cX10_write 3 (Option.some Jvm.ClassFile.FieldType.int) ∈ TB := tb_mem 531 (by decide +kernel) rfl
theorem im_X10_write : Cond.instanceMethod yX10_write ∈ TB := tb_mem 529 (by decide +kernel) rfl
theorem se_X10_write : Cond.selects yX10_write.cls yX10_write yX10_write ∈ TB := tb_mem 530 (by decide +kernel) rfl
theorem ml_L_54 : Cond.methodLink RL 54 yX10_write ∈ TB := tb_mem 528 (by decide +kernel) rfl
theorem cw_L_54 {s : State} {args : Array Value} {d D : Nat} (hts : ∀ w ∈ TB, w.before args s = true) (hD : d < D) : CallW (rmL D) s args RL RX10 54 yX10_write cX10_write 3 (Option.some Jvm.ClassFile.FieldType.int) (.code yX10_write cX10_write 3 (Option.some Jvm.ClassFile.FieldType.int) :: TB) (rmL d) 0 0 2 := m_cwV (y := yX10_write) hts ml_L_54 im_X10_write se_X10_write ini_X10 cd_X10_write (by decide) hD (by decide +kernel)
theorem cd_X11_write : Cond.code yX11_write cX11_write 3 (Option.some Jvm.ClassFile.FieldType.int) ∈ TB := tb_mem 1254 (by decide +kernel) rfl
theorem im_X11_write : Cond.instanceMethod yX11_write ∈ TB := tb_mem 1252 (by decide +kernel) rfl
theorem se_X11_write : Cond.selects yX11_write.cls yX11_write yX11_write ∈ TB := tb_mem 1253 (by decide +kernel) rfl
theorem ml_L_57 : Cond.methodLink RL 57 yX11_write ∈ TB := tb_mem 1251 (by decide +kernel) rfl
theorem cw_L_57 {s : State} {args : Array Value} {d D : Nat} (hts : ∀ w ∈ TB, w.before args s = true) (hD : d < D) : CallW (rmL D) s args RL RX11 57 yX11_write cX11_write 3 (Option.some Jvm.ClassFile.FieldType.int) (.code yX11_write cX11_write 3 (Option.some Jvm.ClassFile.FieldType.int) :: TB) (rmL d) 0 0 2 := m_cwV (y := yX11_write) hts ml_L_57 im_X11_write se_X11_write ini_X11 cd_X11_write (by decide) hD (by decide +kernel)
theorem cd_X10_fill : Cond.code yX10_fill cX10_fill 4 (Option.some Jvm.ClassFile.FieldType.int) ∈ TB := tb_mem 561 (by decide +kernel) rfl
theorem im_X10_fill : Cond.instanceMethod yX10_fill ∈ TB := tb_mem 559 (by decide +kernel) rfl
theorem se_X10_fill : Cond.selects yX10_fill.cls yX10_fill yX10_fill ∈ TB := tb_mem 560 (by decide +kernel) rfl
theorem ml_L_58 : Cond.methodLink RL 58 yX10_fill ∈ TB := tb_mem 558 (by decide +kernel) rfl
theorem cw_L_58 {s : State} {args : Array Value} {d D : Nat} (hts : ∀ w ∈ TB, w.before args s = true) (hD : d < D) : CallW (rmL D) s args RL RX10 58 yX10_fill cX10_fill 4 (Option.some Jvm.ClassFile.FieldType.int) (.code yX10_fill cX10_fill 4 (Option.some Jvm.ClassFile.FieldType.int) :: TB) (rmL d) 0 0 3 := m_cwV (y := yX10_fill) hts ml_L_58 im_X10_fill se_X10_fill ini_X10 cd_X10_fill (by decide) hD (by decide +kernel)
theorem cd_X11_fill : Cond.code yX11_fill cX11_fill 6 (Option.some Jvm.ClassFile.FieldType.int) ∈ TB := tb_mem 1262 (by decide +kernel) rfl
theorem im_X11_fill : Cond.instanceMethod yX11_fill ∈ TB := tb_mem 1260 (by decide +kernel) rfl
theorem se_X11_fill : Cond.selects yX11_fill.cls yX11_fill yX11_fill ∈ TB := tb_mem 1261 (by decide +kernel) rfl
theorem ml_L_62 : Cond.methodLink RL 62 yX11_fill ∈ TB := tb_mem 1259 (by decide +kernel) rfl
theorem cw_L_62 {s : State} {args : Array Value} {d D : Nat} (hts : ∀ w ∈ TB, w.before args s = true) (hD : d < D) : CallW (rmL D) s args RL RX11 62 yX11_fill cX11_fill 6 (Option.some Jvm.ClassFile.FieldType.int) (.code yX11_fill cX11_fill 6 (Option.some Jvm.ClassFile.FieldType.int) :: TB) (rmL d) 0 0 3 := m_cwV (y := yX11_fill) hts ml_L_62 im_X11_fill se_X11_fill ini_X11 cd_X11_fill (by decide) hD (by decide +kernel)
theorem cd_X10_lose : Cond.code yX10_lose cX10_lose 2 (Option.some Jvm.ClassFile.FieldType.boolean) ∈ TB := tb_mem 570 (by decide +kernel) rfl
theorem im_X10_lose : Cond.instanceMethod yX10_lose ∈ TB := tb_mem 568 (by decide +kernel) rfl
theorem se_X10_lose : Cond.selects yX10_lose.cls yX10_lose yX10_lose ∈ TB := tb_mem 569 (by decide +kernel) rfl
theorem ml_L_63 : Cond.methodLink RL 63 yX10_lose ∈ TB := tb_mem 567 (by decide +kernel) rfl
theorem cw_L_63 {s : State} {args : Array Value} {d D : Nat} (hts : ∀ w ∈ TB, w.before args s = true) (hD : d < D) : CallW (rmL D) s args RL RX10 63 yX10_lose cX10_lose 2 (Option.some Jvm.ClassFile.FieldType.boolean) (.code yX10_lose cX10_lose 2 (Option.some Jvm.ClassFile.FieldType.boolean) :: TB) (rmL d) 0 0 1 := m_cwV (y := yX10_lose) hts ml_L_63 im_X10_lose se_X10_lose ini_X10 cd_X10_lose (by decide) hD (by decide +kernel)
theorem cd_X11_lose : Cond.code yX11_lose cX11_lose 2 (Option.some Jvm.ClassFile.FieldType.boolean) ∈ TB := tb_mem 1266 (by decide +kernel) rfl
theorem im_X11_lose : Cond.instanceMethod yX11_lose ∈ TB := tb_mem 1264 (by decide +kernel) rfl
theorem se_X11_lose : Cond.selects yX11_lose.cls yX11_lose yX11_lose ∈ TB := tb_mem 1265 (by decide +kernel) rfl
theorem ml_L_67 : Cond.methodLink RL 67 yX11_lose ∈ TB := tb_mem 1263 (by decide +kernel) rfl
theorem cw_L_67 {s : State} {args : Array Value} {d D : Nat} (hts : ∀ w ∈ TB, w.before args s = true) (hD : d < D) : CallW (rmL D) s args RL RX11 67 yX11_lose cX11_lose 2 (Option.some Jvm.ClassFile.FieldType.boolean) (.code yX11_lose cX11_lose 2 (Option.some Jvm.ClassFile.FieldType.boolean) :: TB) (rmL d) 0 0 1 := m_cwV (y := yX11_lose) hts ml_L_67 im_X11_lose se_X11_lose ini_X11 cd_X11_lose (by decide) hD (by decide +kernel)
theorem cd_X10_replace : Cond.code yX10_replace cX10_replace 1 (Option.some Jvm.ClassFile.FieldType.int) ∈ TB := tb_mem 582 (by decide +kernel) rfl
theorem im_X10_replace : Cond.instanceMethod yX10_replace ∈ TB := tb_mem 580 (by decide +kernel) rfl
theorem se_X10_replace : Cond.selects yX10_replace.cls yX10_replace yX10_replace ∈ TB := tb_mem 581 (by decide +kernel) rfl
theorem ml_L_68 : Cond.methodLink RL 68 yX10_replace ∈ TB := tb_mem 579 (by decide +kernel) rfl
theorem cw_L_68 {s : State} {args : Array Value} {d D : Nat} (hts : ∀ w ∈ TB, w.before args s = true) (hD : d < D) : CallW (rmL D) s args RL RX10 68 yX10_replace cX10_replace 1 (Option.some Jvm.ClassFile.FieldType.int) (.code yX10_replace cX10_replace 1 (Option.some Jvm.ClassFile.FieldType.int) :: TB) (rmL d) 0 0 0 := m_cwV (y := yX10_replace) hts ml_L_68 im_X10_replace se_X10_replace ini_X10 cd_X10_replace (by decide) hD (by decide +kernel)
theorem cd_X11_replace : Cond.code yX11_replace cX11_replace 6 (Option.some Jvm.ClassFile.FieldType.int) ∈ TB := tb_mem 1274 (by decide +kernel) rfl
theorem im_X11_replace : Cond.instanceMethod yX11_replace ∈ TB := tb_mem 1272 (by decide +kernel) rfl
theorem se_X11_replace : Cond.selects yX11_replace.cls yX11_replace yX11_replace ∈ TB := tb_mem 1273 (by decide +kernel) rfl
theorem ml_L_71 : Cond.methodLink RL 71 yX11_replace ∈ TB := tb_mem 1271 (by decide +kernel) rfl
theorem cw_L_71 {s : State} {args : Array Value} {d D : Nat} (hts : ∀ w ∈ TB, w.before args s = true) (hD : d < D) : CallW (rmL D) s args RL RX11 71 yX11_replace cX11_replace 6 (Option.some Jvm.ClassFile.FieldType.int) (.code yX11_replace cX11_replace 6 (Option.some Jvm.ClassFile.FieldType.int) :: TB) (rmL d) 0 0 0 := m_cwV (y := yX11_replace) hts ml_L_71 im_X11_replace se_X11_replace ini_X11 cd_X11_replace (by decide) hD (by decide +kernel)
theorem cd_X10_bad : Cond.code yX10_bad cX10_bad 3 (Option.some Jvm.ClassFile.FieldType.boolean) ∈ TB := tb_mem 602 (by decide +kernel) rfl
theorem im_X10_bad : Cond.instanceMethod yX10_bad ∈ TB := tb_mem 600 (by decide +kernel) rfl
theorem se_X10_bad : Cond.selects yX10_bad.cls yX10_bad yX10_bad ∈ TB := tb_mem 601 (by decide +kernel) rfl
theorem ml_L_72 : Cond.methodLink RL 72 yX10_bad ∈ TB := tb_mem 599 (by decide +kernel) rfl
theorem cw_L_72 {s : State} {args : Array Value} {d D : Nat} (hts : ∀ w ∈ TB, w.before args s = true) (hD : d < D) : CallW (rmL D) s args RL RX10 72 yX10_bad cX10_bad 3 (Option.some Jvm.ClassFile.FieldType.boolean) (.code yX10_bad cX10_bad 3 (Option.some Jvm.ClassFile.FieldType.boolean) :: TB) (rmL d) 0 0 2 := m_cwV (y := yX10_bad) hts ml_L_72 im_X10_bad se_X10_bad ini_X10 cd_X10_bad (by decide) hD (by decide +kernel)
theorem cd_X11_bad : Cond.code yX11_bad cX11_bad 3 (Option.some Jvm.ClassFile.FieldType.boolean) ∈ TB := tb_mem 1278 (by decide +kernel) rfl
theorem im_X11_bad : Cond.instanceMethod yX11_bad ∈ TB := tb_mem 1276 (by decide +kernel) rfl
theorem se_X11_bad : Cond.selects yX11_bad.cls yX11_bad yX11_bad ∈ TB := tb_mem 1277 (by decide +kernel) rfl
theorem ml_L_76 : Cond.methodLink RL 76 yX11_bad ∈ TB := tb_mem 1275 (by decide +kernel) rfl
theorem cw_L_76 {s : State} {args : Array Value} {d D : Nat} (hts : ∀ w ∈ TB, w.before args s = true) (hD : d < D) : CallW (rmL D) s args RL RX11 76 yX11_bad cX11_bad 3 (Option.some Jvm.ClassFile.FieldType.boolean) (.code yX11_bad cX11_bad 3 (Option.some Jvm.ClassFile.FieldType.boolean) :: TB) (rmL d) 0 0 2 := m_cwV (y := yX11_bad) hts ml_L_76 im_X11_bad se_X11_bad ini_X11 cd_X11_bad (by decide) hD (by decide +kernel)
theorem cd_X10_ask : Cond.code yX10_ask cX10_ask 5 (Option.some Jvm.ClassFile.FieldType.int) ∈ TB := tb_mem 610 (by decide +kernel) rfl
theorem im_X10_ask : Cond.instanceMethod yX10_ask ∈ TB := tb_mem 608 (by decide +kernel) rfl
theorem se_X10_ask : Cond.selects yX10_ask.cls yX10_ask yX10_ask ∈ TB := tb_mem 609 (by decide +kernel) rfl
theorem ml_L_77 : Cond.methodLink RL 77 yX10_ask ∈ TB := tb_mem 607 (by decide +kernel) rfl
theorem cw_L_77 {s : State} {args : Array Value} {d D : Nat} (hts : ∀ w ∈ TB, w.before args s = true) (hD : d < D) : CallW (rmL D) s args RL RX10 77 yX10_ask cX10_ask 5 (Option.some Jvm.ClassFile.FieldType.int) (.code yX10_ask cX10_ask 5 (Option.some Jvm.ClassFile.FieldType.int) :: TB) (rmL d) 0 0 4 := m_cwV (y := yX10_ask) hts ml_L_77 im_X10_ask se_X10_ask ini_X10 cd_X10_ask (by decide) hD (by decide +kernel)
theorem cd_X11_ask : Cond.code yX11_ask cX11_ask 7 (Option.some Jvm.ClassFile.FieldType.int) ∈ TB := tb_mem 1290 (by decide +kernel) rfl
theorem im_X11_ask : Cond.instanceMethod yX11_ask ∈ TB := tb_mem 1288 (by decide +kernel) rfl
theorem se_X11_ask : Cond.selects yX11_ask.cls yX11_ask yX11_ask ∈ TB := tb_mem 1289 (by decide +kernel) rfl
theorem ml_L_81 : Cond.methodLink RL 81 yX11_ask ∈ TB := tb_mem 1287 (by decide +kernel) rfl
theorem cw_L_81 {s : State} {args : Array Value} {d D : Nat} (hts : ∀ w ∈ TB, w.before args s = true) (hD : d < D) : CallW (rmL D) s args RL RX11 81 yX11_ask cX11_ask 7 (Option.some Jvm.ClassFile.FieldType.int) (.code yX11_ask cX11_ask 7 (Option.some Jvm.ClassFile.FieldType.int) :: TB) (rmL d) 0 0 4 := m_cwV (y := yX11_ask) hts ml_L_81 im_X11_ask se_X11_ask ini_X11 cd_X11_ask (by decide) hD (by decide +kernel)
theorem cd_X10_tick : Cond.code yX10_tick cX10_tick 2 (Option.some Jvm.ClassFile.FieldType.int) ∈ TB := tb_mem 630 (by decide +kernel) rfl
theorem im_X10_tick : Cond.instanceMethod yX10_tick ∈ TB := tb_mem 628 (by decide +kernel) rfl
theorem se_X10_tick : Cond.selects yX10_tick.cls yX10_tick yX10_tick ∈ TB := tb_mem 629 (by decide +kernel) rfl
theorem ml_L_82 : Cond.methodLink RL 82 yX10_tick ∈ TB := tb_mem 627 (by decide +kernel) rfl
theorem cw_L_82 {s : State} {args : Array Value} {d D : Nat} (hts : ∀ w ∈ TB, w.before args s = true) (hD : d < D) : CallW (rmL D) s args RL RX10 82 yX10_tick cX10_tick 2 (Option.some Jvm.ClassFile.FieldType.int) (.code yX10_tick cX10_tick 2 (Option.some Jvm.ClassFile.FieldType.int) :: TB) (rmL d) 0 0 1 := m_cwV (y := yX10_tick) hts ml_L_82 im_X10_tick se_X10_tick ini_X10 cd_X10_tick (by decide) hD (by decide +kernel)
theorem cd_X11_tick : Cond.code yX11_tick cX11_tick 2 (Option.some Jvm.ClassFile.FieldType.int) ∈ TB := tb_mem 1294 (by decide +kernel) rfl
theorem im_X11_tick : Cond.instanceMethod yX11_tick ∈ TB := tb_mem 1292 (by decide +kernel) rfl
theorem se_X11_tick : Cond.selects yX11_tick.cls yX11_tick yX11_tick ∈ TB := tb_mem 1293 (by decide +kernel) rfl
theorem ml_L_85 : Cond.methodLink RL 85 yX11_tick ∈ TB := tb_mem 1291 (by decide +kernel) rfl
theorem cw_L_85 {s : State} {args : Array Value} {d D : Nat} (hts : ∀ w ∈ TB, w.before args s = true) (hD : d < D) : CallW (rmL D) s args RL RX11 85 yX11_tick cX11_tick 2 (Option.some Jvm.ClassFile.FieldType.int) (.code yX11_tick cX11_tick 2 (Option.some Jvm.ClassFile.FieldType.int) :: TB) (rmL d) 0 0 1 := m_cwV (y := yX11_tick) hts ml_L_85 im_X11_tick se_X11_tick ini_X11 cd_X11_tick (by decide) hD (by decide +kernel)
theorem sc_L_served : Cond.static yL_served ∈ TB := tb_mem 1014 (by decide +kernel) rfl
theorem ml_L_86 : Cond.methodLink RL 86 yL_served ∈ TB := tb_mem 1013 (by decide +kernel) rfl
theorem cd_X11_served : Cond.code yX11_served cX11_served 4 (Option.some Jvm.ClassFile.FieldType.int) ∈ TB := tb_mem 1318 (by decide +kernel) rfl
theorem im_X11_served : Cond.instanceMethod yX11_served ∈ TB := tb_mem 1316 (by decide +kernel) rfl
theorem se_X11_served : Cond.selects yX11_served.cls yX11_served yX11_served ∈ TB := tb_mem 1317 (by decide +kernel) rfl
theorem ml_L_89 : Cond.methodLink RL 89 yX11_served ∈ TB := tb_mem 1315 (by decide +kernel) rfl
theorem cw_L_89 {s : State} {args : Array Value} {d D : Nat} (hts : ∀ w ∈ TB, w.before args s = true) (hD : d < D) : CallW (rmL D) s args RL RX11 89 yX11_served cX11_served 4 (Option.some Jvm.ClassFile.FieldType.int) (.code yX11_served cX11_served 4 (Option.some Jvm.ClassFile.FieldType.int) :: TB) (rmL d) 0 0 2 := m_cwV (y := yX11_served) hts ml_L_89 im_X11_served se_X11_served ini_X11 cd_X11_served (by decide) hD (by decide +kernel)
theorem cd_X10_request : Cond.code yX10_request cX10_request 3 (Option.some Jvm.ClassFile.FieldType.int) ∈ TB := tb_mem 675 (by decide +kernel) rfl
theorem im_X10_request : Cond.instanceMethod yX10_request ∈ TB := tb_mem 673 (by decide +kernel) rfl
theorem se_X10_request : Cond.selects yX10_request.cls yX10_request yX10_request ∈ TB := tb_mem 674 (by decide +kernel) rfl
theorem ml_L_90 : Cond.methodLink RL 90 yX10_request ∈ TB := tb_mem 672 (by decide +kernel) rfl
theorem cw_L_90 {s : State} {args : Array Value} {d D : Nat} (hts : ∀ w ∈ TB, w.before args s = true) (hD : d < D) : CallW (rmL D) s args RL RX10 90 yX10_request cX10_request 3 (Option.some Jvm.ClassFile.FieldType.int) (.code yX10_request cX10_request 3 (Option.some Jvm.ClassFile.FieldType.int) :: TB) (rmL d) 0 0 2 := m_cwV (y := yX10_request) hts ml_L_90 im_X10_request se_X10_request ini_X10 cd_X10_request (by decide) hD (by decide +kernel)
theorem cd_X11_request : Cond.code yX11_request cX11_request 4 (Option.some Jvm.ClassFile.FieldType.int) ∈ TB := tb_mem 1322 (by decide +kernel) rfl
theorem im_X11_request : Cond.instanceMethod yX11_request ∈ TB := tb_mem 1320 (by decide +kernel) rfl
theorem se_X11_request : Cond.selects yX11_request.cls yX11_request yX11_request ∈ TB := tb_mem 1321 (by decide +kernel) rfl
theorem ml_L_93 : Cond.methodLink RL 93 yX11_request ∈ TB := tb_mem 1319 (by decide +kernel) rfl
theorem cw_L_93 {s : State} {args : Array Value} {d D : Nat} (hts : ∀ w ∈ TB, w.before args s = true) (hD : d < D) : CallW (rmL D) s args RL RX11 93 yX11_request cX11_request 4 (Option.some Jvm.ClassFile.FieldType.int) (.code yX11_request cX11_request 4 (Option.some Jvm.ClassFile.FieldType.int) :: TB) (rmL d) 0 0 2 := m_cwV (y := yX11_request) hts ml_L_93 im_X11_request se_X11_request ini_X11 cd_X11_request (by decide) hD (by decide +kernel)
theorem cd_X10_poke : Cond.code yX10_poke cX10_poke 4 (Option.some Jvm.ClassFile.FieldType.boolean) ∈ TB := tb_mem 683 (by decide +kernel) rfl
theorem im_X10_poke : Cond.instanceMethod yX10_poke ∈ TB := tb_mem 681 (by decide +kernel) rfl
theorem se_X10_poke : Cond.selects yX10_poke.cls yX10_poke yX10_poke ∈ TB := tb_mem 682 (by decide +kernel) rfl
theorem ml_L_94 : Cond.methodLink RL 94 yX10_poke ∈ TB := tb_mem 680 (by decide +kernel) rfl
theorem cw_L_94 {s : State} {args : Array Value} {d D : Nat} (hts : ∀ w ∈ TB, w.before args s = true) (hD : d < D) : CallW (rmL D) s args RL RX10 94 yX10_poke cX10_poke 4 (Option.some Jvm.ClassFile.FieldType.boolean) (.code yX10_poke cX10_poke 4 (Option.some Jvm.ClassFile.FieldType.boolean) :: TB) (rmL d) 0 0 3 := m_cwV (y := yX10_poke) hts ml_L_94 im_X10_poke se_X10_poke ini_X10 cd_X10_poke (by decide) hD (by decide +kernel)
theorem cd_X11_poke : Cond.code yX11_poke cX11_poke 4 (Option.some Jvm.ClassFile.FieldType.boolean) ∈ TB := tb_mem 1286 (by decide +kernel) rfl
theorem im_X11_poke : Cond.instanceMethod yX11_poke ∈ TB := tb_mem 1284 (by decide +kernel) rfl
theorem se_X11_poke : Cond.selects yX11_poke.cls yX11_poke yX11_poke ∈ TB := tb_mem 1285 (by decide +kernel) rfl
theorem ml_L_98 : Cond.methodLink RL 98 yX11_poke ∈ TB := tb_mem 1283 (by decide +kernel) rfl
theorem cw_L_98 {s : State} {args : Array Value} {d D : Nat} (hts : ∀ w ∈ TB, w.before args s = true) (hD : d < D) : CallW (rmL D) s args RL RX11 98 yX11_poke cX11_poke 4 (Option.some Jvm.ClassFile.FieldType.boolean) (.code yX11_poke cX11_poke 4 (Option.some Jvm.ClassFile.FieldType.boolean) :: TB) (rmL d) 0 0 3 := m_cwV (y := yX11_poke) hts ml_L_98 im_X11_poke se_X11_poke ini_X11 cd_X11_poke (by decide) hD (by decide +kernel)
theorem cd_X10_scrub : Cond.code yX10_scrub cX10_scrub 2 (Option.some Jvm.ClassFile.FieldType.int) ∈ TB := tb_mem 688 (by decide +kernel) rfl
theorem im_X10_scrub : Cond.instanceMethod yX10_scrub ∈ TB := tb_mem 686 (by decide +kernel) rfl
theorem se_X10_scrub : Cond.selects yX10_scrub.cls yX10_scrub yX10_scrub ∈ TB := tb_mem 687 (by decide +kernel) rfl
theorem ml_L_99 : Cond.methodLink RL 99 yX10_scrub ∈ TB := tb_mem 685 (by decide +kernel) rfl
theorem cw_L_99 {s : State} {args : Array Value} {d D : Nat} (hts : ∀ w ∈ TB, w.before args s = true) (hD : d < D) : CallW (rmL D) s args RL RX10 99 yX10_scrub cX10_scrub 2 (Option.some Jvm.ClassFile.FieldType.int) (.code yX10_scrub cX10_scrub 2 (Option.some Jvm.ClassFile.FieldType.int) :: TB) (rmL d) 0 0 1 := m_cwV (y := yX10_scrub) hts ml_L_99 im_X10_scrub se_X10_scrub ini_X10 cd_X10_scrub (by decide) hD (by decide +kernel)
theorem cd_X11_scrub : Cond.code yX11_scrub cX11_scrub 4 (Option.some Jvm.ClassFile.FieldType.int) ∈ TB := tb_mem 1326 (by decide +kernel) rfl
theorem im_X11_scrub : Cond.instanceMethod yX11_scrub ∈ TB := tb_mem 1324 (by decide +kernel) rfl
theorem se_X11_scrub : Cond.selects yX11_scrub.cls yX11_scrub yX11_scrub ∈ TB := tb_mem 1325 (by decide +kernel) rfl
theorem ml_L_102 : Cond.methodLink RL 102 yX11_scrub ∈ TB := tb_mem 1323 (by decide +kernel) rfl
theorem cw_L_102 {s : State} {args : Array Value} {d D : Nat} (hts : ∀ w ∈ TB, w.before args s = true) (hD : d < D) : CallW (rmL D) s args RL RX11 102 yX11_scrub cX11_scrub 4 (Option.some Jvm.ClassFile.FieldType.int) (.code yX11_scrub cX11_scrub 4 (Option.some Jvm.ClassFile.FieldType.int) :: TB) (rmL d) 0 0 1 := m_cwV (y := yX11_scrub) hts ml_L_102 im_X11_scrub se_X11_scrub ini_X11 cd_X11_scrub (by decide) hD (by decide +kernel)
theorem cd_X10_repair : Cond.code yX10_repair cX10_repair 1 (Option.some Jvm.ClassFile.FieldType.int) ∈ TB := tb_mem 704 (by decide +kernel) rfl
theorem im_X10_repair : Cond.instanceMethod yX10_repair ∈ TB := tb_mem 702 (by decide +kernel) rfl
theorem se_X10_repair : Cond.selects yX10_repair.cls yX10_repair yX10_repair ∈ TB := tb_mem 703 (by decide +kernel) rfl
theorem ml_L_103 : Cond.methodLink RL 103 yX10_repair ∈ TB := tb_mem 701 (by decide +kernel) rfl
theorem cw_L_103 {s : State} {args : Array Value} {d D : Nat} (hts : ∀ w ∈ TB, w.before args s = true) (hD : d < D) : CallW (rmL D) s args RL RX10 103 yX10_repair cX10_repair 1 (Option.some Jvm.ClassFile.FieldType.int) (.code yX10_repair cX10_repair 1 (Option.some Jvm.ClassFile.FieldType.int) :: TB) (rmL d) 0 0 0 := m_cwV (y := yX10_repair) hts ml_L_103 im_X10_repair se_X10_repair ini_X10 cd_X10_repair (by decide) hD (by decide +kernel)
theorem cd_X11_repair : Cond.code yX11_repair cX11_repair 7 (Option.some Jvm.ClassFile.FieldType.int) ∈ TB := tb_mem 1334 (by decide +kernel) rfl
theorem im_X11_repair : Cond.instanceMethod yX11_repair ∈ TB := tb_mem 1332 (by decide +kernel) rfl
theorem se_X11_repair : Cond.selects yX11_repair.cls yX11_repair yX11_repair ∈ TB := tb_mem 1333 (by decide +kernel) rfl
theorem ml_L_106 : Cond.methodLink RL 106 yX11_repair ∈ TB := tb_mem 1331 (by decide +kernel) rfl
theorem cw_L_106 {s : State} {args : Array Value} {d D : Nat} (hts : ∀ w ∈ TB, w.before args s = true) (hD : d < D) : CallW (rmL D) s args RL RX11 106 yX11_repair cX11_repair 7 (Option.some Jvm.ClassFile.FieldType.int) (.code yX11_repair cX11_repair 7 (Option.some Jvm.ClassFile.FieldType.int) :: TB) (rmL d) 0 0 0 := m_cwV (y := yX11_repair) hts ml_L_106 im_X11_repair se_X11_repair ini_X11 cd_X11_repair (by decide) hD (by decide +kernel)
theorem cd_X10_forecast : Cond.code yX10_forecast cX10_forecast 3 (Option.some Jvm.ClassFile.FieldType.int) ∈ TB := tb_mem 716 (by decide +kernel) rfl
theorem im_X10_forecast : Cond.instanceMethod yX10_forecast ∈ TB := tb_mem 714 (by decide +kernel) rfl
theorem se_X10_forecast : Cond.selects yX10_forecast.cls yX10_forecast yX10_forecast ∈ TB := tb_mem 715 (by decide +kernel) rfl
theorem ml_L_107 : Cond.methodLink RL 107 yX10_forecast ∈ TB := tb_mem 713 (by decide +kernel) rfl
theorem cw_L_107 {s : State} {args : Array Value} {d D : Nat} (hts : ∀ w ∈ TB, w.before args s = true) (hD : d < D) : CallW (rmL D) s args RL RX10 107 yX10_forecast cX10_forecast 3 (Option.some Jvm.ClassFile.FieldType.int) (.code yX10_forecast cX10_forecast 3 (Option.some Jvm.ClassFile.FieldType.int) :: TB) (rmL d) 0 0 1 := m_cwV (y := yX10_forecast) hts ml_L_107 im_X10_forecast se_X10_forecast ini_X10 cd_X10_forecast (by decide) hD (by decide +kernel)
theorem cd_X11_forecast : Cond.code yX11_forecast cX11_forecast 4 (Option.some Jvm.ClassFile.FieldType.int) ∈ TB := tb_mem 1338 (by decide +kernel) rfl
theorem im_X11_forecast : Cond.instanceMethod yX11_forecast ∈ TB := tb_mem 1336 (by decide +kernel) rfl
theorem se_X11_forecast : Cond.selects yX11_forecast.cls yX11_forecast yX11_forecast ∈ TB := tb_mem 1337 (by decide +kernel) rfl
theorem ml_L_110 : Cond.methodLink RL 110 yX11_forecast ∈ TB := tb_mem 1335 (by decide +kernel) rfl
theorem cw_L_110 {s : State} {args : Array Value} {d D : Nat} (hts : ∀ w ∈ TB, w.before args s = true) (hD : d < D) : CallW (rmL D) s args RL RX11 110 yX11_forecast cX11_forecast 4 (Option.some Jvm.ClassFile.FieldType.int) (.code yX11_forecast cX11_forecast 4 (Option.some Jvm.ClassFile.FieldType.int) :: TB) (rmL d) 0 0 1 := m_cwV (y := yX11_forecast) hts ml_L_110 im_X11_forecast se_X11_forecast ini_X11 cd_X11_forecast (by decide) hD (by decide +kernel)
theorem cd_X10_image : Cond.code yX10_image cX10_image 2 (Option.some Jvm.ClassFile.FieldType.boolean) ∈ TB := tb_mem 734 (by decide +kernel) rfl
theorem im_X10_image : Cond.instanceMethod yX10_image ∈ TB := tb_mem 732 (by decide +kernel) rfl
theorem se_X10_image : Cond.selects yX10_image.cls yX10_image yX10_image ∈ TB := tb_mem 733 (by decide +kernel) rfl
theorem ml_L_111 : Cond.methodLink RL 111 yX10_image ∈ TB := tb_mem 731 (by decide +kernel) rfl
theorem cw_L_111 {s : State} {args : Array Value} {d D : Nat} (hts : ∀ w ∈ TB, w.before args s = true) (hD : d < D) : CallW (rmL D) s args RL RX10 111 yX10_image cX10_image 2 (Option.some Jvm.ClassFile.FieldType.boolean) (.code yX10_image cX10_image 2 (Option.some Jvm.ClassFile.FieldType.boolean) :: TB) (rmL d) 0 0 1 := m_cwV (y := yX10_image) hts ml_L_111 im_X10_image se_X10_image ini_X10 cd_X10_image (by decide) hD (by decide +kernel)
theorem cd_X11_image : Cond.code yX11_image cX11_image 3 (Option.some Jvm.ClassFile.FieldType.boolean) ∈ TB := tb_mem 1366 (by decide +kernel) rfl
theorem im_X11_image : Cond.instanceMethod yX11_image ∈ TB := tb_mem 1364 (by decide +kernel) rfl
theorem se_X11_image : Cond.selects yX11_image.cls yX11_image yX11_image ∈ TB := tb_mem 1365 (by decide +kernel) rfl
theorem ml_L_114 : Cond.methodLink RL 114 yX11_image ∈ TB := tb_mem 1363 (by decide +kernel) rfl
theorem cw_L_114 {s : State} {args : Array Value} {d D : Nat} (hts : ∀ w ∈ TB, w.before args s = true) (hD : d < D) : CallW (rmL D) s args RL RX11 114 yX11_image cX11_image 3 (Option.some Jvm.ClassFile.FieldType.boolean) (.code yX11_image cX11_image 3 (Option.some Jvm.ClassFile.FieldType.boolean) :: TB) (rmL d) 0 0 1 := m_cwV (y := yX11_image) hts ml_L_114 im_X11_image se_X11_image ini_X11 cd_X11_image (by decide) hD (by decide +kernel)
theorem cd_X10_back : Cond.code yX10_back cX10_back 2 (Option.some Jvm.ClassFile.FieldType.boolean) ∈ TB := tb_mem 738 (by decide +kernel) rfl
theorem im_X10_back : Cond.instanceMethod yX10_back ∈ TB := tb_mem 736 (by decide +kernel) rfl
theorem se_X10_back : Cond.selects yX10_back.cls yX10_back yX10_back ∈ TB := tb_mem 737 (by decide +kernel) rfl
theorem ml_L_115 : Cond.methodLink RL 115 yX10_back ∈ TB := tb_mem 735 (by decide +kernel) rfl
theorem cw_L_115 {s : State} {args : Array Value} {d D : Nat} (hts : ∀ w ∈ TB, w.before args s = true) (hD : d < D) : CallW (rmL D) s args RL RX10 115 yX10_back cX10_back 2 (Option.some Jvm.ClassFile.FieldType.boolean) (.code yX10_back cX10_back 2 (Option.some Jvm.ClassFile.FieldType.boolean) :: TB) (rmL d) 0 0 1 := m_cwV (y := yX10_back) hts ml_L_115 im_X10_back se_X10_back ini_X10 cd_X10_back (by decide) hD (by decide +kernel)
theorem cd_X11_back : Cond.code yX11_back cX11_back 3 (Option.some Jvm.ClassFile.FieldType.boolean) ∈ TB := tb_mem 1370 (by decide +kernel) rfl
theorem im_X11_back : Cond.instanceMethod yX11_back ∈ TB := tb_mem 1368 (by decide +kernel) rfl
theorem se_X11_back : Cond.selects yX11_back.cls yX11_back yX11_back ∈ TB := tb_mem 1369 (by decide +kernel) rfl
theorem ml_L_118 : Cond.methodLink RL 118 yX11_back ∈ TB := tb_mem 1367 (by decide +kernel) rfl
theorem cw_L_118 {s : State} {args : Array Value} {d D : Nat} (hts : ∀ w ∈ TB, w.before args s = true) (hD : d < D) : CallW (rmL D) s args RL RX11 118 yX11_back cX11_back 3 (Option.some Jvm.ClassFile.FieldType.boolean) (.code yX11_back cX11_back 3 (Option.some Jvm.ClassFile.FieldType.boolean) :: TB) (rmL d) 0 0 1 := m_cwV (y := yX11_back) hts ml_L_118 im_X11_back se_X11_back ini_X11 cd_X11_back (by decide) hD (by decide +kernel)
theorem cd_X10_feed : Cond.code yX10_feed cX10_feed 7 (Option.some Jvm.ClassFile.FieldType.int) ∈ TB := tb_mem 742 (by decide +kernel) rfl
theorem im_X10_feed : Cond.instanceMethod yX10_feed ∈ TB := tb_mem 740 (by decide +kernel) rfl
theorem se_X10_feed : Cond.selects yX10_feed.cls yX10_feed yX10_feed ∈ TB := tb_mem 741 (by decide +kernel) rfl
theorem ml_L_121 : Cond.methodLink RL 121 yX10_feed ∈ TB := tb_mem 739 (by decide +kernel) rfl
theorem cw_L_121 {s : State} {args : Array Value} {d D : Nat} (hts : ∀ w ∈ TB, w.before args s = true) (hD : d < D) : CallW (rmL D) s args RL RX10 121 yX10_feed cX10_feed 7 (Option.some Jvm.ClassFile.FieldType.int) (.code yX10_feed cX10_feed 7 (Option.some Jvm.ClassFile.FieldType.int) :: TB) (rmL d) 0 0 3 := m_cwV (y := yX10_feed) hts ml_L_121 im_X10_feed se_X10_feed ini_X10 cd_X10_feed (by decide) hD (by decide +kernel)
theorem cd_X11_feed : Cond.code yX11_feed cX11_feed 7 (Option.some Jvm.ClassFile.FieldType.int) ∈ TB := tb_mem 1374 (by decide +kernel) rfl
theorem im_X11_feed : Cond.instanceMethod yX11_feed ∈ TB := tb_mem 1372 (by decide +kernel) rfl
theorem se_X11_feed : Cond.selects yX11_feed.cls yX11_feed yX11_feed ∈ TB := tb_mem 1373 (by decide +kernel) rfl
theorem ml_L_125 : Cond.methodLink RL 125 yX11_feed ∈ TB := tb_mem 1371 (by decide +kernel) rfl
theorem cw_L_125 {s : State} {args : Array Value} {d D : Nat} (hts : ∀ w ∈ TB, w.before args s = true) (hD : d < D) : CallW (rmL D) s args RL RX11 125 yX11_feed cX11_feed 7 (Option.some Jvm.ClassFile.FieldType.int) (.code yX11_feed cX11_feed 7 (Option.some Jvm.ClassFile.FieldType.int) :: TB) (rmL d) 0 0 3 := m_cwV (y := yX11_feed) hts ml_L_125 im_X11_feed se_X11_feed ini_X11 cd_X11_feed (by decide) hD (by decide +kernel)
theorem cd_X10_end : Cond.code yX10_end cX10_end 2 (Option.some Jvm.ClassFile.FieldType.int) ∈ TB := tb_mem 750 (by decide +kernel) rfl
theorem im_X10_end : Cond.instanceMethod yX10_end ∈ TB := tb_mem 748 (by decide +kernel) rfl
theorem se_X10_end : Cond.selects yX10_end.cls yX10_end yX10_end ∈ TB := tb_mem 749 (by decide +kernel) rfl
theorem ml_L_126 : Cond.methodLink RL 126 yX10_end ∈ TB := tb_mem 747 (by decide +kernel) rfl
theorem cw_L_126 {s : State} {args : Array Value} {d D : Nat} (hts : ∀ w ∈ TB, w.before args s = true) (hD : d < D) : CallW (rmL D) s args RL RX10 126 yX10_end cX10_end 2 (Option.some Jvm.ClassFile.FieldType.int) (.code yX10_end cX10_end 2 (Option.some Jvm.ClassFile.FieldType.int) :: TB) (rmL d) 0 0 1 := m_cwV (y := yX10_end) hts ml_L_126 im_X10_end se_X10_end ini_X10 cd_X10_end (by decide) hD (by decide +kernel)
theorem cd_X11_end : Cond.code yX11_end cX11_end 2 (Option.some Jvm.ClassFile.FieldType.int) ∈ TB := tb_mem 1382 (by decide +kernel) rfl
theorem im_X11_end : Cond.instanceMethod yX11_end ∈ TB := tb_mem 1380 (by decide +kernel) rfl
theorem se_X11_end : Cond.selects yX11_end.cls yX11_end yX11_end ∈ TB := tb_mem 1381 (by decide +kernel) rfl
theorem ml_L_129 : Cond.methodLink RL 129 yX11_end ∈ TB := tb_mem 1379 (by decide +kernel) rfl
theorem cw_L_129 {s : State} {args : Array Value} {d D : Nat} (hts : ∀ w ∈ TB, w.before args s = true) (hD : d < D) : CallW (rmL D) s args RL RX11 129 yX11_end cX11_end 2 (Option.some Jvm.ClassFile.FieldType.int) (.code yX11_end cX11_end 2 (Option.some Jvm.ClassFile.FieldType.int) :: TB) (rmL d) 0 0 1 := m_cwV (y := yX11_end) hts ml_L_129 im_X11_end se_X11_end ini_X11 cd_X11_end (by decide) hD (by decide +kernel)
theorem cd_X10_script : Cond.code yX10_script cX10_script 3 (Option.some Jvm.ClassFile.FieldType.int) ∈ TB := tb_mem 754 (by decide +kernel) rfl
theorem im_X10_script : Cond.instanceMethod yX10_script ∈ TB := tb_mem 752 (by decide +kernel) rfl
theorem se_X10_script : Cond.selects yX10_script.cls yX10_script yX10_script ∈ TB := tb_mem 753 (by decide +kernel) rfl
theorem ml_L_130 : Cond.methodLink RL 130 yX10_script ∈ TB := tb_mem 751 (by decide +kernel) rfl
theorem cw_L_130 {s : State} {args : Array Value} {d D : Nat} (hts : ∀ w ∈ TB, w.before args s = true) (hD : d < D) : CallW (rmL D) s args RL RX10 130 yX10_script cX10_script 3 (Option.some Jvm.ClassFile.FieldType.int) (.code yX10_script cX10_script 3 (Option.some Jvm.ClassFile.FieldType.int) :: TB) (rmL d) 0 0 0 := m_cwV (y := yX10_script) hts ml_L_130 im_X10_script se_X10_script ini_X10 cd_X10_script (by decide) hD (by decide +kernel)
theorem cd_X11_script : Cond.code yX11_script cX11_script 1 (Option.some Jvm.ClassFile.FieldType.int) ∈ TB := tb_mem 1386 (by decide +kernel) rfl
theorem im_X11_script : Cond.instanceMethod yX11_script ∈ TB := tb_mem 1384 (by decide +kernel) rfl
theorem se_X11_script : Cond.selects yX11_script.cls yX11_script yX11_script ∈ TB := tb_mem 1385 (by decide +kernel) rfl
theorem ml_L_133 : Cond.methodLink RL 133 yX11_script ∈ TB := tb_mem 1383 (by decide +kernel) rfl
theorem cw_L_133 {s : State} {args : Array Value} {d D : Nat} (hts : ∀ w ∈ TB, w.before args s = true) (hD : d < D) : CallW (rmL D) s args RL RX11 133 yX11_script cX11_script 1 (Option.some Jvm.ClassFile.FieldType.int) (.code yX11_script cX11_script 1 (Option.some Jvm.ClassFile.FieldType.int) :: TB) (rmL d) 0 0 0 := m_cwV (y := yX11_script) hts ml_L_133 im_X11_script se_X11_script ini_X11 cd_X11_script (by decide) hD (by decide +kernel)
theorem cd_X10_laid : Cond.code yX10_laid cX10_laid 2 (Option.some Jvm.ClassFile.FieldType.int) ∈ TB := tb_mem 882 (by decide +kernel) rfl
theorem im_X10_laid : Cond.instanceMethod yX10_laid ∈ TB := tb_mem 880 (by decide +kernel) rfl
theorem se_X10_laid : Cond.selects yX10_laid.cls yX10_laid yX10_laid ∈ TB := tb_mem 881 (by decide +kernel) rfl
theorem ml_L_134 : Cond.methodLink RL 134 yX10_laid ∈ TB := tb_mem 879 (by decide +kernel) rfl
theorem cw_L_134 {s : State} {args : Array Value} {d D : Nat} (hts : ∀ w ∈ TB, w.before args s = true) (hD : d < D) : CallW (rmL D) s args RL RX10 134 yX10_laid cX10_laid 2 (Option.some Jvm.ClassFile.FieldType.int) (.code yX10_laid cX10_laid 2 (Option.some Jvm.ClassFile.FieldType.int) :: TB) (rmL d) 0 0 1 := m_cwV (y := yX10_laid) hts ml_L_134 im_X10_laid se_X10_laid ini_X10 cd_X10_laid (by decide) hD (by decide +kernel)
theorem cd_X11_laid : Cond.code yX11_laid cX11_laid 2 (Option.some Jvm.ClassFile.FieldType.int) ∈ TB := tb_mem 1479 (by decide +kernel) rfl
theorem im_X11_laid : Cond.instanceMethod yX11_laid ∈ TB := tb_mem 1477 (by decide +kernel) rfl
theorem se_X11_laid : Cond.selects yX11_laid.cls yX11_laid yX11_laid ∈ TB := tb_mem 1478 (by decide +kernel) rfl
theorem ml_L_137 : Cond.methodLink RL 137 yX11_laid ∈ TB := tb_mem 1476 (by decide +kernel) rfl
theorem cw_L_137 {s : State} {args : Array Value} {d D : Nat} (hts : ∀ w ∈ TB, w.before args s = true) (hD : d < D) : CallW (rmL D) s args RL RX11 137 yX11_laid cX11_laid 2 (Option.some Jvm.ClassFile.FieldType.int) (.code yX11_laid cX11_laid 2 (Option.some Jvm.ClassFile.FieldType.int) :: TB) (rmL d) 0 0 1 := m_cwV (y := yX11_laid) hts ml_L_137 im_X11_laid se_X11_laid ini_X11 cd_X11_laid (by decide) hD (by decide +kernel)
theorem cd_X10_of : Cond.code yX10_of cX10_of 3 (Option.some Jvm.ClassFile.FieldType.int) ∈ TB := tb_mem 887 (by decide +kernel) rfl
theorem im_X10_of : Cond.instanceMethod yX10_of ∈ TB := tb_mem 885 (by decide +kernel) rfl
theorem se_X10_of : Cond.selects yX10_of.cls yX10_of yX10_of ∈ TB := tb_mem 886 (by decide +kernel) rfl
theorem ml_L_138 : Cond.methodLink RL 138 yX10_of ∈ TB := tb_mem 884 (by decide +kernel) rfl
theorem cw_L_138 {s : State} {args : Array Value} {d D : Nat} (hts : ∀ w ∈ TB, w.before args s = true) (hD : d < D) : CallW (rmL D) s args RL RX10 138 yX10_of cX10_of 3 (Option.some Jvm.ClassFile.FieldType.int) (.code yX10_of cX10_of 3 (Option.some Jvm.ClassFile.FieldType.int) :: TB) (rmL d) 0 0 2 := m_cwV (y := yX10_of) hts ml_L_138 im_X10_of se_X10_of ini_X10 cd_X10_of (by decide) hD (by decide +kernel)
theorem cd_X11_of : Cond.code yX11_of cX11_of 4 (Option.some Jvm.ClassFile.FieldType.int) ∈ TB := tb_mem 1483 (by decide +kernel) rfl
theorem im_X11_of : Cond.instanceMethod yX11_of ∈ TB := tb_mem 1481 (by decide +kernel) rfl
theorem se_X11_of : Cond.selects yX11_of.cls yX11_of yX11_of ∈ TB := tb_mem 1482 (by decide +kernel) rfl
theorem ml_L_141 : Cond.methodLink RL 141 yX11_of ∈ TB := tb_mem 1480 (by decide +kernel) rfl
theorem cw_L_141 {s : State} {args : Array Value} {d D : Nat} (hts : ∀ w ∈ TB, w.before args s = true) (hD : d < D) : CallW (rmL D) s args RL RX11 141 yX11_of cX11_of 4 (Option.some Jvm.ClassFile.FieldType.int) (.code yX11_of cX11_of 4 (Option.some Jvm.ClassFile.FieldType.int) :: TB) (rmL d) 0 0 2 := m_cwV (y := yX11_of) hts ml_L_141 im_X11_of se_X11_of ini_X11 cd_X11_of (by decide) hD (by decide +kernel)
theorem sc_L_word : Cond.static yL_word ∈ TB := tb_mem 1030 (by decide +kernel) rfl
theorem ml_L_142 : Cond.methodLink RL 142 yL_word ∈ TB := tb_mem 1029 (by decide +kernel) rfl
theorem cd_X11_word : Cond.code yX11_word cX11_word 3 (Option.some Jvm.ClassFile.FieldType.int) ∈ TB := tb_mem 1487 (by decide +kernel) rfl
theorem im_X11_word : Cond.instanceMethod yX11_word ∈ TB := tb_mem 1485 (by decide +kernel) rfl
theorem se_X11_word : Cond.selects yX11_word.cls yX11_word yX11_word ∈ TB := tb_mem 1486 (by decide +kernel) rfl
theorem ml_L_144 : Cond.methodLink RL 144 yX11_word ∈ TB := tb_mem 1484 (by decide +kernel) rfl
theorem cw_L_144 {s : State} {args : Array Value} {d D : Nat} (hts : ∀ w ∈ TB, w.before args s = true) (hD : d < D) : CallW (rmL D) s args RL RX11 144 yX11_word cX11_word 3 (Option.some Jvm.ClassFile.FieldType.int) (.code yX11_word cX11_word 3 (Option.some Jvm.ClassFile.FieldType.int) :: TB) (rmL d) 0 0 2 := m_cwV (y := yX11_word) hts ml_L_144 im_X11_word se_X11_word ini_X11 cd_X11_word (by decide) hD (by decide +kernel)
theorem cd_X10_badAt : Cond.code yX10_badAt cX10_badAt 2 (Option.some Jvm.ClassFile.FieldType.int) ∈ TB := tb_mem 895 (by decide +kernel) rfl
theorem im_X10_badAt : Cond.instanceMethod yX10_badAt ∈ TB := tb_mem 893 (by decide +kernel) rfl
theorem se_X10_badAt : Cond.selects yX10_badAt.cls yX10_badAt yX10_badAt ∈ TB := tb_mem 894 (by decide +kernel) rfl
theorem ml_L_145 : Cond.methodLink RL 145 yX10_badAt ∈ TB := tb_mem 892 (by decide +kernel) rfl
theorem cw_L_145 {s : State} {args : Array Value} {d D : Nat} (hts : ∀ w ∈ TB, w.before args s = true) (hD : d < D) : CallW (rmL D) s args RL RX10 145 yX10_badAt cX10_badAt 2 (Option.some Jvm.ClassFile.FieldType.int) (.code yX10_badAt cX10_badAt 2 (Option.some Jvm.ClassFile.FieldType.int) :: TB) (rmL d) 0 0 1 := m_cwV (y := yX10_badAt) hts ml_L_145 im_X10_badAt se_X10_badAt ini_X10 cd_X10_badAt (by decide) hD (by decide +kernel)
theorem cd_X11_badAt : Cond.code yX11_badAt cX11_badAt 5 (Option.some Jvm.ClassFile.FieldType.int) ∈ TB := tb_mem 1491 (by decide +kernel) rfl
theorem im_X11_badAt : Cond.instanceMethod yX11_badAt ∈ TB := tb_mem 1489 (by decide +kernel) rfl
theorem se_X11_badAt : Cond.selects yX11_badAt.cls yX11_badAt yX11_badAt ∈ TB := tb_mem 1490 (by decide +kernel) rfl
theorem ml_L_148 : Cond.methodLink RL 148 yX11_badAt ∈ TB := tb_mem 1488 (by decide +kernel) rfl
theorem cw_L_148 {s : State} {args : Array Value} {d D : Nat} (hts : ∀ w ∈ TB, w.before args s = true) (hD : d < D) : CallW (rmL D) s args RL RX11 148 yX11_badAt cX11_badAt 5 (Option.some Jvm.ClassFile.FieldType.int) (.code yX11_badAt cX11_badAt 5 (Option.some Jvm.ClassFile.FieldType.int) :: TB) (rmL d) 0 0 1 := m_cwV (y := yX11_badAt) hts ml_L_148 im_X11_badAt se_X11_badAt ini_X11 cd_X11_badAt (by decide) hD (by decide +kernel)
theorem cd_X10_spoilt : Cond.code yX10_spoilt cX10_spoilt 1 (Option.some Jvm.ClassFile.FieldType.int) ∈ TB := tb_mem 907 (by decide +kernel) rfl
theorem im_X10_spoilt : Cond.instanceMethod yX10_spoilt ∈ TB := tb_mem 905 (by decide +kernel) rfl
theorem se_X10_spoilt : Cond.selects yX10_spoilt.cls yX10_spoilt yX10_spoilt ∈ TB := tb_mem 906 (by decide +kernel) rfl
theorem ml_L_149 : Cond.methodLink RL 149 yX10_spoilt ∈ TB := tb_mem 904 (by decide +kernel) rfl
theorem cw_L_149 {s : State} {args : Array Value} {d D : Nat} (hts : ∀ w ∈ TB, w.before args s = true) (hD : d < D) : CallW (rmL D) s args RL RX10 149 yX10_spoilt cX10_spoilt 1 (Option.some Jvm.ClassFile.FieldType.int) (.code yX10_spoilt cX10_spoilt 1 (Option.some Jvm.ClassFile.FieldType.int) :: TB) (rmL d) 0 0 0 := m_cwV (y := yX10_spoilt) hts ml_L_149 im_X10_spoilt se_X10_spoilt ini_X10 cd_X10_spoilt (by decide) hD (by decide +kernel)
theorem cd_X11_spoilt : Cond.code yX11_spoilt cX11_spoilt 2 (Option.some Jvm.ClassFile.FieldType.int) ∈ TB := tb_mem 1350 (by decide +kernel) rfl
theorem im_X11_spoilt : Cond.instanceMethod yX11_spoilt ∈ TB := tb_mem 1348 (by decide +kernel) rfl
theorem se_X11_spoilt : Cond.selects yX11_spoilt.cls yX11_spoilt yX11_spoilt ∈ TB := tb_mem 1349 (by decide +kernel) rfl
theorem ml_L_152 : Cond.methodLink RL 152 yX11_spoilt ∈ TB := tb_mem 1347 (by decide +kernel) rfl
theorem cw_L_152 {s : State} {args : Array Value} {d D : Nat} (hts : ∀ w ∈ TB, w.before args s = true) (hD : d < D) : CallW (rmL D) s args RL RX11 152 yX11_spoilt cX11_spoilt 2 (Option.some Jvm.ClassFile.FieldType.int) (.code yX11_spoilt cX11_spoilt 2 (Option.some Jvm.ClassFile.FieldType.int) :: TB) (rmL d) 0 0 0 := m_cwV (y := yX11_spoilt) hts ml_L_152 im_X11_spoilt se_X11_spoilt ini_X11 cd_X11_spoilt (by decide) hD (by decide +kernel)
theorem cd_X10_exposed : Cond.code yX10_exposed cX10_exposed 2 (Option.some Jvm.ClassFile.FieldType.int) ∈ TB := tb_mem 915 (by decide +kernel) rfl
theorem im_X10_exposed : Cond.instanceMethod yX10_exposed ∈ TB := tb_mem 913 (by decide +kernel) rfl
theorem se_X10_exposed : Cond.selects yX10_exposed.cls yX10_exposed yX10_exposed ∈ TB := tb_mem 914 (by decide +kernel) rfl
theorem ml_L_153 : Cond.methodLink RL 153 yX10_exposed ∈ TB := tb_mem 912 (by decide +kernel) rfl
theorem cw_L_153 {s : State} {args : Array Value} {d D : Nat} (hts : ∀ w ∈ TB, w.before args s = true) (hD : d < D) : CallW (rmL D) s args RL RX10 153 yX10_exposed cX10_exposed 2 (Option.some Jvm.ClassFile.FieldType.int) (.code yX10_exposed cX10_exposed 2 (Option.some Jvm.ClassFile.FieldType.int) :: TB) (rmL d) 0 0 1 := m_cwV (y := yX10_exposed) hts ml_L_153 im_X10_exposed se_X10_exposed ini_X10 cd_X10_exposed (by decide) hD (by decide +kernel)
theorem cd_X11_exposed : Cond.code yX11_exposed cX11_exposed 3 (Option.some Jvm.ClassFile.FieldType.int) ∈ TB := tb_mem 1362 (by decide +kernel) rfl
theorem im_X11_exposed : Cond.instanceMethod yX11_exposed ∈ TB := tb_mem 1360 (by decide +kernel) rfl
theorem se_X11_exposed : Cond.selects yX11_exposed.cls yX11_exposed yX11_exposed ∈ TB := tb_mem 1361 (by decide +kernel) rfl
theorem ml_L_156 : Cond.methodLink RL 156 yX11_exposed ∈ TB := tb_mem 1359 (by decide +kernel) rfl
theorem cw_L_156 {s : State} {args : Array Value} {d D : Nat} (hts : ∀ w ∈ TB, w.before args s = true) (hD : d < D) : CallW (rmL D) s args RL RX11 156 yX11_exposed cX11_exposed 3 (Option.some Jvm.ClassFile.FieldType.int) (.code yX11_exposed cX11_exposed 3 (Option.some Jvm.ClassFile.FieldType.int) :: TB) (rmL d) 0 0 1 := m_cwV (y := yX11_exposed) hts ml_L_156 im_X11_exposed se_X11_exposed ini_X11 cd_X11_exposed (by decide) hD (by decide +kernel)
theorem cd_X10_batch : Cond.code yX10_batch cX10_batch 2 (Option.some Jvm.ClassFile.FieldType.int) ∈ TB := tb_mem 919 (by decide +kernel) rfl
theorem im_X10_batch : Cond.instanceMethod yX10_batch ∈ TB := tb_mem 917 (by decide +kernel) rfl
theorem se_X10_batch : Cond.selects yX10_batch.cls yX10_batch yX10_batch ∈ TB := tb_mem 918 (by decide +kernel) rfl
theorem ml_L_157 : Cond.methodLink RL 157 yX10_batch ∈ TB := tb_mem 916 (by decide +kernel) rfl
theorem cw_L_157 {s : State} {args : Array Value} {d D : Nat} (hts : ∀ w ∈ TB, w.before args s = true) (hD : d < D) : CallW (rmL D) s args RL RX10 157 yX10_batch cX10_batch 2 (Option.some Jvm.ClassFile.FieldType.int) (.code yX10_batch cX10_batch 2 (Option.some Jvm.ClassFile.FieldType.int) :: TB) (rmL d) 0 0 1 := m_cwV (y := yX10_batch) hts ml_L_157 im_X10_batch se_X10_batch ini_X10 cd_X10_batch (by decide) hD (by decide +kernel)
theorem cd_X11_batch : Cond.code yX11_batch cX11_batch 2 (Option.some Jvm.ClassFile.FieldType.int) ∈ TB := tb_mem 1495 (by decide +kernel) rfl
theorem im_X11_batch : Cond.instanceMethod yX11_batch ∈ TB := tb_mem 1493 (by decide +kernel) rfl
theorem se_X11_batch : Cond.selects yX11_batch.cls yX11_batch yX11_batch ∈ TB := tb_mem 1494 (by decide +kernel) rfl
theorem ml_L_160 : Cond.methodLink RL 160 yX11_batch ∈ TB := tb_mem 1492 (by decide +kernel) rfl
theorem cw_L_160 {s : State} {args : Array Value} {d D : Nat} (hts : ∀ w ∈ TB, w.before args s = true) (hD : d < D) : CallW (rmL D) s args RL RX11 160 yX11_batch cX11_batch 2 (Option.some Jvm.ClassFile.FieldType.int) (.code yX11_batch cX11_batch 2 (Option.some Jvm.ClassFile.FieldType.int) :: TB) (rmL d) 0 0 1 := m_cwV (y := yX11_batch) hts ml_L_160 im_X11_batch se_X11_batch ini_X11 cd_X11_batch (by decide) hD (by decide +kernel)
theorem cd_X10_count : Cond.code yX10_count cX10_count 2 (Option.some Jvm.ClassFile.FieldType.int) ∈ TB := tb_mem 932 (by decide +kernel) rfl
theorem im_X10_count : Cond.instanceMethod yX10_count ∈ TB := tb_mem 930 (by decide +kernel) rfl
theorem se_X10_count : Cond.selects yX10_count.cls yX10_count yX10_count ∈ TB := tb_mem 931 (by decide +kernel) rfl
theorem ml_L_161 : Cond.methodLink RL 161 yX10_count ∈ TB := tb_mem 929 (by decide +kernel) rfl
theorem cw_L_161 {s : State} {args : Array Value} {d D : Nat} (hts : ∀ w ∈ TB, w.before args s = true) (hD : d < D) : CallW (rmL D) s args RL RX10 161 yX10_count cX10_count 2 (Option.some Jvm.ClassFile.FieldType.int) (.code yX10_count cX10_count 2 (Option.some Jvm.ClassFile.FieldType.int) :: TB) (rmL d) 0 0 1 := m_cwV (y := yX10_count) hts ml_L_161 im_X10_count se_X10_count ini_X10 cd_X10_count (by decide) hD (by decide +kernel)
theorem cd_X11_count : Cond.code yX11_count cX11_count 2 (Option.some Jvm.ClassFile.FieldType.int) ∈ TB := tb_mem 1511 (by decide +kernel) rfl
theorem im_X11_count : Cond.instanceMethod yX11_count ∈ TB := tb_mem 1509 (by decide +kernel) rfl
theorem se_X11_count : Cond.selects yX11_count.cls yX11_count yX11_count ∈ TB := tb_mem 1510 (by decide +kernel) rfl
theorem ml_L_164 : Cond.methodLink RL 164 yX11_count ∈ TB := tb_mem 1508 (by decide +kernel) rfl
theorem cw_L_164 {s : State} {args : Array Value} {d D : Nat} (hts : ∀ w ∈ TB, w.before args s = true) (hD : d < D) : CallW (rmL D) s args RL RX11 164 yX11_count cX11_count 2 (Option.some Jvm.ClassFile.FieldType.int) (.code yX11_count cX11_count 2 (Option.some Jvm.ClassFile.FieldType.int) :: TB) (rmL d) 0 0 1 := m_cwV (y := yX11_count) hts ml_L_164 im_X11_count se_X11_count ini_X11 cd_X11_count (by decide) hD (by decide +kernel)
theorem cd_X4_init : Cond.code yX4_init cX4_init 2 (Option.none : Option Jvm.ClassFile.FieldType) ∈ TB := tb_mem 93 (by decide +kernel) rfl
theorem im_X4_init : Cond.instanceMethod yX4_init ∈ TB := tb_mem 92 (by decide +kernel) rfl
theorem ml_X10_9 : Cond.methodLink RX10 9 yX4_init ∈ TB := tb_mem 91 (by decide +kernel) rfl
theorem cd_X4_begin : Cond.code yX4_begin cX4_begin 3 (Option.none : Option Jvm.ClassFile.FieldType) ∈ TB := tb_mem 204 (by decide +kernel) rfl
theorem im_X4_begin : Cond.instanceMethod yX4_begin ∈ TB := tb_mem 202 (by decide +kernel) rfl
theorem se_X4_begin : Cond.selects yX4_begin.cls yX4_begin yX4_begin ∈ TB := tb_mem 203 (by decide +kernel) rfl
theorem ml_X10_51 : Cond.methodLink RX10 51 yX4_begin ∈ TB := tb_mem 374 (by decide +kernel) rfl
theorem cw_X10_51 {s : State} {args : Array Value} {d D : Nat} (hts : ∀ w ∈ TB, w.before args s = true) (hD : d < D) : CallW (rmL D) s args RX10 RX4 51 yX4_begin cX4_begin 3 (Option.none : Option Jvm.ClassFile.FieldType) (.code yX4_begin cX4_begin 3 (Option.none : Option Jvm.ClassFile.FieldType) :: TB) (rmL d) 0 0 2 := m_cwV (y := yX4_begin) hts ml_X10_51 im_X4_begin se_X4_begin ini_X4 cd_X4_begin (by decide) hD (by decide +kernel)
theorem cd_X8_clear : Cond.code yX8_clear cX8_clear 1 (Option.none : Option Jvm.ClassFile.FieldType) ∈ TB := tb_mem 378 (by decide +kernel) rfl
theorem im_X8_clear : Cond.instanceMethod yX8_clear ∈ TB := tb_mem 376 (by decide +kernel) rfl
theorem se_X8_clear : Cond.selects yX8_clear.cls yX8_clear yX8_clear ∈ TB := tb_mem 377 (by decide +kernel) rfl
theorem ml_X10_55 : Cond.methodLink RX10 55 yX8_clear ∈ TB := tb_mem 375 (by decide +kernel) rfl
theorem cw_X10_55 {s : State} {args : Array Value} {d D : Nat} (hts : ∀ w ∈ TB, w.before args s = true) (hD : d < D) : CallW (rmL D) s args RX10 RX8 55 yX8_clear cX8_clear 1 (Option.none : Option Jvm.ClassFile.FieldType) (.code yX8_clear cX8_clear 1 (Option.none : Option Jvm.ClassFile.FieldType) :: TB) (rmL d) 0 0 0 := m_cwV (y := yX8_clear) hts ml_X10_55 im_X8_clear se_X8_clear ini_X8 cd_X8_clear (by decide) hD (by decide +kernel)
theorem cd_X4_blocks : Cond.code yX4_blocks cX4_blocks 1 (Option.some Jvm.ClassFile.FieldType.int) ∈ TB := tb_mem 382 (by decide +kernel) rfl
theorem im_X4_blocks : Cond.instanceMethod yX4_blocks ∈ TB := tb_mem 380 (by decide +kernel) rfl
theorem se_X4_blocks : Cond.selects yX4_blocks.cls yX4_blocks yX4_blocks ∈ TB := tb_mem 381 (by decide +kernel) rfl
theorem ml_X10_58 : Cond.methodLink RX10 58 yX4_blocks ∈ TB := tb_mem 379 (by decide +kernel) rfl
theorem cw_X10_58 {s : State} {args : Array Value} {d D : Nat} (hts : ∀ w ∈ TB, w.before args s = true) (hD : d < D) : CallW (rmL D) s args RX10 RX4 58 yX4_blocks cX4_blocks 1 (Option.some Jvm.ClassFile.FieldType.int) (.code yX4_blocks cX4_blocks 1 (Option.some Jvm.ClassFile.FieldType.int) :: TB) (rmL d) 0 0 0 := m_cwV (y := yX4_blocks) hts ml_X10_58 im_X4_blocks se_X4_blocks ini_X4 cd_X4_blocks (by decide) hD (by decide +kernel)
theorem cd_X4_changeSize : Cond.code yX4_changeSize cX4_changeSize 3 (Option.some Jvm.ClassFile.FieldType.int) ∈ TB := tb_mem 390 (by decide +kernel) rfl
theorem im_X4_changeSize : Cond.instanceMethod yX4_changeSize ∈ TB := tb_mem 388 (by decide +kernel) rfl
theorem se_X4_changeSize : Cond.selects yX4_changeSize.cls yX4_changeSize yX4_changeSize ∈ TB := tb_mem 389 (by decide +kernel) rfl
theorem ml_X10_62 : Cond.methodLink RX10 62 yX4_changeSize ∈ TB := tb_mem 387 (by decide +kernel) rfl
theorem cw_X10_62 {s : State} {args : Array Value} {d D : Nat} (hts : ∀ w ∈ TB, w.before args s = true) (hD : d < D) : CallW (rmL D) s args RX10 RX4 62 yX4_changeSize cX4_changeSize 3 (Option.some Jvm.ClassFile.FieldType.int) (.code yX4_changeSize cX4_changeSize 3 (Option.some Jvm.ClassFile.FieldType.int) :: TB) (rmL d) 0 0 1 := m_cwV (y := yX4_changeSize) hts ml_X10_62 im_X4_changeSize se_X4_changeSize ini_X4 cd_X4_changeSize (by decide) hD (by decide +kernel)
theorem cd_X4_changeLeast : Cond.code yX4_changeLeast cX4_changeLeast 3 (Option.some Jvm.ClassFile.FieldType.int) ∈ TB := tb_mem 406 (by decide +kernel) rfl
theorem im_X4_changeLeast : Cond.instanceMethod yX4_changeLeast ∈ TB := tb_mem 404 (by decide +kernel) rfl
theorem se_X4_changeLeast : Cond.selects yX4_changeLeast.cls yX4_changeLeast yX4_changeLeast ∈ TB := tb_mem 405 (by decide +kernel) rfl
theorem ml_X10_66 : Cond.methodLink RX10 66 yX4_changeLeast ∈ TB := tb_mem 403 (by decide +kernel) rfl
theorem cw_X10_66 {s : State} {args : Array Value} {d D : Nat} (hts : ∀ w ∈ TB, w.before args s = true) (hD : d < D) : CallW (rmL D) s args RX10 RX4 66 yX4_changeLeast cX4_changeLeast 3 (Option.some Jvm.ClassFile.FieldType.int) (.code yX4_changeLeast cX4_changeLeast 3 (Option.some Jvm.ClassFile.FieldType.int) :: TB) (rmL d) 0 0 1 := m_cwV (y := yX4_changeLeast) hts ml_X10_66 im_X4_changeLeast se_X4_changeLeast ini_X4 cd_X4_changeLeast (by decide) hD (by decide +kernel)
theorem cd_X4_changeMost : Cond.code yX4_changeMost cX4_changeMost 3 (Option.some Jvm.ClassFile.FieldType.int) ∈ TB := tb_mem 410 (by decide +kernel) rfl
theorem im_X4_changeMost : Cond.instanceMethod yX4_changeMost ∈ TB := tb_mem 408 (by decide +kernel) rfl
theorem se_X4_changeMost : Cond.selects yX4_changeMost.cls yX4_changeMost yX4_changeMost ∈ TB := tb_mem 409 (by decide +kernel) rfl
theorem ml_X10_69 : Cond.methodLink RX10 69 yX4_changeMost ∈ TB := tb_mem 407 (by decide +kernel) rfl
theorem cw_X10_69 {s : State} {args : Array Value} {d D : Nat} (hts : ∀ w ∈ TB, w.before args s = true) (hD : d < D) : CallW (rmL D) s args RX10 RX4 69 yX4_changeMost cX4_changeMost 3 (Option.some Jvm.ClassFile.FieldType.int) (.code yX4_changeMost cX4_changeMost 3 (Option.some Jvm.ClassFile.FieldType.int) :: TB) (rmL d) 0 0 1 := m_cwV (y := yX4_changeMost) hts ml_X10_69 im_X4_changeMost se_X4_changeMost ini_X4 cd_X4_changeMost (by decide) hD (by decide +kernel)
theorem cd_X4_beginGrowth : Cond.code yX4_beginGrowth cX4_beginGrowth 1 (Option.some Jvm.ClassFile.FieldType.int) ∈ TB := tb_mem 418 (by decide +kernel) rfl
theorem im_X4_beginGrowth : Cond.instanceMethod yX4_beginGrowth ∈ TB := tb_mem 416 (by decide +kernel) rfl
theorem se_X4_beginGrowth : Cond.selects yX4_beginGrowth.cls yX4_beginGrowth yX4_beginGrowth ∈ TB := tb_mem 417 (by decide +kernel) rfl
theorem ml_X10_72 : Cond.methodLink RX10 72 yX4_beginGrowth ∈ TB := tb_mem 415 (by decide +kernel) rfl
theorem cw_X10_72 {s : State} {args : Array Value} {d D : Nat} (hts : ∀ w ∈ TB, w.before args s = true) (hD : d < D) : CallW (rmL D) s args RX10 RX4 72 yX4_beginGrowth cX4_beginGrowth 1 (Option.some Jvm.ClassFile.FieldType.int) (.code yX4_beginGrowth cX4_beginGrowth 1 (Option.some Jvm.ClassFile.FieldType.int) :: TB) (rmL d) 0 0 0 := m_cwV (y := yX4_beginGrowth) hts ml_X10_72 im_X4_beginGrowth se_X4_beginGrowth ini_X4 cd_X4_beginGrowth (by decide) hD (by decide +kernel)
theorem cd_X4_goSteps : Cond.code yX4_goSteps cX4_goSteps 3 (Option.some Jvm.ClassFile.FieldType.int) ∈ TB := tb_mem 434 (by decide +kernel) rfl
theorem im_X4_goSteps : Cond.instanceMethod yX4_goSteps ∈ TB := tb_mem 432 (by decide +kernel) rfl
theorem se_X4_goSteps : Cond.selects yX4_goSteps.cls yX4_goSteps yX4_goSteps ∈ TB := tb_mem 433 (by decide +kernel) rfl
theorem ml_X10_75 : Cond.methodLink RX10 75 yX4_goSteps ∈ TB := tb_mem 431 (by decide +kernel) rfl
theorem cw_X10_75 {s : State} {args : Array Value} {d D : Nat} (hts : ∀ w ∈ TB, w.before args s = true) (hD : d < D) : CallW (rmL D) s args RX10 RX4 75 yX4_goSteps cX4_goSteps 3 (Option.some Jvm.ClassFile.FieldType.int) (.code yX4_goSteps cX4_goSteps 3 (Option.some Jvm.ClassFile.FieldType.int) :: TB) (rmL d) 0 0 1 := m_cwV (y := yX4_goSteps) hts ml_X10_75 im_X4_goSteps se_X4_goSteps ini_X4 cd_X4_goSteps (by decide) hD (by decide +kernel)
theorem cd_X4_fallOver : Cond.code yX4_fallOver cX4_fallOver 1 (Option.some Jvm.ClassFile.FieldType.boolean) ∈ TB := tb_mem 527 (by decide +kernel) rfl
theorem im_X4_fallOver : Cond.instanceMethod yX4_fallOver ∈ TB := tb_mem 525 (by decide +kernel) rfl
theorem se_X4_fallOver : Cond.selects yX4_fallOver.cls yX4_fallOver yX4_fallOver ∈ TB := tb_mem 526 (by decide +kernel) rfl
theorem ml_X10_78 : Cond.methodLink RX10 78 yX4_fallOver ∈ TB := tb_mem 524 (by decide +kernel) rfl
theorem cw_X10_78 {s : State} {args : Array Value} {d D : Nat} (hts : ∀ w ∈ TB, w.before args s = true) (hD : d < D) : CallW (rmL D) s args RX10 RX4 78 yX4_fallOver cX4_fallOver 1 (Option.some Jvm.ClassFile.FieldType.boolean) (.code yX4_fallOver cX4_fallOver 1 (Option.some Jvm.ClassFile.FieldType.boolean) :: TB) (rmL d) 0 0 0 := m_cwV (y := yX4_fallOver) hts ml_X10_78 im_X4_fallOver se_X4_fallOver ini_X4 cd_X4_fallOver (by decide) hD (by decide +kernel)
theorem cd_X4_hasBlock : Cond.code yX4_hasBlock cX4_hasBlock 2 (Option.some Jvm.ClassFile.FieldType.boolean) ∈ TB := tb_mem 539 (by decide +kernel) rfl
theorem im_X4_hasBlock : Cond.instanceMethod yX4_hasBlock ∈ TB := tb_mem 537 (by decide +kernel) rfl
theorem se_X4_hasBlock : Cond.selects yX4_hasBlock.cls yX4_hasBlock yX4_hasBlock ∈ TB := tb_mem 538 (by decide +kernel) rfl
theorem ml_X10_82 : Cond.methodLink RX10 82 yX4_hasBlock ∈ TB := tb_mem 611 (by decide +kernel) rfl
theorem cw_X10_82 {s : State} {args : Array Value} {d D : Nat} (hts : ∀ w ∈ TB, w.before args s = true) (hD : d < D) : CallW (rmL D) s args RX10 RX4 82 yX4_hasBlock cX4_hasBlock 2 (Option.some Jvm.ClassFile.FieldType.boolean) (.code yX4_hasBlock cX4_hasBlock 2 (Option.some Jvm.ClassFile.FieldType.boolean) :: TB) (rmL d) 0 0 1 := m_cwV (y := yX4_hasBlock) hts ml_X10_82 im_X4_hasBlock se_X4_hasBlock ini_X4 cd_X4_hasBlock (by decide) hD (by decide +kernel)
theorem cd_X4_canRead : Cond.code yX4_canRead cX4_canRead 2 (Option.some Jvm.ClassFile.FieldType.boolean) ∈ TB := tb_mem 646 (by decide +kernel) rfl
theorem im_X4_canRead : Cond.instanceMethod yX4_canRead ∈ TB := tb_mem 644 (by decide +kernel) rfl
theorem se_X4_canRead : Cond.selects yX4_canRead.cls yX4_canRead yX4_canRead ∈ TB := tb_mem 645 (by decide +kernel) rfl
theorem ml_X10_86 : Cond.methodLink RX10 86 yX4_canRead ∈ TB := tb_mem 950 (by decide +kernel) rfl
theorem cw_X10_86 {s : State} {args : Array Value} {d D : Nat} (hts : ∀ w ∈ TB, w.before args s = true) (hD : d < D) : CallW (rmL D) s args RX10 RX4 86 yX4_canRead cX4_canRead 2 (Option.some Jvm.ClassFile.FieldType.boolean) (.code yX4_canRead cX4_canRead 2 (Option.some Jvm.ClassFile.FieldType.boolean) :: TB) (rmL d) 0 0 1 := m_cwV (y := yX4_canRead) hts ml_X10_86 im_X4_canRead se_X4_canRead ini_X4 cd_X4_canRead (by decide) hD (by decide +kernel)
theorem cd_X4_wordOf : Cond.code yX4_wordOf cX4_wordOf 3 (Option.some Jvm.ClassFile.FieldType.int) ∈ TB := tb_mem 662 (by decide +kernel) rfl
theorem im_X4_wordOf : Cond.instanceMethod yX4_wordOf ∈ TB := tb_mem 660 (by decide +kernel) rfl
theorem se_X4_wordOf : Cond.selects yX4_wordOf.cls yX4_wordOf yX4_wordOf ∈ TB := tb_mem 661 (by decide +kernel) rfl
theorem ml_X10_92 : Cond.methodLink RX10 92 yX4_wordOf ∈ TB := tb_mem 1012 (by decide +kernel) rfl
theorem cw_X10_92 {s : State} {args : Array Value} {d D : Nat} (hts : ∀ w ∈ TB, w.before args s = true) (hD : d < D) : CallW (rmL D) s args RX10 RX4 92 yX4_wordOf cX4_wordOf 3 (Option.some Jvm.ClassFile.FieldType.int) (.code yX4_wordOf cX4_wordOf 3 (Option.some Jvm.ClassFile.FieldType.int) :: TB) (rmL d) 0 0 1 := m_cwV (y := yX4_wordOf) hts ml_X10_92 im_X4_wordOf se_X4_wordOf ini_X4 cd_X4_wordOf (by decide) hD (by decide +kernel)
theorem cd_X4_storeOne : Cond.code yX4_storeOne cX4_storeOne 4 (Option.some Jvm.ClassFile.FieldType.int) ∈ TB := tb_mem 535 (by decide +kernel) rfl
theorem im_X4_storeOne : Cond.instanceMethod yX4_storeOne ∈ TB := tb_mem 533 (by decide +kernel) rfl
theorem se_X4_storeOne : Cond.selects yX4_storeOne.cls yX4_storeOne yX4_storeOne ∈ TB := tb_mem 534 (by decide +kernel) rfl
theorem ml_X10_95 : Cond.methodLink RX10 95 yX4_storeOne ∈ TB := tb_mem 532 (by decide +kernel) rfl
theorem cw_X10_95 {s : State} {args : Array Value} {d D : Nat} (hts : ∀ w ∈ TB, w.before args s = true) (hD : d < D) : CallW (rmL D) s args RX10 RX4 95 yX4_storeOne cX4_storeOne 4 (Option.some Jvm.ClassFile.FieldType.int) (.code yX4_storeOne cX4_storeOne 4 (Option.some Jvm.ClassFile.FieldType.int) :: TB) (rmL d) 0 0 2 := m_cwV (y := yX4_storeOne) hts ml_X10_95 im_X4_storeOne se_X4_storeOne ini_X4 cd_X4_storeOne (by decide) hD (by decide +kernel)
theorem cd_X4_storeRun : Cond.code yX4_storeRun cX4_storeRun 6 (Option.some Jvm.ClassFile.FieldType.int) ∈ TB := tb_mem 565 (by decide +kernel) rfl
theorem im_X4_storeRun : Cond.instanceMethod yX4_storeRun ∈ TB := tb_mem 563 (by decide +kernel) rfl
theorem se_X4_storeRun : Cond.selects yX4_storeRun.cls yX4_storeRun yX4_storeRun ∈ TB := tb_mem 564 (by decide +kernel) rfl
theorem ml_X10_99 : Cond.methodLink RX10 99 yX4_storeRun ∈ TB := tb_mem 562 (by decide +kernel) rfl
theorem cw_X10_99 {s : State} {args : Array Value} {d D : Nat} (hts : ∀ w ∈ TB, w.before args s = true) (hD : d < D) : CallW (rmL D) s args RX10 RX4 99 yX4_storeRun cX4_storeRun 6 (Option.some Jvm.ClassFile.FieldType.int) (.code yX4_storeRun cX4_storeRun 6 (Option.some Jvm.ClassFile.FieldType.int) :: TB) (rmL d) 0 0 3 := m_cwV (y := yX4_storeRun) hts ml_X10_99 im_X4_storeRun se_X4_storeRun ini_X4 cd_X4_storeRun (by decide) hD (by decide +kernel)
theorem cd_X3_loseOne : Cond.code yX3_loseOne cX3_loseOne 2 (Option.some Jvm.ClassFile.FieldType.boolean) ∈ TB := tb_mem 574 (by decide +kernel) rfl
theorem im_X3_loseOne : Cond.instanceMethod yX3_loseOne ∈ TB := tb_mem 572 (by decide +kernel) rfl
theorem se_X3_loseOne : Cond.selects yX3_loseOne.cls yX3_loseOne yX3_loseOne ∈ TB := tb_mem 573 (by decide +kernel) rfl
theorem ml_X10_107 : Cond.methodLink RX10 107 yX3_loseOne ∈ TB := tb_mem 571 (by decide +kernel) rfl
theorem cw_X10_107 {s : State} {args : Array Value} {d D : Nat} (hts : ∀ w ∈ TB, w.before args s = true) (hD : d < D) : CallW (rmL D) s args RX10 RX3 107 yX3_loseOne cX3_loseOne 2 (Option.some Jvm.ClassFile.FieldType.boolean) (.code yX3_loseOne cX3_loseOne 2 (Option.some Jvm.ClassFile.FieldType.boolean) :: TB) (rmL d) 0 0 1 := m_cwV (y := yX3_loseOne) hts ml_X10_107 im_X3_loseOne se_X3_loseOne ini_X3 cd_X3_loseOne (by decide) hD (by decide +kernel)
theorem cd_X4_replaceLost : Cond.code yX4_replaceLost cX4_replaceLost 3 (Option.some Jvm.ClassFile.FieldType.int) ∈ TB := tb_mem 586 (by decide +kernel) rfl
theorem im_X4_replaceLost : Cond.instanceMethod yX4_replaceLost ∈ TB := tb_mem 584 (by decide +kernel) rfl
theorem se_X4_replaceLost : Cond.selects yX4_replaceLost.cls yX4_replaceLost yX4_replaceLost ∈ TB := tb_mem 585 (by decide +kernel) rfl
theorem ml_X10_112 : Cond.methodLink RX10 112 yX4_replaceLost ∈ TB := tb_mem 583 (by decide +kernel) rfl
theorem cw_X10_112 {s : State} {args : Array Value} {d D : Nat} (hts : ∀ w ∈ TB, w.before args s = true) (hD : d < D) : CallW (rmL D) s args RX10 RX4 112 yX4_replaceLost cX4_replaceLost 3 (Option.some Jvm.ClassFile.FieldType.int) (.code yX4_replaceLost cX4_replaceLost 3 (Option.some Jvm.ClassFile.FieldType.int) :: TB) (rmL d) 0 0 0 := m_cwV (y := yX4_replaceLost) hts ml_X10_112 im_X4_replaceLost se_X4_replaceLost ini_X4 cd_X4_replaceLost (by decide) hD (by decide +kernel)
theorem cd_X3_spoil : Cond.code yX3_spoil cX3_spoil 3 (Option.some Jvm.ClassFile.FieldType.boolean) ∈ TB := tb_mem 606 (by decide +kernel) rfl
theorem im_X3_spoil : Cond.instanceMethod yX3_spoil ∈ TB := tb_mem 604 (by decide +kernel) rfl
theorem se_X3_spoil : Cond.selects yX3_spoil.cls yX3_spoil yX3_spoil ∈ TB := tb_mem 605 (by decide +kernel) rfl
theorem ml_X10_115 : Cond.methodLink RX10 115 yX3_spoil ∈ TB := tb_mem 603 (by decide +kernel) rfl
theorem cw_X10_115 {s : State} {args : Array Value} {d D : Nat} (hts : ∀ w ∈ TB, w.before args s = true) (hD : d < D) : CallW (rmL D) s args RX10 RX3 115 yX3_spoil cX3_spoil 3 (Option.some Jvm.ClassFile.FieldType.boolean) (.code yX3_spoil cX3_spoil 3 (Option.some Jvm.ClassFile.FieldType.boolean) :: TB) (rmL d) 0 0 2 := m_cwV (y := yX3_spoil) hts ml_X10_115 im_X3_spoil se_X3_spoil ini_X3 cd_X3_spoil (by decide) hD (by decide +kernel)
theorem cd_X6_add : Cond.code yX6_add cX6_add 6 (Option.some Jvm.ClassFile.FieldType.int) ∈ TB := tb_mem 615 (by decide +kernel) rfl
theorem im_X6_add : Cond.instanceMethod yX6_add ∈ TB := tb_mem 613 (by decide +kernel) rfl
theorem se_X6_add : Cond.selects yX6_add.cls yX6_add yX6_add ∈ TB := tb_mem 614 (by decide +kernel) rfl
theorem ml_X10_123 : Cond.methodLink RX10 123 yX6_add ∈ TB := tb_mem 612 (by decide +kernel) rfl
theorem cw_X10_123 {s : State} {args : Array Value} {d D : Nat} (hts : ∀ w ∈ TB, w.before args s = true) (hD : d < D) : CallW (rmL D) s args RX10 RX6 123 yX6_add cX6_add 6 (Option.some Jvm.ClassFile.FieldType.int) (.code yX6_add cX6_add 6 (Option.some Jvm.ClassFile.FieldType.int) :: TB) (rmL d) 0 0 4 := m_cwV (y := yX6_add) hts ml_X10_123 im_X6_add se_X6_add ini_X6 cd_X6_add (by decide) hD (by decide +kernel)
theorem cd_X4_spend : Cond.code yX4_spend cX4_spend 10 (Option.some Jvm.ClassFile.FieldType.int) ∈ TB := tb_mem 634 (by decide +kernel) rfl
theorem im_X4_spend : Cond.instanceMethod yX4_spend ∈ TB := tb_mem 632 (by decide +kernel) rfl
theorem se_X4_spend : Cond.selects yX4_spend.cls yX4_spend yX4_spend ∈ TB := tb_mem 633 (by decide +kernel) rfl
theorem ml_X10_129 : Cond.methodLink RX10 129 yX4_spend ∈ TB := tb_mem 631 (by decide +kernel) rfl
theorem cw_X10_129 {s : State} {args : Array Value} {d D : Nat} (hts : ∀ w ∈ TB, w.before args s = true) (hD : d < D) : CallW (rmL D) s args RX10 RX4 129 yX4_spend cX4_spend 10 (Option.some Jvm.ClassFile.FieldType.int) (.code yX4_spend cX4_spend 10 (Option.some Jvm.ClassFile.FieldType.int) :: TB) (rmL d) 0 0 2 := m_cwV (y := yX4_spend) hts ml_X10_129 im_X4_spend se_X4_spend ini_X4 cd_X4_spend (by decide) hD (by decide +kernel)
theorem cd_X8_slotOf : Cond.code yX8_slotOf cX8_slotOf 4 (Option.some Jvm.ClassFile.FieldType.int) ∈ TB := tb_mem 1023 (by decide +kernel) rfl
theorem im_X8_slotOf : Cond.instanceMethod yX8_slotOf ∈ TB := tb_mem 1021 (by decide +kernel) rfl
theorem se_X8_slotOf : Cond.selects yX8_slotOf.cls yX8_slotOf yX8_slotOf ∈ TB := tb_mem 1022 (by decide +kernel) rfl
theorem ml_X10_133 : Cond.methodLink RX10 133 yX8_slotOf ∈ TB := tb_mem 1020 (by decide +kernel) rfl
theorem cw_X10_133 {s : State} {args : Array Value} {d D : Nat} (hts : ∀ w ∈ TB, w.before args s = true) (hD : d < D) : CallW (rmL D) s args RX10 RX8 133 yX8_slotOf cX8_slotOf 4 (Option.some Jvm.ClassFile.FieldType.int) (.code yX8_slotOf cX8_slotOf 4 (Option.some Jvm.ClassFile.FieldType.int) :: TB) (rmL d) 0 0 1 := m_cwV (y := yX8_slotOf) hts ml_X10_133 im_X8_slotOf se_X8_slotOf ini_X8 cd_X8_slotOf (by decide) hD (by decide +kernel)
theorem cd_X8_tell : Cond.code yX8_tell cX8_tell 3 (Option.some Jvm.ClassFile.FieldType.int) ∈ TB := tb_mem 1027 (by decide +kernel) rfl
theorem im_X8_tell : Cond.instanceMethod yX8_tell ∈ TB := tb_mem 1025 (by decide +kernel) rfl
theorem se_X8_tell : Cond.selects yX8_tell.cls yX8_tell yX8_tell ∈ TB := tb_mem 1026 (by decide +kernel) rfl
theorem ml_X10_136 : Cond.methodLink RX10 136 yX8_tell ∈ TB := tb_mem 1028 (by decide +kernel) rfl
theorem cw_X10_136 {s : State} {args : Array Value} {d D : Nat} (hts : ∀ w ∈ TB, w.before args s = true) (hD : d < D) : CallW (rmL D) s args RX10 RX8 136 yX8_tell cX8_tell 3 (Option.some Jvm.ClassFile.FieldType.int) (.code yX8_tell cX8_tell 3 (Option.some Jvm.ClassFile.FieldType.int) :: TB) (rmL d) 0 0 2 := m_cwV (y := yX8_tell) hts ml_X10_136 im_X8_tell se_X8_tell ini_X8 cd_X8_tell (by decide) hD (by decide +kernel)
theorem cd_X6_tell : Cond.code yX6_tell cX6_tell 3 (Option.some Jvm.ClassFile.FieldType.int) ∈ TB := tb_mem 679 (by decide +kernel) rfl
theorem im_X6_tell : Cond.instanceMethod yX6_tell ∈ TB := tb_mem 677 (by decide +kernel) rfl
theorem se_X6_tell : Cond.selects yX6_tell.cls yX6_tell yX6_tell ∈ TB := tb_mem 678 (by decide +kernel) rfl
theorem ml_X10_143 : Cond.methodLink RX10 143 yX6_tell ∈ TB := tb_mem 676 (by decide +kernel) rfl
theorem cw_X10_143 {s : State} {args : Array Value} {d D : Nat} (hts : ∀ w ∈ TB, w.before args s = true) (hD : d < D) : CallW (rmL D) s args RX10 RX6 143 yX6_tell cX6_tell 3 (Option.some Jvm.ClassFile.FieldType.int) (.code yX6_tell cX6_tell 3 (Option.some Jvm.ClassFile.FieldType.int) :: TB) (rmL d) 0 0 2 := m_cwV (y := yX6_tell) hts ml_X10_143 im_X6_tell se_X6_tell ini_X6 cd_X6_tell (by decide) hD (by decide +kernel)
theorem cd_X3_put : Cond.code yX3_put cX3_put 4 (Option.some Jvm.ClassFile.FieldType.boolean) ∈ TB := tb_mem 519 (by decide +kernel) rfl
theorem im_X3_put : Cond.instanceMethod yX3_put ∈ TB := tb_mem 517 (by decide +kernel) rfl
theorem se_X3_put : Cond.selects yX3_put.cls yX3_put yX3_put ∈ TB := tb_mem 518 (by decide +kernel) rfl
theorem ml_X10_144 : Cond.methodLink RX10 144 yX3_put ∈ TB := tb_mem 684 (by decide +kernel) rfl
theorem cw_X10_144 {s : State} {args : Array Value} {d D : Nat} (hts : ∀ w ∈ TB, w.before args s = true) (hD : d < D) : CallW (rmL D) s args RX10 RX3 144 yX3_put cX3_put 4 (Option.some Jvm.ClassFile.FieldType.boolean) (.code yX3_put cX3_put 4 (Option.some Jvm.ClassFile.FieldType.boolean) :: TB) (rmL d) 0 0 3 := m_cwV (y := yX3_put) hts ml_X10_144 im_X3_put se_X3_put ini_X3 cd_X3_put (by decide) hD (by decide +kernel)
theorem cd_X4_rowOfScrub : Cond.code yX4_rowOfScrub cX4_rowOfScrub 4 (Option.some Jvm.ClassFile.FieldType.int) ∈ TB := tb_mem 692 (by decide +kernel) rfl
theorem im_X4_rowOfScrub : Cond.instanceMethod yX4_rowOfScrub ∈ TB := tb_mem 690 (by decide +kernel) rfl
theorem se_X4_rowOfScrub : Cond.selects yX4_rowOfScrub.cls yX4_rowOfScrub yX4_rowOfScrub ∈ TB := tb_mem 691 (by decide +kernel) rfl
theorem ml_X10_148 : Cond.methodLink RX10 148 yX4_rowOfScrub ∈ TB := tb_mem 689 (by decide +kernel) rfl
theorem cw_X10_148 {s : State} {args : Array Value} {d D : Nat} (hts : ∀ w ∈ TB, w.before args s = true) (hD : d < D) : CallW (rmL D) s args RX10 RX4 148 yX4_rowOfScrub cX4_rowOfScrub 4 (Option.some Jvm.ClassFile.FieldType.int) (.code yX4_rowOfScrub cX4_rowOfScrub 4 (Option.some Jvm.ClassFile.FieldType.int) :: TB) (rmL d) 0 0 1 := m_cwV (y := yX4_rowOfScrub) hts ml_X10_148 im_X4_rowOfScrub se_X4_rowOfScrub ini_X4 cd_X4_rowOfScrub (by decide) hD (by decide +kernel)
theorem cd_X4_layParities : Cond.code yX4_layParities cX4_layParities 3 (Option.some Jvm.ClassFile.FieldType.int) ∈ TB := tb_mem 708 (by decide +kernel) rfl
theorem im_X4_layParities : Cond.instanceMethod yX4_layParities ∈ TB := tb_mem 706 (by decide +kernel) rfl
theorem se_X4_layParities : Cond.selects yX4_layParities.cls yX4_layParities yX4_layParities ∈ TB := tb_mem 707 (by decide +kernel) rfl
theorem ml_X10_151 : Cond.methodLink RX10 151 yX4_layParities ∈ TB := tb_mem 705 (by decide +kernel) rfl
theorem cw_X10_151 {s : State} {args : Array Value} {d D : Nat} (hts : ∀ w ∈ TB, w.before args s = true) (hD : d < D) : CallW (rmL D) s args RX10 RX4 151 yX4_layParities cX4_layParities 3 (Option.some Jvm.ClassFile.FieldType.int) (.code yX4_layParities cX4_layParities 3 (Option.some Jvm.ClassFile.FieldType.int) :: TB) (rmL d) 0 0 0 := m_cwV (y := yX4_layParities) hts ml_X10_151 im_X4_layParities se_X4_layParities ini_X4 cd_X4_layParities (by decide) hD (by decide +kernel)
theorem cd_X4_copyFrom : Cond.code yX4_copyFrom cX4_copyFrom 2 (Option.none : Option Jvm.ClassFile.FieldType) ∈ TB := tb_mem 720 (by decide +kernel) rfl
theorem im_X4_copyFrom : Cond.instanceMethod yX4_copyFrom ∈ TB := tb_mem 718 (by decide +kernel) rfl
theorem se_X4_copyFrom : Cond.selects yX4_copyFrom.cls yX4_copyFrom yX4_copyFrom ∈ TB := tb_mem 719 (by decide +kernel) rfl
theorem ml_X10_158 : Cond.methodLink RX10 158 yX4_copyFrom ∈ TB := tb_mem 717 (by decide +kernel) rfl
theorem cw_X10_158 {s : State} {args : Array Value} {d D : Nat} (hts : ∀ w ∈ TB, w.before args s = true) (hD : d < D) : CallW (rmL D) s args RX10 RX4 158 yX4_copyFrom cX4_copyFrom 2 (Option.none : Option Jvm.ClassFile.FieldType) (.code yX4_copyFrom cX4_copyFrom 2 (Option.none : Option Jvm.ClassFile.FieldType) :: TB) (rmL d) 0 0 1 := m_cwV (y := yX4_copyFrom) hts ml_X10_158 im_X4_copyFrom se_X4_copyFrom ini_X4 cd_X4_copyFrom (by decide) hD (by decide +kernel)
theorem cd_X9_append : Cond.code yX9_append cX9_append 4 (Option.none : Option Jvm.ClassFile.FieldType) ∈ TB := tb_mem 746 (by decide +kernel) rfl
theorem im_X9_append : Cond.instanceMethod yX9_append ∈ TB := tb_mem 744 (by decide +kernel) rfl
theorem se_X9_append : Cond.selects yX9_append.cls yX9_append yX9_append ∈ TB := tb_mem 745 (by decide +kernel) rfl
theorem ml_X10_165 : Cond.methodLink RX10 165 yX9_append ∈ TB := tb_mem 743 (by decide +kernel) rfl
theorem cw_X10_165 {s : State} {args : Array Value} {d D : Nat} (hts : ∀ w ∈ TB, w.before args s = true) (hD : d < D) : CallW (rmL D) s args RX10 RX9 165 yX9_append cX9_append 4 (Option.none : Option Jvm.ClassFile.FieldType) (.code yX9_append cX9_append 4 (Option.none : Option Jvm.ClassFile.FieldType) :: TB) (rmL d) 0 0 1 := m_cwV (y := yX9_append) hts ml_X10_165 im_X9_append se_X9_append ini_X9 cd_X9_append (by decide) hD (by decide +kernel)
theorem cd_X7_compile : Cond.code yX7_compile cX7_compile 3 (Option.none : Option Jvm.ClassFile.FieldType) ∈ TB := tb_mem 758 (by decide +kernel) rfl
theorem im_X7_compile : Cond.instanceMethod yX7_compile ∈ TB := tb_mem 756 (by decide +kernel) rfl
theorem se_X7_compile : Cond.selects yX7_compile.cls yX7_compile yX7_compile ∈ TB := tb_mem 757 (by decide +kernel) rfl
theorem ml_X10_169 : Cond.methodLink RX10 169 yX7_compile ∈ TB := tb_mem 755 (by decide +kernel) rfl
theorem cw_X10_169 {s : State} {args : Array Value} {d D : Nat} (hts : ∀ w ∈ TB, w.before args s = true) (hD : d < D) : CallW (rmL D) s args RX10 RX7 169 yX7_compile cX7_compile 3 (Option.none : Option Jvm.ClassFile.FieldType) (.code yX7_compile cX7_compile 3 (Option.none : Option Jvm.ClassFile.FieldType) :: TB) (rmL d) 0 0 1 := m_cwV (y := yX7_compile) hts ml_X10_169 im_X7_compile se_X7_compile ini_X7 cd_X7_compile (by decide) hD (by decide +kernel)
theorem cd_X7_nextDeed : Cond.code yX7_nextDeed cX7_nextDeed 2 (Option.some (Jvm.ClassFile.FieldType.object "GrowHouse$Deed")) ∈ TB := tb_mem 856 (by decide +kernel) rfl
theorem im_X7_nextDeed : Cond.instanceMethod yX7_nextDeed ∈ TB := tb_mem 854 (by decide +kernel) rfl
theorem se_X7_nextDeed : Cond.selects yX7_nextDeed.cls yX7_nextDeed yX7_nextDeed ∈ TB := tb_mem 855 (by decide +kernel) rfl
theorem ml_X10_176 : Cond.methodLink RX10 176 yX7_nextDeed ∈ TB := tb_mem 853 (by decide +kernel) rfl
theorem cw_X10_176 {s : State} {args : Array Value} {d D : Nat} (hts : ∀ w ∈ TB, w.before args s = true) (hD : d < D) : CallW (rmL D) s args RX10 RX7 176 yX7_nextDeed cX7_nextDeed 2 (Option.some (Jvm.ClassFile.FieldType.object "GrowHouse$Deed")) (.code yX7_nextDeed cX7_nextDeed 2 (Option.some (Jvm.ClassFile.FieldType.object "GrowHouse$Deed")) :: TB) (rmL d) 0 0 0 := m_cwV (y := yX7_nextDeed) hts ml_X10_176 im_X7_nextDeed se_X7_nextDeed ini_X7 cd_X7_nextDeed (by decide) hD (by decide +kernel)
theorem cd_X7_number : Cond.code yX7_number cX7_number 3 (Option.some Jvm.ClassFile.FieldType.int) ∈ TB := tb_mem 864 (by decide +kernel) rfl
theorem im_X7_number : Cond.instanceMethod yX7_number ∈ TB := tb_mem 862 (by decide +kernel) rfl
theorem se_X7_number : Cond.selects yX7_number.cls yX7_number yX7_number ∈ TB := tb_mem 863 (by decide +kernel) rfl
theorem ml_X10_180 : Cond.methodLink RX10 180 yX7_number ∈ TB := tb_mem 861 (by decide +kernel) rfl
theorem cw_X10_180 {s : State} {args : Array Value} {d D : Nat} (hts : ∀ w ∈ TB, w.before args s = true) (hD : d < D) : CallW (rmL D) s args RX10 RX7 180 yX7_number cX7_number 3 (Option.some Jvm.ClassFile.FieldType.int) (.code yX7_number cX7_number 3 (Option.some Jvm.ClassFile.FieldType.int) :: TB) (rmL d) 0 0 1 := m_cwV (y := yX7_number) hts ml_X10_180 im_X7_number se_X7_number ini_X7 cd_X7_number (by decide) hD (by decide +kernel)
theorem cd_X10_perform : Cond.code yX10_perform cX10_perform 5 (Option.some Jvm.ClassFile.FieldType.boolean) ∈ TB := tb_mem 868 (by decide +kernel) rfl
theorem im_X10_perform : Cond.instanceMethod yX10_perform ∈ TB := tb_mem 867 (by decide +kernel) rfl
theorem se_X10_perform : Cond.selects yX10_perform.cls yX10_perform yX10_perform ∈ TB := tb_mem 0 (by decide +kernel) rfl
theorem ml_X10_183 : Cond.methodLink RX10 183 yX10_perform ∈ TB := tb_mem 865 (by decide +kernel) rfl
theorem cw_X10_183 {s : State} {args : Array Value} {d D : Nat} (hts : ∀ w ∈ TB, w.before args s = true) (hD : d < D) : CallW (rmL D) s args RX10 RX10 183 yX10_perform cX10_perform 5 (Option.some Jvm.ClassFile.FieldType.boolean) (.code yX10_perform cX10_perform 5 (Option.some Jvm.ClassFile.FieldType.boolean) :: TB) (rmL d) 0 0 4 := m_cwV (y := yX10_perform) hts ml_X10_183 im_X10_perform se_X10_perform ini_X10 cd_X10_perform (by decide) hD (by decide +kernel)
theorem cd_X3_hasDisk : Cond.code yX3_hasDisk cX3_hasDisk 2 (Option.some Jvm.ClassFile.FieldType.boolean) ∈ TB := tb_mem 578 (by decide +kernel) rfl
theorem im_X3_hasDisk : Cond.instanceMethod yX3_hasDisk ∈ TB := tb_mem 576 (by decide +kernel) rfl
theorem se_X3_hasDisk : Cond.selects yX3_hasDisk.cls yX3_hasDisk yX3_hasDisk ∈ TB := tb_mem 577 (by decide +kernel) rfl
theorem ml_X10_187 : Cond.methodLink RX10 187 yX3_hasDisk ∈ TB := tb_mem 883 (by decide +kernel) rfl
theorem cw_X10_187 {s : State} {args : Array Value} {d D : Nat} (hts : ∀ w ∈ TB, w.before args s = true) (hD : d < D) : CallW (rmL D) s args RX10 RX3 187 yX3_hasDisk cX3_hasDisk 2 (Option.some Jvm.ClassFile.FieldType.boolean) (.code yX3_hasDisk cX3_hasDisk 2 (Option.some Jvm.ClassFile.FieldType.boolean) :: TB) (rmL d) 0 0 1 := m_cwV (y := yX3_hasDisk) hts ml_X10_187 im_X3_hasDisk se_X3_hasDisk ini_X3 cd_X3_hasDisk (by decide) hD (by decide +kernel)
theorem cd_X4_tellOfBlock : Cond.code yX4_tellOfBlock cX4_tellOfBlock 4 (Option.some Jvm.ClassFile.FieldType.int) ∈ TB := tb_mem 891 (by decide +kernel) rfl
theorem im_X4_tellOfBlock : Cond.instanceMethod yX4_tellOfBlock ∈ TB := tb_mem 889 (by decide +kernel) rfl
theorem se_X4_tellOfBlock : Cond.selects yX4_tellOfBlock.cls yX4_tellOfBlock yX4_tellOfBlock ∈ TB := tb_mem 890 (by decide +kernel) rfl
theorem ml_X10_194 : Cond.methodLink RX10 194 yX4_tellOfBlock ∈ TB := tb_mem 888 (by decide +kernel) rfl
theorem cw_X10_194 {s : State} {args : Array Value} {d D : Nat} (hts : ∀ w ∈ TB, w.before args s = true) (hD : d < D) : CallW (rmL D) s args RX10 RX4 194 yX4_tellOfBlock cX4_tellOfBlock 4 (Option.some Jvm.ClassFile.FieldType.int) (.code yX4_tellOfBlock cX4_tellOfBlock 4 (Option.some Jvm.ClassFile.FieldType.int) :: TB) (rmL d) 0 0 2 := m_cwV (y := yX4_tellOfBlock) hts ml_X10_194 im_X4_tellOfBlock se_X4_tellOfBlock ini_X4 cd_X4_tellOfBlock (by decide) hD (by decide +kernel)
theorem cd_X3_has : Cond.code yX3_has cX3_has 3 (Option.some Jvm.ClassFile.FieldType.boolean) ∈ TB := tb_mem 598 (by decide +kernel) rfl
theorem im_X3_has : Cond.instanceMethod yX3_has ∈ TB := tb_mem 596 (by decide +kernel) rfl
theorem se_X3_has : Cond.selects yX3_has.cls yX3_has yX3_has ∈ TB := tb_mem 597 (by decide +kernel) rfl
theorem ml_X10_197 : Cond.methodLink RX10 197 yX3_has ∈ TB := tb_mem 1036 (by decide +kernel) rfl
theorem cw_X10_197 {s : State} {args : Array Value} {d D : Nat} (hts : ∀ w ∈ TB, w.before args s = true) (hD : d < D) : CallW (rmL D) s args RX10 RX3 197 yX3_has cX3_has 3 (Option.some Jvm.ClassFile.FieldType.boolean) (.code yX3_has cX3_has 3 (Option.some Jvm.ClassFile.FieldType.boolean) :: TB) (rmL d) 0 0 2 := m_cwV (y := yX3_has) hts ml_X10_197 im_X3_has se_X3_has ini_X3 cd_X3_has (by decide) hD (by decide +kernel)
theorem cd_X3_badWords : Cond.code yX3_badWords cX3_badWords 3 (Option.some Jvm.ClassFile.FieldType.int) ∈ TB := tb_mem 899 (by decide +kernel) rfl
theorem im_X3_badWords : Cond.instanceMethod yX3_badWords ∈ TB := tb_mem 897 (by decide +kernel) rfl
theorem se_X3_badWords : Cond.selects yX3_badWords.cls yX3_badWords yX3_badWords ∈ TB := tb_mem 898 (by decide +kernel) rfl
theorem ml_X10_203 : Cond.methodLink RX10 203 yX3_badWords ∈ TB := tb_mem 896 (by decide +kernel) rfl
theorem cw_X10_203 {s : State} {args : Array Value} {d D : Nat} (hts : ∀ w ∈ TB, w.before args s = true) (hD : d < D) : CallW (rmL D) s args RX10 RX3 203 yX3_badWords cX3_badWords 3 (Option.some Jvm.ClassFile.FieldType.int) (.code yX3_badWords cX3_badWords 3 (Option.some Jvm.ClassFile.FieldType.int) :: TB) (rmL d) 0 0 0 := m_cwV (y := yX3_badWords) hts ml_X10_203 im_X3_badWords se_X3_badWords ini_X3 cd_X3_badWords (by decide) hD (by decide +kernel)
theorem cd_X3_badWord : Cond.code yX3_badWord cX3_badWord 5 (Option.some Jvm.ClassFile.FieldType.int) ∈ TB := tb_mem 903 (by decide +kernel) rfl
theorem im_X3_badWord : Cond.instanceMethod yX3_badWord ∈ TB := tb_mem 901 (by decide +kernel) rfl
theorem se_X3_badWord : Cond.selects yX3_badWord.cls yX3_badWord yX3_badWord ∈ TB := tb_mem 902 (by decide +kernel) rfl
theorem ml_X10_206 : Cond.methodLink RX10 206 yX3_badWord ∈ TB := tb_mem 900 (by decide +kernel) rfl
theorem cw_X10_206 {s : State} {args : Array Value} {d D : Nat} (hts : ∀ w ∈ TB, w.before args s = true) (hD : d < D) : CallW (rmL D) s args RX10 RX3 206 yX3_badWord cX3_badWord 5 (Option.some Jvm.ClassFile.FieldType.int) (.code yX3_badWord cX3_badWord 5 (Option.some Jvm.ClassFile.FieldType.int) :: TB) (rmL d) 0 0 1 := m_cwV (y := yX3_badWord) hts ml_X10_206 im_X3_badWord se_X3_badWord ini_X3 cd_X3_badWord (by decide) hD (by decide +kernel)
theorem cd_X4_blocksLostIn : Cond.code yX4_blocksLostIn cX4_blocksLostIn 4 (Option.some Jvm.ClassFile.FieldType.int) ∈ TB := tb_mem 911 (by decide +kernel) rfl
theorem im_X4_blocksLostIn : Cond.instanceMethod yX4_blocksLostIn ∈ TB := tb_mem 909 (by decide +kernel) rfl
theorem se_X4_blocksLostIn : Cond.selects yX4_blocksLostIn.cls yX4_blocksLostIn yX4_blocksLostIn ∈ TB := tb_mem 910 (by decide +kernel) rfl
theorem ml_X10_209 : Cond.methodLink RX10 209 yX4_blocksLostIn ∈ TB := tb_mem 908 (by decide +kernel) rfl
theorem cw_X10_209 {s : State} {args : Array Value} {d D : Nat} (hts : ∀ w ∈ TB, w.before args s = true) (hD : d < D) : CallW (rmL D) s args RX10 RX4 209 yX4_blocksLostIn cX4_blocksLostIn 4 (Option.some Jvm.ClassFile.FieldType.int) (.code yX4_blocksLostIn cX4_blocksLostIn 4 (Option.some Jvm.ClassFile.FieldType.int) :: TB) (rmL d) 0 0 1 := m_cwV (y := yX4_blocksLostIn) hts ml_X10_209 im_X4_blocksLostIn se_X4_blocksLostIn ini_X4 cd_X4_blocksLostIn (by decide) hD (by decide +kernel)
theorem cd_X4_tellOfBatch : Cond.code yX4_tellOfBatch cX4_tellOfBatch 2 (Option.some Jvm.ClassFile.FieldType.int) ∈ TB := tb_mem 923 (by decide +kernel) rfl
theorem im_X4_tellOfBatch : Cond.instanceMethod yX4_tellOfBatch ∈ TB := tb_mem 921 (by decide +kernel) rfl
theorem se_X4_tellOfBatch : Cond.selects yX4_tellOfBatch.cls yX4_tellOfBatch yX4_tellOfBatch ∈ TB := tb_mem 922 (by decide +kernel) rfl
theorem ml_X10_216 : Cond.methodLink RX10 216 yX4_tellOfBatch ∈ TB := tb_mem 920 (by decide +kernel) rfl
theorem cw_X10_216 {s : State} {args : Array Value} {d D : Nat} (hts : ∀ w ∈ TB, w.before args s = true) (hD : d < D) : CallW (rmL D) s args RX10 RX4 216 yX4_tellOfBatch cX4_tellOfBatch 2 (Option.some Jvm.ClassFile.FieldType.int) (.code yX4_tellOfBatch cX4_tellOfBatch 2 (Option.some Jvm.ClassFile.FieldType.int) :: TB) (rmL d) 0 0 1 := m_cwV (y := yX4_tellOfBatch) hts ml_X10_216 im_X4_tellOfBatch se_X4_tellOfBatch ini_X4 cd_X4_tellOfBatch (by decide) hD (by decide +kernel)
theorem cd_X4_tellCount : Cond.code yX4_tellCount cX4_tellCount 2 (Option.some Jvm.ClassFile.FieldType.int) ∈ TB := tb_mem 936 (by decide +kernel) rfl
theorem im_X4_tellCount : Cond.instanceMethod yX4_tellCount ∈ TB := tb_mem 934 (by decide +kernel) rfl
theorem se_X4_tellCount : Cond.selects yX4_tellCount.cls yX4_tellCount yX4_tellCount ∈ TB := tb_mem 935 (by decide +kernel) rfl
theorem ml_X10_219 : Cond.methodLink RX10 219 yX4_tellCount ∈ TB := tb_mem 933 (by decide +kernel) rfl
theorem cw_X10_219 {s : State} {args : Array Value} {d D : Nat} (hts : ∀ w ∈ TB, w.before args s = true) (hD : d < D) : CallW (rmL D) s args RX10 RX4 219 yX4_tellCount cX4_tellCount 2 (Option.some Jvm.ClassFile.FieldType.int) (.code yX4_tellCount cX4_tellCount 2 (Option.some Jvm.ClassFile.FieldType.int) :: TB) (rmL d) 0 0 1 := m_cwV (y := yX4_tellCount) hts ml_X10_219 im_X4_tellCount se_X4_tellCount ini_X4 cd_X4_tellCount (by decide) hD (by decide +kernel)
theorem ml_X10_232 : Cond.methodLink RX10 232 yX10_image ∈ TB := tb_mem 877 (by decide +kernel) rfl
theorem cw_X10_232 {s : State} {args : Array Value} {d D : Nat} (hts : ∀ w ∈ TB, w.before args s = true) (hD : d < D) : CallW (rmL D) s args RX10 RX10 232 yX10_image cX10_image 2 (Option.some Jvm.ClassFile.FieldType.boolean) (.code yX10_image cX10_image 2 (Option.some Jvm.ClassFile.FieldType.boolean) :: TB) (rmL d) 0 0 1 := m_cwV (y := yX10_image) hts ml_X10_232 im_X10_image se_X10_image ini_X10 cd_X10_image (by decide) hD (by decide +kernel)
theorem ml_X10_235 : Cond.methodLink RX10 235 yX10_back ∈ TB := tb_mem 878 (by decide +kernel) rfl
theorem cw_X10_235 {s : State} {args : Array Value} {d D : Nat} (hts : ∀ w ∈ TB, w.before args s = true) (hD : d < D) : CallW (rmL D) s args RX10 RX10 235 yX10_back cX10_back 2 (Option.some Jvm.ClassFile.FieldType.boolean) (.code yX10_back cX10_back 2 (Option.some Jvm.ClassFile.FieldType.boolean) :: TB) (rmL d) 0 0 1 := m_cwV (y := yX10_back) hts ml_X10_235 im_X10_back se_X10_back ini_X10 cd_X10_back (by decide) hD (by decide +kernel)
theorem cd_X11_begins : Cond.code yX11_begins cX11_begins 4 (Option.none : Option Jvm.ClassFile.FieldType) ∈ TB := tb_mem 1046 (by decide +kernel) rfl
theorem im_X11_begins : Cond.instanceMethod yX11_begins ∈ TB := tb_mem 1045 (by decide +kernel) rfl
theorem se_X11_begins : Cond.selects yX11_begins.cls yX11_begins yX11_begins ∈ TB := tb_mem 2 (by decide +kernel) rfl
theorem ml_X11_35 : Cond.methodLink RX11 35 yX11_begins ∈ TB := tb_mem 1043 (by decide +kernel) rfl
theorem cw_X11_35 {s : State} {args : Array Value} {d D : Nat} (hts : ∀ w ∈ TB, w.before args s = true) (hD : d < D) : CallW (rmL D) s args RX11 RX11 35 yX11_begins cX11_begins 4 (Option.none : Option Jvm.ClassFile.FieldType) (.code yX11_begins cX11_begins 4 (Option.none : Option Jvm.ClassFile.FieldType) :: TB) (rmL d) 0 0 2 := m_cwV (y := yX11_begins) hts ml_X11_35 im_X11_begins se_X11_begins ini_X11 cd_X11_begins (by decide) hD (by decide +kernel)
theorem cd_X11_parityOf : Cond.code yX11_parityOf cX11_parityOf 2 (Option.some Jvm.ClassFile.FieldType.int) ∈ TB := tb_mem 1179 (by decide +kernel) rfl
theorem sc_X11_parityOf : Cond.static yX11_parityOf ∈ TB := tb_mem 1178 (by decide +kernel) rfl
theorem ml_X11_46 : Cond.methodLink RX11 46 yX11_parityOf ∈ TB := tb_mem 1177 (by decide +kernel) rfl
theorem cw_X11_46 {s : State} {args : Array Value} {d D : Nat} (hts : ∀ w ∈ TB, w.before args s = true) (hD : d < D) : CallB (rmL D) s args RX11 46 yX11_parityOf cX11_parityOf 2 (Option.some Jvm.ClassFile.FieldType.int) (.code yX11_parityOf cX11_parityOf 2 (Option.some Jvm.ClassFile.FieldType.int) :: TB) (rmL d) 0 0 2 ∧ (Cond.static yX11_parityOf).before args s = true := m_cwS (y := yX11_parityOf) hts ml_X11_46 sc_X11_parityOf ini_X11 cd_X11_parityOf (by decide) hD (by decide +kernel)
theorem cd_X11_at : Cond.code yX11_at cX11_at 2 (Option.some Jvm.ClassFile.FieldType.int) ∈ TB := tb_mem 1149 (by decide +kernel) rfl
theorem sc_X11_at : Cond.static yX11_at ∈ TB := tb_mem 1148 (by decide +kernel) rfl
theorem ml_X11_50 : Cond.methodLink RX11 50 yX11_at ∈ TB := tb_mem 1147 (by decide +kernel) rfl
theorem cw_X11_50 {s : State} {args : Array Value} {d D : Nat} (hts : ∀ w ∈ TB, w.before args s = true) (hD : d < D) : CallB (rmL D) s args RX11 50 yX11_at cX11_at 2 (Option.some Jvm.ClassFile.FieldType.int) (.code yX11_at cX11_at 2 (Option.some Jvm.ClassFile.FieldType.int) :: TB) (rmL d) 0 0 2 ∧ (Cond.static yX11_at).before args s = true := m_cwS (y := yX11_at) hts ml_X11_50 sc_X11_at ini_X11 cd_X11_at (by decide) hD (by decide +kernel)
theorem cd_X11_isReadable : Cond.code yX11_isReadable cX11_isReadable 3 (Option.some Jvm.ClassFile.FieldType.boolean) ∈ TB := tb_mem 1190 (by decide +kernel) rfl
theorem im_X11_isReadable : Cond.instanceMethod yX11_isReadable ∈ TB := tb_mem 1189 (by decide +kernel) rfl
theorem se_X11_isReadable : Cond.selects yX11_isReadable.cls yX11_isReadable yX11_isReadable ∈ TB := tb_mem 12 (by decide +kernel) rfl
theorem ml_X11_59 : Cond.methodLink RX11 59 yX11_isReadable ∈ TB := tb_mem 1187 (by decide +kernel) rfl
theorem cw_X11_59 {s : State} {args : Array Value} {d D : Nat} (hts : ∀ w ∈ TB, w.before args s = true) (hD : d < D) : CallW (rmL D) s args RX11 RX11 59 yX11_isReadable cX11_isReadable 3 (Option.some Jvm.ClassFile.FieldType.boolean) (.code yX11_isReadable cX11_isReadable 3 (Option.some Jvm.ClassFile.FieldType.boolean) :: TB) (rmL d) 0 0 2 := m_cwV (y := yX11_isReadable) hts ml_X11_59 im_X11_isReadable se_X11_isReadable ini_X11 cd_X11_isReadable (by decide) hD (by decide +kernel)
theorem cd_X11_blocks : Cond.code yX11_blocks cX11_blocks 1 (Option.some Jvm.ClassFile.FieldType.int) ∈ TB := tb_mem 1130 (by decide +kernel) rfl
theorem im_X11_blocks : Cond.instanceMethod yX11_blocks ∈ TB := tb_mem 1129 (by decide +kernel) rfl
theorem se_X11_blocks : Cond.selects yX11_blocks.cls yX11_blocks yX11_blocks ∈ TB := tb_mem 3 (by decide +kernel) rfl
theorem ml_X11_63 : Cond.methodLink RX11 63 yX11_blocks ∈ TB := tb_mem 1127 (by decide +kernel) rfl
theorem cw_X11_63 {s : State} {args : Array Value} {d D : Nat} (hts : ∀ w ∈ TB, w.before args s = true) (hD : d < D) : CallW (rmL D) s args RX11 RX11 63 yX11_blocks cX11_blocks 1 (Option.some Jvm.ClassFile.FieldType.int) (.code yX11_blocks cX11_blocks 1 (Option.some Jvm.ClassFile.FieldType.int) :: TB) (rmL d) 0 0 0 := m_cwV (y := yX11_blocks) hts ml_X11_63 im_X11_blocks se_X11_blocks ini_X11 cd_X11_blocks (by decide) hD (by decide +kernel)
theorem cd_X11_newStripes : Cond.code yX11_newStripes cX11_newStripes 1 (Option.some Jvm.ClassFile.FieldType.int) ∈ TB := tb_mem 1153 (by decide +kernel) rfl
theorem im_X11_newStripes : Cond.instanceMethod yX11_newStripes ∈ TB := tb_mem 1152 (by decide +kernel) rfl
theorem se_X11_newStripes : Cond.selects yX11_newStripes.cls yX11_newStripes yX11_newStripes ∈ TB := tb_mem 6 (by decide +kernel) rfl
theorem ml_X11_67 : Cond.methodLink RX11 67 yX11_newStripes ∈ TB := tb_mem 1150 (by decide +kernel) rfl
theorem cw_X11_67 {s : State} {args : Array Value} {d D : Nat} (hts : ∀ w ∈ TB, w.before args s = true) (hD : d < D) : CallW (rmL D) s args RX11 RX11 67 yX11_newStripes cX11_newStripes 1 (Option.some Jvm.ClassFile.FieldType.int) (.code yX11_newStripes cX11_newStripes 1 (Option.some Jvm.ClassFile.FieldType.int) :: TB) (rmL d) 0 0 0 := m_cwV (y := yX11_newStripes) hts ml_X11_67 im_X11_newStripes se_X11_newStripes ini_X11 cd_X11_newStripes (by decide) hD (by decide +kernel)
theorem cd_X11_stripesFrom : Cond.code yX11_stripesFrom cX11_stripesFrom 3 (Option.some Jvm.ClassFile.FieldType.int) ∈ TB := tb_mem 1173 (by decide +kernel) rfl
theorem im_X11_stripesFrom : Cond.instanceMethod yX11_stripesFrom ∈ TB := tb_mem 1172 (by decide +kernel) rfl
theorem se_X11_stripesFrom : Cond.selects yX11_stripesFrom.cls yX11_stripesFrom yX11_stripesFrom ∈ TB := tb_mem 10 (by decide +kernel) rfl
theorem ml_X11_70 : Cond.methodLink RX11 70 yX11_stripesFrom ∈ TB := tb_mem 1170 (by decide +kernel) rfl
theorem cw_X11_70 {s : State} {args : Array Value} {d D : Nat} (hts : ∀ w ∈ TB, w.before args s = true) (hD : d < D) : CallW (rmL D) s args RX11 RX11 70 yX11_stripesFrom cX11_stripesFrom 3 (Option.some Jvm.ClassFile.FieldType.int) (.code yX11_stripesFrom cX11_stripesFrom 3 (Option.some Jvm.ClassFile.FieldType.int) :: TB) (rmL d) 0 0 1 := m_cwV (y := yX11_stripesFrom) hts ml_X11_70 im_X11_stripesFrom se_X11_stripesFrom ini_X11 cd_X11_stripesFrom (by decide) hD (by decide +kernel)
theorem cd_X11_isCritical : Cond.code yX11_isCritical cX11_isCritical 2 (Option.some Jvm.ClassFile.FieldType.boolean) ∈ TB := tb_mem 1198 (by decide +kernel) rfl
theorem im_X11_isCritical : Cond.instanceMethod yX11_isCritical ∈ TB := tb_mem 1197 (by decide +kernel) rfl
theorem se_X11_isCritical : Cond.selects yX11_isCritical.cls yX11_isCritical yX11_isCritical ∈ TB := tb_mem 14 (by decide +kernel) rfl
theorem ml_X11_74 : Cond.methodLink RX11 74 yX11_isCritical ∈ TB := tb_mem 1195 (by decide +kernel) rfl
theorem cw_X11_74 {s : State} {args : Array Value} {d D : Nat} (hts : ∀ w ∈ TB, w.before args s = true) (hD : d < D) : CallW (rmL D) s args RX11 RX11 74 yX11_isCritical cX11_isCritical 2 (Option.some Jvm.ClassFile.FieldType.boolean) (.code yX11_isCritical cX11_isCritical 2 (Option.some Jvm.ClassFile.FieldType.boolean) :: TB) (rmL d) 0 0 1 := m_cwV (y := yX11_isCritical) hts ml_X11_74 im_X11_isCritical se_X11_isCritical ini_X11 cd_X11_isCritical (by decide) hD (by decide +kernel)
theorem cd_X11_readsFrom : Cond.code yX11_readsFrom cX11_readsFrom 4 (Option.some Jvm.ClassFile.FieldType.int) ∈ TB := tb_mem 1169 (by decide +kernel) rfl
theorem im_X11_readsFrom : Cond.instanceMethod yX11_readsFrom ∈ TB := tb_mem 1168 (by decide +kernel) rfl
theorem se_X11_readsFrom : Cond.selects yX11_readsFrom.cls yX11_readsFrom yX11_readsFrom ∈ TB := tb_mem 9 (by decide +kernel) rfl
theorem ml_X11_78 : Cond.methodLink RX11 78 yX11_readsFrom ∈ TB := tb_mem 1166 (by decide +kernel) rfl
theorem cw_X11_78 {s : State} {args : Array Value} {d D : Nat} (hts : ∀ w ∈ TB, w.before args s = true) (hD : d < D) : CallW (rmL D) s args RX11 RX11 78 yX11_readsFrom cX11_readsFrom 4 (Option.some Jvm.ClassFile.FieldType.int) (.code yX11_readsFrom cX11_readsFrom 4 (Option.some Jvm.ClassFile.FieldType.int) :: TB) (rmL d) 0 0 1 := m_cwV (y := yX11_readsFrom) hts ml_X11_78 im_X11_readsFrom se_X11_readsFrom ini_X11 cd_X11_readsFrom (by decide) hD (by decide +kernel)
theorem cd_X11_backupsFrom : Cond.code yX11_backupsFrom cX11_backupsFrom 2 (Option.some Jvm.ClassFile.FieldType.int) ∈ TB := tb_mem 1194 (by decide +kernel) rfl
theorem im_X11_backupsFrom : Cond.instanceMethod yX11_backupsFrom ∈ TB := tb_mem 1193 (by decide +kernel) rfl
theorem se_X11_backupsFrom : Cond.selects yX11_backupsFrom.cls yX11_backupsFrom yX11_backupsFrom ∈ TB := tb_mem 13 (by decide +kernel) rfl
theorem ml_X11_81 : Cond.methodLink RX11 81 yX11_backupsFrom ∈ TB := tb_mem 1191 (by decide +kernel) rfl
theorem cw_X11_81 {s : State} {args : Array Value} {d D : Nat} (hts : ∀ w ∈ TB, w.before args s = true) (hD : d < D) : CallW (rmL D) s args RX11 RX11 81 yX11_backupsFrom cX11_backupsFrom 2 (Option.some Jvm.ClassFile.FieldType.int) (.code yX11_backupsFrom cX11_backupsFrom 2 (Option.some Jvm.ClassFile.FieldType.int) :: TB) (rmL d) 0 0 1 := m_cwV (y := yX11_backupsFrom) hts ml_X11_81 im_X11_backupsFrom se_X11_backupsFrom ini_X11 cd_X11_backupsFrom (by decide) hD (by decide +kernel)
theorem cd_X11_isGrown : Cond.code yX11_isGrown cX11_isGrown 1 (Option.some Jvm.ClassFile.FieldType.boolean) ∈ TB := tb_mem 1142 (by decide +kernel) rfl
theorem im_X11_isGrown : Cond.instanceMethod yX11_isGrown ∈ TB := tb_mem 1141 (by decide +kernel) rfl
theorem se_X11_isGrown : Cond.selects yX11_isGrown.cls yX11_isGrown yX11_isGrown ∈ TB := tb_mem 5 (by decide +kernel) rfl
theorem ml_X11_84 : Cond.methodLink RX11 84 yX11_isGrown ∈ TB := tb_mem 1139 (by decide +kernel) rfl
theorem cw_X11_84 {s : State} {args : Array Value} {d D : Nat} (hts : ∀ w ∈ TB, w.before args s = true) (hD : d < D) : CallW (rmL D) s args RX11 RX11 84 yX11_isGrown cX11_isGrown 1 (Option.some Jvm.ClassFile.FieldType.boolean) (.code yX11_isGrown cX11_isGrown 1 (Option.some Jvm.ClassFile.FieldType.boolean) :: TB) (rmL d) 0 0 0 := m_cwV (y := yX11_isGrown) hts ml_X11_84 im_X11_isGrown se_X11_isGrown ini_X11 cd_X11_isGrown (by decide) hD (by decide +kernel)
theorem cd_X11_isMoving : Cond.code yX11_isMoving cX11_isMoving 1 (Option.some Jvm.ClassFile.FieldType.boolean) ∈ TB := tb_mem 1138 (by decide +kernel) rfl
theorem im_X11_isMoving : Cond.instanceMethod yX11_isMoving ∈ TB := tb_mem 1137 (by decide +kernel) rfl
theorem se_X11_isMoving : Cond.selects yX11_isMoving.cls yX11_isMoving yX11_isMoving ∈ TB := tb_mem 4 (by decide +kernel) rfl
theorem ml_X11_88 : Cond.methodLink RX11 88 yX11_isMoving ∈ TB := tb_mem 1135 (by decide +kernel) rfl
theorem cw_X11_88 {s : State} {args : Array Value} {d D : Nat} (hts : ∀ w ∈ TB, w.before args s = true) (hD : d < D) : CallW (rmL D) s args RX11 RX11 88 yX11_isMoving cX11_isMoving 1 (Option.some Jvm.ClassFile.FieldType.boolean) (.code yX11_isMoving cX11_isMoving 1 (Option.some Jvm.ClassFile.FieldType.boolean) :: TB) (rmL d) 0 0 0 := m_cwV (y := yX11_isMoving) hts ml_X11_88 im_X11_isMoving se_X11_isMoving ini_X11 cd_X11_isMoving (by decide) hD (by decide +kernel)
theorem cd_X11_diskOf : Cond.code yX11_diskOf cX11_diskOf 2 (Option.some Jvm.ClassFile.FieldType.int) ∈ TB := tb_mem 1176 (by decide +kernel) rfl
theorem sc_X11_diskOf : Cond.static yX11_diskOf ∈ TB := tb_mem 1175 (by decide +kernel) rfl
theorem ml_X11_91 : Cond.methodLink RX11 91 yX11_diskOf ∈ TB := tb_mem 1174 (by decide +kernel) rfl
theorem cw_X11_91 {s : State} {args : Array Value} {d D : Nat} (hts : ∀ w ∈ TB, w.before args s = true) (hD : d < D) : CallB (rmL D) s args RX11 91 yX11_diskOf cX11_diskOf 2 (Option.some Jvm.ClassFile.FieldType.int) (.code yX11_diskOf cX11_diskOf 2 (Option.some Jvm.ClassFile.FieldType.int) :: TB) (rmL d) 0 0 2 ∧ (Cond.static yX11_diskOf).before args s = true := m_cwS (y := yX11_diskOf) hts ml_X11_91 sc_X11_diskOf ini_X11 cd_X11_diskOf (by decide) hD (by decide +kernel)
theorem cd_X11_rowOf : Cond.code yX11_rowOf cX11_rowOf 2 (Option.some Jvm.ClassFile.FieldType.int) ∈ TB := tb_mem 1182 (by decide +kernel) rfl
theorem sc_X11_rowOf : Cond.static yX11_rowOf ∈ TB := tb_mem 1181 (by decide +kernel) rfl
theorem ml_X11_94 : Cond.methodLink RX11 94 yX11_rowOf ∈ TB := tb_mem 1180 (by decide +kernel) rfl
theorem cw_X11_94 {s : State} {args : Array Value} {d D : Nat} (hts : ∀ w ∈ TB, w.before args s = true) (hD : d < D) : CallB (rmL D) s args RX11 94 yX11_rowOf cX11_rowOf 2 (Option.some Jvm.ClassFile.FieldType.int) (.code yX11_rowOf cX11_rowOf 2 (Option.some Jvm.ClassFile.FieldType.int) :: TB) (rmL d) 0 0 2 ∧ (Cond.static yX11_rowOf).before args s = true := m_cwS (y := yX11_rowOf) hts ml_X11_94 sc_X11_rowOf ini_X11 cd_X11_rowOf (by decide) hD (by decide +kernel)
theorem cd_X11_reads : Cond.code yX11_reads cX11_reads 5 (Option.some Jvm.ClassFile.FieldType.boolean) ∈ TB := tb_mem 1186 (by decide +kernel) rfl
theorem im_X11_reads : Cond.instanceMethod yX11_reads ∈ TB := tb_mem 1185 (by decide +kernel) rfl
theorem se_X11_reads : Cond.selects yX11_reads.cls yX11_reads yX11_reads ∈ TB := tb_mem 11 (by decide +kernel) rfl
theorem ml_X11_97 : Cond.methodLink RX11 97 yX11_reads ∈ TB := tb_mem 1183 (by decide +kernel) rfl
theorem cw_X11_97 {s : State} {args : Array Value} {d D : Nat} (hts : ∀ w ∈ TB, w.before args s = true) (hD : d < D) : CallW (rmL D) s args RX11 RX11 97 yX11_reads cX11_reads 5 (Option.some Jvm.ClassFile.FieldType.boolean) (.code yX11_reads cX11_reads 5 (Option.some Jvm.ClassFile.FieldType.boolean) :: TB) (rmL d) 0 0 3 := m_cwV (y := yX11_reads) hts ml_X11_97 im_X11_reads se_X11_reads ini_X11 cd_X11_reads (by decide) hD (by decide +kernel)
theorem cd_X11_writes : Cond.code yX11_writes cX11_writes 10 (Option.none : Option Jvm.ClassFile.FieldType) ∈ TB := tb_mem 1202 (by decide +kernel) rfl
theorem im_X11_writes : Cond.instanceMethod yX11_writes ∈ TB := tb_mem 1201 (by decide +kernel) rfl
theorem se_X11_writes : Cond.selects yX11_writes.cls yX11_writes yX11_writes ∈ TB := tb_mem 15 (by decide +kernel) rfl
theorem ml_X11_101 : Cond.methodLink RX11 101 yX11_writes ∈ TB := tb_mem 1199 (by decide +kernel) rfl
theorem cw_X11_101 {s : State} {args : Array Value} {d D : Nat} (hts : ∀ w ∈ TB, w.before args s = true) (hD : d < D) : CallW (rmL D) s args RX11 RX11 101 yX11_writes cX11_writes 10 (Option.none : Option Jvm.ClassFile.FieldType) (.code yX11_writes cX11_writes 10 (Option.none : Option Jvm.ClassFile.FieldType) :: TB) (rmL d) 0 0 2 := m_cwV (y := yX11_writes) hts ml_X11_101 im_X11_writes se_X11_writes ini_X11 cd_X11_writes (by decide) hD (by decide +kernel)
theorem cd_X11_stepsFrom : Cond.code yX11_stepsFrom cX11_stepsFrom 3 (Option.some Jvm.ClassFile.FieldType.int) ∈ TB := tb_mem 1210 (by decide +kernel) rfl
theorem im_X11_stepsFrom : Cond.instanceMethod yX11_stepsFrom ∈ TB := tb_mem 1209 (by decide +kernel) rfl
theorem se_X11_stepsFrom : Cond.selects yX11_stepsFrom.cls yX11_stepsFrom yX11_stepsFrom ∈ TB := tb_mem 17 (by decide +kernel) rfl
theorem ml_X11_104 : Cond.methodLink RX11 104 yX11_stepsFrom ∈ TB := tb_mem 1207 (by decide +kernel) rfl
theorem cw_X11_104 {s : State} {args : Array Value} {d D : Nat} (hts : ∀ w ∈ TB, w.before args s = true) (hD : d < D) : CallW (rmL D) s args RX11 RX11 104 yX11_stepsFrom cX11_stepsFrom 3 (Option.some Jvm.ClassFile.FieldType.int) (.code yX11_stepsFrom cX11_stepsFrom 3 (Option.some Jvm.ClassFile.FieldType.int) :: TB) (rmL d) 0 0 1 := m_cwV (y := yX11_stepsFrom) hts ml_X11_104 im_X11_stepsFrom se_X11_stepsFrom ini_X11 cd_X11_stepsFrom (by decide) hD (by decide +kernel)
theorem cd_X11_checkpoints : Cond.code yX11_checkpoints cX11_checkpoints 3 (Option.none : Option Jvm.ClassFile.FieldType) ∈ TB := tb_mem 1214 (by decide +kernel) rfl
theorem im_X11_checkpoints : Cond.instanceMethod yX11_checkpoints ∈ TB := tb_mem 1213 (by decide +kernel) rfl
theorem se_X11_checkpoints : Cond.selects yX11_checkpoints.cls yX11_checkpoints yX11_checkpoints ∈ TB := tb_mem 18 (by decide +kernel) rfl
theorem ml_X11_107 : Cond.methodLink RX11 107 yX11_checkpoints ∈ TB := tb_mem 1211 (by decide +kernel) rfl
theorem cw_X11_107 {s : State} {args : Array Value} {d D : Nat} (hts : ∀ w ∈ TB, w.before args s = true) (hD : d < D) : CallW (rmL D) s args RX11 RX11 107 yX11_checkpoints cX11_checkpoints 3 (Option.none : Option Jvm.ClassFile.FieldType) (.code yX11_checkpoints cX11_checkpoints 3 (Option.none : Option Jvm.ClassFile.FieldType) :: TB) (rmL d) 0 0 0 := m_cwV (y := yX11_checkpoints) hts ml_X11_107 im_X11_checkpoints se_X11_checkpoints ini_X11 cd_X11_checkpoints (by decide) hD (by decide +kernel)
theorem cd_X11_lays : Cond.code yX11_lays cX11_lays 4 (Option.none : Option Jvm.ClassFile.FieldType) ∈ TB := tb_mem 1206 (by decide +kernel) rfl
theorem im_X11_lays : Cond.instanceMethod yX11_lays ∈ TB := tb_mem 1205 (by decide +kernel) rfl
theorem se_X11_lays : Cond.selects yX11_lays.cls yX11_lays yX11_lays ∈ TB := tb_mem 16 (by decide +kernel) rfl
theorem ml_X11_110 : Cond.methodLink RX11 110 yX11_lays ∈ TB := tb_mem 1203 (by decide +kernel) rfl
theorem cw_X11_110 {s : State} {args : Array Value} {d D : Nat} (hts : ∀ w ∈ TB, w.before args s = true) (hD : d < D) : CallW (rmL D) s args RX11 RX11 110 yX11_lays cX11_lays 4 (Option.none : Option Jvm.ClassFile.FieldType) (.code yX11_lays cX11_lays 4 (Option.none : Option Jvm.ClassFile.FieldType) :: TB) (rmL d) 0 0 3 := m_cwV (y := yX11_lays) hts ml_X11_110 im_X11_lays se_X11_lays ini_X11 cd_X11_lays (by decide) hD (by decide +kernel)
theorem cd_X11_within : Cond.code yX11_within cX11_within 3 (Option.some Jvm.ClassFile.FieldType.boolean) ∈ TB := tb_mem 1126 (by decide +kernel) rfl
theorem sc_X11_within : Cond.static yX11_within ∈ TB := tb_mem 1125 (by decide +kernel) rfl
theorem ml_X11_114 : Cond.methodLink RX11 114 yX11_within ∈ TB := tb_mem 1124 (by decide +kernel) rfl
theorem cw_X11_114 {s : State} {args : Array Value} {d D : Nat} (hts : ∀ w ∈ TB, w.before args s = true) (hD : d < D) : CallB (rmL D) s args RX11 114 yX11_within cX11_within 3 (Option.some Jvm.ClassFile.FieldType.boolean) (.code yX11_within cX11_within 3 (Option.some Jvm.ClassFile.FieldType.boolean) :: TB) (rmL d) 0 0 3 ∧ (Cond.static yX11_within).before args s = true := m_cwS (y := yX11_within) hts ml_X11_114 sc_X11_within ini_X11 cd_X11_within (by decide) hD (by decide +kernel)
theorem cd_X11_step : Cond.code yX11_step cX11_step 6 (Option.some Jvm.ClassFile.FieldType.boolean) ∈ TB := tb_mem 1165 (by decide +kernel) rfl
theorem im_X11_step : Cond.instanceMethod yX11_step ∈ TB := tb_mem 1164 (by decide +kernel) rfl
theorem se_X11_step : Cond.selects yX11_step.cls yX11_step yX11_step ∈ TB := tb_mem 8 (by decide +kernel) rfl
theorem ml_X11_117 : Cond.methodLink RX11 117 yX11_step ∈ TB := tb_mem 1162 (by decide +kernel) rfl
theorem cw_X11_117 {s : State} {args : Array Value} {d D : Nat} (hts : ∀ w ∈ TB, w.before args s = true) (hD : d < D) : CallW (rmL D) s args RX11 RX11 117 yX11_step cX11_step 6 (Option.some Jvm.ClassFile.FieldType.boolean) (.code yX11_step cX11_step 6 (Option.some Jvm.ClassFile.FieldType.boolean) :: TB) (rmL d) 0 0 0 := m_cwV (y := yX11_step) hts ml_X11_117 im_X11_step se_X11_step ini_X11 cd_X11_step (by decide) hD (by decide +kernel)
theorem cd_X11_stepsDone : Cond.code yX11_stepsDone cX11_stepsDone 3 (Option.some Jvm.ClassFile.FieldType.int) ∈ TB := tb_mem 1161 (by decide +kernel) rfl
theorem im_X11_stepsDone : Cond.instanceMethod yX11_stepsDone ∈ TB := tb_mem 1160 (by decide +kernel) rfl
theorem se_X11_stepsDone : Cond.selects yX11_stepsDone.cls yX11_stepsDone yX11_stepsDone ∈ TB := tb_mem 7 (by decide +kernel) rfl
theorem ml_X11_120 : Cond.methodLink RX11 120 yX11_stepsDone ∈ TB := tb_mem 1158 (by decide +kernel) rfl
theorem cw_X11_120 {s : State} {args : Array Value} {d D : Nat} (hts : ∀ w ∈ TB, w.before args s = true) (hD : d < D) : CallW (rmL D) s args RX11 RX11 120 yX11_stepsDone cX11_stepsDone 3 (Option.some Jvm.ClassFile.FieldType.int) (.code yX11_stepsDone cX11_stepsDone 3 (Option.some Jvm.ClassFile.FieldType.int) :: TB) (rmL d) 0 0 1 := m_cwV (y := yX11_stepsDone) hts ml_X11_120 im_X11_stepsDone se_X11_stepsDone ini_X11 cd_X11_stepsDone (by decide) hD (by decide +kernel)
theorem cd_X11_crashes : Cond.code yX11_crashes cX11_crashes 2 (Option.none : Option Jvm.ClassFile.FieldType) ∈ TB := tb_mem 1222 (by decide +kernel) rfl
theorem im_X11_crashes : Cond.instanceMethod yX11_crashes ∈ TB := tb_mem 1221 (by decide +kernel) rfl
theorem se_X11_crashes : Cond.selects yX11_crashes.cls yX11_crashes yX11_crashes ∈ TB := tb_mem 19 (by decide +kernel) rfl
theorem ml_X11_123 : Cond.methodLink RX11 123 yX11_crashes ∈ TB := tb_mem 1219 (by decide +kernel) rfl
theorem cw_X11_123 {s : State} {args : Array Value} {d D : Nat} (hts : ∀ w ∈ TB, w.before args s = true) (hD : d < D) : CallW (rmL D) s args RX11 RX11 123 yX11_crashes cX11_crashes 2 (Option.none : Option Jvm.ClassFile.FieldType) (.code yX11_crashes cX11_crashes 2 (Option.none : Option Jvm.ClassFile.FieldType) :: TB) (rmL d) 0 0 0 := m_cwV (y := yX11_crashes) hts ml_X11_123 im_X11_crashes se_X11_crashes ini_X11 cd_X11_crashes (by decide) hD (by decide +kernel)
theorem cd_X11_isNew : Cond.code yX11_isNew cX11_isNew 2 (Option.some Jvm.ClassFile.FieldType.boolean) ∈ TB := tb_mem 1250 (by decide +kernel) rfl
theorem im_X11_isNew : Cond.instanceMethod yX11_isNew ∈ TB := tb_mem 1249 (by decide +kernel) rfl
theorem se_X11_isNew : Cond.selects yX11_isNew.cls yX11_isNew yX11_isNew ∈ TB := tb_mem 25 (by decide +kernel) rfl
theorem ml_X11_126 : Cond.methodLink RX11 126 yX11_isNew ∈ TB := tb_mem 1247 (by decide +kernel) rfl
theorem cw_X11_126 {s : State} {args : Array Value} {d D : Nat} (hts : ∀ w ∈ TB, w.before args s = true) (hD : d < D) : CallW (rmL D) s args RX11 RX11 126 yX11_isNew cX11_isNew 2 (Option.some Jvm.ClassFile.FieldType.boolean) (.code yX11_isNew cX11_isNew 2 (Option.some Jvm.ClassFile.FieldType.boolean) :: TB) (rmL d) 0 0 1 := m_cwV (y := yX11_isNew) hts ml_X11_126 im_X11_isNew se_X11_isNew ini_X11 cd_X11_isNew (by decide) hD (by decide +kernel)
theorem cd_X11_isInBatch : Cond.code yX11_isInBatch cX11_isInBatch 2 (Option.some Jvm.ClassFile.FieldType.boolean) ∈ TB := tb_mem 1238 (by decide +kernel) rfl
theorem im_X11_isInBatch : Cond.instanceMethod yX11_isInBatch ∈ TB := tb_mem 1237 (by decide +kernel) rfl
theorem se_X11_isInBatch : Cond.selects yX11_isInBatch.cls yX11_isInBatch yX11_isInBatch ∈ TB := tb_mem 22 (by decide +kernel) rfl
theorem ml_X11_129 : Cond.methodLink RX11 129 yX11_isInBatch ∈ TB := tb_mem 1235 (by decide +kernel) rfl
theorem cw_X11_129 {s : State} {args : Array Value} {d D : Nat} (hts : ∀ w ∈ TB, w.before args s = true) (hD : d < D) : CallW (rmL D) s args RX11 RX11 129 yX11_isInBatch cX11_isInBatch 2 (Option.some Jvm.ClassFile.FieldType.boolean) (.code yX11_isInBatch cX11_isInBatch 2 (Option.some Jvm.ClassFile.FieldType.boolean) :: TB) (rmL d) 0 0 1 := m_cwV (y := yX11_isInBatch) hts ml_X11_129 im_X11_isInBatch se_X11_isInBatch ini_X11 cd_X11_isInBatch (by decide) hD (by decide +kernel)
theorem cd_X11_isAllRead : Cond.code yX11_isAllRead cX11_isAllRead 1 (Option.some Jvm.ClassFile.FieldType.boolean) ∈ TB := tb_mem 1242 (by decide +kernel) rfl
theorem im_X11_isAllRead : Cond.instanceMethod yX11_isAllRead ∈ TB := tb_mem 1241 (by decide +kernel) rfl
theorem se_X11_isAllRead : Cond.selects yX11_isAllRead.cls yX11_isAllRead yX11_isAllRead ∈ TB := tb_mem 23 (by decide +kernel) rfl
theorem ml_X11_132 : Cond.methodLink RX11 132 yX11_isAllRead ∈ TB := tb_mem 1239 (by decide +kernel) rfl
theorem cw_X11_132 {s : State} {args : Array Value} {d D : Nat} (hts : ∀ w ∈ TB, w.before args s = true) (hD : d < D) : CallW (rmL D) s args RX11 RX11 132 yX11_isAllRead cX11_isAllRead 1 (Option.some Jvm.ClassFile.FieldType.boolean) (.code yX11_isAllRead cX11_isAllRead 1 (Option.some Jvm.ClassFile.FieldType.boolean) :: TB) (rmL d) 0 0 0 := m_cwV (y := yX11_isAllRead) hts ml_X11_132 im_X11_isAllRead se_X11_isAllRead ini_X11 cd_X11_isAllRead (by decide) hD (by decide +kernel)
theorem cd_X11_layoutOf : Cond.code yX11_layoutOf cX11_layoutOf 2 (Option.some Jvm.ClassFile.FieldType.int) ∈ TB := tb_mem 1246 (by decide +kernel) rfl
theorem im_X11_layoutOf : Cond.instanceMethod yX11_layoutOf ∈ TB := tb_mem 1245 (by decide +kernel) rfl
theorem se_X11_layoutOf : Cond.selects yX11_layoutOf.cls yX11_layoutOf yX11_layoutOf ∈ TB := tb_mem 24 (by decide +kernel) rfl
theorem ml_X11_135 : Cond.methodLink RX11 135 yX11_layoutOf ∈ TB := tb_mem 1243 (by decide +kernel) rfl
theorem cw_X11_135 {s : State} {args : Array Value} {d D : Nat} (hts : ∀ w ∈ TB, w.before args s = true) (hD : d < D) : CallW (rmL D) s args RX11 RX11 135 yX11_layoutOf cX11_layoutOf 2 (Option.some Jvm.ClassFile.FieldType.int) (.code yX11_layoutOf cX11_layoutOf 2 (Option.some Jvm.ClassFile.FieldType.int) :: TB) (rmL d) 0 0 1 := m_cwV (y := yX11_layoutOf) hts ml_X11_135 im_X11_layoutOf se_X11_layoutOf ini_X11 cd_X11_layoutOf (by decide) hD (by decide +kernel)
theorem cd_X11_isBlock : Cond.code yX11_isBlock cX11_isBlock 2 (Option.some Jvm.ClassFile.FieldType.boolean) ∈ TB := tb_mem 1230 (by decide +kernel) rfl
theorem im_X11_isBlock : Cond.instanceMethod yX11_isBlock ∈ TB := tb_mem 1229 (by decide +kernel) rfl
theorem se_X11_isBlock : Cond.selects yX11_isBlock.cls yX11_isBlock yX11_isBlock ∈ TB := tb_mem 20 (by decide +kernel) rfl
theorem ml_X11_138 : Cond.methodLink RX11 138 yX11_isBlock ∈ TB := tb_mem 1227 (by decide +kernel) rfl
theorem cw_X11_138 {s : State} {args : Array Value} {d D : Nat} (hts : ∀ w ∈ TB, w.before args s = true) (hD : d < D) : CallW (rmL D) s args RX11 RX11 138 yX11_isBlock cX11_isBlock 2 (Option.some Jvm.ClassFile.FieldType.boolean) (.code yX11_isBlock cX11_isBlock 2 (Option.some Jvm.ClassFile.FieldType.boolean) :: TB) (rmL d) 0 0 1 := m_cwV (y := yX11_isBlock) hts ml_X11_138 im_X11_isBlock se_X11_isBlock ini_X11 cd_X11_isBlock (by decide) hD (by decide +kernel)
theorem cd_X11_readsBlock : Cond.code yX11_readsBlock cX11_readsBlock 3 (Option.some Jvm.ClassFile.FieldType.boolean) ∈ TB := tb_mem 1234 (by decide +kernel) rfl
theorem im_X11_readsBlock : Cond.instanceMethod yX11_readsBlock ∈ TB := tb_mem 1233 (by decide +kernel) rfl
theorem se_X11_readsBlock : Cond.selects yX11_readsBlock.cls yX11_readsBlock yX11_readsBlock ∈ TB := tb_mem 21 (by decide +kernel) rfl
theorem ml_X11_141 : Cond.methodLink RX11 141 yX11_readsBlock ∈ TB := tb_mem 1231 (by decide +kernel) rfl
theorem cw_X11_141 {s : State} {args : Array Value} {d D : Nat} (hts : ∀ w ∈ TB, w.before args s = true) (hD : d < D) : CallW (rmL D) s args RX11 RX11 141 yX11_readsBlock cX11_readsBlock 3 (Option.some Jvm.ClassFile.FieldType.boolean) (.code yX11_readsBlock cX11_readsBlock 3 (Option.some Jvm.ClassFile.FieldType.boolean) :: TB) (rmL d) 0 0 1 := m_cwV (y := yX11_readsBlock) hts ml_X11_141 im_X11_readsBlock se_X11_readsBlock ini_X11 cd_X11_readsBlock (by decide) hD (by decide +kernel)
theorem cd_X11_writesBlock : Cond.code yX11_writesBlock cX11_writesBlock 9 (Option.some Jvm.ClassFile.FieldType.int) ∈ TB := tb_mem 1258 (by decide +kernel) rfl
theorem im_X11_writesBlock : Cond.instanceMethod yX11_writesBlock ∈ TB := tb_mem 1257 (by decide +kernel) rfl
theorem se_X11_writesBlock : Cond.selects yX11_writesBlock.cls yX11_writesBlock yX11_writesBlock ∈ TB := tb_mem 26 (by decide +kernel) rfl
theorem ml_X11_144 : Cond.methodLink RX11 144 yX11_writesBlock ∈ TB := tb_mem 1255 (by decide +kernel) rfl
theorem cw_X11_144 {s : State} {args : Array Value} {d D : Nat} (hts : ∀ w ∈ TB, w.before args s = true) (hD : d < D) : CallW (rmL D) s args RX11 RX11 144 yX11_writesBlock cX11_writesBlock 9 (Option.some Jvm.ClassFile.FieldType.int) (.code yX11_writesBlock cX11_writesBlock 9 (Option.some Jvm.ClassFile.FieldType.int) :: TB) (rmL d) 0 0 2 := m_cwV (y := yX11_writesBlock) hts ml_X11_144 im_X11_writesBlock se_X11_writesBlock ini_X11 cd_X11_writesBlock (by decide) hD (by decide +kernel)
theorem cd_X11_disks : Cond.code yX11_disks cX11_disks 1 (Option.some Jvm.ClassFile.FieldType.int) ∈ TB := tb_mem 1270 (by decide +kernel) rfl
theorem im_X11_disks : Cond.instanceMethod yX11_disks ∈ TB := tb_mem 1269 (by decide +kernel) rfl
theorem se_X11_disks : Cond.selects yX11_disks.cls yX11_disks yX11_disks ∈ TB := tb_mem 27 (by decide +kernel) rfl
theorem ml_X11_147 : Cond.methodLink RX11 147 yX11_disks ∈ TB := tb_mem 1267 (by decide +kernel) rfl
theorem cw_X11_147 {s : State} {args : Array Value} {d D : Nat} (hts : ∀ w ∈ TB, w.before args s = true) (hD : d < D) : CallW (rmL D) s args RX11 RX11 147 yX11_disks cX11_disks 1 (Option.some Jvm.ClassFile.FieldType.int) (.code yX11_disks cX11_disks 1 (Option.some Jvm.ClassFile.FieldType.int) :: TB) (rmL d) 0 0 0 := m_cwV (y := yX11_disks) hts ml_X11_147 im_X11_disks se_X11_disks ini_X11 cd_X11_disks (by decide) hD (by decide +kernel)
theorem cd_X11_isWord : Cond.code yX11_isWord cX11_isWord 3 (Option.some Jvm.ClassFile.FieldType.boolean) ∈ TB := tb_mem 1282 (by decide +kernel) rfl
theorem im_X11_isWord : Cond.instanceMethod yX11_isWord ∈ TB := tb_mem 1281 (by decide +kernel) rfl
theorem se_X11_isWord : Cond.selects yX11_isWord.cls yX11_isWord yX11_isWord ∈ TB := tb_mem 28 (by decide +kernel) rfl
theorem ml_X11_150 : Cond.methodLink RX11 150 yX11_isWord ∈ TB := tb_mem 1279 (by decide +kernel) rfl
theorem cw_X11_150 {s : State} {args : Array Value} {d D : Nat} (hts : ∀ w ∈ TB, w.before args s = true) (hD : d < D) : CallW (rmL D) s args RX11 RX11 150 yX11_isWord cX11_isWord 3 (Option.some Jvm.ClassFile.FieldType.boolean) (.code yX11_isWord cX11_isWord 3 (Option.some Jvm.ClassFile.FieldType.boolean) :: TB) (rmL d) 0 0 2 := m_cwV (y := yX11_isWord) hts ml_X11_150 im_X11_isWord se_X11_isWord ini_X11 cd_X11_isWord (by decide) hD (by decide +kernel)
theorem cd_X11_canWrite : Cond.code yX11_canWrite cX11_canWrite 5 (Option.some Jvm.ClassFile.FieldType.boolean) ∈ TB := tb_mem 1306 (by decide +kernel) rfl
theorem im_X11_canWrite : Cond.instanceMethod yX11_canWrite ∈ TB := tb_mem 1305 (by decide +kernel) rfl
theorem se_X11_canWrite : Cond.selects yX11_canWrite.cls yX11_canWrite yX11_canWrite ∈ TB := tb_mem 31 (by decide +kernel) rfl
theorem ml_X11_157 : Cond.methodLink RX11 157 yX11_canWrite ∈ TB := tb_mem 1303 (by decide +kernel) rfl
theorem cw_X11_157 {s : State} {args : Array Value} {d D : Nat} (hts : ∀ w ∈ TB, w.before args s = true) (hD : d < D) : CallW (rmL D) s args RX11 RX11 157 yX11_canWrite cX11_canWrite 5 (Option.some Jvm.ClassFile.FieldType.boolean) (.code yX11_canWrite cX11_canWrite 5 (Option.some Jvm.ClassFile.FieldType.boolean) :: TB) (rmL d) 0 0 1 := m_cwV (y := yX11_canWrite) hts ml_X11_157 im_X11_canWrite se_X11_canWrite ini_X11 cd_X11_canWrite (by decide) hD (by decide +kernel)
theorem cd_X11_notes : Cond.code yX11_notes cX11_notes 5 (Option.none : Option Jvm.ClassFile.FieldType) ∈ TB := tb_mem 1314 (by decide +kernel) rfl
theorem im_X11_notes : Cond.instanceMethod yX11_notes ∈ TB := tb_mem 1313 (by decide +kernel) rfl
theorem se_X11_notes : Cond.selects yX11_notes.cls yX11_notes yX11_notes ∈ TB := tb_mem 33 (by decide +kernel) rfl
theorem ml_X11_160 : Cond.methodLink RX11 160 yX11_notes ∈ TB := tb_mem 1311 (by decide +kernel) rfl
theorem cw_X11_160 {s : State} {args : Array Value} {d D : Nat} (hts : ∀ w ∈ TB, w.before args s = true) (hD : d < D) : CallW (rmL D) s args RX11 RX11 160 yX11_notes cX11_notes 5 (Option.none : Option Jvm.ClassFile.FieldType) (.code yX11_notes cX11_notes 5 (Option.none : Option Jvm.ClassFile.FieldType) :: TB) (rmL d) 0 0 3 := m_cwV (y := yX11_notes) hts ml_X11_160 im_X11_notes se_X11_notes ini_X11 cd_X11_notes (by decide) hD (by decide +kernel)
theorem cd_X11_costOf : Cond.code yX11_costOf cX11_costOf 3 (Option.some Jvm.ClassFile.FieldType.int) ∈ TB := tb_mem 1302 (by decide +kernel) rfl
theorem im_X11_costOf : Cond.instanceMethod yX11_costOf ∈ TB := tb_mem 1301 (by decide +kernel) rfl
theorem se_X11_costOf : Cond.selects yX11_costOf.cls yX11_costOf yX11_costOf ∈ TB := tb_mem 30 (by decide +kernel) rfl
theorem ml_X11_163 : Cond.methodLink RX11 163 yX11_costOf ∈ TB := tb_mem 1299 (by decide +kernel) rfl
theorem cw_X11_163 {s : State} {args : Array Value} {d D : Nat} (hts : ∀ w ∈ TB, w.before args s = true) (hD : d < D) : CallW (rmL D) s args RX11 RX11 163 yX11_costOf cX11_costOf 3 (Option.some Jvm.ClassFile.FieldType.int) (.code yX11_costOf cX11_costOf 3 (Option.some Jvm.ClassFile.FieldType.int) :: TB) (rmL d) 0 0 1 := m_cwV (y := yX11_costOf) hts ml_X11_163 im_X11_costOf se_X11_costOf ini_X11 cd_X11_costOf (by decide) hD (by decide +kernel)
theorem cd_X11_serves : Cond.code yX11_serves cX11_serves 8 (Option.none : Option Jvm.ClassFile.FieldType) ∈ TB := tb_mem 1310 (by decide +kernel) rfl
theorem im_X11_serves : Cond.instanceMethod yX11_serves ∈ TB := tb_mem 1309 (by decide +kernel) rfl
theorem se_X11_serves : Cond.selects yX11_serves.cls yX11_serves yX11_serves ∈ TB := tb_mem 32 (by decide +kernel) rfl
theorem ml_X11_166 : Cond.methodLink RX11 166 yX11_serves ∈ TB := tb_mem 1307 (by decide +kernel) rfl
theorem cw_X11_166 {s : State} {args : Array Value} {d D : Nat} (hts : ∀ w ∈ TB, w.before args s = true) (hD : d < D) : CallW (rmL D) s args RX11 RX11 166 yX11_serves cX11_serves 8 (Option.none : Option Jvm.ClassFile.FieldType) (.code yX11_serves cX11_serves 8 (Option.none : Option Jvm.ClassFile.FieldType) :: TB) (rmL d) 0 0 1 := m_cwV (y := yX11_serves) hts ml_X11_166 im_X11_serves se_X11_serves ini_X11 cd_X11_serves (by decide) hD (by decide +kernel)
theorem cd_X11_ticks : Cond.code yX11_ticks cX11_ticks 8 (Option.some Jvm.ClassFile.FieldType.int) ∈ TB := tb_mem 1298 (by decide +kernel) rfl
theorem im_X11_ticks : Cond.instanceMethod yX11_ticks ∈ TB := tb_mem 1297 (by decide +kernel) rfl
theorem se_X11_ticks : Cond.selects yX11_ticks.cls yX11_ticks yX11_ticks ∈ TB := tb_mem 29 (by decide +kernel) rfl
theorem ml_X11_170 : Cond.methodLink RX11 170 yX11_ticks ∈ TB := tb_mem 1295 (by decide +kernel) rfl
theorem cw_X11_170 {s : State} {args : Array Value} {d D : Nat} (hts : ∀ w ∈ TB, w.before args s = true) (hD : d < D) : CallW (rmL D) s args RX11 RX11 170 yX11_ticks cX11_ticks 8 (Option.some Jvm.ClassFile.FieldType.int) (.code yX11_ticks cX11_ticks 8 (Option.some Jvm.ClassFile.FieldType.int) :: TB) (rmL d) 0 0 1 := m_cwV (y := yX11_ticks) hts ml_X11_170 im_X11_ticks se_X11_ticks ini_X11 cd_X11_ticks (by decide) hD (by decide +kernel)
theorem cd_X11_isOff : Cond.code yX11_isOff cX11_isOff 5 (Option.some Jvm.ClassFile.FieldType.boolean) ∈ TB := tb_mem 1330 (by decide +kernel) rfl
theorem im_X11_isOff : Cond.instanceMethod yX11_isOff ∈ TB := tb_mem 1329 (by decide +kernel) rfl
theorem se_X11_isOff : Cond.selects yX11_isOff.cls yX11_isOff yX11_isOff ∈ TB := tb_mem 34 (by decide +kernel) rfl
theorem ml_X11_173 : Cond.methodLink RX11 173 yX11_isOff ∈ TB := tb_mem 1327 (by decide +kernel) rfl
theorem cw_X11_173 {s : State} {args : Array Value} {d D : Nat} (hts : ∀ w ∈ TB, w.before args s = true) (hD : d < D) : CallW (rmL D) s args RX11 RX11 173 yX11_isOff cX11_isOff 5 (Option.some Jvm.ClassFile.FieldType.boolean) (.code yX11_isOff cX11_isOff 5 (Option.some Jvm.ClassFile.FieldType.boolean) :: TB) (rmL d) 0 0 1 := m_cwV (y := yX11_isOff) hts ml_X11_173 im_X11_isOff se_X11_isOff ini_X11 cd_X11_isOff (by decide) hD (by decide +kernel)
theorem cd_X11_keeps : Cond.code yX11_keeps cX11_keeps 2 (Option.none : Option Jvm.ClassFile.FieldType) ∈ TB := tb_mem 1342 (by decide +kernel) rfl
theorem im_X11_keeps : Cond.instanceMethod yX11_keeps ∈ TB := tb_mem 1341 (by decide +kernel) rfl
theorem se_X11_keeps : Cond.selects yX11_keeps.cls yX11_keeps yX11_keeps ∈ TB := tb_mem 35 (by decide +kernel) rfl
theorem ml_X11_176 : Cond.methodLink RX11 176 yX11_keeps ∈ TB := tb_mem 1339 (by decide +kernel) rfl
theorem cw_X11_176 {s : State} {args : Array Value} {d D : Nat} (hts : ∀ w ∈ TB, w.before args s = true) (hD : d < D) : CallW (rmL D) s args RX11 RX11 176 yX11_keeps cX11_keeps 2 (Option.none : Option Jvm.ClassFile.FieldType) (.code yX11_keeps cX11_keeps 2 (Option.none : Option Jvm.ClassFile.FieldType) :: TB) (rmL d) 0 0 0 := m_cwV (y := yX11_keeps) hts ml_X11_176 im_X11_keeps se_X11_keeps ini_X11 cd_X11_keeps (by decide) hD (by decide +kernel)
theorem cd_X11_comesBack : Cond.code yX11_comesBack cX11_comesBack 2 (Option.none : Option Jvm.ClassFile.FieldType) ∈ TB := tb_mem 1346 (by decide +kernel) rfl
theorem im_X11_comesBack : Cond.instanceMethod yX11_comesBack ∈ TB := tb_mem 1345 (by decide +kernel) rfl
theorem se_X11_comesBack : Cond.selects yX11_comesBack.cls yX11_comesBack yX11_comesBack ∈ TB := tb_mem 36 (by decide +kernel) rfl
theorem ml_X11_179 : Cond.methodLink RX11 179 yX11_comesBack ∈ TB := tb_mem 1343 (by decide +kernel) rfl
theorem cw_X11_179 {s : State} {args : Array Value} {d D : Nat} (hts : ∀ w ∈ TB, w.before args s = true) (hD : d < D) : CallW (rmL D) s args RX11 RX11 179 yX11_comesBack cX11_comesBack 2 (Option.none : Option Jvm.ClassFile.FieldType) (.code yX11_comesBack cX11_comesBack 2 (Option.none : Option Jvm.ClassFile.FieldType) :: TB) (rmL d) 0 0 0 := m_cwV (y := yX11_comesBack) hts ml_X11_179 im_X11_comesBack se_X11_comesBack ini_X11 cd_X11_comesBack (by decide) hD (by decide +kernel)
theorem cd_X11_notesBlocks : Cond.code yX11_notesBlocks cX11_notesBlocks 2 (Option.none : Option Jvm.ClassFile.FieldType) ∈ TB := tb_mem 1354 (by decide +kernel) rfl
theorem im_X11_notesBlocks : Cond.instanceMethod yX11_notesBlocks ∈ TB := tb_mem 1353 (by decide +kernel) rfl
theorem se_X11_notesBlocks : Cond.selects yX11_notesBlocks.cls yX11_notesBlocks yX11_notesBlocks ∈ TB := tb_mem 37 (by decide +kernel) rfl
theorem ml_X11_182 : Cond.methodLink RX11 182 yX11_notesBlocks ∈ TB := tb_mem 1351 (by decide +kernel) rfl
theorem cw_X11_182 {s : State} {args : Array Value} {d D : Nat} (hts : ∀ w ∈ TB, w.before args s = true) (hD : d < D) : CallW (rmL D) s args RX11 RX11 182 yX11_notesBlocks cX11_notesBlocks 2 (Option.none : Option Jvm.ClassFile.FieldType) (.code yX11_notesBlocks cX11_notesBlocks 2 (Option.none : Option Jvm.ClassFile.FieldType) :: TB) (rmL d) 0 0 0 := m_cwV (y := yX11_notesBlocks) hts ml_X11_182 im_X11_notesBlocks se_X11_notesBlocks ini_X11 cd_X11_notesBlocks (by decide) hD (by decide +kernel)
theorem cd_X11_unlike : Cond.code yX11_unlike cX11_unlike 3 (Option.some Jvm.ClassFile.FieldType.int) ∈ TB := tb_mem 1358 (by decide +kernel) rfl
theorem im_X11_unlike : Cond.instanceMethod yX11_unlike ∈ TB := tb_mem 1357 (by decide +kernel) rfl
theorem se_X11_unlike : Cond.selects yX11_unlike.cls yX11_unlike yX11_unlike ∈ TB := tb_mem 38 (by decide +kernel) rfl
theorem ml_X11_185 : Cond.methodLink RX11 185 yX11_unlike ∈ TB := tb_mem 1355 (by decide +kernel) rfl
theorem cw_X11_185 {s : State} {args : Array Value} {d D : Nat} (hts : ∀ w ∈ TB, w.before args s = true) (hD : d < D) : CallW (rmL D) s args RX11 RX11 185 yX11_unlike cX11_unlike 3 (Option.some Jvm.ClassFile.FieldType.int) (.code yX11_unlike cX11_unlike 3 (Option.some Jvm.ClassFile.FieldType.int) :: TB) (rmL d) 0 0 0 := m_cwV (y := yX11_unlike) hts ml_X11_185 im_X11_unlike se_X11_unlike ini_X11 cd_X11_unlike (by decide) hD (by decide +kernel)
theorem cd_X11_eight : Cond.code yX11_eight cX11_eight 4 (Option.none : Option Jvm.ClassFile.FieldType) ∈ TB := tb_mem 1378 (by decide +kernel) rfl
theorem im_X11_eight : Cond.instanceMethod yX11_eight ∈ TB := tb_mem 1377 (by decide +kernel) rfl
theorem se_X11_eight : Cond.selects yX11_eight.cls yX11_eight yX11_eight ∈ TB := tb_mem 39 (by decide +kernel) rfl
theorem ml_X11_191 : Cond.methodLink RX11 191 yX11_eight ∈ TB := tb_mem 1375 (by decide +kernel) rfl
theorem cw_X11_191 {s : State} {args : Array Value} {d D : Nat} (hts : ∀ w ∈ TB, w.before args s = true) (hD : d < D) : CallW (rmL D) s args RX11 RX11 191 yX11_eight cX11_eight 4 (Option.none : Option Jvm.ClassFile.FieldType) (.code yX11_eight cX11_eight 4 (Option.none : Option Jvm.ClassFile.FieldType) :: TB) (rmL d) 0 0 1 := m_cwV (y := yX11_eight) hts ml_X11_191 im_X11_eight se_X11_eight ini_X11 cd_X11_eight (by decide) hD (by decide +kernel)
theorem cd_X11_byteAt : Cond.code yX11_byteAt cX11_byteAt 2 (Option.some Jvm.ClassFile.FieldType.int) ∈ TB := tb_mem 1398 (by decide +kernel) rfl
theorem im_X11_byteAt : Cond.instanceMethod yX11_byteAt ∈ TB := tb_mem 1397 (by decide +kernel) rfl
theorem se_X11_byteAt : Cond.selects yX11_byteAt.cls yX11_byteAt yX11_byteAt ∈ TB := tb_mem 42 (by decide +kernel) rfl
theorem ml_X11_204 : Cond.methodLink RX11 204 yX11_byteAt ∈ TB := tb_mem 1395 (by decide +kernel) rfl
theorem cw_X11_204 {s : State} {args : Array Value} {d D : Nat} (hts : ∀ w ∈ TB, w.before args s = true) (hD : d < D) : CallW (rmL D) s args RX11 RX11 204 yX11_byteAt cX11_byteAt 2 (Option.some Jvm.ClassFile.FieldType.int) (.code yX11_byteAt cX11_byteAt 2 (Option.some Jvm.ClassFile.FieldType.int) :: TB) (rmL d) 0 0 1 := m_cwV (y := yX11_byteAt) hts ml_X11_204 im_X11_byteAt se_X11_byteAt ini_X11 cd_X11_byteAt (by decide) hD (by decide +kernel)
theorem cd_X11_isSmall : Cond.code yX11_isSmall cX11_isSmall 1 (Option.some Jvm.ClassFile.FieldType.boolean) ∈ TB := tb_mem 1401 (by decide +kernel) rfl
theorem sc_X11_isSmall : Cond.static yX11_isSmall ∈ TB := tb_mem 1400 (by decide +kernel) rfl
theorem ml_X11_220 : Cond.methodLink RX11 220 yX11_isSmall ∈ TB := tb_mem 1399 (by decide +kernel) rfl
theorem cw_X11_220 {s : State} {args : Array Value} {d D : Nat} (hts : ∀ w ∈ TB, w.before args s = true) (hD : d < D) : CallB (rmL D) s args RX11 220 yX11_isSmall cX11_isSmall 1 (Option.some Jvm.ClassFile.FieldType.boolean) (.code yX11_isSmall cX11_isSmall 1 (Option.some Jvm.ClassFile.FieldType.boolean) :: TB) (rmL d) 0 0 1 ∧ (Cond.static yX11_isSmall).before args s = true := m_cwS (y := yX11_isSmall) hts ml_X11_220 sc_X11_isSmall ini_X11 cd_X11_isSmall (by decide) hD (by decide +kernel)
theorem cd_X11_isDigit : Cond.code yX11_isDigit cX11_isDigit 1 (Option.some Jvm.ClassFile.FieldType.boolean) ∈ TB := tb_mem 1405 (by decide +kernel) rfl
theorem sc_X11_isDigit : Cond.static yX11_isDigit ∈ TB := tb_mem 1404 (by decide +kernel) rfl
theorem ml_X11_225 : Cond.methodLink RX11 225 yX11_isDigit ∈ TB := tb_mem 1403 (by decide +kernel) rfl
theorem cw_X11_225 {s : State} {args : Array Value} {d D : Nat} (hts : ∀ w ∈ TB, w.before args s = true) (hD : d < D) : CallB (rmL D) s args RX11 225 yX11_isDigit cX11_isDigit 1 (Option.some Jvm.ClassFile.FieldType.boolean) (.code yX11_isDigit cX11_isDigit 1 (Option.some Jvm.ClassFile.FieldType.boolean) :: TB) (rmL d) 0 0 1 ∧ (Cond.static yX11_isDigit).before args s = true := m_cwS (y := yX11_isDigit) hts ml_X11_225 sc_X11_isDigit ini_X11 cd_X11_isDigit (by decide) hD (by decide +kernel)
theorem cd_J0_length_8abf5 : Cond.code yJ0_length_8abf5 cJ0_length_8abf5 1 (Option.some Jvm.ClassFile.FieldType.int) ∈ TB := tb_mem 802 (by decide +kernel) rfl
theorem im_J0_length_8abf5 : Cond.instanceMethod yJ0_length_8abf5 ∈ TB := tb_mem 800 (by decide +kernel) rfl
theorem se_J0_length_8abf5 : Cond.selects yJ0_length_8abf5.cls yJ0_length_8abf5 yJ0_length_8abf5 ∈ TB := tb_mem 801 (by decide +kernel) rfl
theorem ml_X11_229 : Cond.methodLink RX11 229 yJ0_length_8abf5 ∈ TB := tb_mem 1423 (by decide +kernel) rfl
theorem cw_X11_229 {s : State} {args : Array Value} {d D : Nat} (hts : ∀ w ∈ TB, w.before args s = true) (hD : d < D) : CallW (rmL D) s args RX11 RJ0 229 yJ0_length_8abf5 cJ0_length_8abf5 1 (Option.some Jvm.ClassFile.FieldType.int) (.code yJ0_length_8abf5 cJ0_length_8abf5 1 (Option.some Jvm.ClassFile.FieldType.int) :: TB) (rmL d) 0 0 0 := m_cwV (y := yJ0_length_8abf5) hts ml_X11_229 im_J0_length_8abf5 se_J0_length_8abf5 ini_J0 cd_J0_length_8abf5 (by decide) hD (by decide +kernel)
theorem cd_J0_charAt_5068e : Cond.code yJ0_charAt_5068e cJ0_charAt_5068e 2 (Option.some Jvm.ClassFile.FieldType.char) ∈ TB := tb_mem 812 (by decide +kernel) rfl
theorem im_J0_charAt_5068e : Cond.instanceMethod yJ0_charAt_5068e ∈ TB := tb_mem 810 (by decide +kernel) rfl
theorem se_J0_charAt_5068e : Cond.selects yJ0_charAt_5068e.cls yJ0_charAt_5068e yJ0_charAt_5068e ∈ TB := tb_mem 811 (by decide +kernel) rfl
theorem ml_X11_234 : Cond.methodLink RX11 234 yJ0_charAt_5068e ∈ TB := tb_mem 1424 (by decide +kernel) rfl
theorem cw_X11_234 {s : State} {args : Array Value} {d D : Nat} (hts : ∀ w ∈ TB, w.before args s = true) (hD : d < D) : CallW (rmL D) s args RX11 RJ0 234 yJ0_charAt_5068e cJ0_charAt_5068e 2 (Option.some Jvm.ClassFile.FieldType.char) (.code yJ0_charAt_5068e cJ0_charAt_5068e 2 (Option.some Jvm.ClassFile.FieldType.char) :: TB) (rmL d) 0 0 1 := m_cwV (y := yJ0_charAt_5068e) hts ml_X11_234 im_J0_charAt_5068e se_J0_charAt_5068e ini_J0 cd_J0_charAt_5068e (by decide) hD (by decide +kernel)
theorem cd_X11_packed : Cond.code yX11_packed cX11_packed 4 (Option.some Jvm.ClassFile.FieldType.long) ∈ TB := tb_mem 1422 (by decide +kernel) rfl
theorem sc_X11_packed : Cond.static yX11_packed ∈ TB := tb_mem 1421 (by decide +kernel) rfl
theorem ml_X11_238 : Cond.methodLink RX11 238 yX11_packed ∈ TB := tb_mem 1420 (by decide +kernel) rfl
theorem cw_X11_238 {s : State} {args : Array Value} {d D : Nat} (hts : ∀ w ∈ TB, w.before args s = true) (hD : d < D) : CallB (rmL D) s args RX11 238 yX11_packed cX11_packed 4 (Option.some Jvm.ClassFile.FieldType.long) (.code yX11_packed cX11_packed 4 (Option.some Jvm.ClassFile.FieldType.long) :: TB) (rmL d) 0 0 1 ∧ (Cond.static yX11_packed).before args s = true := m_cwS (y := yX11_packed) hts ml_X11_238 sc_X11_packed ini_X11 cd_X11_packed (by decide) hD (by decide +kernel)
theorem cd_X11_wrong : Cond.code yX11_wrong cX11_wrong 2 (Option.none : Option Jvm.ClassFile.FieldType) ∈ TB := tb_mem 1428 (by decide +kernel) rfl
theorem im_X11_wrong : Cond.instanceMethod yX11_wrong ∈ TB := tb_mem 1427 (by decide +kernel) rfl
theorem se_X11_wrong : Cond.selects yX11_wrong.cls yX11_wrong yX11_wrong ∈ TB := tb_mem 46 (by decide +kernel) rfl
theorem ml_X11_242 : Cond.methodLink RX11 242 yX11_wrong ∈ TB := tb_mem 1425 (by decide +kernel) rfl
theorem cw_X11_242 {s : State} {args : Array Value} {d D : Nat} (hts : ∀ w ∈ TB, w.before args s = true) (hD : d < D) : CallW (rmL D) s args RX11 RX11 242 yX11_wrong cX11_wrong 2 (Option.none : Option Jvm.ClassFile.FieldType) (.code yX11_wrong cX11_wrong 2 (Option.none : Option Jvm.ClassFile.FieldType) :: TB) (rmL d) 0 0 1 := m_cwV (y := yX11_wrong) hts ml_X11_242 im_X11_wrong se_X11_wrong ini_X11 cd_X11_wrong (by decide) hD (by decide +kernel)
theorem cd_X11_next : Cond.code yX11_next cX11_next 3 (Option.none : Option Jvm.ClassFile.FieldType) ∈ TB := tb_mem 1394 (by decide +kernel) rfl
theorem im_X11_next : Cond.instanceMethod yX11_next ∈ TB := tb_mem 1393 (by decide +kernel) rfl
theorem se_X11_next : Cond.selects yX11_next.cls yX11_next yX11_next ∈ TB := tb_mem 41 (by decide +kernel) rfl
theorem ml_X11_245 : Cond.methodLink RX11 245 yX11_next ∈ TB := tb_mem 1391 (by decide +kernel) rfl
theorem cw_X11_245 {s : State} {args : Array Value} {d D : Nat} (hts : ∀ w ∈ TB, w.before args s = true) (hD : d < D) : CallW (rmL D) s args RX11 RX11 245 yX11_next cX11_next 3 (Option.none : Option Jvm.ClassFile.FieldType) (.code yX11_next cX11_next 3 (Option.none : Option Jvm.ClassFile.FieldType) :: TB) (rmL d) 0 0 0 := m_cwV (y := yX11_next) hts ml_X11_245 im_X11_next se_X11_next ini_X11 cd_X11_next (by decide) hD (by decide +kernel)
theorem cd_X11_isText : Cond.code yX11_isText cX11_isText 2 (Option.some Jvm.ClassFile.FieldType.boolean) ∈ TB := tb_mem 1419 (by decide +kernel) rfl
theorem im_X11_isText : Cond.instanceMethod yX11_isText ∈ TB := tb_mem 1418 (by decide +kernel) rfl
theorem se_X11_isText : Cond.selects yX11_isText.cls yX11_isText yX11_isText ∈ TB := tb_mem 45 (by decide +kernel) rfl
theorem ml_X11_250 : Cond.methodLink RX11 250 yX11_isText ∈ TB := tb_mem 1416 (by decide +kernel) rfl
theorem cw_X11_250 {s : State} {args : Array Value} {d D : Nat} (hts : ∀ w ∈ TB, w.before args s = true) (hD : d < D) : CallW (rmL D) s args RX11 RX11 250 yX11_isText cX11_isText 2 (Option.some Jvm.ClassFile.FieldType.boolean) (.code yX11_isText cX11_isText 2 (Option.some Jvm.ClassFile.FieldType.boolean) :: TB) (rmL d) 0 0 1 := m_cwV (y := yX11_isText) hts ml_X11_250 im_X11_isText se_X11_isText ini_X11 cd_X11_isText (by decide) hD (by decide +kernel)
theorem ml_X11_276 : Cond.methodLink RX11 276 yX11_grow ∈ TB := tb_mem 1464 (by decide +kernel) rfl
theorem cw_X11_276 {s : State} {args : Array Value} {d D : Nat} (hts : ∀ w ∈ TB, w.before args s = true) (hD : d < D) : CallW (rmL D) s args RX11 RX11 276 yX11_grow cX11_grow 2 (Option.some Jvm.ClassFile.FieldType.int) (.code yX11_grow cX11_grow 2 (Option.some Jvm.ClassFile.FieldType.int) :: TB) (rmL d) 0 0 0 := m_cwV (y := yX11_grow) hts ml_X11_276 im_X11_grow se_X11_grow ini_X11 cd_X11_grow (by decide) hD (by decide +kernel)
theorem ml_X11_278 : Cond.methodLink RX11 278 yX11_crash ∈ TB := tb_mem 1465 (by decide +kernel) rfl
theorem cw_X11_278 {s : State} {args : Array Value} {d D : Nat} (hts : ∀ w ∈ TB, w.before args s = true) (hD : d < D) : CallW (rmL D) s args RX11 RX11 278 yX11_crash cX11_crash 1 (Option.some Jvm.ClassFile.FieldType.boolean) (.code yX11_crash cX11_crash 1 (Option.some Jvm.ClassFile.FieldType.boolean) :: TB) (rmL d) 0 0 0 := m_cwV (y := yX11_crash) hts ml_X11_278 im_X11_crash se_X11_crash ini_X11 cd_X11_crash (by decide) hD (by decide +kernel)
theorem ml_X11_280 : Cond.methodLink RX11 280 yX11_replace ∈ TB := tb_mem 1466 (by decide +kernel) rfl
theorem cw_X11_280 {s : State} {args : Array Value} {d D : Nat} (hts : ∀ w ∈ TB, w.before args s = true) (hD : d < D) : CallW (rmL D) s args RX11 RX11 280 yX11_replace cX11_replace 6 (Option.some Jvm.ClassFile.FieldType.int) (.code yX11_replace cX11_replace 6 (Option.some Jvm.ClassFile.FieldType.int) :: TB) (rmL d) 0 0 0 := m_cwV (y := yX11_replace) hts ml_X11_280 im_X11_replace se_X11_replace ini_X11 cd_X11_replace (by decide) hD (by decide +kernel)
theorem ml_X11_282 : Cond.methodLink RX11 282 yX11_repair ∈ TB := tb_mem 1467 (by decide +kernel) rfl
theorem cw_X11_282 {s : State} {args : Array Value} {d D : Nat} (hts : ∀ w ∈ TB, w.before args s = true) (hD : d < D) : CallW (rmL D) s args RX11 RX11 282 yX11_repair cX11_repair 7 (Option.some Jvm.ClassFile.FieldType.int) (.code yX11_repair cX11_repair 7 (Option.some Jvm.ClassFile.FieldType.int) :: TB) (rmL d) 0 0 0 := m_cwV (y := yX11_repair) hts ml_X11_282 im_X11_repair se_X11_repair ini_X11 cd_X11_repair (by decide) hD (by decide +kernel)
theorem ml_X11_284 : Cond.methodLink RX11 284 yX11_steps ∈ TB := tb_mem 1468 (by decide +kernel) rfl
theorem cw_X11_284 {s : State} {args : Array Value} {d D : Nat} (hts : ∀ w ∈ TB, w.before args s = true) (hD : d < D) : CallW (rmL D) s args RX11 RX11 284 yX11_steps cX11_steps 2 (Option.some Jvm.ClassFile.FieldType.int) (.code yX11_steps cX11_steps 2 (Option.some Jvm.ClassFile.FieldType.int) :: TB) (rmL d) 0 0 1 := m_cwV (y := yX11_steps) hts ml_X11_284 im_X11_steps se_X11_steps ini_X11 cd_X11_steps (by decide) hD (by decide +kernel)
theorem ml_X11_286 : Cond.methodLink RX11 286 yX11_tick ∈ TB := tb_mem 1469 (by decide +kernel) rfl
theorem cw_X11_286 {s : State} {args : Array Value} {d D : Nat} (hts : ∀ w ∈ TB, w.before args s = true) (hD : d < D) : CallW (rmL D) s args RX11 RX11 286 yX11_tick cX11_tick 2 (Option.some Jvm.ClassFile.FieldType.int) (.code yX11_tick cX11_tick 2 (Option.some Jvm.ClassFile.FieldType.int) :: TB) (rmL d) 0 0 1 := m_cwV (y := yX11_tick) hts ml_X11_286 im_X11_tick se_X11_tick ini_X11 cd_X11_tick (by decide) hD (by decide +kernel)
theorem ml_X11_288 : Cond.methodLink RX11 288 yX11_lose ∈ TB := tb_mem 1470 (by decide +kernel) rfl
theorem cw_X11_288 {s : State} {args : Array Value} {d D : Nat} (hts : ∀ w ∈ TB, w.before args s = true) (hD : d < D) : CallW (rmL D) s args RX11 RX11 288 yX11_lose cX11_lose 2 (Option.some Jvm.ClassFile.FieldType.boolean) (.code yX11_lose cX11_lose 2 (Option.some Jvm.ClassFile.FieldType.boolean) :: TB) (rmL d) 0 0 1 := m_cwV (y := yX11_lose) hts ml_X11_288 im_X11_lose se_X11_lose ini_X11 cd_X11_lose (by decide) hD (by decide +kernel)
theorem ml_X11_290 : Cond.methodLink RX11 290 yX11_write ∈ TB := tb_mem 1471 (by decide +kernel) rfl
theorem cw_X11_290 {s : State} {args : Array Value} {d D : Nat} (hts : ∀ w ∈ TB, w.before args s = true) (hD : d < D) : CallW (rmL D) s args RX11 RX11 290 yX11_write cX11_write 3 (Option.some Jvm.ClassFile.FieldType.int) (.code yX11_write cX11_write 3 (Option.some Jvm.ClassFile.FieldType.int) :: TB) (rmL d) 0 0 2 := m_cwV (y := yX11_write) hts ml_X11_290 im_X11_write se_X11_write ini_X11 cd_X11_write (by decide) hD (by decide +kernel)
theorem ml_X11_292 : Cond.methodLink RX11 292 yX11_fill ∈ TB := tb_mem 1472 (by decide +kernel) rfl
theorem cw_X11_292 {s : State} {args : Array Value} {d D : Nat} (hts : ∀ w ∈ TB, w.before args s = true) (hD : d < D) : CallW (rmL D) s args RX11 RX11 292 yX11_fill cX11_fill 6 (Option.some Jvm.ClassFile.FieldType.int) (.code yX11_fill cX11_fill 6 (Option.some Jvm.ClassFile.FieldType.int) :: TB) (rmL d) 0 0 3 := m_cwV (y := yX11_fill) hts ml_X11_292 im_X11_fill se_X11_fill ini_X11 cd_X11_fill (by decide) hD (by decide +kernel)
theorem ml_X11_295 : Cond.methodLink RX11 295 yX11_bad ∈ TB := tb_mem 1473 (by decide +kernel) rfl
theorem cw_X11_295 {s : State} {args : Array Value} {d D : Nat} (hts : ∀ w ∈ TB, w.before args s = true) (hD : d < D) : CallW (rmL D) s args RX11 RX11 295 yX11_bad cX11_bad 3 (Option.some Jvm.ClassFile.FieldType.boolean) (.code yX11_bad cX11_bad 3 (Option.some Jvm.ClassFile.FieldType.boolean) :: TB) (rmL d) 0 0 2 := m_cwV (y := yX11_bad) hts ml_X11_295 im_X11_bad se_X11_bad ini_X11 cd_X11_bad (by decide) hD (by decide +kernel)
theorem ml_X11_297 : Cond.methodLink RX11 297 yX11_image ∈ TB := tb_mem 1474 (by decide +kernel) rfl
theorem cw_X11_297 {s : State} {args : Array Value} {d D : Nat} (hts : ∀ w ∈ TB, w.before args s = true) (hD : d < D) : CallW (rmL D) s args RX11 RX11 297 yX11_image cX11_image 3 (Option.some Jvm.ClassFile.FieldType.boolean) (.code yX11_image cX11_image 3 (Option.some Jvm.ClassFile.FieldType.boolean) :: TB) (rmL d) 0 0 1 := m_cwV (y := yX11_image) hts ml_X11_297 im_X11_image se_X11_image ini_X11 cd_X11_image (by decide) hD (by decide +kernel)
theorem ml_X11_299 : Cond.methodLink RX11 299 yX11_back ∈ TB := tb_mem 1475 (by decide +kernel) rfl
theorem cw_X11_299 {s : State} {args : Array Value} {d D : Nat} (hts : ∀ w ∈ TB, w.before args s = true) (hD : d < D) : CallW (rmL D) s args RX11 RX11 299 yX11_back cX11_back 3 (Option.some Jvm.ClassFile.FieldType.boolean) (.code yX11_back cX11_back 3 (Option.some Jvm.ClassFile.FieldType.boolean) :: TB) (rmL d) 0 0 1 := m_cwV (y := yX11_back) hts ml_X11_299 im_X11_back se_X11_back ini_X11 cd_X11_back (by decide) hD (by decide +kernel)
theorem cd_X11_againTold : Cond.code yX11_againTold cX11_againTold 8 (Option.none : Option Jvm.ClassFile.FieldType) ∈ TB := tb_mem 1432 (by decide +kernel) rfl
theorem im_X11_againTold : Cond.instanceMethod yX11_againTold ∈ TB := tb_mem 1431 (by decide +kernel) rfl
theorem se_X11_againTold : Cond.selects yX11_againTold.cls yX11_againTold yX11_againTold ∈ TB := tb_mem 47 (by decide +kernel) rfl
theorem ml_X11_303 : Cond.methodLink RX11 303 yX11_againTold ∈ TB := tb_mem 1429 (by decide +kernel) rfl
theorem cw_X11_303 {s : State} {args : Array Value} {d D : Nat} (hts : ∀ w ∈ TB, w.before args s = true) (hD : d < D) : CallW (rmL D) s args RX11 RX11 303 yX11_againTold cX11_againTold 8 (Option.none : Option Jvm.ClassFile.FieldType) (.code yX11_againTold cX11_againTold 8 (Option.none : Option Jvm.ClassFile.FieldType) :: TB) (rmL d) 0 0 1 := m_cwV (y := yX11_againTold) hts ml_X11_303 im_X11_againTold se_X11_againTold ini_X11 cd_X11_againTold (by decide) hD (by decide +kernel)
theorem cd_X11_deedHere : Cond.code yX11_deedHere cX11_deedHere 1 (Option.some Jvm.ClassFile.FieldType.int) ∈ TB := tb_mem 1444 (by decide +kernel) rfl
theorem im_X11_deedHere : Cond.instanceMethod yX11_deedHere ∈ TB := tb_mem 1443 (by decide +kernel) rfl
theorem se_X11_deedHere : Cond.selects yX11_deedHere.cls yX11_deedHere yX11_deedHere ∈ TB := tb_mem 50 (by decide +kernel) rfl
theorem ml_X11_306 : Cond.methodLink RX11 306 yX11_deedHere ∈ TB := tb_mem 1441 (by decide +kernel) rfl
theorem cw_X11_306 {s : State} {args : Array Value} {d D : Nat} (hts : ∀ w ∈ TB, w.before args s = true) (hD : d < D) : CallW (rmL D) s args RX11 RX11 306 yX11_deedHere cX11_deedHere 1 (Option.some Jvm.ClassFile.FieldType.int) (.code yX11_deedHere cX11_deedHere 1 (Option.some Jvm.ClassFile.FieldType.int) :: TB) (rmL d) 0 0 0 := m_cwV (y := yX11_deedHere) hts ml_X11_306 im_X11_deedHere se_X11_deedHere ini_X11 cd_X11_deedHere (by decide) hD (by decide +kernel)
theorem cd_X11_manyOf : Cond.code yX11_manyOf cX11_manyOf 1 (Option.some Jvm.ClassFile.FieldType.int) ∈ TB := tb_mem 1459 (by decide +kernel) rfl
theorem sc_X11_manyOf : Cond.static yX11_manyOf ∈ TB := tb_mem 1458 (by decide +kernel) rfl
theorem ml_X11_309 : Cond.methodLink RX11 309 yX11_manyOf ∈ TB := tb_mem 1457 (by decide +kernel) rfl
theorem cw_X11_309 {s : State} {args : Array Value} {d D : Nat} (hts : ∀ w ∈ TB, w.before args s = true) (hD : d < D) : CallB (rmL D) s args RX11 309 yX11_manyOf cX11_manyOf 1 (Option.some Jvm.ClassFile.FieldType.int) (.code yX11_manyOf cX11_manyOf 1 (Option.some Jvm.ClassFile.FieldType.int) :: TB) (rmL d) 0 0 1 ∧ (Cond.static yX11_manyOf).before args s = true := m_cwS (y := yX11_manyOf) hts ml_X11_309 sc_X11_manyOf ini_X11 cd_X11_manyOf (by decide) hD (by decide +kernel)
theorem cd_X11_numberTold : Cond.code yX11_numberTold cX11_numberTold 3 (Option.some Jvm.ClassFile.FieldType.int) ∈ TB := tb_mem 1436 (by decide +kernel) rfl
theorem im_X11_numberTold : Cond.instanceMethod yX11_numberTold ∈ TB := tb_mem 1435 (by decide +kernel) rfl
theorem se_X11_numberTold : Cond.selects yX11_numberTold.cls yX11_numberTold yX11_numberTold ∈ TB := tb_mem 48 (by decide +kernel) rfl
theorem ml_X11_312 : Cond.methodLink RX11 312 yX11_numberTold ∈ TB := tb_mem 1433 (by decide +kernel) rfl
theorem cw_X11_312 {s : State} {args : Array Value} {d D : Nat} (hts : ∀ w ∈ TB, w.before args s = true) (hD : d < D) : CallW (rmL D) s args RX11 RX11 312 yX11_numberTold cX11_numberTold 3 (Option.some Jvm.ClassFile.FieldType.int) (.code yX11_numberTold cX11_numberTold 3 (Option.some Jvm.ClassFile.FieldType.int) :: TB) (rmL d) 0 0 1 := m_cwV (y := yX11_numberTold) hts ml_X11_312 im_X11_numberTold se_X11_numberTold ini_X11 cd_X11_numberTold (by decide) hD (by decide +kernel)
theorem cd_X11_does : Cond.code yX11_does cX11_does 5 (Option.some Jvm.ClassFile.FieldType.boolean) ∈ TB := tb_mem 1463 (by decide +kernel) rfl
theorem im_X11_does : Cond.instanceMethod yX11_does ∈ TB := tb_mem 1462 (by decide +kernel) rfl
theorem se_X11_does : Cond.selects yX11_does.cls yX11_does yX11_does ∈ TB := tb_mem 51 (by decide +kernel) rfl
theorem ml_X11_324 : Cond.methodLink RX11 324 yX11_does ∈ TB := tb_mem 1460 (by decide +kernel) rfl
theorem cw_X11_324 {s : State} {args : Array Value} {d D : Nat} (hts : ∀ w ∈ TB, w.before args s = true) (hD : d < D) : CallW (rmL D) s args RX11 RX11 324 yX11_does cX11_does 5 (Option.some Jvm.ClassFile.FieldType.boolean) (.code yX11_does cX11_does 5 (Option.some Jvm.ClassFile.FieldType.boolean) :: TB) (rmL d) 0 0 4 := m_cwV (y := yX11_does) hts ml_X11_324 im_X11_does se_X11_does ini_X11 cd_X11_does (by decide) hD (by decide +kernel)
theorem cd_X11_must : Cond.code yX11_must cX11_must 2 (Option.none : Option Jvm.ClassFile.FieldType) ∈ TB := tb_mem 1440 (by decide +kernel) rfl
theorem im_X11_must : Cond.instanceMethod yX11_must ∈ TB := tb_mem 1439 (by decide +kernel) rfl
theorem se_X11_must : Cond.selects yX11_must.cls yX11_must yX11_must ∈ TB := tb_mem 49 (by decide +kernel) rfl
theorem ml_X11_328 : Cond.methodLink RX11 328 yX11_must ∈ TB := tb_mem 1437 (by decide +kernel) rfl
theorem cw_X11_328 {s : State} {args : Array Value} {d D : Nat} (hts : ∀ w ∈ TB, w.before args s = true) (hD : d < D) : CallW (rmL D) s args RX11 RX11 328 yX11_must cX11_must 2 (Option.none : Option Jvm.ClassFile.FieldType) (.code yX11_must cX11_must 2 (Option.none : Option Jvm.ClassFile.FieldType) :: TB) (rmL d) 0 0 1 := m_cwV (y := yX11_must) hts ml_X11_328 im_X11_must se_X11_must ini_X11 cd_X11_must (by decide) hD (by decide +kernel)
theorem cd_X11_deedsTold : Cond.code yX11_deedsTold cX11_deedsTold 2 (Option.none : Option Jvm.ClassFile.FieldType) ∈ TB := tb_mem 1410 (by decide +kernel) rfl
theorem im_X11_deedsTold : Cond.instanceMethod yX11_deedsTold ∈ TB := tb_mem 1409 (by decide +kernel) rfl
theorem se_X11_deedsTold : Cond.selects yX11_deedsTold.cls yX11_deedsTold yX11_deedsTold ∈ TB := tb_mem 43 (by decide +kernel) rfl
theorem ml_X11_331 : Cond.methodLink RX11 331 yX11_deedsTold ∈ TB := tb_mem 1407 (by decide +kernel) rfl
theorem cw_X11_331 {s : State} {args : Array Value} {d D : Nat} (hts : ∀ w ∈ TB, w.before args s = true) (hD : d < D) : CallW (rmL D) s args RX11 RX11 331 yX11_deedsTold cX11_deedsTold 2 (Option.none : Option Jvm.ClassFile.FieldType) (.code yX11_deedsTold cX11_deedsTold 2 (Option.none : Option Jvm.ClassFile.FieldType) :: TB) (rmL d) 0 0 1 := m_cwV (y := yX11_deedsTold) hts ml_X11_331 im_X11_deedsTold se_X11_deedsTold ini_X11 cd_X11_deedsTold (by decide) hD (by decide +kernel)
theorem cd_X11_deedTold : Cond.code yX11_deedTold cX11_deedTold 6 (Option.none : Option Jvm.ClassFile.FieldType) ∈ TB := tb_mem 1414 (by decide +kernel) rfl
theorem im_X11_deedTold : Cond.instanceMethod yX11_deedTold ∈ TB := tb_mem 1413 (by decide +kernel) rfl
theorem se_X11_deedTold : Cond.selects yX11_deedTold.cls yX11_deedTold yX11_deedTold ∈ TB := tb_mem 44 (by decide +kernel) rfl
theorem ml_X11_334 : Cond.methodLink RX11 334 yX11_deedTold ∈ TB := tb_mem 1411 (by decide +kernel) rfl
theorem cw_X11_334 {s : State} {args : Array Value} {d D : Nat} (hts : ∀ w ∈ TB, w.before args s = true) (hD : d < D) : CallW (rmL D) s args RX11 RX11 334 yX11_deedTold cX11_deedTold 6 (Option.none : Option Jvm.ClassFile.FieldType) (.code yX11_deedTold cX11_deedTold 6 (Option.none : Option Jvm.ClassFile.FieldType) :: TB) (rmL d) 0 0 1 := m_cwV (y := yX11_deedTold) hts ml_X11_334 im_X11_deedTold se_X11_deedTold ini_X11 cd_X11_deedTold (by decide) hD (by decide +kernel)
theorem cd_X11_goesThrough : Cond.code yX11_goesThrough cX11_goesThrough 2 (Option.none : Option Jvm.ClassFile.FieldType) ∈ TB := tb_mem 1390 (by decide +kernel) rfl
theorem im_X11_goesThrough : Cond.instanceMethod yX11_goesThrough ∈ TB := tb_mem 1389 (by decide +kernel) rfl
theorem se_X11_goesThrough : Cond.selects yX11_goesThrough.cls yX11_goesThrough yX11_goesThrough ∈ TB := tb_mem 40 (by decide +kernel) rfl
theorem ml_X11_337 : Cond.methodLink RX11 337 yX11_goesThrough ∈ TB := tb_mem 1387 (by decide +kernel) rfl
theorem cw_X11_337 {s : State} {args : Array Value} {d D : Nat} (hts : ∀ w ∈ TB, w.before args s = true) (hD : d < D) : CallW (rmL D) s args RX11 RX11 337 yX11_goesThrough cX11_goesThrough 2 (Option.none : Option Jvm.ClassFile.FieldType) (.code yX11_goesThrough cX11_goesThrough 2 (Option.none : Option Jvm.ClassFile.FieldType) :: TB) (rmL d) 0 0 1 := m_cwV (y := yX11_goesThrough) hts ml_X11_337 im_X11_goesThrough se_X11_goesThrough ini_X11 cd_X11_goesThrough (by decide) hD (by decide +kernel)
theorem cd_X11_stepsLeft : Cond.code yX11_stepsLeft cX11_stepsLeft 3 (Option.some Jvm.ClassFile.FieldType.int) ∈ TB := tb_mem 1499 (by decide +kernel) rfl
theorem im_X11_stepsLeft : Cond.instanceMethod yX11_stepsLeft ∈ TB := tb_mem 1498 (by decide +kernel) rfl
theorem se_X11_stepsLeft : Cond.selects yX11_stepsLeft.cls yX11_stepsLeft yX11_stepsLeft ∈ TB := tb_mem 52 (by decide +kernel) rfl
theorem ml_X11_341 : Cond.methodLink RX11 341 yX11_stepsLeft ∈ TB := tb_mem 1496 (by decide +kernel) rfl
theorem cw_X11_341 {s : State} {args : Array Value} {d D : Nat} (hts : ∀ w ∈ TB, w.before args s = true) (hD : d < D) : CallW (rmL D) s args RX11 RX11 341 yX11_stepsLeft cX11_stepsLeft 3 (Option.some Jvm.ClassFile.FieldType.int) (.code yX11_stepsLeft cX11_stepsLeft 3 (Option.some Jvm.ClassFile.FieldType.int) :: TB) (rmL d) 0 0 0 := m_cwV (y := yX11_stepsLeft) hts ml_X11_341 im_X11_stepsLeft se_X11_stepsLeft ini_X11 cd_X11_stepsLeft (by decide) hD (by decide +kernel)
theorem cd_X11_critical : Cond.code yX11_critical cX11_critical 5 (Option.some Jvm.ClassFile.FieldType.int) ∈ TB := tb_mem 1503 (by decide +kernel) rfl
theorem im_X11_critical : Cond.instanceMethod yX11_critical ∈ TB := tb_mem 1502 (by decide +kernel) rfl
theorem se_X11_critical : Cond.selects yX11_critical.cls yX11_critical yX11_critical ∈ TB := tb_mem 53 (by decide +kernel) rfl
theorem ml_X11_344 : Cond.methodLink RX11 344 yX11_critical ∈ TB := tb_mem 1500 (by decide +kernel) rfl
theorem cw_X11_344 {s : State} {args : Array Value} {d D : Nat} (hts : ∀ w ∈ TB, w.before args s = true) (hD : d < D) : CallW (rmL D) s args RX11 RX11 344 yX11_critical cX11_critical 5 (Option.some Jvm.ClassFile.FieldType.int) (.code yX11_critical cX11_critical 5 (Option.some Jvm.ClassFile.FieldType.int) :: TB) (rmL d) 0 0 1 := m_cwV (y := yX11_critical) hts ml_X11_344 im_X11_critical se_X11_critical ini_X11 cd_X11_critical (by decide) hD (by decide +kernel)
theorem cd_X11_isStuck : Cond.code yX11_isStuck cX11_isStuck 2 (Option.some Jvm.ClassFile.FieldType.boolean) ∈ TB := tb_mem 1507 (by decide +kernel) rfl
theorem im_X11_isStuck : Cond.instanceMethod yX11_isStuck ∈ TB := tb_mem 1506 (by decide +kernel) rfl
theorem se_X11_isStuck : Cond.selects yX11_isStuck.cls yX11_isStuck yX11_isStuck ∈ TB := tb_mem 54 (by decide +kernel) rfl
theorem ml_X11_348 : Cond.methodLink RX11 348 yX11_isStuck ∈ TB := tb_mem 1504 (by decide +kernel) rfl
theorem cw_X11_348 {s : State} {args : Array Value} {d D : Nat} (hts : ∀ w ∈ TB, w.before args s = true) (hD : d < D) : CallW (rmL D) s args RX11 RX11 348 yX11_isStuck cX11_isStuck 2 (Option.some Jvm.ClassFile.FieldType.boolean) (.code yX11_isStuck cX11_isStuck 2 (Option.some Jvm.ClassFile.FieldType.boolean) :: TB) (rmL d) 0 0 0 := m_cwV (y := yX11_isStuck) hts ml_X11_348 im_X11_isStuck se_X11_isStuck ini_X11 cd_X11_isStuck (by decide) hD (by decide +kernel)
theorem ml_X11_351 : Cond.methodLink RX11 351 yX11_badAt ∈ TB := tb_mem 1512 (by decide +kernel) rfl
theorem cw_X11_351 {s : State} {args : Array Value} {d D : Nat} (hts : ∀ w ∈ TB, w.before args s = true) (hD : d < D) : CallW (rmL D) s args RX11 RX11 351 yX11_badAt cX11_badAt 5 (Option.some Jvm.ClassFile.FieldType.int) (.code yX11_badAt cX11_badAt 5 (Option.some Jvm.ClassFile.FieldType.int) :: TB) (rmL d) 0 0 1 := m_cwV (y := yX11_badAt) hts ml_X11_351 im_X11_badAt se_X11_badAt ini_X11 cd_X11_badAt (by decide) hD (by decide +kernel)
theorem cd_X11_unreadable : Cond.code yX11_unreadable cX11_unreadable 3 (Option.some Jvm.ClassFile.FieldType.int) ∈ TB := tb_mem 1516 (by decide +kernel) rfl
theorem im_X11_unreadable : Cond.instanceMethod yX11_unreadable ∈ TB := tb_mem 1515 (by decide +kernel) rfl
theorem se_X11_unreadable : Cond.selects yX11_unreadable.cls yX11_unreadable yX11_unreadable ∈ TB := tb_mem 55 (by decide +kernel) rfl
theorem ml_X11_354 : Cond.methodLink RX11 354 yX11_unreadable ∈ TB := tb_mem 1513 (by decide +kernel) rfl
theorem cw_X11_354 {s : State} {args : Array Value} {d D : Nat} (hts : ∀ w ∈ TB, w.before args s = true) (hD : d < D) : CallW (rmL D) s args RX11 RX11 354 yX11_unreadable cX11_unreadable 3 (Option.some Jvm.ClassFile.FieldType.int) (.code yX11_unreadable cX11_unreadable 3 (Option.some Jvm.ClassFile.FieldType.int) :: TB) (rmL d) 0 0 0 := m_cwV (y := yX11_unreadable) hts ml_X11_354 im_X11_unreadable se_X11_unreadable ini_X11 cd_X11_unreadable (by decide) hD (by decide +kernel)
theorem cd_J7_fill_53178 : Cond.code yJ7_fill_53178 cJ7_fill_53178 4 (Option.none : Option Jvm.ClassFile.FieldType) ∈ TB := tb_mem 211 (by decide +kernel) rfl
theorem sc_J7_fill_53178 : Cond.static yJ7_fill_53178 ∈ TB := tb_mem 210 (by decide +kernel) rfl
theorem ml_X3_25 : Cond.methodLink RX3 25 yJ7_fill_53178 ∈ TB := tb_mem 209 (by decide +kernel) rfl
theorem cw_X3_25 {s : State} {args : Array Value} {d D : Nat} (hts : ∀ w ∈ TB, w.before args s = true) (hD : d < D) : CallB (rmL D) s args RX3 25 yJ7_fill_53178 cJ7_fill_53178 4 (Option.none : Option Jvm.ClassFile.FieldType) (.code yJ7_fill_53178 cJ7_fill_53178 4 (Option.none : Option Jvm.ClassFile.FieldType) :: TB) (rmL d) 0 0 2 ∧ (Cond.static yJ7_fill_53178).before args s = true := m_cwS (y := yJ7_fill_53178) hts ml_X3_25 sc_J7_fill_53178 ini_J7 cd_J7_fill_53178 (by decide) hD (by decide +kernel)
theorem cd_X3_readable : Cond.code yX3_readable cX3_readable 3 (Option.some Jvm.ClassFile.FieldType.boolean) ∈ TB := tb_mem 470 (by decide +kernel) rfl
theorem im_X3_readable : Cond.instanceMethod yX3_readable ∈ TB := tb_mem 468 (by decide +kernel) rfl
theorem se_X3_readable : Cond.selects yX3_readable.cls yX3_readable yX3_readable ∈ TB := tb_mem 469 (by decide +kernel) rfl
theorem ml_X3_48 : Cond.methodLink RX3 48 yX3_readable ∈ TB := tb_mem 467 (by decide +kernel) rfl
theorem cw_X3_48 {s : State} {args : Array Value} {d D : Nat} (hts : ∀ w ∈ TB, w.before args s = true) (hD : d < D) : CallW (rmL D) s args RX3 RX3 48 yX3_readable cX3_readable 3 (Option.some Jvm.ClassFile.FieldType.boolean) (.code yX3_readable cX3_readable 3 (Option.some Jvm.ClassFile.FieldType.boolean) :: TB) (rmL d) 0 0 2 := m_cwV (y := yX3_readable) hts ml_X3_48 im_X3_readable se_X3_readable ini_X3 cd_X3_readable (by decide) hD (by decide +kernel)
theorem cd_X3_gaps : Cond.code yX3_gaps cX3_gaps 5 (Option.some Jvm.ClassFile.FieldType.int) ∈ TB := tb_mem 474 (by decide +kernel) rfl
theorem im_X3_gaps : Cond.instanceMethod yX3_gaps ∈ TB := tb_mem 472 (by decide +kernel) rfl
theorem se_X3_gaps : Cond.selects yX3_gaps.cls yX3_gaps yX3_gaps ∈ TB := tb_mem 473 (by decide +kernel) rfl
theorem ml_X3_52 : Cond.methodLink RX3 52 yX3_gaps ∈ TB := tb_mem 471 (by decide +kernel) rfl
theorem cw_X3_52 {s : State} {args : Array Value} {d D : Nat} (hts : ∀ w ∈ TB, w.before args s = true) (hD : d < D) : CallW (rmL D) s args RX3 RX3 52 yX3_gaps cX3_gaps 5 (Option.some Jvm.ClassFile.FieldType.int) (.code yX3_gaps cX3_gaps 5 (Option.some Jvm.ClassFile.FieldType.int) :: TB) (rmL d) 0 0 2 := m_cwV (y := yX3_gaps) hts ml_X3_52 im_X3_gaps se_X3_gaps ini_X3 cd_X3_gaps (by decide) hD (by decide +kernel)
theorem cd_X3_xoredBut : Cond.code yX3_xoredBut cX3_xoredBut 6 (Option.some Jvm.ClassFile.FieldType.int) ∈ TB := tb_mem 491 (by decide +kernel) rfl
theorem im_X3_xoredBut : Cond.instanceMethod yX3_xoredBut ∈ TB := tb_mem 489 (by decide +kernel) rfl
theorem se_X3_xoredBut : Cond.selects yX3_xoredBut.cls yX3_xoredBut yX3_xoredBut ∈ TB := tb_mem 490 (by decide +kernel) rfl
theorem ml_X3_59 : Cond.methodLink RX3 59 yX3_xoredBut ∈ TB := tb_mem 488 (by decide +kernel) rfl
theorem cw_X3_59 {s : State} {args : Array Value} {d D : Nat} (hts : ∀ w ∈ TB, w.before args s = true) (hD : d < D) : CallW (rmL D) s args RX3 RX3 59 yX3_xoredBut cX3_xoredBut 6 (Option.some Jvm.ClassFile.FieldType.int) (.code yX3_xoredBut cX3_xoredBut 6 (Option.some Jvm.ClassFile.FieldType.int) :: TB) (rmL d) 0 0 3 := m_cwV (y := yX3_xoredBut) hts ml_X3_59 im_X3_xoredBut se_X3_xoredBut ini_X3 cd_X3_xoredBut (by decide) hD (by decide +kernel)
theorem cd_X5_rowOf : Cond.code yX5_rowOf cX5_rowOf 2 (Option.some Jvm.ClassFile.FieldType.int) ∈ TB := tb_mem 462 (by decide +kernel) rfl
theorem im_X5_rowOf : Cond.instanceMethod yX5_rowOf ∈ TB := tb_mem 460 (by decide +kernel) rfl
theorem se_X5_rowOf : Cond.selects yX5_rowOf.cls yX5_rowOf yX5_rowOf ∈ TB := tb_mem 461 (by decide +kernel) rfl
theorem ml_X3_63 : Cond.methodLink RX3 63 yX5_rowOf ∈ TB := tb_mem 549 (by decide +kernel) rfl
theorem cw_X3_63 {s : State} {args : Array Value} {d D : Nat} (hts : ∀ w ∈ TB, w.before args s = true) (hD : d < D) : CallW (rmL D) s args RX3 RX5 63 yX5_rowOf cX5_rowOf 2 (Option.some Jvm.ClassFile.FieldType.int) (.code yX5_rowOf cX5_rowOf 2 (Option.some Jvm.ClassFile.FieldType.int) :: TB) (rmL d) 0 0 1 := m_cwV (y := yX5_rowOf) hts ml_X3_63 im_X5_rowOf se_X5_rowOf ini_X5 cd_X5_rowOf (by decide) hD (by decide +kernel)
theorem cd_X5_diskOf : Cond.code yX5_diskOf cX5_diskOf 2 (Option.some Jvm.ClassFile.FieldType.int) ∈ TB := tb_mem 454 (by decide +kernel) rfl
theorem im_X5_diskOf : Cond.instanceMethod yX5_diskOf ∈ TB := tb_mem 452 (by decide +kernel) rfl
theorem se_X5_diskOf : Cond.selects yX5_diskOf.cls yX5_diskOf yX5_diskOf ∈ TB := tb_mem 453 (by decide +kernel) rfl
theorem ml_X3_67 : Cond.methodLink RX3 67 yX5_diskOf ∈ TB := tb_mem 550 (by decide +kernel) rfl
theorem cw_X3_67 {s : State} {args : Array Value} {d D : Nat} (hts : ∀ w ∈ TB, w.before args s = true) (hD : d < D) : CallW (rmL D) s args RX3 RX5 67 yX5_diskOf cX5_diskOf 2 (Option.some Jvm.ClassFile.FieldType.int) (.code yX5_diskOf cX5_diskOf 2 (Option.some Jvm.ClassFile.FieldType.int) :: TB) (rmL d) 0 0 1 := m_cwV (y := yX5_diskOf) hts ml_X3_67 im_X5_diskOf se_X5_diskOf ini_X5 cd_X5_diskOf (by decide) hD (by decide +kernel)
theorem cd_X5_parityDisk : Cond.code yX5_parityDisk cX5_parityDisk 2 (Option.some Jvm.ClassFile.FieldType.int) ∈ TB := tb_mem 458 (by decide +kernel) rfl
theorem im_X5_parityDisk : Cond.instanceMethod yX5_parityDisk ∈ TB := tb_mem 456 (by decide +kernel) rfl
theorem se_X5_parityDisk : Cond.selects yX5_parityDisk.cls yX5_parityDisk yX5_parityDisk ∈ TB := tb_mem 457 (by decide +kernel) rfl
theorem ml_X3_70 : Cond.methodLink RX3 70 yX5_parityDisk ∈ TB := tb_mem 551 (by decide +kernel) rfl
theorem cw_X3_70 {s : State} {args : Array Value} {d D : Nat} (hts : ∀ w ∈ TB, w.before args s = true) (hD : d < D) : CallW (rmL D) s args RX3 RX5 70 yX5_parityDisk cX5_parityDisk 2 (Option.some Jvm.ClassFile.FieldType.int) (.code yX5_parityDisk cX5_parityDisk 2 (Option.some Jvm.ClassFile.FieldType.int) :: TB) (rmL d) 0 0 1 := m_cwV (y := yX5_parityDisk) hts ml_X3_70 im_X5_parityDisk se_X5_parityDisk ini_X5 cd_X5_parityDisk (by decide) hD (by decide +kernel)
theorem cd_X3_valueOf : Cond.code yX3_valueOf cX3_valueOf 4 (Option.some Jvm.ClassFile.FieldType.int) ∈ TB := tb_mem 487 (by decide +kernel) rfl
theorem im_X3_valueOf : Cond.instanceMethod yX3_valueOf ∈ TB := tb_mem 485 (by decide +kernel) rfl
theorem se_X3_valueOf : Cond.selects yX3_valueOf.cls yX3_valueOf yX3_valueOf ∈ TB := tb_mem 486 (by decide +kernel) rfl
theorem ml_X3_73 : Cond.methodLink RX3 73 yX3_valueOf ∈ TB := tb_mem 556 (by decide +kernel) rfl
theorem cw_X3_73 {s : State} {args : Array Value} {d D : Nat} (hts : ∀ w ∈ TB, w.before args s = true) (hD : d < D) : CallW (rmL D) s args RX3 RX3 73 yX3_valueOf cX3_valueOf 4 (Option.some Jvm.ClassFile.FieldType.int) (.code yX3_valueOf cX3_valueOf 4 (Option.some Jvm.ClassFile.FieldType.int) :: TB) (rmL d) 0 0 3 := m_cwV (y := yX3_valueOf) hts ml_X3_73 im_X3_valueOf se_X3_valueOf ini_X3 cd_X3_valueOf (by decide) hD (by decide +kernel)
theorem cd_X3_lay : Cond.code yX3_lay cX3_lay 4 (Option.none : Option Jvm.ClassFile.FieldType) ∈ TB := tb_mem 515 (by decide +kernel) rfl
theorem im_X3_lay : Cond.instanceMethod yX3_lay ∈ TB := tb_mem 513 (by decide +kernel) rfl
theorem se_X3_lay : Cond.selects yX3_lay.cls yX3_lay yX3_lay ∈ TB := tb_mem 514 (by decide +kernel) rfl
theorem ml_X3_76 : Cond.methodLink RX3 76 yX3_lay ∈ TB := tb_mem 557 (by decide +kernel) rfl
theorem cw_X3_76 {s : State} {args : Array Value} {d D : Nat} (hts : ∀ w ∈ TB, w.before args s = true) (hD : d < D) : CallW (rmL D) s args RX3 RX3 76 yX3_lay cX3_lay 4 (Option.none : Option Jvm.ClassFile.FieldType) (.code yX3_lay cX3_lay 4 (Option.none : Option Jvm.ClassFile.FieldType) :: TB) (rmL d) 0 0 3 := m_cwV (y := yX3_lay) hts ml_X3_76 im_X3_lay se_X3_lay ini_X3 cd_X3_lay (by decide) hD (by decide +kernel)
theorem ml_X3_80 : Cond.methodLink RX3 80 yX3_put ∈ TB := tb_mem 516 (by decide +kernel) rfl
theorem cw_X3_80 {s : State} {args : Array Value} {d D : Nat} (hts : ∀ w ∈ TB, w.before args s = true) (hD : d < D) : CallW (rmL D) s args RX3 RX3 80 yX3_put cX3_put 4 (Option.some Jvm.ClassFile.FieldType.boolean) (.code yX3_put cX3_put 4 (Option.some Jvm.ClassFile.FieldType.boolean) :: TB) (rmL d) 0 0 3 := m_cwV (y := yX3_put) hts ml_X3_80 im_X3_put se_X3_put ini_X3 cd_X3_put (by decide) hD (by decide +kernel)
theorem ml_X3_84 : Cond.methodLink RX3 84 yX3_hasDisk ∈ TB := tb_mem 575 (by decide +kernel) rfl
theorem cw_X3_84 {s : State} {args : Array Value} {d D : Nat} (hts : ∀ w ∈ TB, w.before args s = true) (hD : d < D) : CallW (rmL D) s args RX3 RX3 84 yX3_hasDisk cX3_hasDisk 2 (Option.some Jvm.ClassFile.FieldType.boolean) (.code yX3_hasDisk cX3_hasDisk 2 (Option.some Jvm.ClassFile.FieldType.boolean) :: TB) (rmL d) 0 0 1 := m_cwV (y := yX3_hasDisk) hts ml_X3_84 im_X3_hasDisk se_X3_hasDisk ini_X3 cd_X3_hasDisk (by decide) hD (by decide +kernel)
theorem ml_X3_88 : Cond.methodLink RX3 88 yX3_has ∈ TB := tb_mem 595 (by decide +kernel) rfl
theorem cw_X3_88 {s : State} {args : Array Value} {d D : Nat} (hts : ∀ w ∈ TB, w.before args s = true) (hD : d < D) : CallW (rmL D) s args RX3 RX3 88 yX3_has cX3_has 3 (Option.some Jvm.ClassFile.FieldType.boolean) (.code yX3_has cX3_has 3 (Option.some Jvm.ClassFile.FieldType.boolean) :: TB) (rmL d) 0 0 2 := m_cwV (y := yX3_has) hts ml_X3_88 im_X3_has se_X3_has ini_X3 cd_X3_has (by decide) hD (by decide +kernel)
theorem cd_J9_max_7cf53 : Cond.code yJ9_max_7cf53 cJ9_max_7cf53 2 (Option.some Jvm.ClassFile.FieldType.int) ∈ TB := tb_mem 502 (by decide +kernel) rfl
theorem sc_J9_max_7cf53 : Cond.static yJ9_max_7cf53 ∈ TB := tb_mem 501 (by decide +kernel) rfl
theorem ml_X3_91 : Cond.methodLink RX3 91 yJ9_max_7cf53 ∈ TB := tb_mem 500 (by decide +kernel) rfl
theorem cw_X3_91 {s : State} {args : Array Value} {d D : Nat} (hts : ∀ w ∈ TB, w.before args s = true) (hD : d < D) : CallB (rmL D) s args RX3 91 yJ9_max_7cf53 cJ9_max_7cf53 2 (Option.some Jvm.ClassFile.FieldType.int) (.code yJ9_max_7cf53 cJ9_max_7cf53 2 (Option.some Jvm.ClassFile.FieldType.int) :: TB) (rmL d) 0 0 2 ∧ (Cond.static yJ9_max_7cf53).before args s = true := m_cwS (y := yJ9_max_7cf53) hts ml_X3_91 sc_J9_max_7cf53 ini_J9 cd_J9_max_7cf53 (by decide) hD (by decide +kernel)
theorem cd_X5_init : Cond.code yX5_init cX5_init 2 (Option.none : Option Jvm.ClassFile.FieldType) ∈ TB := tb_mem 186 (by decide +kernel) rfl
theorem im_X5_init : Cond.instanceMethod yX5_init ∈ TB := tb_mem 185 (by decide +kernel) rfl
theorem ml_X4_45 : Cond.methodLink RX4 45 yX5_init ∈ TB := tb_mem 184 (by decide +kernel) rfl
theorem ml_X4_48 : Cond.methodLink RX4 48 yX4_begin ∈ TB := tb_mem 201 (by decide +kernel) rfl
theorem cw_X4_48 {s : State} {args : Array Value} {d D : Nat} (hts : ∀ w ∈ TB, w.before args s = true) (hD : d < D) : CallW (rmL D) s args RX4 RX4 48 yX4_begin cX4_begin 3 (Option.none : Option Jvm.ClassFile.FieldType) (.code yX4_begin cX4_begin 3 (Option.none : Option Jvm.ClassFile.FieldType) :: TB) (rmL d) 0 0 2 := m_cwV (y := yX4_begin) hts ml_X4_48 im_X4_begin se_X4_begin ini_X4 cd_X4_begin (by decide) hD (by decide +kernel)
theorem cd_X3_clear : Cond.code yX3_clear cX3_clear 3 (Option.none : Option Jvm.ClassFile.FieldType) ∈ TB := tb_mem 208 (by decide +kernel) rfl
theorem im_X3_clear : Cond.instanceMethod yX3_clear ∈ TB := tb_mem 206 (by decide +kernel) rfl
theorem se_X3_clear : Cond.selects yX3_clear.cls yX3_clear yX3_clear ∈ TB := tb_mem 207 (by decide +kernel) rfl
theorem ml_X4_52 : Cond.methodLink RX4 52 yX3_clear ∈ TB := tb_mem 205 (by decide +kernel) rfl
theorem cw_X4_52 {s : State} {args : Array Value} {d D : Nat} (hts : ∀ w ∈ TB, w.before args s = true) (hD : d < D) : CallW (rmL D) s args RX4 RX3 52 yX3_clear cX3_clear 3 (Option.none : Option Jvm.ClassFile.FieldType) (.code yX3_clear cX3_clear 3 (Option.none : Option Jvm.ClassFile.FieldType) :: TB) (rmL d) 0 0 2 := m_cwV (y := yX3_clear) hts ml_X4_52 im_X3_clear se_X3_clear ini_X3 cd_X3_clear (by decide) hD (by decide +kernel)
theorem cd_X4_layoutOf : Cond.code yX4_layoutOf cX4_layoutOf 2 (Option.some (Jvm.ClassFile.FieldType.object "GrowHouse$Layout")) ∈ TB := tb_mem 215 (by decide +kernel) rfl
theorem im_X4_layoutOf : Cond.instanceMethod yX4_layoutOf ∈ TB := tb_mem 213 (by decide +kernel) rfl
theorem se_X4_layoutOf : Cond.selects yX4_layoutOf.cls yX4_layoutOf yX4_layoutOf ∈ TB := tb_mem 214 (by decide +kernel) rfl
theorem ml_X4_62 : Cond.methodLink RX4 62 yX4_layoutOf ∈ TB := tb_mem 212 (by decide +kernel) rfl
theorem cw_X4_62 {s : State} {args : Array Value} {d D : Nat} (hts : ∀ w ∈ TB, w.before args s = true) (hD : d < D) : CallW (rmL D) s args RX4 RX4 62 yX4_layoutOf cX4_layoutOf 2 (Option.some (Jvm.ClassFile.FieldType.object "GrowHouse$Layout")) (.code yX4_layoutOf cX4_layoutOf 2 (Option.some (Jvm.ClassFile.FieldType.object "GrowHouse$Layout")) :: TB) (rmL d) 0 0 1 := m_cwV (y := yX4_layoutOf) hts ml_X4_62 im_X4_layoutOf se_X4_layoutOf ini_X4 cd_X4_layoutOf (by decide) hD (by decide +kernel)
theorem cd_X3_copyFrom : Cond.code yX3_copyFrom cX3_copyFrom 2 (Option.none : Option Jvm.ClassFile.FieldType) ∈ TB := tb_mem 724 (by decide +kernel) rfl
theorem im_X3_copyFrom : Cond.instanceMethod yX3_copyFrom ∈ TB := tb_mem 722 (by decide +kernel) rfl
theorem se_X3_copyFrom : Cond.selects yX3_copyFrom.cls yX3_copyFrom yX3_copyFrom ∈ TB := tb_mem 723 (by decide +kernel) rfl
theorem ml_X4_99 : Cond.methodLink RX4 99 yX3_copyFrom ∈ TB := tb_mem 721 (by decide +kernel) rfl
theorem cw_X4_99 {s : State} {args : Array Value} {d D : Nat} (hts : ∀ w ∈ TB, w.before args s = true) (hD : d < D) : CallW (rmL D) s args RX4 RX3 99 yX3_copyFrom cX3_copyFrom 2 (Option.none : Option Jvm.ClassFile.FieldType) (.code yX3_copyFrom cX3_copyFrom 2 (Option.none : Option Jvm.ClassFile.FieldType) :: TB) (rmL d) 0 0 1 := m_cwV (y := yX3_copyFrom) hts ml_X4_99 im_X3_copyFrom se_X3_copyFrom ini_X3 cd_X3_copyFrom (by decide) hD (by decide +kernel)
theorem cd_X6_copyFrom : Cond.code yX6_copyFrom cX6_copyFrom 2 (Option.none : Option Jvm.ClassFile.FieldType) ∈ TB := tb_mem 729 (by decide +kernel) rfl
theorem im_X6_copyFrom : Cond.instanceMethod yX6_copyFrom ∈ TB := tb_mem 727 (by decide +kernel) rfl
theorem se_X6_copyFrom : Cond.selects yX6_copyFrom.cls yX6_copyFrom yX6_copyFrom ∈ TB := tb_mem 728 (by decide +kernel) rfl
theorem ml_X4_103 : Cond.methodLink RX4 103 yX6_copyFrom ∈ TB := tb_mem 726 (by decide +kernel) rfl
theorem cw_X4_103 {s : State} {args : Array Value} {d D : Nat} (hts : ∀ w ∈ TB, w.before args s = true) (hD : d < D) : CallW (rmL D) s args RX4 RX6 103 yX6_copyFrom cX6_copyFrom 2 (Option.none : Option Jvm.ClassFile.FieldType) (.code yX6_copyFrom cX6_copyFrom 2 (Option.none : Option Jvm.ClassFile.FieldType) :: TB) (rmL d) 0 0 1 := m_cwV (y := yX6_copyFrom) hts ml_X4_103 im_X6_copyFrom se_X6_copyFrom ini_X6 cd_X6_copyFrom (by decide) hD (by decide +kernel)
theorem cd_X4_planBatch : Cond.code yX4_planBatch cX4_planBatch 1 (Option.none : Option Jvm.ClassFile.FieldType) ∈ TB := tb_mem 398 (by decide +kernel) rfl
theorem im_X4_planBatch : Cond.instanceMethod yX4_planBatch ∈ TB := tb_mem 396 (by decide +kernel) rfl
theorem se_X4_planBatch : Cond.selects yX4_planBatch.cls yX4_planBatch yX4_planBatch ∈ TB := tb_mem 397 (by decide +kernel) rfl
theorem ml_X4_112 : Cond.methodLink RX4 112 yX4_planBatch ∈ TB := tb_mem 395 (by decide +kernel) rfl
theorem cw_X4_112 {s : State} {args : Array Value} {d D : Nat} (hts : ∀ w ∈ TB, w.before args s = true) (hD : d < D) : CallW (rmL D) s args RX4 RX4 112 yX4_planBatch cX4_planBatch 1 (Option.none : Option Jvm.ClassFile.FieldType) (.code yX4_planBatch cX4_planBatch 1 (Option.none : Option Jvm.ClassFile.FieldType) :: TB) (rmL d) 0 0 0 := m_cwV (y := yX4_planBatch) hts ml_X4_112 im_X4_planBatch se_X4_planBatch ini_X4 cd_X4_planBatch (by decide) hD (by decide +kernel)
theorem cd_X1_plan : Cond.code yX1_plan cX1_plan 8 (Option.none : Option Jvm.ClassFile.FieldType) ∈ TB := tb_mem 402 (by decide +kernel) rfl
theorem im_X1_plan : Cond.instanceMethod yX1_plan ∈ TB := tb_mem 400 (by decide +kernel) rfl
theorem se_X1_plan : Cond.selects yX1_plan.cls yX1_plan yX1_plan ∈ TB := tb_mem 401 (by decide +kernel) rfl
theorem ml_X4_118 : Cond.methodLink RX4 118 yX1_plan ∈ TB := tb_mem 399 (by decide +kernel) rfl
theorem cw_X4_118 {s : State} {args : Array Value} {d D : Nat} (hts : ∀ w ∈ TB, w.before args s = true) (hD : d < D) : CallW (rmL D) s args RX4 RX1 118 yX1_plan cX1_plan 8 (Option.none : Option Jvm.ClassFile.FieldType) (.code yX1_plan cX1_plan 8 (Option.none : Option Jvm.ClassFile.FieldType) :: TB) (rmL d) 0 0 5 := m_cwV (y := yX1_plan) hts ml_X4_118 im_X1_plan se_X1_plan ini_X1 cd_X1_plan (by decide) hD (by decide +kernel)
theorem ml_X4_125 : Cond.methodLink RX4 125 yX4_blocks ∈ TB := tb_mem 540 (by decide +kernel) rfl
theorem cw_X4_125 {s : State} {args : Array Value} {d D : Nat} (hts : ∀ w ∈ TB, w.before args s = true) (hD : d < D) : CallW (rmL D) s args RX4 RX4 125 yX4_blocks cX4_blocks 1 (Option.some Jvm.ClassFile.FieldType.int) (.code yX4_blocks cX4_blocks 1 (Option.some Jvm.ClassFile.FieldType.int) :: TB) (rmL d) 0 0 0 := m_cwV (y := yX4_blocks) hts ml_X4_125 im_X4_blocks se_X4_blocks ini_X4 cd_X4_blocks (by decide) hD (by decide +kernel)
theorem cd_X4_anyMoving : Cond.code yX4_anyMoving cX4_anyMoving 1 (Option.some Jvm.ClassFile.FieldType.boolean) ∈ TB := tb_mem 394 (by decide +kernel) rfl
theorem im_X4_anyMoving : Cond.instanceMethod yX4_anyMoving ∈ TB := tb_mem 392 (by decide +kernel) rfl
theorem se_X4_anyMoving : Cond.selects yX4_anyMoving.cls yX4_anyMoving yX4_anyMoving ∈ TB := tb_mem 393 (by decide +kernel) rfl
theorem ml_X4_129 : Cond.methodLink RX4 129 yX4_anyMoving ∈ TB := tb_mem 391 (by decide +kernel) rfl
theorem cw_X4_129 {s : State} {args : Array Value} {d D : Nat} (hts : ∀ w ∈ TB, w.before args s = true) (hD : d < D) : CallW (rmL D) s args RX4 RX4 129 yX4_anyMoving cX4_anyMoving 1 (Option.some Jvm.ClassFile.FieldType.boolean) (.code yX4_anyMoving cX4_anyMoving 1 (Option.some Jvm.ClassFile.FieldType.boolean) :: TB) (rmL d) 0 0 0 := m_cwV (y := yX4_anyMoving) hts ml_X4_129 im_X4_anyMoving se_X4_anyMoving ini_X4 cd_X4_anyMoving (by decide) hD (by decide +kernel)
theorem cd_X4_isMoving : Cond.code yX4_isMoving cX4_isMoving 2 (Option.some Jvm.ClassFile.FieldType.boolean) ∈ TB := tb_mem 544 (by decide +kernel) rfl
theorem im_X4_isMoving : Cond.instanceMethod yX4_isMoving ∈ TB := tb_mem 542 (by decide +kernel) rfl
theorem se_X4_isMoving : Cond.selects yX4_isMoving.cls yX4_isMoving yX4_isMoving ∈ TB := tb_mem 543 (by decide +kernel) rfl
theorem ml_X4_139 : Cond.methodLink RX4 139 yX4_isMoving ∈ TB := tb_mem 541 (by decide +kernel) rfl
theorem cw_X4_139 {s : State} {args : Array Value} {d D : Nat} (hts : ∀ w ∈ TB, w.before args s = true) (hD : d < D) : CallW (rmL D) s args RX4 RX4 139 yX4_isMoving cX4_isMoving 2 (Option.some Jvm.ClassFile.FieldType.boolean) (.code yX4_isMoving cX4_isMoving 2 (Option.some Jvm.ClassFile.FieldType.boolean) :: TB) (rmL d) 0 0 1 := m_cwV (y := yX4_isMoving) hts ml_X4_139 im_X4_isMoving se_X4_isMoving ini_X4 cd_X4_isMoving (by decide) hD (by decide +kernel)
theorem cd_X4_isNew : Cond.code yX4_isNew cX4_isNew 2 (Option.some Jvm.ClassFile.FieldType.boolean) ∈ TB := tb_mem 450 (by decide +kernel) rfl
theorem im_X4_isNew : Cond.instanceMethod yX4_isNew ∈ TB := tb_mem 448 (by decide +kernel) rfl
theorem se_X4_isNew : Cond.selects yX4_isNew.cls yX4_isNew yX4_isNew ∈ TB := tb_mem 449 (by decide +kernel) rfl
theorem ml_X4_146 : Cond.methodLink RX4 146 yX4_isNew ∈ TB := tb_mem 447 (by decide +kernel) rfl
theorem cw_X4_146 {s : State} {args : Array Value} {d D : Nat} (hts : ∀ w ∈ TB, w.before args s = true) (hD : d < D) : CallW (rmL D) s args RX4 RX4 146 yX4_isNew cX4_isNew 2 (Option.some Jvm.ClassFile.FieldType.boolean) (.code yX4_isNew cX4_isNew 2 (Option.some Jvm.ClassFile.FieldType.boolean) :: TB) (rmL d) 0 0 1 := m_cwV (y := yX4_isNew) hts ml_X4_146 im_X4_isNew se_X4_isNew ini_X4 cd_X4_isNew (by decide) hD (by decide +kernel)
theorem cd_X4_layoutAt : Cond.code yX4_layoutAt cX4_layoutAt 2 (Option.some (Jvm.ClassFile.FieldType.object "GrowHouse$Layout")) ∈ TB := tb_mem 446 (by decide +kernel) rfl
theorem im_X4_layoutAt : Cond.instanceMethod yX4_layoutAt ∈ TB := tb_mem 444 (by decide +kernel) rfl
theorem se_X4_layoutAt : Cond.selects yX4_layoutAt.cls yX4_layoutAt yX4_layoutAt ∈ TB := tb_mem 445 (by decide +kernel) rfl
theorem ml_X4_149 : Cond.methodLink RX4 149 yX4_layoutAt ∈ TB := tb_mem 443 (by decide +kernel) rfl
theorem cw_X4_149 {s : State} {args : Array Value} {d D : Nat} (hts : ∀ w ∈ TB, w.before args s = true) (hD : d < D) : CallW (rmL D) s args RX4 RX4 149 yX4_layoutAt cX4_layoutAt 2 (Option.some (Jvm.ClassFile.FieldType.object "GrowHouse$Layout")) (.code yX4_layoutAt cX4_layoutAt 2 (Option.some (Jvm.ClassFile.FieldType.object "GrowHouse$Layout")) :: TB) (rmL d) 0 0 1 := m_cwV (y := yX4_layoutAt) hts ml_X4_149 im_X4_layoutAt se_X4_layoutAt ini_X4 cd_X4_layoutAt (by decide) hD (by decide +kernel)
theorem ml_X4_152 : Cond.methodLink RX4 152 yX5_diskOf ∈ TB := tb_mem 451 (by decide +kernel) rfl
theorem cw_X4_152 {s : State} {args : Array Value} {d D : Nat} (hts : ∀ w ∈ TB, w.before args s = true) (hD : d < D) : CallW (rmL D) s args RX4 RX5 152 yX5_diskOf cX5_diskOf 2 (Option.some Jvm.ClassFile.FieldType.int) (.code yX5_diskOf cX5_diskOf 2 (Option.some Jvm.ClassFile.FieldType.int) :: TB) (rmL d) 0 0 1 := m_cwV (y := yX5_diskOf) hts ml_X4_152 im_X5_diskOf se_X5_diskOf ini_X5 cd_X5_diskOf (by decide) hD (by decide +kernel)
theorem ml_X4_156 : Cond.methodLink RX4 156 yX5_rowOf ∈ TB := tb_mem 459 (by decide +kernel) rfl
theorem cw_X4_156 {s : State} {args : Array Value} {d D : Nat} (hts : ∀ w ∈ TB, w.before args s = true) (hD : d < D) : CallW (rmL D) s args RX4 RX5 156 yX5_rowOf cX5_rowOf 2 (Option.some Jvm.ClassFile.FieldType.int) (.code yX5_rowOf cX5_rowOf 2 (Option.some Jvm.ClassFile.FieldType.int) :: TB) (rmL d) 0 0 1 := m_cwV (y := yX5_rowOf) hts ml_X4_156 im_X5_rowOf se_X5_rowOf ini_X5 cd_X5_rowOf (by decide) hD (by decide +kernel)
theorem cd_X3_readsFor : Cond.code yX3_readsFor cX3_readsFor 4 (Option.some Jvm.ClassFile.FieldType.int) ∈ TB := tb_mem 466 (by decide +kernel) rfl
theorem im_X3_readsFor : Cond.instanceMethod yX3_readsFor ∈ TB := tb_mem 464 (by decide +kernel) rfl
theorem se_X3_readsFor : Cond.selects yX3_readsFor.cls yX3_readsFor yX3_readsFor ∈ TB := tb_mem 465 (by decide +kernel) rfl
theorem ml_X4_159 : Cond.methodLink RX4 159 yX3_readsFor ∈ TB := tb_mem 463 (by decide +kernel) rfl
theorem cw_X4_159 {s : State} {args : Array Value} {d D : Nat} (hts : ∀ w ∈ TB, w.before args s = true) (hD : d < D) : CallW (rmL D) s args RX4 RX3 159 yX3_readsFor cX3_readsFor 4 (Option.some Jvm.ClassFile.FieldType.int) (.code yX3_readsFor cX3_readsFor 4 (Option.some Jvm.ClassFile.FieldType.int) :: TB) (rmL d) 0 0 3 := m_cwV (y := yX3_readsFor) hts ml_X4_159 im_X3_readsFor se_X3_readsFor ini_X3 cd_X3_readsFor (by decide) hD (by decide +kernel)
theorem cd_X4_isHeld : Cond.code yX4_isHeld cX4_isHeld 2 (Option.some Jvm.ClassFile.FieldType.boolean) ∈ TB := tb_mem 650 (by decide +kernel) rfl
theorem im_X4_isHeld : Cond.instanceMethod yX4_isHeld ∈ TB := tb_mem 648 (by decide +kernel) rfl
theorem se_X4_isHeld : Cond.selects yX4_isHeld.cls yX4_isHeld yX4_isHeld ∈ TB := tb_mem 649 (by decide +kernel) rfl
theorem ml_X4_163 : Cond.methodLink RX4 163 yX4_isHeld ∈ TB := tb_mem 647 (by decide +kernel) rfl
theorem cw_X4_163 {s : State} {args : Array Value} {d D : Nat} (hts : ∀ w ∈ TB, w.before args s = true) (hD : d < D) : CallW (rmL D) s args RX4 RX4 163 yX4_isHeld cX4_isHeld 2 (Option.some Jvm.ClassFile.FieldType.boolean) (.code yX4_isHeld cX4_isHeld 2 (Option.some Jvm.ClassFile.FieldType.boolean) :: TB) (rmL d) 0 0 1 := m_cwV (y := yX4_isHeld) hts ml_X4_163 im_X4_isHeld se_X4_isHeld ini_X4 cd_X4_isHeld (by decide) hD (by decide +kernel)
theorem cd_X4_readsFor : Cond.code yX4_readsFor cX4_readsFor 3 (Option.some Jvm.ClassFile.FieldType.int) ∈ TB := tb_mem 442 (by decide +kernel) rfl
theorem im_X4_readsFor : Cond.instanceMethod yX4_readsFor ∈ TB := tb_mem 440 (by decide +kernel) rfl
theorem se_X4_readsFor : Cond.selects yX4_readsFor.cls yX4_readsFor yX4_readsFor ∈ TB := tb_mem 441 (by decide +kernel) rfl
theorem ml_X4_166 : Cond.methodLink RX4 166 yX4_readsFor ∈ TB := tb_mem 439 (by decide +kernel) rfl
theorem cw_X4_166 {s : State} {args : Array Value} {d D : Nat} (hts : ∀ w ∈ TB, w.before args s = true) (hD : d < D) : CallW (rmL D) s args RX4 RX4 166 yX4_readsFor cX4_readsFor 3 (Option.some Jvm.ClassFile.FieldType.int) (.code yX4_readsFor cX4_readsFor 3 (Option.some Jvm.ClassFile.FieldType.int) :: TB) (rmL d) 0 0 1 := m_cwV (y := yX4_readsFor) hts ml_X4_166 im_X4_readsFor se_X4_readsFor ini_X4 cd_X4_readsFor (by decide) hD (by decide +kernel)
theorem ml_X4_168 : Cond.methodLink RX4 168 yX3_valueOf ∈ TB := tb_mem 484 (by decide +kernel) rfl
theorem cw_X4_168 {s : State} {args : Array Value} {d D : Nat} (hts : ∀ w ∈ TB, w.before args s = true) (hD : d < D) : CallW (rmL D) s args RX4 RX3 168 yX3_valueOf cX3_valueOf 4 (Option.some Jvm.ClassFile.FieldType.int) (.code yX3_valueOf cX3_valueOf 4 (Option.some Jvm.ClassFile.FieldType.int) :: TB) (rmL d) 0 0 3 := m_cwV (y := yX3_valueOf) hts ml_X4_168 im_X3_valueOf se_X3_valueOf ini_X3 cd_X3_valueOf (by decide) hD (by decide +kernel)
theorem ml_X4_171 : Cond.methodLink RX4 171 yX4_hasBlock ∈ TB := tb_mem 536 (by decide +kernel) rfl
theorem cw_X4_171 {s : State} {args : Array Value} {d D : Nat} (hts : ∀ w ∈ TB, w.before args s = true) (hD : d < D) : CallW (rmL D) s args RX4 RX4 171 yX4_hasBlock cX4_hasBlock 2 (Option.some Jvm.ClassFile.FieldType.boolean) (.code yX4_hasBlock cX4_hasBlock 2 (Option.some Jvm.ClassFile.FieldType.boolean) :: TB) (rmL d) 0 0 1 := m_cwV (y := yX4_hasBlock) hts ml_X4_171 im_X4_hasBlock se_X4_hasBlock ini_X4 cd_X4_hasBlock (by decide) hD (by decide +kernel)
theorem cd_X3_canStore : Cond.code yX3_canStore cX3_canStore 7 (Option.some Jvm.ClassFile.FieldType.boolean) ∈ TB := tb_mem 548 (by decide +kernel) rfl
theorem im_X3_canStore : Cond.instanceMethod yX3_canStore ∈ TB := tb_mem 546 (by decide +kernel) rfl
theorem se_X3_canStore : Cond.selects yX3_canStore.cls yX3_canStore yX3_canStore ∈ TB := tb_mem 547 (by decide +kernel) rfl
theorem ml_X4_174 : Cond.methodLink RX4 174 yX3_canStore ∈ TB := tb_mem 545 (by decide +kernel) rfl
theorem cw_X4_174 {s : State} {args : Array Value} {d D : Nat} (hts : ∀ w ∈ TB, w.before args s = true) (hD : d < D) : CallW (rmL D) s args RX4 RX3 174 yX3_canStore cX3_canStore 7 (Option.some Jvm.ClassFile.FieldType.boolean) (.code yX3_canStore cX3_canStore 7 (Option.some Jvm.ClassFile.FieldType.boolean) :: TB) (rmL d) 0 0 2 := m_cwV (y := yX3_canStore) hts ml_X4_174 im_X3_canStore se_X3_canStore ini_X3 cd_X3_canStore (by decide) hD (by decide +kernel)
theorem cd_X3_store : Cond.code yX3_store cX3_store 9 (Option.none : Option Jvm.ClassFile.FieldType) ∈ TB := tb_mem 555 (by decide +kernel) rfl
theorem im_X3_store : Cond.instanceMethod yX3_store ∈ TB := tb_mem 553 (by decide +kernel) rfl
theorem se_X3_store : Cond.selects yX3_store.cls yX3_store yX3_store ∈ TB := tb_mem 554 (by decide +kernel) rfl
theorem ml_X4_178 : Cond.methodLink RX4 178 yX3_store ∈ TB := tb_mem 552 (by decide +kernel) rfl
theorem cw_X4_178 {s : State} {args : Array Value} {d D : Nat} (hts : ∀ w ∈ TB, w.before args s = true) (hD : d < D) : CallW (rmL D) s args RX4 RX3 178 yX3_store cX3_store 9 (Option.none : Option Jvm.ClassFile.FieldType) (.code yX3_store cX3_store 9 (Option.none : Option Jvm.ClassFile.FieldType) :: TB) (rmL d) 0 0 3 := m_cwV (y := yX3_store) hts ml_X4_178 im_X3_store se_X3_store ini_X3 cd_X3_store (by decide) hD (by decide +kernel)
theorem ml_X4_182 : Cond.methodLink RX4 182 yX4_storeOne ∈ TB := tb_mem 566 (by decide +kernel) rfl
theorem cw_X4_182 {s : State} {args : Array Value} {d D : Nat} (hts : ∀ w ∈ TB, w.before args s = true) (hD : d < D) : CallW (rmL D) s args RX4 RX4 182 yX4_storeOne cX4_storeOne 4 (Option.some Jvm.ClassFile.FieldType.int) (.code yX4_storeOne cX4_storeOne 4 (Option.some Jvm.ClassFile.FieldType.int) :: TB) (rmL d) 0 0 2 := m_cwV (y := yX4_storeOne) hts ml_X4_182 im_X4_storeOne se_X4_storeOne ini_X4 cd_X4_storeOne (by decide) hD (by decide +kernel)
theorem cd_X3_addDisk : Cond.code yX3_addDisk cX3_addDisk 1 (Option.none : Option Jvm.ClassFile.FieldType) ∈ TB := tb_mem 422 (by decide +kernel) rfl
theorem im_X3_addDisk : Cond.instanceMethod yX3_addDisk ∈ TB := tb_mem 420 (by decide +kernel) rfl
theorem se_X3_addDisk : Cond.selects yX3_addDisk.cls yX3_addDisk yX3_addDisk ∈ TB := tb_mem 421 (by decide +kernel) rfl
theorem ml_X4_192 : Cond.methodLink RX4 192 yX3_addDisk ∈ TB := tb_mem 419 (by decide +kernel) rfl
theorem cw_X4_192 {s : State} {args : Array Value} {d D : Nat} (hts : ∀ w ∈ TB, w.before args s = true) (hD : d < D) : CallW (rmL D) s args RX4 RX3 192 yX3_addDisk cX3_addDisk 1 (Option.none : Option Jvm.ClassFile.FieldType) (.code yX3_addDisk cX3_addDisk 1 (Option.none : Option Jvm.ClassFile.FieldType) :: TB) (rmL d) 0 0 0 := m_cwV (y := yX3_addDisk) hts ml_X4_192 im_X3_addDisk se_X3_addDisk ini_X3 cd_X3_addDisk (by decide) hD (by decide +kernel)
theorem cd_X4_newStripes : Cond.code yX4_newStripes cX4_newStripes 1 (Option.some Jvm.ClassFile.FieldType.int) ∈ TB := tb_mem 426 (by decide +kernel) rfl
theorem im_X4_newStripes : Cond.instanceMethod yX4_newStripes ∈ TB := tb_mem 424 (by decide +kernel) rfl
theorem se_X4_newStripes : Cond.selects yX4_newStripes.cls yX4_newStripes yX4_newStripes ∈ TB := tb_mem 425 (by decide +kernel) rfl
theorem ml_X4_195 : Cond.methodLink RX4 195 yX4_newStripes ∈ TB := tb_mem 423 (by decide +kernel) rfl
theorem cw_X4_195 {s : State} {args : Array Value} {d D : Nat} (hts : ∀ w ∈ TB, w.before args s = true) (hD : d < D) : CallW (rmL D) s args RX4 RX4 195 yX4_newStripes cX4_newStripes 1 (Option.some Jvm.ClassFile.FieldType.int) (.code yX4_newStripes cX4_newStripes 1 (Option.some Jvm.ClassFile.FieldType.int) :: TB) (rmL d) 0 0 0 := m_cwV (y := yX4_newStripes) hts ml_X4_195 im_X4_newStripes se_X4_newStripes ini_X4 cd_X4_newStripes (by decide) hD (by decide +kernel)
theorem cd_X4_isStuck : Cond.code yX4_isStuck cX4_isStuck 1 (Option.some Jvm.ClassFile.FieldType.boolean) ∈ TB := tb_mem 438 (by decide +kernel) rfl
theorem im_X4_isStuck : Cond.instanceMethod yX4_isStuck ∈ TB := tb_mem 436 (by decide +kernel) rfl
theorem se_X4_isStuck : Cond.selects yX4_isStuck.cls yX4_isStuck yX4_isStuck ∈ TB := tb_mem 437 (by decide +kernel) rfl
theorem ml_X4_198 : Cond.methodLink RX4 198 yX4_isStuck ∈ TB := tb_mem 435 (by decide +kernel) rfl
theorem cw_X4_198 {s : State} {args : Array Value} {d D : Nat} (hts : ∀ w ∈ TB, w.before args s = true) (hD : d < D) : CallW (rmL D) s args RX4 RX4 198 yX4_isStuck cX4_isStuck 1 (Option.some Jvm.ClassFile.FieldType.boolean) (.code yX4_isStuck cX4_isStuck 1 (Option.some Jvm.ClassFile.FieldType.boolean) :: TB) (rmL d) 0 0 0 := m_cwV (y := yX4_isStuck) hts ml_X4_198 im_X4_isStuck se_X4_isStuck ini_X4 cd_X4_isStuck (by decide) hD (by decide +kernel)
theorem cd_X4_goOneStep : Cond.code yX4_goOneStep cX4_goOneStep 2 (Option.none : Option Jvm.ClassFile.FieldType) ∈ TB := tb_mem 478 (by decide +kernel) rfl
theorem im_X4_goOneStep : Cond.instanceMethod yX4_goOneStep ∈ TB := tb_mem 476 (by decide +kernel) rfl
theorem se_X4_goOneStep : Cond.selects yX4_goOneStep.cls yX4_goOneStep yX4_goOneStep ∈ TB := tb_mem 477 (by decide +kernel) rfl
theorem ml_X4_201 : Cond.methodLink RX4 201 yX4_goOneStep ∈ TB := tb_mem 475 (by decide +kernel) rfl
theorem cw_X4_201 {s : State} {args : Array Value} {d D : Nat} (hts : ∀ w ∈ TB, w.before args s = true) (hD : d < D) : CallW (rmL D) s args RX4 RX4 201 yX4_goOneStep cX4_goOneStep 2 (Option.none : Option Jvm.ClassFile.FieldType) (.code yX4_goOneStep cX4_goOneStep 2 (Option.none : Option Jvm.ClassFile.FieldType) :: TB) (rmL d) 0 0 0 := m_cwV (y := yX4_goOneStep) hts ml_X4_201 im_X4_goOneStep se_X4_goOneStep ini_X4 cd_X4_goOneStep (by decide) hD (by decide +kernel)
theorem cd_X4_readNext : Cond.code yX4_readNext cX4_readNext 3 (Option.none : Option Jvm.ClassFile.FieldType) ∈ TB := tb_mem 482 (by decide +kernel) rfl
theorem im_X4_readNext : Cond.instanceMethod yX4_readNext ∈ TB := tb_mem 480 (by decide +kernel) rfl
theorem se_X4_readNext : Cond.selects yX4_readNext.cls yX4_readNext yX4_readNext ∈ TB := tb_mem 481 (by decide +kernel) rfl
theorem ml_X4_204 : Cond.methodLink RX4 204 yX4_readNext ∈ TB := tb_mem 479 (by decide +kernel) rfl
theorem cw_X4_204 {s : State} {args : Array Value} {d D : Nat} (hts : ∀ w ∈ TB, w.before args s = true) (hD : d < D) : CallW (rmL D) s args RX4 RX4 204 yX4_readNext cX4_readNext 3 (Option.none : Option Jvm.ClassFile.FieldType) (.code yX4_readNext cX4_readNext 3 (Option.none : Option Jvm.ClassFile.FieldType) :: TB) (rmL d) 0 0 1 := m_cwV (y := yX4_readNext) hts ml_X4_204 im_X4_readNext se_X4_readNext ini_X4 cd_X4_readNext (by decide) hD (by decide +kernel)
theorem cd_X4_checkpoint : Cond.code yX4_checkpoint cX4_checkpoint 2 (Option.none : Option Jvm.ClassFile.FieldType) ∈ TB := tb_mem 495 (by decide +kernel) rfl
theorem im_X4_checkpoint : Cond.instanceMethod yX4_checkpoint ∈ TB := tb_mem 493 (by decide +kernel) rfl
theorem se_X4_checkpoint : Cond.selects yX4_checkpoint.cls yX4_checkpoint yX4_checkpoint ∈ TB := tb_mem 494 (by decide +kernel) rfl
theorem ml_X4_210 : Cond.methodLink RX4 210 yX4_checkpoint ∈ TB := tb_mem 492 (by decide +kernel) rfl
theorem cw_X4_210 {s : State} {args : Array Value} {d D : Nat} (hts : ∀ w ∈ TB, w.before args s = true) (hD : d < D) : CallW (rmL D) s args RX4 RX4 210 yX4_checkpoint cX4_checkpoint 2 (Option.none : Option Jvm.ClassFile.FieldType) (.code yX4_checkpoint cX4_checkpoint 2 (Option.none : Option Jvm.ClassFile.FieldType) :: TB) (rmL d) 0 0 0 := m_cwV (y := yX4_checkpoint) hts ml_X4_210 im_X4_checkpoint se_X4_checkpoint ini_X4 cd_X4_checkpoint (by decide) hD (by decide +kernel)
theorem cd_X4_writeNext : Cond.code yX4_writeNext cX4_writeNext 7 (Option.none : Option Jvm.ClassFile.FieldType) ∈ TB := tb_mem 506 (by decide +kernel) rfl
theorem im_X4_writeNext : Cond.instanceMethod yX4_writeNext ∈ TB := tb_mem 504 (by decide +kernel) rfl
theorem se_X4_writeNext : Cond.selects yX4_writeNext.cls yX4_writeNext yX4_writeNext ∈ TB := tb_mem 505 (by decide +kernel) rfl
theorem ml_X4_216 : Cond.methodLink RX4 216 yX4_writeNext ∈ TB := tb_mem 503 (by decide +kernel) rfl
theorem cw_X4_216 {s : State} {args : Array Value} {d D : Nat} (hts : ∀ w ∈ TB, w.before args s = true) (hD : d < D) : CallW (rmL D) s args RX4 RX4 216 yX4_writeNext cX4_writeNext 7 (Option.none : Option Jvm.ClassFile.FieldType) (.code yX4_writeNext cX4_writeNext 7 (Option.none : Option Jvm.ClassFile.FieldType) :: TB) (rmL d) 0 0 1 := m_cwV (y := yX4_writeNext) hts ml_X4_216 im_X4_writeNext se_X4_writeNext ini_X4 cd_X4_writeNext (by decide) hD (by decide +kernel)
theorem ml_X4_219 : Cond.methodLink RX4 219 yJ7_fill_53178 ∈ TB := tb_mem 483 (by decide +kernel) rfl
theorem cw_X4_219 {s : State} {args : Array Value} {d D : Nat} (hts : ∀ w ∈ TB, w.before args s = true) (hD : d < D) : CallB (rmL D) s args RX4 219 yJ7_fill_53178 cJ7_fill_53178 4 (Option.none : Option Jvm.ClassFile.FieldType) (.code yJ7_fill_53178 cJ7_fill_53178 4 (Option.none : Option Jvm.ClassFile.FieldType) :: TB) (rmL d) 0 0 2 ∧ (Cond.static yJ7_fill_53178).before args s = true := m_cwS (y := yJ7_fill_53178) hts ml_X4_219 sc_J7_fill_53178 ini_J7 cd_J7_fill_53178 (by decide) hD (by decide +kernel)
theorem ml_X4_227 : Cond.methodLink RX4 227 yX5_parityDisk ∈ TB := tb_mem 507 (by decide +kernel) rfl
theorem cw_X4_227 {s : State} {args : Array Value} {d D : Nat} (hts : ∀ w ∈ TB, w.before args s = true) (hD : d < D) : CallW (rmL D) s args RX4 RX5 227 yX5_parityDisk cX5_parityDisk 2 (Option.some Jvm.ClassFile.FieldType.int) (.code yX5_parityDisk cX5_parityDisk 2 (Option.some Jvm.ClassFile.FieldType.int) :: TB) (rmL d) 0 0 1 := m_cwV (y := yX5_parityDisk) hts ml_X4_227 im_X5_parityDisk se_X5_parityDisk ini_X5 cd_X5_parityDisk (by decide) hD (by decide +kernel)
theorem cd_X4_movedXored : Cond.code yX4_movedXored cX4_movedXored 4 (Option.some Jvm.ClassFile.FieldType.int) ∈ TB := tb_mem 511 (by decide +kernel) rfl
theorem im_X4_movedXored : Cond.instanceMethod yX4_movedXored ∈ TB := tb_mem 509 (by decide +kernel) rfl
theorem se_X4_movedXored : Cond.selects yX4_movedXored.cls yX4_movedXored yX4_movedXored ∈ TB := tb_mem 510 (by decide +kernel) rfl
theorem ml_X4_230 : Cond.methodLink RX4 230 yX4_movedXored ∈ TB := tb_mem 508 (by decide +kernel) rfl
theorem cw_X4_230 {s : State} {args : Array Value} {d D : Nat} (hts : ∀ w ∈ TB, w.before args s = true) (hD : d < D) : CallW (rmL D) s args RX4 RX4 230 yX4_movedXored cX4_movedXored 4 (Option.some Jvm.ClassFile.FieldType.int) (.code yX4_movedXored cX4_movedXored 4 (Option.some Jvm.ClassFile.FieldType.int) :: TB) (rmL d) 0 0 1 := m_cwV (y := yX4_movedXored) hts ml_X4_230 im_X4_movedXored se_X4_movedXored ini_X4 cd_X4_movedXored (by decide) hD (by decide +kernel)
theorem ml_X4_233 : Cond.methodLink RX4 233 yX3_lay ∈ TB := tb_mem 512 (by decide +kernel) rfl
theorem cw_X4_233 {s : State} {args : Array Value} {d D : Nat} (hts : ∀ w ∈ TB, w.before args s = true) (hD : d < D) : CallW (rmL D) s args RX4 RX3 233 yX3_lay cX3_lay 4 (Option.none : Option Jvm.ClassFile.FieldType) (.code yX3_lay cX3_lay 4 (Option.none : Option Jvm.ClassFile.FieldType) :: TB) (rmL d) 0 0 3 := m_cwV (y := yX3_lay) hts ml_X4_233 im_X3_lay se_X3_lay ini_X3 cd_X3_lay (by decide) hD (by decide +kernel)
theorem cd_X3_clearRowsFrom : Cond.code yX3_clearRowsFrom cX3_clearRowsFrom 4 (Option.none : Option Jvm.ClassFile.FieldType) ∈ TB := tb_mem 499 (by decide +kernel) rfl
theorem im_X3_clearRowsFrom : Cond.instanceMethod yX3_clearRowsFrom ∈ TB := tb_mem 497 (by decide +kernel) rfl
theorem se_X3_clearRowsFrom : Cond.selects yX3_clearRowsFrom.cls yX3_clearRowsFrom yX3_clearRowsFrom ∈ TB := tb_mem 498 (by decide +kernel) rfl
theorem ml_X4_240 : Cond.methodLink RX4 240 yX3_clearRowsFrom ∈ TB := tb_mem 496 (by decide +kernel) rfl
theorem cw_X4_240 {s : State} {args : Array Value} {d D : Nat} (hts : ∀ w ∈ TB, w.before args s = true) (hD : d < D) : CallW (rmL D) s args RX4 RX3 240 yX3_clearRowsFrom cX3_clearRowsFrom 4 (Option.none : Option Jvm.ClassFile.FieldType) (.code yX3_clearRowsFrom cX3_clearRowsFrom 4 (Option.none : Option Jvm.ClassFile.FieldType) :: TB) (rmL d) 0 0 1 := m_cwV (y := yX3_clearRowsFrom) hts ml_X4_240 im_X3_clearRowsFrom se_X3_clearRowsFrom ini_X3 cd_X3_clearRowsFrom (by decide) hD (by decide +kernel)
theorem cd_X4_layoutOfRow : Cond.code yX4_layoutOfRow cX4_layoutOfRow 2 (Option.some (Jvm.ClassFile.FieldType.object "GrowHouse$Layout")) ∈ TB := tb_mem 590 (by decide +kernel) rfl
theorem im_X4_layoutOfRow : Cond.instanceMethod yX4_layoutOfRow ∈ TB := tb_mem 588 (by decide +kernel) rfl
theorem se_X4_layoutOfRow : Cond.selects yX4_layoutOfRow.cls yX4_layoutOfRow yX4_layoutOfRow ∈ TB := tb_mem 589 (by decide +kernel) rfl
theorem ml_X4_243 : Cond.methodLink RX4 243 yX4_layoutOfRow ∈ TB := tb_mem 587 (by decide +kernel) rfl
theorem cw_X4_243 {s : State} {args : Array Value} {d D : Nat} (hts : ∀ w ∈ TB, w.before args s = true) (hD : d < D) : CallW (rmL D) s args RX4 RX4 243 yX4_layoutOfRow cX4_layoutOfRow 2 (Option.some (Jvm.ClassFile.FieldType.object "GrowHouse$Layout")) (.code yX4_layoutOfRow cX4_layoutOfRow 2 (Option.some (Jvm.ClassFile.FieldType.object "GrowHouse$Layout")) :: TB) (rmL d) 0 0 1 := m_cwV (y := yX4_layoutOfRow) hts ml_X4_243 im_X4_layoutOfRow se_X4_layoutOfRow ini_X4 cd_X4_layoutOfRow (by decide) hD (by decide +kernel)
theorem cd_X3_rebuild : Cond.code yX3_rebuild cX3_rebuild 5 (Option.some Jvm.ClassFile.FieldType.boolean) ∈ TB := tb_mem 594 (by decide +kernel) rfl
theorem im_X3_rebuild : Cond.instanceMethod yX3_rebuild ∈ TB := tb_mem 592 (by decide +kernel) rfl
theorem se_X3_rebuild : Cond.selects yX3_rebuild.cls yX3_rebuild yX3_rebuild ∈ TB := tb_mem 593 (by decide +kernel) rfl
theorem ml_X4_246 : Cond.methodLink RX4 246 yX3_rebuild ∈ TB := tb_mem 591 (by decide +kernel) rfl
theorem cw_X4_246 {s : State} {args : Array Value} {d D : Nat} (hts : ∀ w ∈ TB, w.before args s = true) (hD : d < D) : CallW (rmL D) s args RX4 RX3 246 yX3_rebuild cX3_rebuild 5 (Option.some Jvm.ClassFile.FieldType.boolean) (.code yX3_rebuild cX3_rebuild 5 (Option.some Jvm.ClassFile.FieldType.boolean) :: TB) (rmL d) 0 0 2 := m_cwV (y := yX3_rebuild) hts ml_X4_246 im_X3_rebuild se_X3_rebuild ini_X3 cd_X3_rebuild (by decide) hD (by decide +kernel)
theorem cd_J9_min_7cf53 : Cond.code yJ9_min_7cf53 cJ9_min_7cf53 2 (Option.some Jvm.ClassFile.FieldType.int) ∈ TB := tb_mem 637 (by decide +kernel) rfl
theorem sc_J9_min_7cf53 : Cond.static yJ9_min_7cf53 ∈ TB := tb_mem 636 (by decide +kernel) rfl
theorem ml_X4_249 : Cond.methodLink RX4 249 yJ9_min_7cf53 ∈ TB := tb_mem 635 (by decide +kernel) rfl
theorem cw_X4_249 {s : State} {args : Array Value} {d D : Nat} (hts : ∀ w ∈ TB, w.before args s = true) (hD : d < D) : CallB (rmL D) s args RX4 249 yJ9_min_7cf53 cJ9_min_7cf53 2 (Option.some Jvm.ClassFile.FieldType.int) (.code yJ9_min_7cf53 cJ9_min_7cf53 2 (Option.some Jvm.ClassFile.FieldType.int) :: TB) (rmL d) 0 0 2 ∧ (Cond.static yJ9_min_7cf53).before args s = true := m_cwS (y := yJ9_min_7cf53) hts ml_X4_249 sc_J9_min_7cf53 ini_J9 cd_J9_min_7cf53 (by decide) hD (by decide +kernel)
theorem cd_X4_fateOf : Cond.code yX4_fateOf cX4_fateOf 3 (Option.some Jvm.ClassFile.FieldType.int) ∈ TB := tb_mem 641 (by decide +kernel) rfl
theorem im_X4_fateOf : Cond.instanceMethod yX4_fateOf ∈ TB := tb_mem 639 (by decide +kernel) rfl
theorem se_X4_fateOf : Cond.selects yX4_fateOf.cls yX4_fateOf yX4_fateOf ∈ TB := tb_mem 640 (by decide +kernel) rfl
theorem ml_X4_254 : Cond.methodLink RX4 254 yX4_fateOf ∈ TB := tb_mem 638 (by decide +kernel) rfl
theorem cw_X4_254 {s : State} {args : Array Value} {d D : Nat} (hts : ∀ w ∈ TB, w.before args s = true) (hD : d < D) : CallW (rmL D) s args RX4 RX4 254 yX4_fateOf cX4_fateOf 3 (Option.some Jvm.ClassFile.FieldType.int) (.code yX4_fateOf cX4_fateOf 3 (Option.some Jvm.ClassFile.FieldType.int) :: TB) (rmL d) 0 0 1 := m_cwV (y := yX4_fateOf) hts ml_X4_254 im_X4_fateOf se_X4_fateOf ini_X4 cd_X4_fateOf (by decide) hD (by decide +kernel)
theorem cd_X4_costOf : Cond.code yX4_costOf cX4_costOf 4 (Option.some Jvm.ClassFile.FieldType.int) ∈ TB := tb_mem 654 (by decide +kernel) rfl
theorem im_X4_costOf : Cond.instanceMethod yX4_costOf ∈ TB := tb_mem 652 (by decide +kernel) rfl
theorem se_X4_costOf : Cond.selects yX4_costOf.cls yX4_costOf yX4_costOf ∈ TB := tb_mem 653 (by decide +kernel) rfl
theorem ml_X4_257 : Cond.methodLink RX4 257 yX4_costOf ∈ TB := tb_mem 651 (by decide +kernel) rfl
theorem cw_X4_257 {s : State} {args : Array Value} {d D : Nat} (hts : ∀ w ∈ TB, w.before args s = true) (hD : d < D) : CallW (rmL D) s args RX4 RX4 257 yX4_costOf cX4_costOf 4 (Option.some Jvm.ClassFile.FieldType.int) (.code yX4_costOf cX4_costOf 4 (Option.some Jvm.ClassFile.FieldType.int) :: TB) (rmL d) 0 0 2 := m_cwV (y := yX4_costOf) hts ml_X4_257 im_X4_costOf se_X4_costOf ini_X4 cd_X4_costOf (by decide) hD (by decide +kernel)
theorem cd_X4_serve : Cond.code yX4_serve cX4_serve 6 (Option.none : Option Jvm.ClassFile.FieldType) ∈ TB := tb_mem 658 (by decide +kernel) rfl
theorem im_X4_serve : Cond.instanceMethod yX4_serve ∈ TB := tb_mem 656 (by decide +kernel) rfl
theorem se_X4_serve : Cond.selects yX4_serve.cls yX4_serve yX4_serve ∈ TB := tb_mem 657 (by decide +kernel) rfl
theorem ml_X4_260 : Cond.methodLink RX4 260 yX4_serve ∈ TB := tb_mem 655 (by decide +kernel) rfl
theorem cw_X4_260 {s : State} {args : Array Value} {d D : Nat} (hts : ∀ w ∈ TB, w.before args s = true) (hD : d < D) : CallW (rmL D) s args RX4 RX4 260 yX4_serve cX4_serve 6 (Option.none : Option Jvm.ClassFile.FieldType) (.code yX4_serve cX4_serve 6 (Option.none : Option Jvm.ClassFile.FieldType) :: TB) (rmL d) 0 0 3 := m_cwV (y := yX4_serve) hts ml_X4_260 im_X4_serve se_X4_serve ini_X4 cd_X4_serve (by decide) hD (by decide +kernel)
theorem ml_X4_264 : Cond.methodLink RX4 264 yX4_goSteps ∈ TB := tb_mem 671 (by decide +kernel) rfl
theorem cw_X4_264 {s : State} {args : Array Value} {d D : Nat} (hts : ∀ w ∈ TB, w.before args s = true) (hD : d < D) : CallW (rmL D) s args RX4 RX4 264 yX4_goSteps cX4_goSteps 3 (Option.some Jvm.ClassFile.FieldType.int) (.code yX4_goSteps cX4_goSteps 3 (Option.some Jvm.ClassFile.FieldType.int) :: TB) (rmL d) 0 0 1 := m_cwV (y := yX4_goSteps) hts ml_X4_264 im_X4_goSteps se_X4_goSteps ini_X4 cd_X4_goSteps (by decide) hD (by decide +kernel)
theorem cd_X6_part : Cond.code yX6_part cX6_part 3 (Option.some Jvm.ClassFile.FieldType.int) ∈ TB := tb_mem 623 (by decide +kernel) rfl
theorem im_X6_part : Cond.instanceMethod yX6_part ∈ TB := tb_mem 621 (by decide +kernel) rfl
theorem se_X6_part : Cond.selects yX6_part.cls yX6_part yX6_part ∈ TB := tb_mem 622 (by decide +kernel) rfl
theorem ml_X4_267 : Cond.methodLink RX4 267 yX6_part ∈ TB := tb_mem 642 (by decide +kernel) rfl
theorem cw_X4_267 {s : State} {args : Array Value} {d D : Nat} (hts : ∀ w ∈ TB, w.before args s = true) (hD : d < D) : CallW (rmL D) s args RX4 RX6 267 yX6_part cX6_part 3 (Option.some Jvm.ClassFile.FieldType.int) (.code yX6_part cX6_part 3 (Option.some Jvm.ClassFile.FieldType.int) :: TB) (rmL d) 0 0 2 := m_cwV (y := yX6_part) hts ml_X4_267 im_X6_part se_X6_part ini_X6 cd_X6_part (by decide) hD (by decide +kernel)
theorem ml_X4_270 : Cond.methodLink RX4 270 yX4_canRead ∈ TB := tb_mem 643 (by decide +kernel) rfl
theorem cw_X4_270 {s : State} {args : Array Value} {d D : Nat} (hts : ∀ w ∈ TB, w.before args s = true) (hD : d < D) : CallW (rmL D) s args RX4 RX4 270 yX4_canRead cX4_canRead 2 (Option.some Jvm.ClassFile.FieldType.boolean) (.code yX4_canRead cX4_canRead 2 (Option.some Jvm.ClassFile.FieldType.boolean) :: TB) (rmL d) 0 0 1 := m_cwV (y := yX4_canRead) hts ml_X4_270 im_X4_canRead se_X4_canRead ini_X4 cd_X4_canRead (by decide) hD (by decide +kernel)
theorem ml_X4_273 : Cond.methodLink RX4 273 yX4_wordOf ∈ TB := tb_mem 659 (by decide +kernel) rfl
theorem cw_X4_273 {s : State} {args : Array Value} {d D : Nat} (hts : ∀ w ∈ TB, w.before args s = true) (hD : d < D) : CallW (rmL D) s args RX4 RX4 273 yX4_wordOf cX4_wordOf 3 (Option.some Jvm.ClassFile.FieldType.int) (.code yX4_wordOf cX4_wordOf 3 (Option.some Jvm.ClassFile.FieldType.int) :: TB) (rmL d) 0 0 1 := m_cwV (y := yX4_wordOf) hts ml_X4_273 im_X4_wordOf se_X4_wordOf ini_X4 cd_X4_wordOf (by decide) hD (by decide +kernel)
theorem cd_X8_record : Cond.code yX8_record cX8_record 6 (Option.none : Option Jvm.ClassFile.FieldType) ∈ TB := tb_mem 666 (by decide +kernel) rfl
theorem im_X8_record : Cond.instanceMethod yX8_record ∈ TB := tb_mem 664 (by decide +kernel) rfl
theorem se_X8_record : Cond.selects yX8_record.cls yX8_record yX8_record ∈ TB := tb_mem 665 (by decide +kernel) rfl
theorem ml_X4_276 : Cond.methodLink RX4 276 yX8_record ∈ TB := tb_mem 663 (by decide +kernel) rfl
theorem cw_X4_276 {s : State} {args : Array Value} {d D : Nat} (hts : ∀ w ∈ TB, w.before args s = true) (hD : d < D) : CallW (rmL D) s args RX4 RX8 276 yX8_record cX8_record 6 (Option.none : Option Jvm.ClassFile.FieldType) (.code yX8_record cX8_record 6 (Option.none : Option Jvm.ClassFile.FieldType) :: TB) (rmL d) 0 0 4 := m_cwV (y := yX8_record) hts ml_X4_276 im_X8_record se_X8_record ini_X8 cd_X8_record (by decide) hD (by decide +kernel)
theorem cd_X6_remove : Cond.code yX6_remove cX6_remove 3 (Option.none : Option Jvm.ClassFile.FieldType) ∈ TB := tb_mem 670 (by decide +kernel) rfl
theorem im_X6_remove : Cond.instanceMethod yX6_remove ∈ TB := tb_mem 668 (by decide +kernel) rfl
theorem se_X6_remove : Cond.selects yX6_remove.cls yX6_remove yX6_remove ∈ TB := tb_mem 669 (by decide +kernel) rfl
theorem ml_X4_282 : Cond.methodLink RX4 282 yX6_remove ∈ TB := tb_mem 667 (by decide +kernel) rfl
theorem cw_X4_282 {s : State} {args : Array Value} {d D : Nat} (hts : ∀ w ∈ TB, w.before args s = true) (hD : d < D) : CallW (rmL D) s args RX4 RX6 282 yX6_remove cX6_remove 3 (Option.none : Option Jvm.ClassFile.FieldType) (.code yX6_remove cX6_remove 3 (Option.none : Option Jvm.ClassFile.FieldType) :: TB) (rmL d) 0 0 1 := m_cwV (y := yX6_remove) hts ml_X4_282 im_X6_remove se_X6_remove ini_X6 cd_X6_remove (by decide) hD (by decide +kernel)
theorem cd_X3_mismatched : Cond.code yX3_mismatched cX3_mismatched 3 (Option.some Jvm.ClassFile.FieldType.boolean) ∈ TB := tb_mem 700 (by decide +kernel) rfl
theorem im_X3_mismatched : Cond.instanceMethod yX3_mismatched ∈ TB := tb_mem 698 (by decide +kernel) rfl
theorem se_X3_mismatched : Cond.selects yX3_mismatched.cls yX3_mismatched yX3_mismatched ∈ TB := tb_mem 699 (by decide +kernel) rfl
theorem ml_X4_285 : Cond.methodLink RX4 285 yX3_mismatched ∈ TB := tb_mem 697 (by decide +kernel) rfl
theorem cw_X4_285 {s : State} {args : Array Value} {d D : Nat} (hts : ∀ w ∈ TB, w.before args s = true) (hD : d < D) : CallW (rmL D) s args RX4 RX3 285 yX3_mismatched cX3_mismatched 3 (Option.some Jvm.ClassFile.FieldType.boolean) (.code yX3_mismatched cX3_mismatched 3 (Option.some Jvm.ClassFile.FieldType.boolean) :: TB) (rmL d) 0 0 2 := m_cwV (y := yX3_mismatched) hts ml_X4_285 im_X3_mismatched se_X3_mismatched ini_X3 cd_X3_mismatched (by decide) hD (by decide +kernel)
theorem cd_X4_isOfScrub : Cond.code yX4_isOfScrub cX4_isOfScrub 2 (Option.some Jvm.ClassFile.FieldType.boolean) ∈ TB := tb_mem 696 (by decide +kernel) rfl
theorem im_X4_isOfScrub : Cond.instanceMethod yX4_isOfScrub ∈ TB := tb_mem 694 (by decide +kernel) rfl
theorem se_X4_isOfScrub : Cond.selects yX4_isOfScrub.cls yX4_isOfScrub yX4_isOfScrub ∈ TB := tb_mem 695 (by decide +kernel) rfl
theorem ml_X4_288 : Cond.methodLink RX4 288 yX4_isOfScrub ∈ TB := tb_mem 693 (by decide +kernel) rfl
theorem cw_X4_288 {s : State} {args : Array Value} {d D : Nat} (hts : ∀ w ∈ TB, w.before args s = true) (hD : d < D) : CallW (rmL D) s args RX4 RX4 288 yX4_isOfScrub cX4_isOfScrub 2 (Option.some Jvm.ClassFile.FieldType.boolean) (.code yX4_isOfScrub cX4_isOfScrub 2 (Option.some Jvm.ClassFile.FieldType.boolean) :: TB) (rmL d) 0 0 1 := m_cwV (y := yX4_isOfScrub) hts ml_X4_288 im_X4_isOfScrub se_X4_isOfScrub ini_X4 cd_X4_isOfScrub (by decide) hD (by decide +kernel)
theorem cd_X3_layParity : Cond.code yX3_layParity cX3_layParity 4 (Option.none : Option Jvm.ClassFile.FieldType) ∈ TB := tb_mem 712 (by decide +kernel) rfl
theorem im_X3_layParity : Cond.instanceMethod yX3_layParity ∈ TB := tb_mem 710 (by decide +kernel) rfl
theorem se_X3_layParity : Cond.selects yX3_layParity.cls yX3_layParity yX3_layParity ∈ TB := tb_mem 711 (by decide +kernel) rfl
theorem ml_X4_291 : Cond.methodLink RX4 291 yX3_layParity ∈ TB := tb_mem 709 (by decide +kernel) rfl
theorem cw_X4_291 {s : State} {args : Array Value} {d D : Nat} (hts : ∀ w ∈ TB, w.before args s = true) (hD : d < D) : CallW (rmL D) s args RX4 RX3 291 yX3_layParity cX3_layParity 4 (Option.none : Option Jvm.ClassFile.FieldType) (.code yX3_layParity cX3_layParity 4 (Option.none : Option Jvm.ClassFile.FieldType) :: TB) (rmL d) 0 0 2 := m_cwV (y := yX3_layParity) hts ml_X4_291 im_X3_layParity se_X3_layParity ini_X3 cd_X3_layParity (by decide) hD (by decide +kernel)
theorem cd_X4_tellOfBatchesLeft : Cond.code yX4_tellOfBatchesLeft cX4_tellOfBatchesLeft 8 (Option.some Jvm.ClassFile.FieldType.int) ∈ TB := tb_mem 927 (by decide +kernel) rfl
theorem im_X4_tellOfBatchesLeft : Cond.instanceMethod yX4_tellOfBatchesLeft ∈ TB := tb_mem 925 (by decide +kernel) rfl
theorem se_X4_tellOfBatchesLeft : Cond.selects yX4_tellOfBatchesLeft.cls yX4_tellOfBatchesLeft yX4_tellOfBatchesLeft ∈ TB := tb_mem 926 (by decide +kernel) rfl
theorem ml_X4_298 : Cond.methodLink RX4 298 yX4_tellOfBatchesLeft ∈ TB := tb_mem 924 (by decide +kernel) rfl
theorem cw_X4_298 {s : State} {args : Array Value} {d D : Nat} (hts : ∀ w ∈ TB, w.before args s = true) (hD : d < D) : CallW (rmL D) s args RX4 RX4 298 yX4_tellOfBatchesLeft cX4_tellOfBatchesLeft 8 (Option.some Jvm.ClassFile.FieldType.int) (.code yX4_tellOfBatchesLeft cX4_tellOfBatchesLeft 8 (Option.some Jvm.ClassFile.FieldType.int) :: TB) (rmL d) 0 0 1 := m_cwV (y := yX4_tellOfBatchesLeft) hts ml_X4_298 im_X4_tellOfBatchesLeft se_X4_tellOfBatchesLeft ini_X4 cd_X4_tellOfBatchesLeft (by decide) hD (by decide +kernel)
theorem ml_X4_301 : Cond.methodLink RX4 301 yJ9_max_7cf53 ∈ TB := tb_mem 928 (by decide +kernel) rfl
theorem cw_X4_301 {s : State} {args : Array Value} {d D : Nat} (hts : ∀ w ∈ TB, w.before args s = true) (hD : d < D) : CallB (rmL D) s args RX4 301 yJ9_max_7cf53 cJ9_max_7cf53 2 (Option.some Jvm.ClassFile.FieldType.int) (.code yJ9_max_7cf53 cJ9_max_7cf53 2 (Option.some Jvm.ClassFile.FieldType.int) :: TB) (rmL d) 0 0 2 ∧ (Cond.static yJ9_max_7cf53).before args s = true := m_cwS (y := yJ9_max_7cf53) hts ml_X4_301 sc_J9_max_7cf53 ini_J9 cd_J9_max_7cf53 (by decide) hD (by decide +kernel)
theorem ml_X4_304 : Cond.methodLink RX4 304 yX3_badWords ∈ TB := tb_mem 937 (by decide +kernel) rfl
theorem cw_X4_304 {s : State} {args : Array Value} {d D : Nat} (hts : ∀ w ∈ TB, w.before args s = true) (hD : d < D) : CallW (rmL D) s args RX4 RX3 304 yX3_badWords cX3_badWords 3 (Option.some Jvm.ClassFile.FieldType.int) (.code yX3_badWords cX3_badWords 3 (Option.some Jvm.ClassFile.FieldType.int) :: TB) (rmL d) 0 0 0 := m_cwV (y := yX3_badWords) hts ml_X4_304 im_X3_badWords se_X3_badWords ini_X3 cd_X3_badWords (by decide) hD (by decide +kernel)
theorem cd_X4_unreadableBlocks : Cond.code yX4_unreadableBlocks cX4_unreadableBlocks 3 (Option.some Jvm.ClassFile.FieldType.int) ∈ TB := tb_mem 941 (by decide +kernel) rfl
theorem im_X4_unreadableBlocks : Cond.instanceMethod yX4_unreadableBlocks ∈ TB := tb_mem 939 (by decide +kernel) rfl
theorem se_X4_unreadableBlocks : Cond.selects yX4_unreadableBlocks.cls yX4_unreadableBlocks yX4_unreadableBlocks ∈ TB := tb_mem 940 (by decide +kernel) rfl
theorem ml_X4_307 : Cond.methodLink RX4 307 yX4_unreadableBlocks ∈ TB := tb_mem 938 (by decide +kernel) rfl
theorem cw_X4_307 {s : State} {args : Array Value} {d D : Nat} (hts : ∀ w ∈ TB, w.before args s = true) (hD : d < D) : CallW (rmL D) s args RX4 RX4 307 yX4_unreadableBlocks cX4_unreadableBlocks 3 (Option.some Jvm.ClassFile.FieldType.int) (.code yX4_unreadableBlocks cX4_unreadableBlocks 3 (Option.some Jvm.ClassFile.FieldType.int) :: TB) (rmL d) 0 0 0 := m_cwV (y := yX4_unreadableBlocks) hts ml_X4_307 im_X4_unreadableBlocks se_X4_unreadableBlocks ini_X4 cd_X4_unreadableBlocks (by decide) hD (by decide +kernel)
theorem ml_X5_18 : Cond.methodLink RX5 18 yX5_parityDisk ∈ TB := tb_mem 455 (by decide +kernel) rfl
theorem cw_X5_18 {s : State} {args : Array Value} {d D : Nat} (hts : ∀ w ∈ TB, w.before args s = true) (hD : d < D) : CallW (rmL D) s args RX5 RX5 18 yX5_parityDisk cX5_parityDisk 2 (Option.some Jvm.ClassFile.FieldType.int) (.code yX5_parityDisk cX5_parityDisk 2 (Option.some Jvm.ClassFile.FieldType.int) :: TB) (rmL d) 0 0 1 := m_cwV (y := yX5_parityDisk) hts ml_X5_18 im_X5_parityDisk se_X5_parityDisk ini_X5 cd_X5_parityDisk (by decide) hD (by decide +kernel)
theorem cd_X6_placeFor : Cond.code yX6_placeFor cX6_placeFor 3 (Option.some Jvm.ClassFile.FieldType.int) ∈ TB := tb_mem 619 (by decide +kernel) rfl
theorem im_X6_placeFor : Cond.instanceMethod yX6_placeFor ∈ TB := tb_mem 617 (by decide +kernel) rfl
theorem se_X6_placeFor : Cond.selects yX6_placeFor.cls yX6_placeFor yX6_placeFor ∈ TB := tb_mem 618 (by decide +kernel) rfl
theorem ml_X6_28 : Cond.methodLink RX6 28 yX6_placeFor ∈ TB := tb_mem 616 (by decide +kernel) rfl
theorem cw_X6_28 {s : State} {args : Array Value} {d D : Nat} (hts : ∀ w ∈ TB, w.before args s = true) (hD : d < D) : CallW (rmL D) s args RX6 RX6 28 yX6_placeFor cX6_placeFor 3 (Option.some Jvm.ClassFile.FieldType.int) (.code yX6_placeFor cX6_placeFor 3 (Option.some Jvm.ClassFile.FieldType.int) :: TB) (rmL d) 0 0 1 := m_cwV (y := yX6_placeFor) hts ml_X6_28 im_X6_placeFor se_X6_placeFor ini_X6 cd_X6_placeFor (by decide) hD (by decide +kernel)
theorem ml_X6_32 : Cond.methodLink RX6 32 yX6_part ∈ TB := tb_mem 620 (by decide +kernel) rfl
theorem cw_X6_32 {s : State} {args : Array Value} {d D : Nat} (hts : ∀ w ∈ TB, w.before args s = true) (hD : d < D) : CallW (rmL D) s args RX6 RX6 32 yX6_part cX6_part 3 (Option.some Jvm.ClassFile.FieldType.int) (.code yX6_part cX6_part 3 (Option.some Jvm.ClassFile.FieldType.int) :: TB) (rmL d) 0 0 2 := m_cwV (y := yX6_part) hts ml_X6_32 im_X6_part se_X6_part ini_X6 cd_X6_part (by decide) hD (by decide +kernel)
theorem cd_X7_skipBlanks : Cond.code yX7_skipBlanks cX7_skipBlanks 2 (Option.none : Option Jvm.ClassFile.FieldType) ∈ TB := tb_mem 762 (by decide +kernel) rfl
theorem im_X7_skipBlanks : Cond.instanceMethod yX7_skipBlanks ∈ TB := tb_mem 760 (by decide +kernel) rfl
theorem se_X7_skipBlanks : Cond.selects yX7_skipBlanks.cls yX7_skipBlanks yX7_skipBlanks ∈ TB := tb_mem 761 (by decide +kernel) rfl
theorem ml_X7_46 : Cond.methodLink RX7 46 yX7_skipBlanks ∈ TB := tb_mem 759 (by decide +kernel) rfl
theorem cw_X7_46 {s : State} {args : Array Value} {d D : Nat} (hts : ∀ w ∈ TB, w.before args s = true) (hD : d < D) : CallW (rmL D) s args RX7 RX7 46 yX7_skipBlanks cX7_skipBlanks 2 (Option.none : Option Jvm.ClassFile.FieldType) (.code yX7_skipBlanks cX7_skipBlanks 2 (Option.none : Option Jvm.ClassFile.FieldType) :: TB) (rmL d) 0 0 1 := m_cwV (y := yX7_skipBlanks) hts ml_X7_46 im_X7_skipBlanks se_X7_skipBlanks ini_X7 cd_X7_skipBlanks (by decide) hD (by decide +kernel)
theorem cd_X7_takeDeed : Cond.code yX7_takeDeed cX7_takeDeed 6 (Option.none : Option Jvm.ClassFile.FieldType) ∈ TB := tb_mem 770 (by decide +kernel) rfl
theorem im_X7_takeDeed : Cond.instanceMethod yX7_takeDeed ∈ TB := tb_mem 768 (by decide +kernel) rfl
theorem se_X7_takeDeed : Cond.selects yX7_takeDeed.cls yX7_takeDeed yX7_takeDeed ∈ TB := tb_mem 769 (by decide +kernel) rfl
theorem ml_X7_55 : Cond.methodLink RX7 55 yX7_takeDeed ∈ TB := tb_mem 767 (by decide +kernel) rfl
theorem cw_X7_55 {s : State} {args : Array Value} {d D : Nat} (hts : ∀ w ∈ TB, w.before args s = true) (hD : d < D) : CallW (rmL D) s args RX7 RX7 55 yX7_takeDeed cX7_takeDeed 6 (Option.none : Option Jvm.ClassFile.FieldType) (.code yX7_takeDeed cX7_takeDeed 6 (Option.none : Option Jvm.ClassFile.FieldType) :: TB) (rmL d) 0 0 1 := m_cwV (y := yX7_takeDeed) hts ml_X7_55 im_X7_takeDeed se_X7_takeDeed ini_X7 cd_X7_takeDeed (by decide) hD (by decide +kernel)
theorem cd_X9_at : Cond.code yX9_at cX9_at 2 (Option.some Jvm.ClassFile.FieldType.int) ∈ TB := tb_mem 766 (by decide +kernel) rfl
theorem im_X9_at : Cond.instanceMethod yX9_at ∈ TB := tb_mem 764 (by decide +kernel) rfl
theorem se_X9_at : Cond.selects yX9_at.cls yX9_at yX9_at ∈ TB := tb_mem 765 (by decide +kernel) rfl
theorem ml_X7_58 : Cond.methodLink RX7 58 yX9_at ∈ TB := tb_mem 763 (by decide +kernel) rfl
theorem cw_X7_58 {s : State} {args : Array Value} {d D : Nat} (hts : ∀ w ∈ TB, w.before args s = true) (hD : d < D) : CallW (rmL D) s args RX7 RX9 58 yX9_at cX9_at 2 (Option.some Jvm.ClassFile.FieldType.int) (.code yX9_at cX9_at 2 (Option.some Jvm.ClassFile.FieldType.int) :: TB) (rmL d) 0 0 1 := m_cwV (y := yX9_at) hts ml_X7_58 im_X9_at se_X9_at ini_X9 cd_X9_at (by decide) hD (by decide +kernel)
theorem cd_X7_takeClose : Cond.code yX7_takeClose cX7_takeClose 4 (Option.none : Option Jvm.ClassFile.FieldType) ∈ TB := tb_mem 774 (by decide +kernel) rfl
theorem im_X7_takeClose : Cond.instanceMethod yX7_takeClose ∈ TB := tb_mem 772 (by decide +kernel) rfl
theorem se_X7_takeClose : Cond.selects yX7_takeClose.cls yX7_takeClose yX7_takeClose ∈ TB := tb_mem 773 (by decide +kernel) rfl
theorem ml_X7_62 : Cond.methodLink RX7 62 yX7_takeClose ∈ TB := tb_mem 771 (by decide +kernel) rfl
theorem cw_X7_62 {s : State} {args : Array Value} {d D : Nat} (hts : ∀ w ∈ TB, w.before args s = true) (hD : d < D) : CallW (rmL D) s args RX7 RX7 62 yX7_takeClose cX7_takeClose 4 (Option.none : Option Jvm.ClassFile.FieldType) (.code yX7_takeClose cX7_takeClose 4 (Option.none : Option Jvm.ClassFile.FieldType) :: TB) (rmL d) 0 0 1 := m_cwV (y := yX7_takeClose) hts ml_X7_62 im_X7_takeClose se_X7_takeClose ini_X7 cd_X7_takeClose (by decide) hD (by decide +kernel)
theorem cd_X7_takeWord : Cond.code yX7_takeWord cX7_takeWord 4 (Option.some (Jvm.ClassFile.FieldType.object "GrowHouse$Deed")) ∈ TB := tb_mem 792 (by decide +kernel) rfl
theorem im_X7_takeWord : Cond.instanceMethod yX7_takeWord ∈ TB := tb_mem 790 (by decide +kernel) rfl
theorem se_X7_takeWord : Cond.selects yX7_takeWord.cls yX7_takeWord yX7_takeWord ∈ TB := tb_mem 791 (by decide +kernel) rfl
theorem ml_X7_65 : Cond.methodLink RX7 65 yX7_takeWord ∈ TB := tb_mem 789 (by decide +kernel) rfl
theorem cw_X7_65 {s : State} {args : Array Value} {d D : Nat} (hts : ∀ w ∈ TB, w.before args s = true) (hD : d < D) : CallW (rmL D) s args RX7 RX7 65 yX7_takeWord cX7_takeWord 4 (Option.some (Jvm.ClassFile.FieldType.object "GrowHouse$Deed")) (.code yX7_takeWord cX7_takeWord 4 (Option.some (Jvm.ClassFile.FieldType.object "GrowHouse$Deed")) :: TB) (rmL d) 0 0 1 := m_cwV (y := yX7_takeWord) hts ml_X7_65 im_X7_takeWord se_X7_takeWord ini_X7 cd_X7_takeWord (by decide) hD (by decide +kernel)
theorem cd_X7_blame : Cond.code yX7_blame cX7_blame 3 (Option.none : Option Jvm.ClassFile.FieldType) ∈ TB := tb_mem 788 (by decide +kernel) rfl
theorem im_X7_blame : Cond.instanceMethod yX7_blame ∈ TB := tb_mem 786 (by decide +kernel) rfl
theorem se_X7_blame : Cond.selects yX7_blame.cls yX7_blame yX7_blame ∈ TB := tb_mem 787 (by decide +kernel) rfl
theorem ml_X7_69 : Cond.methodLink RX7 69 yX7_blame ∈ TB := tb_mem 785 (by decide +kernel) rfl
theorem cw_X7_69 {s : State} {args : Array Value} {d D : Nat} (hts : ∀ w ∈ TB, w.before args s = true) (hD : d < D) : CallW (rmL D) s args RX7 RX7 69 yX7_blame cX7_blame 3 (Option.none : Option Jvm.ClassFile.FieldType) (.code yX7_blame cX7_blame 3 (Option.none : Option Jvm.ClassFile.FieldType) :: TB) (rmL d) 0 0 2 := m_cwV (y := yX7_blame) hts ml_X7_69 im_X7_blame se_X7_blame ini_X7 cd_X7_blame (by decide) hD (by decide +kernel)
theorem cd_X7_addLine : Cond.code yX7_addLine cX7_addLine 3 (Option.some Jvm.ClassFile.FieldType.int) ∈ TB := tb_mem 780 (by decide +kernel) rfl
theorem im_X7_addLine : Cond.instanceMethod yX7_addLine ∈ TB := tb_mem 778 (by decide +kernel) rfl
theorem se_X7_addLine : Cond.selects yX7_addLine.cls yX7_addLine yX7_addLine ∈ TB := tb_mem 779 (by decide +kernel) rfl
theorem ml_X7_77 : Cond.methodLink RX7 77 yX7_addLine ∈ TB := tb_mem 777 (by decide +kernel) rfl
theorem cw_X7_77 {s : State} {args : Array Value} {d D : Nat} (hts : ∀ w ∈ TB, w.before args s = true) (hD : d < D) : CallW (rmL D) s args RX7 RX7 77 yX7_addLine cX7_addLine 3 (Option.some Jvm.ClassFile.FieldType.int) (.code yX7_addLine cX7_addLine 3 (Option.some Jvm.ClassFile.FieldType.int) :: TB) (rmL d) 0 0 1 := m_cwV (y := yX7_addLine) hts ml_X7_77 im_X7_addLine se_X7_addLine ini_X7 cd_X7_addLine (by decide) hD (by decide +kernel)
theorem cd_X7_takeNumber : Cond.code yX7_takeNumber cX7_takeNumber 5 (Option.some Jvm.ClassFile.FieldType.int) ∈ TB := tb_mem 852 (by decide +kernel) rfl
theorem im_X7_takeNumber : Cond.instanceMethod yX7_takeNumber ∈ TB := tb_mem 850 (by decide +kernel) rfl
theorem se_X7_takeNumber : Cond.selects yX7_takeNumber.cls yX7_takeNumber yX7_takeNumber ∈ TB := tb_mem 851 (by decide +kernel) rfl
theorem ml_X7_83 : Cond.methodLink RX7 83 yX7_takeNumber ∈ TB := tb_mem 849 (by decide +kernel) rfl
theorem cw_X7_83 {s : State} {args : Array Value} {d D : Nat} (hts : ∀ w ∈ TB, w.before args s = true) (hD : d < D) : CallW (rmL D) s args RX7 RX7 83 yX7_takeNumber cX7_takeNumber 5 (Option.some Jvm.ClassFile.FieldType.int) (.code yX7_takeNumber cX7_takeNumber 5 (Option.some Jvm.ClassFile.FieldType.int) :: TB) (rmL d) 0 0 2 := m_cwV (y := yX7_takeNumber) hts ml_X7_83 im_X7_takeNumber se_X7_takeNumber ini_X7 cd_X7_takeNumber (by decide) hD (by decide +kernel)
theorem cd_X7_takeSign : Cond.code yX7_takeSign cX7_takeSign 3 (Option.none : Option Jvm.ClassFile.FieldType) ∈ TB := tb_mem 784 (by decide +kernel) rfl
theorem im_X7_takeSign : Cond.instanceMethod yX7_takeSign ∈ TB := tb_mem 782 (by decide +kernel) rfl
theorem se_X7_takeSign : Cond.selects yX7_takeSign.cls yX7_takeSign yX7_takeSign ∈ TB := tb_mem 783 (by decide +kernel) rfl
theorem ml_X7_87 : Cond.methodLink RX7 87 yX7_takeSign ∈ TB := tb_mem 781 (by decide +kernel) rfl
theorem cw_X7_87 {s : State} {args : Array Value} {d D : Nat} (hts : ∀ w ∈ TB, w.before args s = true) (hD : d < D) : CallW (rmL D) s args RX7 RX7 87 yX7_takeSign cX7_takeSign 3 (Option.none : Option Jvm.ClassFile.FieldType) (.code yX7_takeSign cX7_takeSign 3 (Option.none : Option Jvm.ClassFile.FieldType) :: TB) (rmL d) 0 0 2 := m_cwV (y := yX7_takeSign) hts ml_X7_87 im_X7_takeSign se_X7_takeSign ini_X7 cd_X7_takeSign (by decide) hD (by decide +kernel)
theorem cd_X7_isSpelt : Cond.code yX7_isSpelt cX7_isSpelt 5 (Option.some Jvm.ClassFile.FieldType.boolean) ∈ TB := tb_mem 798 (by decide +kernel) rfl
theorem im_X7_isSpelt : Cond.instanceMethod yX7_isSpelt ∈ TB := tb_mem 796 (by decide +kernel) rfl
theorem se_X7_isSpelt : Cond.selects yX7_isSpelt.cls yX7_isSpelt yX7_isSpelt ∈ TB := tb_mem 797 (by decide +kernel) rfl
theorem ml_X7_101 : Cond.methodLink RX7 101 yX7_isSpelt ∈ TB := tb_mem 795 (by decide +kernel) rfl
theorem cw_X7_101 {s : State} {args : Array Value} {d D : Nat} (hts : ∀ w ∈ TB, w.before args s = true) (hD : d < D) : CallW (rmL D) s args RX7 RX7 101 yX7_isSpelt cX7_isSpelt 5 (Option.some Jvm.ClassFile.FieldType.boolean) (.code yX7_isSpelt cX7_isSpelt 5 (Option.some Jvm.ClassFile.FieldType.boolean) :: TB) (rmL d) 0 0 3 := m_cwV (y := yX7_isSpelt) hts ml_X7_101 im_X7_isSpelt se_X7_isSpelt ini_X7 cd_X7_isSpelt (by decide) hD (by decide +kernel)
theorem ml_X7_105 : Cond.methodLink RX7 105 yJ0_length_8abf5 ∈ TB := tb_mem 799 (by decide +kernel) rfl
theorem cw_X7_105 {s : State} {args : Array Value} {d D : Nat} (hts : ∀ w ∈ TB, w.before args s = true) (hD : d < D) : CallW (rmL D) s args RX7 RJ0 105 yJ0_length_8abf5 cJ0_length_8abf5 1 (Option.some Jvm.ClassFile.FieldType.int) (.code yJ0_length_8abf5 cJ0_length_8abf5 1 (Option.some Jvm.ClassFile.FieldType.int) :: TB) (rmL d) 0 0 0 := m_cwV (y := yJ0_length_8abf5) hts ml_X7_105 im_J0_length_8abf5 se_J0_length_8abf5 ini_J0 cd_J0_length_8abf5 (by decide) hD (by decide +kernel)
theorem ml_X7_110 : Cond.methodLink RX7 110 yJ0_charAt_5068e ∈ TB := tb_mem 809 (by decide +kernel) rfl
theorem cw_X7_110 {s : State} {args : Array Value} {d D : Nat} (hts : ∀ w ∈ TB, w.before args s = true) (hD : d < D) : CallW (rmL D) s args RX7 RJ0 110 yJ0_charAt_5068e cJ0_charAt_5068e 2 (Option.some Jvm.ClassFile.FieldType.char) (.code yJ0_charAt_5068e cJ0_charAt_5068e 2 (Option.some Jvm.ClassFile.FieldType.char) :: TB) (rmL d) 0 0 1 := m_cwV (y := yJ0_charAt_5068e) hts ml_X7_110 im_J0_charAt_5068e se_J0_charAt_5068e ini_J0 cd_J0_charAt_5068e (by decide) hD (by decide +kernel)
theorem cd_X7_endRound : Cond.code yX7_endRound cX7_endRound 2 (Option.none : Option Jvm.ClassFile.FieldType) ∈ TB := tb_mem 860 (by decide +kernel) rfl
theorem im_X7_endRound : Cond.instanceMethod yX7_endRound ∈ TB := tb_mem 858 (by decide +kernel) rfl
theorem se_X7_endRound : Cond.selects yX7_endRound.cls yX7_endRound yX7_endRound ∈ TB := tb_mem 859 (by decide +kernel) rfl
theorem ml_X7_114 : Cond.methodLink RX7 114 yX7_endRound ∈ TB := tb_mem 857 (by decide +kernel) rfl
theorem cw_X7_114 {s : State} {args : Array Value} {d D : Nat} (hts : ∀ w ∈ TB, w.before args s = true) (hD : d < D) : CallW (rmL D) s args RX7 RX7 114 yX7_endRound cX7_endRound 2 (Option.none : Option Jvm.ClassFile.FieldType) (.code yX7_endRound cX7_endRound 2 (Option.none : Option Jvm.ClassFile.FieldType) :: TB) (rmL d) 0 0 0 := m_cwV (y := yX7_endRound) hts ml_X7_114 im_X7_endRound se_X7_endRound ini_X7 cd_X7_endRound (by decide) hD (by decide +kernel)
theorem ml_X8_22 : Cond.methodLink RX8 22 yX8_tell ∈ TB := tb_mem 1024 (by decide +kernel) rfl
theorem cw_X8_22 {s : State} {args : Array Value} {d D : Nat} (hts : ∀ w ∈ TB, w.before args s = true) (hD : d < D) : CallW (rmL D) s args RX8 RX8 22 yX8_tell cX8_tell 3 (Option.some Jvm.ClassFile.FieldType.int) (.code yX8_tell cX8_tell 3 (Option.some Jvm.ClassFile.FieldType.int) :: TB) (rmL d) 0 0 2 := m_cwV (y := yX8_tell) hts ml_X8_22 im_X8_tell se_X8_tell ini_X8 cd_X8_tell (by decide) hD (by decide +kernel)
