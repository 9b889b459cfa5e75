abbrev md_X10_perform : List (Nat × Nat) := [(0, 1), (0, 2), (0, 3), (0, 4), (0, 5), (0, 6), (0, 7), (1, 4), (1, 5), (1, 6), (2, 9), (2, 10), (2, 11), (2, 12), (2, 13), (2, 14), (2, 15), (2, 16), (2, 17), (4, 2), (4, 3), (6, 2), (6, 3), (16, 0), (17, 0), (18, 0), (19, 0), (20, 0), (21, 0), (27, 0)]
set_option maxHeartbeats 4000000 in
set_option maxRecDepth 100000 in
theorem ct_X10_perform (l : Launch) (g : Gs) (I : Ms) (J : Js) (a0 : Nat) (d1 : Nat) (x2 : Int32) (x3 : Int32) (x4 : Int32) (h0_ : Is g a0 8) (h1_ : d1 < 14) (hR : RHs g I J) : Ctr l yX10_perform cX10_perform 5 (Option.some Jvm.ClassFile.FieldType.boolean) 7 g [.ref a0, .ref (gDd g d1), .int x2, .int x3, .int x4] I J (PM g md_X10_perform I (fun z I1 J1 => J1.2 = J.2 ∧ ((0 ≤ z ∧ z ≤ 1) ∧ RHs g I1 J1))) := by
  refine m_start (by decide) (Nat.le_of_ble_eq_true rfl) ?_
  intro p e s m args below meth c C hr hlk M ls hl
  have hl : lv_has ls 5 [(0, .ref a0), (1, .ref (gDd g d1)), (2, .int x2), (3, .int x3), (4, .int x4)] := hl
  have C : CallFix p m c cX10_perform 5 s args TB RX10 := C
  have F : Fr g md_X10_perform I I := fr_rf
  have hj2 : J.2 = J.2 := rfl
  have hQ0 := M.2.2.2.2.2.2.2
  refine s_sm C M dX10_perform_0 ?_
  refine lv_aload_n C.1 C.2.1 dX10_perform_3 rfl (lv_at hl 1 rfl) ?_
  refine s_ord C M ini_Je h1_ (by decide) hl.1 (Nat.le_of_ble_eq_true rfl) dX10_perform_4 (fun r1 H locs pr1 M => ?_)
  refine s_smget C M rfl (by omega) (by omega) dX10_perform_7 (fun v2 tv2 uv2 => ?_)
  by_cases q3 : v2.toInt = 1
  ·
    refine n_tabk (off := 64) (tgt := 72) C 1 dX10_perform_8 q3 (by decide) (by decide) (by decide) (by decide) ?_
    refine lv_aload_n C.1 C.2.1 dX10_perform_72 rfl (lv_at hl 0 rfl) ?_
    refine gi_X10_10 C M h0_ dX10_perform_73 (fun h4 => ?_)
    refine k_PM C M h4 (by decide) rfl (ct_X4_beginGrowth l g I J (gr g a0 0) h4 hR) (cw_X10_72 C.2.2.2.2 (by decide)) rfl hl.1 rfl (Nat.le_of_ble_eq_true rfl) dX10_perform_76 ⟨Nat.le_refl _, Nat.le_refl _⟩ (fun r9 I5 J6 H locs G7 p8r M => ?_)
    obtain ⟨eJ6, ⟨p8, rh10⟩⟩ : (J6.2 = J.2) ∧ ((True) ∧ RHs g I5 J6) := p8r
    have hj2 : J6.2 = J.2 := eJ6.trans hj2
    have F := fr_call F G7 (by decide)
    refine lv_iconst (v := -1) C.1 C.2.1 dX10_perform_79 (by decide) ?_
    refine n_icmp_eq C (tgt := 87) (Y := (-1)) dX10_perform_80 (by decide) rfl rfl (fun q11 => ?_) (fun q11 => ?_)
    ·
      refine lv_iconst (v := 0) C.1 C.2.1 dX10_perform_87 (by decide) ?_
      exact r_PMz C M (z := 0) hr hlk F rfl (by omega) (by omega) ⟨hj2, ⟨(by omega), rh10⟩⟩ dX10_perform_88
    ·
      refine lv_iconst (v := 1) C.1 C.2.1 dX10_perform_83 (by decide) ?_
      refine lv_goto (tgt := 88) C.1 C.2.1 dX10_perform_84 (by decide) ?_
      exact r_PMz C M (z := 1) hr hlk F rfl (by omega) (by omega) ⟨hj2, ⟨(by omega), rh10⟩⟩ dX10_perform_88
  by_cases q12 : v2.toInt = 2
  ·
    refine n_tabk (off := 81) (tgt := 89) C 2 dX10_perform_8 q12 (by decide) (by decide) (by decide) (by decide) ?_
    refine lv_aload_n C.1 C.2.1 dX10_perform_89 rfl (lv_at hl 0 rfl) ?_
    refine gi_X10_10 C M h0_ dX10_perform_90 (fun h13 => ?_)
    refine k_PM C M h13 (by decide) rfl (ct_X4_fallOver l g I J (gr g a0 0) h13) (cw_X10_78 C.2.2.2.2 (by decide)) rfl hl.1 rfl (Nat.le_of_ble_eq_true rfl) dX10_perform_93 ⟨Nat.le_refl _, Nat.le_refl _⟩ (fun r18 I14 J15 H locs G16 p17r M => ?_)
    obtain ⟨eJ15, p17⟩ : J15 = J ∧ (0 ≤ r18.toInt ∧ r18.toInt ≤ 1) := p17r
    have eJ15 := eJ15.symm
    subst eJ15
    have F := fr_call F G16 (by decide)
    exact r_PMz C M hr hlk F rfl (by omega) (by omega) ⟨hj2, ⟨(by omega), (rh_fr M.2.2.2.2.2.1 M.2.2.2.2.2.2.2 G16 (by decide) hR)⟩⟩ dX10_perform_96
  by_cases q19 : v2.toInt = 3
  ·
    refine n_tabk (off := 89) (tgt := 97) C 3 dX10_perform_8 q19 (by decide) (by decide) (by decide) (by decide) ?_
    refine lv_aload_n C.1 C.2.1 dX10_perform_97 rfl (lv_at hl 0 rfl) ?_
    refine gi_X10_10 C M h0_ dX10_perform_98 (fun h20 => ?_)
    refine k_PM C M h20 (by decide) rfl (ct_X4_replaceLost l g I J (gr g a0 0) h20) (cw_X10_112 C.2.2.2.2 (by decide)) rfl hl.1 rfl (Nat.le_of_ble_eq_true rfl) dX10_perform_101 ⟨Nat.le_refl _, Nat.le_refl _⟩ (fun r25 I21 J22 H locs G23 p24r M => ?_)
    obtain ⟨eJ22, p24⟩ : J22 = J ∧ (True) := p24r
    have eJ22 := eJ22.symm
    subst eJ22
    have F := fr_call F G23 (by decide)
    refine lv_iconst (v := -1) C.1 C.2.1 dX10_perform_104 (by decide) ?_
    refine n_icmp_eq C (tgt := 112) (Y := (-1)) dX10_perform_105 (by decide) rfl rfl (fun q26 => ?_) (fun q26 => ?_)
    ·
      refine lv_iconst (v := 0) C.1 C.2.1 dX10_perform_112 (by decide) ?_
      exact r_PMz C M (z := 0) hr hlk F rfl (by omega) (by omega) ⟨hj2, ⟨(by omega), (rh_fr M.2.2.2.2.2.1 M.2.2.2.2.2.2.2 G23 (by decide) hR)⟩⟩ dX10_perform_113
    ·
      refine lv_iconst (v := 1) C.1 C.2.1 dX10_perform_108 (by decide) ?_
      refine lv_goto (tgt := 113) C.1 C.2.1 dX10_perform_109 (by decide) ?_
      exact r_PMz C M (z := 1) hr hlk F rfl (by omega) (by omega) ⟨hj2, ⟨(by omega), (rh_fr M.2.2.2.2.2.1 M.2.2.2.2.2.2.2 G23 (by decide) hR)⟩⟩ dX10_perform_113
  by_cases q27 : v2.toInt = 4
  ·
    refine n_tabk (off := 106) (tgt := 114) C 4 dX10_perform_8 q27 (by decide) (by decide) (by decide) (by decide) ?_
    refine lv_aload_n C.1 C.2.1 dX10_perform_114 rfl (lv_at hl 0 rfl) ?_
    refine gi_X10_10 C M h0_ dX10_perform_115 (fun h28 => ?_)
    refine k_PM C M h28 (by decide) rfl (ct_X4_layParities l g I J (gr g a0 0) h28) (cw_X10_151 C.2.2.2.2 (by decide)) rfl hl.1 rfl (Nat.le_of_ble_eq_true rfl) dX10_perform_118 ⟨Nat.le_refl _, Nat.le_refl _⟩ (fun r33 I29 J30 H locs G31 p32r M => ?_)
    obtain ⟨eJ30, p32⟩ : J30 = J ∧ (True) := p32r
    have eJ30 := eJ30.symm
    subst eJ30
    have F := fr_call F G31 (by decide)
    refine lv_iconst (v := -1) C.1 C.2.1 dX10_perform_121 (by decide) ?_
    refine n_icmp_eq C (tgt := 129) (Y := (-1)) dX10_perform_122 (by decide) rfl rfl (fun q34 => ?_) (fun q34 => ?_)
    ·
      refine lv_iconst (v := 0) C.1 C.2.1 dX10_perform_129 (by decide) ?_
      exact r_PMz C M (z := 0) hr hlk F rfl (by omega) (by omega) ⟨hj2, ⟨(by omega), (rh_fr M.2.2.2.2.2.1 M.2.2.2.2.2.2.2 G31 (by decide) hR)⟩⟩ dX10_perform_130
    ·
      refine lv_iconst (v := 1) C.1 C.2.1 dX10_perform_125 (by decide) ?_
      refine lv_goto (tgt := 130) C.1 C.2.1 dX10_perform_126 (by decide) ?_
      exact r_PMz C M (z := 1) hr hlk F rfl (by omega) (by omega) ⟨hj2, ⟨(by omega), (rh_fr M.2.2.2.2.2.1 M.2.2.2.2.2.2.2 G31 (by decide) hR)⟩⟩ dX10_perform_130
  by_cases q35 : v2.toInt = 5
  ·
    refine n_tabk (off := 123) (tgt := 131) C 5 dX10_perform_8 q35 (by decide) (by decide) (by decide) (by decide) ?_
    refine lv_aload_n C.1 C.2.1 dX10_perform_131 rfl (lv_at hl 0 rfl) ?_
    refine gi_X10_10 C M h0_ dX10_perform_132 (fun h36 => ?_)
    refine lv_iload_n C.1 C.2.1 dX10_perform_135 rfl (lv_at hl 2 rfl) ?_
    refine k_PM C M h36 (by decide) rfl (ct_X4_goSteps l g I J (gr g a0 0) x2 h36 hR) (cw_X10_75 C.2.2.2.2 (by decide)) rfl hl.1 rfl (Nat.le_of_ble_eq_true rfl) dX10_perform_136 ⟨Nat.le_refl _, Nat.le_refl _⟩ (fun r41 I37 J38 H locs G39 p40r M => ?_)
    obtain ⟨eJ38, ⟨p40, rh42⟩⟩ : (J38.2 = J.2) ∧ ((True) ∧ RHs g I37 J38) := p40r
    have hj2 : J38.2 = J.2 := eJ38.trans hj2
    have F := fr_call F G39 (by decide)
    refine lv_iconst (v := -1) C.1 C.2.1 dX10_perform_139 (by decide) ?_
    refine n_icmp_eq C (tgt := 147) (Y := (-1)) dX10_perform_140 (by decide) rfl rfl (fun q43 => ?_) (fun q43 => ?_)
    ·
      refine lv_iconst (v := 0) C.1 C.2.1 dX10_perform_147 (by decide) ?_
      exact r_PMz C M (z := 0) hr hlk F rfl (by omega) (by omega) ⟨hj2, ⟨(by omega), rh42⟩⟩ dX10_perform_148
    ·
      refine lv_iconst (v := 1) C.1 C.2.1 dX10_perform_143 (by decide) ?_
      refine lv_goto (tgt := 148) C.1 C.2.1 dX10_perform_144 (by decide) ?_
      exact r_PMz C M (z := 1) hr hlk F rfl (by omega) (by omega) ⟨hj2, ⟨(by omega), rh42⟩⟩ dX10_perform_148
  by_cases q44 : v2.toInt = 6
  ·
    refine n_tabk (off := 141) (tgt := 149) C 6 dX10_perform_8 q44 (by decide) (by decide) (by decide) (by decide) ?_
    refine lv_aload_n C.1 C.2.1 dX10_perform_149 rfl (lv_at hl 0 rfl) ?_
    refine gi_X10_10 C M h0_ dX10_perform_150 (fun h45 => ?_)
    refine lv_iload_n C.1 C.2.1 dX10_perform_153 rfl (lv_at hl 2 rfl) ?_
    refine lv_aload_n C.1 C.2.1 dX10_perform_154 rfl (lv_at hl 0 rfl) ?_
    refine gi_X10_30 C M h0_ dX10_perform_155 (fun h46 => ?_)
    refine k_PM C M h45 (by decide) rfl (ct_X4_spend l g I J (gr g a0 0) x2 (gr g a0 4) h45 h46 hR) (cw_X10_129 C.2.2.2.2 (by decide)) rfl hl.1 rfl (Nat.le_of_ble_eq_true rfl) dX10_perform_158 ⟨Nat.le_refl _, Nat.le_refl _⟩ (fun r51 I47 J48 H locs G49 p50r M => ?_)
    obtain ⟨eJ48, ⟨p50, rh52⟩⟩ : (J48.2 = J.2) ∧ ((True) ∧ RHs g I47 J48) := p50r
    have hj2 : J48.2 = J.2 := eJ48.trans hj2
    have F := fr_call F G49 (by decide)
    refine lv_iconst (v := -1) C.1 C.2.1 dX10_perform_161 (by decide) ?_
    refine n_icmp_eq C (tgt := 169) (Y := (-1)) dX10_perform_162 (by decide) rfl rfl (fun q53 => ?_) (fun q53 => ?_)
    ·
      refine lv_iconst (v := 0) C.1 C.2.1 dX10_perform_169 (by decide) ?_
      exact r_PMz C M (z := 0) hr hlk F rfl (by omega) (by omega) ⟨hj2, ⟨(by omega), rh52⟩⟩ dX10_perform_170
    ·
      refine lv_iconst (v := 1) C.1 C.2.1 dX10_perform_165 (by decide) ?_
      refine lv_goto (tgt := 170) C.1 C.2.1 dX10_perform_166 (by decide) ?_
      exact r_PMz C M (z := 1) hr hlk F rfl (by omega) (by omega) ⟨hj2, ⟨(by omega), rh52⟩⟩ dX10_perform_170
  by_cases q54 : v2.toInt = 7
  ·
    refine n_tabk (off := 163) (tgt := 171) C 7 dX10_perform_8 q54 (by decide) (by decide) (by decide) (by decide) ?_
    refine lv_aload_n C.1 C.2.1 dX10_perform_171 rfl (lv_at hl 0 rfl) ?_
    refine gi_X10_10 C M h0_ dX10_perform_172 (fun h55 => ?_)
    refine gi_X10_103 C M h55 dX10_perform_175 (fun h56 => ?_)
    refine lv_iload_n C.1 C.2.1 dX10_perform_178 rfl (lv_at hl 2 rfl) ?_
    refine k_PM C M h56 (by decide) rfl (ct_X3_loseOne l g I J (gr g (gr g a0 0) 0) x2 h56) (cw_X10_107 C.2.2.2.2 (by decide)) rfl hl.1 rfl (Nat.le_of_ble_eq_true rfl) dX10_perform_179 ⟨Nat.le_refl _, Nat.le_refl _⟩ (fun r61 I57 J58 H locs G59 p60r M => ?_)
    obtain ⟨eJ58, p60⟩ : J58 = J ∧ (0 ≤ r61.toInt ∧ r61.toInt ≤ 1) := p60r
    have eJ58 := eJ58.symm
    subst eJ58
    have F := fr_call F G59 (by decide)
    exact r_PMz C M hr hlk F rfl (by omega) (by omega) ⟨hj2, ⟨(by omega), (rh_fr M.2.2.2.2.2.1 M.2.2.2.2.2.2.2 G59 (by decide) hR)⟩⟩ dX10_perform_182
  by_cases q62 : v2.toInt = 8
  ·
    refine n_tabk (off := 175) (tgt := 183) C 8 dX10_perform_8 q62 (by decide) (by decide) (by decide) (by decide) ?_
    refine lv_aload_n C.1 C.2.1 dX10_perform_183 rfl (lv_at hl 0 rfl) ?_
    refine gi_X10_10 C M h0_ dX10_perform_184 (fun h63 => ?_)
    refine lv_iload_n C.1 C.2.1 dX10_perform_187 rfl (lv_at hl 2 rfl) ?_
    refine lv_iload_n C.1 C.2.1 dX10_perform_188 rfl (lv_at hl 3 rfl) ?_
    refine k_PM C M h63 (by decide) rfl (ct_X4_storeOne l g I J (gr g a0 0) x2 x3 h63) (cw_X10_95 C.2.2.2.2 (by decide)) rfl hl.1 rfl (Nat.le_of_ble_eq_true rfl) dX10_perform_189 ⟨Nat.le_refl _, Nat.le_refl _⟩ (fun r68 I64 J65 H locs G66 p67r M => ?_)
    obtain ⟨eJ65, p67⟩ : J65 = J ∧ (True) := p67r
    have eJ65 := eJ65.symm
    subst eJ65
    have F := fr_call F G66 (by decide)
    refine lv_iconst (v := 1) C.1 C.2.1 dX10_perform_192 (by decide) ?_
    refine n_icmp_ne C (tgt := 200) (Y := 1) dX10_perform_193 (by decide) rfl rfl (fun q69 => ?_) (fun q69 => ?_)
    ·
      refine lv_iconst (v := 0) C.1 C.2.1 dX10_perform_200 (by decide) ?_
      exact r_PMz C M (z := 0) hr hlk F rfl (by omega) (by omega) ⟨hj2, ⟨(by omega), (rh_fr M.2.2.2.2.2.1 M.2.2.2.2.2.2.2 G66 (by decide) hR)⟩⟩ dX10_perform_201
    ·
      refine lv_iconst (v := 1) C.1 C.2.1 dX10_perform_196 (by decide) ?_
      refine lv_goto (tgt := 201) C.1 C.2.1 dX10_perform_197 (by decide) ?_
      exact r_PMz C M (z := 1) hr hlk F rfl (by omega) (by omega) ⟨hj2, ⟨(by omega), (rh_fr M.2.2.2.2.2.1 M.2.2.2.2.2.2.2 G66 (by decide) hR)⟩⟩ dX10_perform_201
  by_cases q70 : v2.toInt = 9
  ·
    refine n_tabk (off := 194) (tgt := 202) C 9 dX10_perform_8 q70 (by decide) (by decide) (by decide) (by decide) ?_
    refine lv_aload_n C.1 C.2.1 dX10_perform_202 rfl (lv_at hl 0 rfl) ?_
    refine gi_X10_10 C M h0_ dX10_perform_203 (fun h71 => ?_)
    refine lv_iload_n C.1 C.2.1 dX10_perform_206 rfl (lv_at hl 2 rfl) ?_
    refine lv_iload_n C.1 C.2.1 dX10_perform_207 rfl (lv_at hl 3 rfl) ?_
    refine lv_iload C.1 C.2.1 dX10_perform_208 (lv_at hl 4 rfl) ?_
    refine k_PM C M h71 (by decide) rfl (ct_X4_storeRun l g I J (gr g a0 0) x2 x3 x4 h71) (cw_X10_99 C.2.2.2.2 (by decide)) rfl hl.1 rfl (Nat.le_of_ble_eq_true rfl) dX10_perform_210 ⟨Nat.le_refl _, Nat.le_refl _⟩ (fun r76 I72 J73 H locs G74 p75r M => ?_)
    obtain ⟨eJ73, p75⟩ : J73 = J ∧ (True) := p75r
    have eJ73 := eJ73.symm
    subst eJ73
    have F := fr_call F G74 (by decide)
    refine lv_iconst (v := -1) C.1 C.2.1 dX10_perform_213 (by decide) ?_
    refine n_icmp_eq C (tgt := 221) (Y := (-1)) dX10_perform_214 (by decide) rfl rfl (fun q77 => ?_) (fun q77 => ?_)
    ·
      refine lv_iconst (v := 0) C.1 C.2.1 dX10_perform_221 (by decide) ?_
      exact r_PMz C M (z := 0) hr hlk F rfl (by omega) (by omega) ⟨hj2, ⟨(by omega), (rh_fr M.2.2.2.2.2.1 M.2.2.2.2.2.2.2 G74 (by decide) hR)⟩⟩ dX10_perform_222
    ·
      refine lv_iconst (v := 1) C.1 C.2.1 dX10_perform_217 (by decide) ?_
      refine lv_goto (tgt := 222) C.1 C.2.1 dX10_perform_218 (by decide) ?_
      exact r_PMz C M (z := 1) hr hlk F rfl (by omega) (by omega) ⟨hj2, ⟨(by omega), (rh_fr M.2.2.2.2.2.1 M.2.2.2.2.2.2.2 G74 (by decide) hR)⟩⟩ dX10_perform_222
  by_cases q78 : v2.toInt = 10
  ·
    refine n_tabk (off := 215) (tgt := 223) C 10 dX10_perform_8 q78 (by decide) (by decide) (by decide) (by decide) ?_
    refine lv_aload_n C.1 C.2.1 dX10_perform_223 rfl (lv_at hl 0 rfl) ?_
    refine gi_X10_10 C M h0_ dX10_perform_224 (fun h79 => ?_)
    refine gi_X10_103 C M h79 dX10_perform_227 (fun h80 => ?_)
    refine lv_iload_n C.1 C.2.1 dX10_perform_230 rfl (lv_at hl 2 rfl) ?_
    refine lv_iload_n C.1 C.2.1 dX10_perform_231 rfl (lv_at hl 3 rfl) ?_
    refine k_PM C M h80 (by decide) rfl (ct_X3_spoil l g I J (gr g (gr g a0 0) 0) x2 x3 h80) (cw_X10_115 C.2.2.2.2 (by decide)) rfl hl.1 rfl (Nat.le_of_ble_eq_true rfl) dX10_perform_232 ⟨Nat.le_refl _, Nat.le_refl _⟩ (fun r85 I81 J82 H locs G83 p84r M => ?_)
    obtain ⟨eJ82, p84⟩ : J82 = J ∧ (0 ≤ r85.toInt ∧ r85.toInt ≤ 1) := p84r
    have eJ82 := eJ82.symm
    subst eJ82
    have F := fr_call F G83 (by decide)
    exact r_PMz C M hr hlk F rfl (by omega) (by omega) ⟨hj2, ⟨(by omega), (rh_fr M.2.2.2.2.2.1 M.2.2.2.2.2.2.2 G83 (by decide) hR)⟩⟩ dX10_perform_235
  by_cases q86 : v2.toInt = 11
  ·
    refine n_tabk (off := 228) (tgt := 236) C 11 dX10_perform_8 q86 (by decide) (by decide) (by decide) (by decide) ?_
    refine lv_aload_n C.1 C.2.1 dX10_perform_236 rfl (lv_at hl 0 rfl) ?_
    refine lv_iload_n C.1 C.2.1 dX10_perform_237 rfl (lv_at hl 2 rfl) ?_
    refine k_PM C M h0_ (by decide) rfl (ct_X10_image l g I J a0 x2 h0_ hR) (cw_X10_232 C.2.2.2.2 (by decide)) rfl hl.1 rfl (Nat.le_of_ble_eq_true rfl) dX10_perform_238 ⟨Nat.le_refl _, Nat.le_refl _⟩ (fun r91 I87 J88 H locs G89 p90r M => ?_)
    obtain ⟨eJ88, ⟨p90, rh92⟩⟩ : (J88.2 = J.2) ∧ ((0 ≤ r91.toInt ∧ r91.toInt ≤ 1 ∧ (r91.toInt = 1 ↔ 0 ≤ x2.toInt ∧ x2.toInt ≤ 1)) ∧ RHs g I87 J88) := p90r
    have hj2 : J88.2 = J.2 := eJ88.trans hj2
    have F := fr_call F G89 (by decide)
    exact r_PMz C M hr hlk F rfl (by omega) (by omega) ⟨hj2, ⟨(by omega), rh92⟩⟩ dX10_perform_241
  by_cases q93 : v2.toInt = 12
  ·
    refine n_tabk (off := 234) (tgt := 242) C 12 dX10_perform_8 q93 (by decide) (by decide) (by decide) (by decide) ?_
    refine lv_aload_n C.1 C.2.1 dX10_perform_242 rfl (lv_at hl 0 rfl) ?_
    refine lv_iload_n C.1 C.2.1 dX10_perform_243 rfl (lv_at hl 2 rfl) ?_
    refine k_PM C M h0_ (by decide) rfl (ct_X10_back l g I J a0 x2 h0_ hR) (cw_X10_235 C.2.2.2.2 (by decide)) rfl hl.1 rfl (Nat.le_of_ble_eq_true rfl) dX10_perform_244 ⟨Nat.le_refl _, Nat.le_refl _⟩ (fun r98 I94 J95 H locs G96 p97r M => ?_)
    obtain ⟨eJ95, ⟨p97, rh99⟩⟩ : (J95.2 = J.2) ∧ ((0 ≤ r98.toInt ∧ r98.toInt ≤ 1) ∧ RHs g I94 J95) := p97r
    have hj2 : J95.2 = J.2 := eJ95.trans hj2
    have F := fr_call F G96 (by decide)
    exact r_PMz C M hr hlk F rfl (by omega) (by omega) ⟨hj2, ⟨(by omega), rh99⟩⟩ dX10_perform_247
  refine n_tabo (tgt := 248) C dX10_perform_8 rfl (by omega) (by decide) ?_
  refine lv_iconst (v := 0) C.1 C.2.1 dX10_perform_248 (by decide) ?_
  exact r_PMz C M (z := 0) hr hlk F rfl (by omega) (by omega) ⟨hj2, ⟨(by omega), hR⟩⟩ dX10_perform_249

abbrev md_X10_script : List (Nat × Nat) := [(0, 1), (0, 2), (0, 3), (0, 4), (0, 5), (0, 6), (0, 7), (1, 4), (1, 5), (1, 6), (2, 9), (2, 10), (2, 11), (2, 12), (2, 13), (2, 14), (2, 15), (2, 16), (2, 17), (4, 2), (4, 3), (5, 6), (5, 7), (5, 8), (5, 9), (5, 10), (6, 2), (6, 3), (7, 2), (16, 0), (17, 0), (18, 0), (19, 0), (20, 0), (21, 0), (22, 0), (23, 0), (24, 0), (25, 0), (27, 0)]
set_option maxHeartbeats 4000000 in
set_option maxRecDepth 100000 in
theorem ct_X10_script (l : Launch) (g : Gs) (I : Ms) (J : Js) (a0 : Nat) (h0_ : Is g a0 8) (g0 : DR g J) (hR : RHs g I J) : Ctr l yX10_script cX10_script 3 (Option.some Jvm.ClassFile.FieldType.int) 10 g [.ref a0] I J (PM g md_X10_script I (fun z I1 J1 => (DR g J1) ∧ ((True) ∧ RHs g I1 J1))) := by
  refine m_start (by decide) (Nat.le_of_ble_eq_true rfl) ?_
  intro p e s m args below meth c C hr hlk M ls hl
  have hl : lv_has ls 3 [(0, .ref a0)] := hl
  have C : CallFix p m c cX10_script 3 s args TB RX10 := C
  have F : Fr g md_X10_script I I := fr_rf
  have hj2 : DR g J := g0
  have hQ0 := M.2.2.2.2.2.2.2
  refine lv_aload_n C.1 C.2.1 dX10_script_0 rfl (lv_at hl 0 rfl) ?_
  refine gi_X10_40 C M h0_ dX10_script_1 (fun h1 => ?_)
  refine gi_X10_162 C M h1 dX10_script_4 (fun v2 kv2 tv2 uv2 => ?_)
  refine lv_sipush (v := 240) C.1 C.2.1 dX10_script_7 (by decide) ?_
  refine n_icmp_le C (tgt := 15) (Y := 240) dX10_script_10 (by decide) rfl rfl (fun q3 => ?_) (fun q3 => ?_)
  ·
    refine lv_aload_n C.1 C.2.1 dX10_script_15 rfl (lv_at hl 0 rfl) ?_
    refine gi_X10_47 C M h0_ dX10_script_16 (fun h4 => ?_)
    refine lv_aload_n C.1 C.2.1 dX10_script_19 rfl (lv_at hl 0 rfl) ?_
    refine gi_X10_40 C M h0_ dX10_script_20 (fun h5 => ?_)
    have rh6 : RHs g I J := hR
    refine k_PV C M h4 (by decide) rfl (ct_X7_compile l g I J (gr g a0 7) (gr g a0 6) h4 h1 hj2) (cw_X10_169 C.2.2.2.2 (by decide)) rfl hl.1 rfl (Nat.le_of_ble_eq_true rfl) dX10_script_23 ⟨Nat.le_refl _, Nat.le_refl _⟩ (fun I7 J8 H locs G9 p10r M => ?_)
    obtain ⟨eJ8, p10⟩ : (J8.1 = J.1 ∧ J8.2.2 = J.2.2 ∧ DR g J8) ∧ (True) := p10r
    have hj2 : DR g J8 := eJ8.2.2
    have F := fr_call F G9 (by decide)
    refine lv_aload_n C.1 C.2.1 dX10_script_26 rfl (lv_at hl 0 rfl) ?_
    refine gi_X10_40 C M h0_ dX10_script_27 (fun h11 => ?_)
    refine lv_iconst (v := 0) C.1 C.2.1 dX10_script_30 (by decide) ?_
    refine pi_X10_162 C M (X := 0) h1 dX10_script_31 rfl (by omega) (by omega) (fun H locs I12 k14 f13 M => ?_)
    have F := fr_put F h1 (Or.inr (by decide)) f13
    refine lv_aload_n C.1 C.2.1 dX10_script_34 rfl (lv_at hl 0 rfl) ?_
    refine gi_X10_47 C M h0_ dX10_script_35 (fun h15 => ?_)
    refine gi_X10_173 C M h4 dX10_script_38 (fun v16 kv16 => ?_)
    refine n_if_eq C (tgt := 55) dX10_script_41 (by decide) rfl (fun q17 => ?_) (fun q17 => ?_)
    ·
      refine lv_iconst (v := 0) C.1 C.2.1 dX10_script_55 (by decide) ?_
      refine lv_istore_n (lv' := [(1, .int 0), (0, .ref a0)]) C.1 C.2.1 dX10_script_56 rfl hl (by decide) rfl (fun ls hl => ?_)
      have L57 : ∀ (n57 : Nat) (y18 : Int32) (I19 : Ms) (J22 : Js) (H : Heap) (locs : List Loc) (ls : Array Slot), I19 (gr g a0 7) 8 = v16 → I19 (gr g a0 6) 1 = 0 → RHs g I19 J22 → DR g J22 → 0 ≤ y18.toInt → y18.toInt ≤ 200 → 201 - y18.toInt < (n57 : Int) → Fr g md_X10_script I I19 → Mm g s I19 J22 H locs → lv_has ls 3 [(0, .ref a0), (1, .int y18)] → W p l e (rmL 10) s m args below meth c H locs 0 0 (MQg below g (PM g md_X10_script I (fun z I1 J1 => (DR g J1) ∧ ((True) ∧ RHs g I1 J1))) args s) (F0 m 57 ls []) := by
        intro n57
        induction n57 with
        | zero =>
          intro y18 I19 J22 H locs ls k20 k21 rh23 hj2 f24 f25 hm57 F M hl
          exact absurd hm57 (by omega)
        | succ n57 ih57 =>
          intro y18 I19 J22 H locs ls k20 k21 rh23 hj2 f24 f25 hm57 F M hl
          refine lv_iload_n C.1 C.2.1 dX10_script_57 rfl (lv_at hl 1 rfl) ?_
          refine lv_sipush (v := 200) C.1 C.2.1 dX10_script_58 (by decide) ?_
          refine n_icmp_ge C (tgt := 116) (Y := 200) dX10_script_61 (by decide) rfl rfl (fun q26 => ?_) (fun q26 => ?_)
          ·
            refine lv_sipush (v := 200) C.1 C.2.1 dX10_script_116 (by decide) ?_
            exact r_PM C M (z := 200) hr hlk F rfl ⟨hj2, ⟨trivial, rh23⟩⟩ dX10_script_119
          ·
            refine lv_aload_n C.1 C.2.1 dX10_script_64 rfl (lv_at hl 0 rfl) ?_
            refine gi_X10_47 C M h0_ dX10_script_65 (fun h27 => ?_)
            refine k_PQ C M h4 (by decide) rfl (ct_X7_nextDeed l g I19 J22 (gr g a0 7) h4 hj2) (cw_X10_176 C.2.2.2.2 (by decide)) rfl hl.1 rfl (Nat.le_of_ble_eq_true rfl) dX10_script_68 ⟨Nat.le_refl _, Nat.le_refl _⟩ (fun rq32 I28 J29 H locs hrq32 G30 p31r M => ?_)
            obtain ⟨eJ29, p31⟩ : J29 = J22 ∧ (True) := p31r
            have eJ29 := eJ29.symm
            subst eJ29
            have F := fr_call F G30 (by decide)
            rcases hrq32 with eq34 | ⟨i33, hi33, eq34⟩
            ·
              subst eq34
              refine lv_astore_nN (lv' := [(2, .null), (0, .ref a0), (1, .int y18)]) C.1 C.2.1 dX10_script_71 rfl hl (by decide) rfl (fun ls hl => ?_)
              refine lv_aload_nN C.1 C.2.1 dX10_script_72 rfl (lv_at hl 0 rfl) ?_
              refine lv_ifnullN (tgt := 108) C.1 C.2.1 dX10_script_73 (by decide) ?_
              refine lv_iload_n C.1 C.2.1 dX10_script_108 rfl (lv_at hl 2 rfl) ?_
              exact r_PM C M hr hlk F rfl ⟨hj2, ⟨trivial, (rh_fr M.2.2.2.2.2.1 M.2.2.2.2.2.2.2 G30 (by decide) rh23)⟩⟩ dX10_script_109
            ·
              subst eq34
              refine lv_astore_n (lv' := [(2, .ref (gDd g i33)), (0, .ref a0), (1, .int y18)]) C.1 C.2.1 dX10_script_71 rfl hl (by decide) rfl (fun ls hl => ?_)
              refine lv_aload_n C.1 C.2.1 dX10_script_72 rfl (lv_at hl 0 rfl) ?_
              refine lv_ifnull C.1 C.2.1 dX10_script_73 ?_
              refine lv_aload_n C.1 C.2.1 dX10_script_76 rfl (lv_at hl 1 rfl) ?_
              refine lv_aload_n C.1 C.2.1 dX10_script_77 rfl (lv_at hl 0 rfl) ?_
              refine lv_aload_n C.1 C.2.1 dX10_script_78 rfl (lv_at hl 1 rfl) ?_
              refine gi_X10_47 C M h0_ dX10_script_79 (fun h35 => ?_)
              refine lv_iconst (v := 0) C.1 C.2.1 dX10_script_82 (by decide) ?_
              refine k_PI C M h4 (by decide) rfl (ct_X7_number l g I28 J22 (gr g a0 7) 0 h4) (cw_X10_180 C.2.2.2.2 (by decide)) rfl hl.1 rfl (Nat.le_of_ble_eq_true rfl) dX10_script_83 ⟨Nat.le_refl _, Nat.le_refl _⟩ (fun r36 H locs p37r M => ?_)
              have p37 : True := p37r
              refine lv_aload_n C.1 C.2.1 dX10_script_86 rfl (lv_at hl 1 rfl) ?_
              refine gi_X10_47 C M h0_ dX10_script_87 (fun h38 => ?_)
              refine lv_iconst (v := 1) C.1 C.2.1 dX10_script_90 (by decide) ?_
              refine k_PI C M h4 (by decide) rfl (ct_X7_number l g I28 J22 (gr g a0 7) 1 h4) (cw_X10_180 C.2.2.2.2 (by decide)) rfl hl.1 rfl (Nat.le_of_ble_eq_true rfl) dX10_script_91 ⟨Nat.le_refl _, Nat.le_refl _⟩ (fun r39 H locs p40r M => ?_)
              have p40 : True := p40r
              refine lv_aload_n C.1 C.2.1 dX10_script_94 rfl (lv_at hl 1 rfl) ?_
              refine gi_X10_47 C M h0_ dX10_script_95 (fun h41 => ?_)
              refine lv_iconst (v := 2) C.1 C.2.1 dX10_script_98 (by decide) ?_
              refine k_PI C M h4 (by decide) rfl (ct_X7_number l g I28 J22 (gr g a0 7) 2 h4) (cw_X10_180 C.2.2.2.2 (by decide)) rfl hl.1 rfl (Nat.le_of_ble_eq_true rfl) dX10_script_99 ⟨Nat.le_refl _, Nat.le_refl _⟩ (fun r42 H locs p43r M => ?_)
              have p43 : True := p43r
              refine k_PM C M h0_ (by decide) rfl (ct_X10_perform l g I28 J22 a0 i33 r36 r39 r42 h0_ hi33 (rh_fr M.2.2.2.2.2.1 M.2.2.2.2.2.2.2 G30 (by decide) rh23)) (cw_X10_183 C.2.2.2.2 (by decide)) rfl hl.1 rfl (Nat.le_of_ble_eq_true rfl) dX10_script_102 ⟨Nat.le_refl _, Nat.le_refl _⟩ (fun r48 I44 J45 H locs G46 p47r M => ?_)
              obtain ⟨eJ45, ⟨p47, rh49⟩⟩ : (J45.2 = J22.2) ∧ ((0 ≤ r48.toInt ∧ r48.toInt ≤ 1) ∧ RHs g I44 J45) := p47r
              have hj2 : DR g J45 := (dr_eq (congrArg Prod.fst eJ45) hj2)
              have F := fr_call F G46 (by decide)
              refine n_if_ne C (tgt := 110) dX10_script_105 (by decide) rfl (fun q50 => ?_) (fun q50 => ?_)
              ·
                refine n_iinc C (k := 2) (N := 1) (lv' := fun v => [(1, .int v), (2, .ref (gDd g i33)), (0, .ref a0)]) dX10_script_110 hl rfl (by decide) rfl rfl (by omega) (by omega) (fun _ => rfl) (fun v51 ls ev51 hl => ?_)
                refine lv_goto (tgt := 57) C.1 C.2.1 dX10_script_113 (by decide) ?_
                exact ih57 v51 I44 J45 _ _ _ ((G46 (gr g a0 7) 5 8 h4 (by decide) (by decide)).trans ((G30 (gr g a0 7) 5 8 h4 (by decide) (by decide)).trans k20)) ((G46 (gr g a0 6) 7 1 h1 (by decide) (by decide)).trans ((G30 (gr g a0 6) 7 1 h1 (by decide) (by decide)).trans k21)) rh49 hj2 (by omega) (by omega) (by omega) F M (lv_sub hl [2, 0] rfl)
              ·
                refine lv_iload_n C.1 C.2.1 dX10_script_108 rfl (lv_at hl 2 rfl) ?_
                exact r_PM C M hr hlk F rfl ⟨hj2, ⟨trivial, rh49⟩⟩ dX10_script_109
      have cz52 : (0 : Int32).toInt = 0 := rfl
      exact L57 _ 0 I12 J8 _ _ _ kv16 k14 (rh_put M.2.2.2.2.2.1 M.2.2.2.2.2.2.2 h1 f13 ⟨Or.inl (by decide), Or.inl (by decide), by decide⟩ (rh_fr M.2.2.2.2.2.1 M.2.2.2.2.2.2.2 G9 (by decide) (rh_j eJ8.1 rh6))) hj2 (by omega) (by omega) (n_big _) F M (lv_sub hl [1, 0] rfl)
    ·
      refine lv_bipush (v := -2) C.1 C.2.1 dX10_script_44 (by decide) ?_
      refine lv_aload_n C.1 C.2.1 dX10_script_46 rfl (lv_at hl 0 rfl) ?_
      refine gi_X10_47 C M h0_ dX10_script_47 (fun h53 => ?_)
      refine gk_X10_173 C M h4 kv16 dX10_script_50 ?_
      refine n_isubU C dX10_script_53 (fun v54 => ?_)
      exact r_PM C M hr hlk F rfl ⟨hj2, ⟨trivial, (rh_put M.2.2.2.2.2.1 M.2.2.2.2.2.2.2 h1 f13 ⟨Or.inl (by decide), Or.inl (by decide), by decide⟩ (rh_fr M.2.2.2.2.2.1 M.2.2.2.2.2.2.2 G9 (by decide) (rh_j eJ8.1 rh6)))⟩⟩ dX10_script_54
  ·
    refine lv_iconst (v := -1) C.1 C.2.1 dX10_script_13 (by decide) ?_
    exact r_PM C M (z := (-1)) hr hlk F rfl ⟨hj2, ⟨trivial, hR⟩⟩ dX10_script_14
