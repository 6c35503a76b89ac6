def pc_X9_judge (b : Nat) : Nat := ([0, 18, 25, 41, 47, 98, 102, 108] : List Nat).getD b 0
set_option maxRecDepth 20000 in
theorem sb_X9_judge (K : pm_K) (l : Launch) (fb : Bool) (hfb : fb = K.2.2.2.2.2) : ∀ b, pm_SimB K l pm_mt "NeedleLineModel" cX9_judge 4 ((.some FieldType.int)) pc_X9_judge (pc_X9_judge b) (P_X9_judge b)
  | 0 => pm_sc (sm_iload_n dX9_judge_0 rfl) <| pm_sc (sm_cs dX9_judge_1 mt_X9_isSheet mw_1437 ls_X9_261) <| pm_sc (sm_if_eq dX9_judge_4 rfl) <| pm_sc (sm_iload_n dX9_judge_7 rfl) <| pm_sc (sm_iconst dX9_judge_8 rfl) <| pm_sc (sm_sipush dX9_judge_9 (by decide)) <| pm_sc (sm_cs dX9_judge_12 mt_X9_isIn mw_1116 ls_X9_75) <| pm_sc (sm_if_ne dX9_judge_15 rfl) <| pm_sc (sm_fall rfl) <| pm_sn
  | 1 => pm_sc (sm_aload_n dX9_judge_18 rfl) <| pm_sc (sm_ldc dX9_judge_19 mw_1121) <| pm_sc (sm_cv dX9_judge_21 mt_X9_finding mw_1125 lv_X9_83) <| pm_sc (sm_ireturn (pc' := 0) dX9_judge_24 rfl) <| pm_sn
  | 2 => pm_sc (sm_aload_n dX9_judge_25 rfl) <| pm_sc (sm_gr dX9_judge_26 fl_X9_53) <| pm_sc (sm_iload_n dX9_judge_29 rfl) <| pm_sc (sm_ia dX9_judge_30) <| pm_sc (sm_if_ne dX9_judge_31 rfl) <| pm_sc (sm_aload_n dX9_judge_34 rfl) <| pm_sc (sm_ldc dX9_judge_35 mw_1323) <| pm_sc (sm_cv dX9_judge_37 mt_X9_finding mw_1125 lv_X9_83) <| pm_sc (sm_ireturn (pc' := 0) dX9_judge_40 rfl) <| pm_sn
  | 3 => pm_sc (sm_aload_n dX9_judge_41 rfl) <| pm_sc (sm_cv dX9_judge_42 mt_X9_goes mw_1187 lv_X9_117) <| pm_sc (sm_iconst dX9_judge_45 rfl) <| pm_sc (sm_istore_n dX9_judge_46 rfl) <| pm_sc (sm_fall rfl) <| pm_sn
  | 4 => pm_sc (sm_iload_n dX9_judge_47 rfl) <| pm_sc (sm_aload_n dX9_judge_48 rfl) <| pm_sc (sm_gr dX9_judge_49 fl_X9_56) <| pm_sc (sm_iload_n dX9_judge_52 rfl) <| pm_sc (sm_ia dX9_judge_53) <| pm_sc (sm_icmp_ge dX9_judge_54 rfl) <| pm_sc (sm_iload_n dX9_judge_57 rfl) <| pm_sc (sm_aload_n dX9_judge_58 rfl) <| pm_sc (sm_gr dX9_judge_59 fl_X9_9) <| pm_sc (sm_iconst dX9_judge_62 rfl) <| pm_sc (sm_ia dX9_judge_63) <| pm_sc (sm_icmp_ge dX9_judge_64 rfl) <| pm_sc (sm_aload_n dX9_judge_67 rfl) <| pm_sc (sm_gr dX9_judge_68 fl_X9_59) <| pm_sc (sm_bipush dX9_judge_71 (by decide)) <| pm_sc (sm_iload_n dX9_judge_73 rfl) <| pm_sc (sm_imul dX9_judge_74) <| pm_sc (sm_iload_n dX9_judge_75 rfl) <| pm_sc (sm_iadd dX9_judge_76) <| pm_sc (sm_ia dX9_judge_77) <| pm_sc (sm_i2l dX9_judge_78) <| pm_sc (sm_aload_n dX9_judge_79 rfl) <| pm_sc (sm_gr dX9_judge_80 fl_X9_19) <| pm_sc (sm_iload_n dX9_judge_83 rfl) <| pm_sc (sm_iconst dX9_judge_84 rfl) <| pm_sc (sm_iadd dX9_judge_85) <| pm_sc (sm_ia dX9_judge_86) <| pm_sc (sm_i2l dX9_judge_87) <| pm_sc (sm_lsub dX9_judge_88) <| pm_sc (sm_mlabs dX9_judge_89 mw_1352 mw_811 mw_64 mw_812) <| pm_sc (sm_iload_n dX9_judge_92 rfl) <| pm_sc (sm_i2l dX9_judge_93) <| pm_sc (sm_lcmp dX9_judge_94) <| pm_sc (sm_if_le dX9_judge_95 rfl) <| pm_sc (sm_fall rfl) <| pm_sn
  | 5 => pm_sc (sm_iload_n dX9_judge_98 rfl) <| pm_sc (sm_iconst dX9_judge_99 rfl) <| pm_sc (sm_iadd dX9_judge_100) <| pm_sc (sm_ireturn (pc' := 0) dX9_judge_101 rfl) <| pm_sn
  | 6 => pm_sc (sm_iinc dX9_judge_102 rfl) <| pm_sc (sm_goto dX9_judge_105 rfl) <| pm_sn
  | 7 => pm_sc (sm_iconst dX9_judge_108 rfl) <| pm_sc (sm_ireturn (pc' := 0) dX9_judge_109 rfl) <| pm_sn
  | n + 8 => trivial
theorem ok_X9_judge (K : pm_K) (l : Launch) (fb : Bool) (hfb : fb = K.2.2.2.2.2) : pm_MOk K l (pm_pg fb) pm_mt n_X9_judge := ⟨by decide +kernel, by decide, pc_X9_judge, rfl, sb_X9_judge K l fb hfb⟩
def pc_X9_even (b : Nat) : Nat := ([0, 16, 23, 39, 53, 89, 103, 122, 123, 135, 136, 150, 151, 168, 176, 186, 187] : List Nat).getD b 0
set_option maxRecDepth 20000 in
theorem sb_X9_even (K : pm_K) (l : Launch) (fb : Bool) (hfb : fb = K.2.2.2.2.2) : ∀ b, pm_SimB K l pm_mt "NeedleLineModel" cX9_even 10 ((.some FieldType.int)) pc_X9_even (pc_X9_even b) (P_X9_even b)
  | 0 => pm_sc (sm_iload_n dX9_even_0 rfl) <| pm_sc (sm_cs dX9_even_1 mt_X9_isSheet mw_1437 ls_X9_261) <| pm_sc (sm_if_eq dX9_even_4 rfl) <| pm_sc (sm_iload_n dX9_even_7 rfl) <| pm_sc (sm_iconst dX9_even_8 rfl) <| pm_sc (sm_iconst dX9_even_9 rfl) <| pm_sc (sm_cs dX9_even_10 mt_X9_isIn mw_1116 ls_X9_75) <| pm_sc (sm_if_ne dX9_even_13 rfl) <| pm_sc (sm_fall rfl) <| pm_sn
  | 1 => pm_sc (sm_aload_n dX9_even_16 rfl) <| pm_sc (sm_ldc dX9_even_17 mw_1121) <| pm_sc (sm_cv dX9_even_19 mt_X9_finding mw_1125 lv_X9_83) <| pm_sc (sm_ireturn (pc' := 0) dX9_even_22 rfl) <| pm_sn
  | 2 => pm_sc (sm_aload_n dX9_even_23 rfl) <| pm_sc (sm_gr dX9_even_24 fl_X9_53) <| pm_sc (sm_iload_n dX9_even_27 rfl) <| pm_sc (sm_ia dX9_even_28) <| pm_sc (sm_if_ne dX9_even_29 rfl) <| pm_sc (sm_aload_n dX9_even_32 rfl) <| pm_sc (sm_ldc dX9_even_33 mw_1323) <| pm_sc (sm_cv dX9_even_35 mt_X9_finding mw_1125 lv_X9_83) <| pm_sc (sm_ireturn (pc' := 0) dX9_even_38 rfl) <| pm_sn
  | 3 => pm_sc (sm_iconst dX9_even_39 rfl) <| pm_sc (sm_istore_n dX9_even_40 rfl) <| pm_sc (sm_iconst dX9_even_41 rfl) <| pm_sc (sm_istore dX9_even_42) <| pm_sc (sm_iconst dX9_even_44 rfl) <| pm_sc (sm_istore dX9_even_45) <| pm_sc (sm_iconst dX9_even_47 rfl) <| pm_sc (sm_istore dX9_even_48) <| pm_sc (sm_iconst dX9_even_50 rfl) <| pm_sc (sm_istore dX9_even_51) <| pm_sc (sm_fall rfl) <| pm_sn
  | 4 => pm_sc (sm_iload dX9_even_53) <| pm_sc (sm_aload_n dX9_even_55 rfl) <| pm_sc (sm_gr dX9_even_56 fl_X9_56) <| pm_sc (sm_iload_n dX9_even_59 rfl) <| pm_sc (sm_ia dX9_even_60) <| pm_sc (sm_icmp_ge dX9_even_61 rfl) <| pm_sc (sm_iload dX9_even_64) <| pm_sc (sm_istore dX9_even_66) <| pm_sc (sm_aload_n dX9_even_68 rfl) <| pm_sc (sm_gr dX9_even_69 fl_X9_59) <| pm_sc (sm_bipush dX9_even_72 (by decide)) <| pm_sc (sm_iload_n dX9_even_74 rfl) <| pm_sc (sm_imul dX9_even_75) <| pm_sc (sm_iload dX9_even_76) <| pm_sc (sm_iadd dX9_even_78) <| pm_sc (sm_ia dX9_even_79) <| pm_sc (sm_iload dX9_even_80) <| pm_sc (sm_if_ne dX9_even_82 rfl) <| pm_sc (sm_iconst dX9_even_85 rfl) <| pm_sc (sm_goto dX9_even_86 rfl) <| pm_sn
  | 5 => pm_sc (sm_aload_n dX9_even_89 rfl) <| pm_sc (sm_gr dX9_even_90 fl_X9_59) <| pm_sc (sm_bipush dX9_even_93 (by decide)) <| pm_sc (sm_iload_n dX9_even_95 rfl) <| pm_sc (sm_imul dX9_even_96) <| pm_sc (sm_iload dX9_even_97) <| pm_sc (sm_iadd dX9_even_99) <| pm_sc (sm_iconst dX9_even_100 rfl) <| pm_sc (sm_isub dX9_even_101) <| pm_sc (sm_ia dX9_even_102) <| pm_sc (sm_fall rfl) <| pm_sn
  | 6 => pm_sc (sm_isub dX9_even_103) <| pm_sc (sm_istore dX9_even_104) <| pm_sc (sm_iload dX9_even_106) <| pm_sc (sm_if_le dX9_even_108 rfl) <| pm_sc (sm_iload dX9_even_111) <| pm_sc (sm_iload dX9_even_113) <| pm_sc (sm_icmp_ne dX9_even_115 rfl) <| pm_sc (sm_iconst dX9_even_118 rfl) <| pm_sc (sm_goto dX9_even_119 rfl) <| pm_sn
  | 7 => pm_sc (sm_iconst dX9_even_122 rfl) <| pm_sc (sm_fall rfl) <| pm_sn
  | 8 => pm_sc (sm_istore dX9_even_123) <| pm_sc (sm_iload_n dX9_even_125 rfl) <| pm_sc (sm_iload dX9_even_126) <| pm_sc (sm_if_eq dX9_even_128 rfl) <| pm_sc (sm_iconst dX9_even_131 rfl) <| pm_sc (sm_goto dX9_even_132 rfl) <| pm_sn
  | 9 => pm_sc (sm_iconst dX9_even_135 rfl) <| pm_sc (sm_fall rfl) <| pm_sn
  | 10 => pm_sc (sm_iadd dX9_even_136) <| pm_sc (sm_istore_n dX9_even_137 rfl) <| pm_sc (sm_iload dX9_even_138) <| pm_sc (sm_if_eq dX9_even_140 rfl) <| pm_sc (sm_iload dX9_even_143) <| pm_sc (sm_iconst dX9_even_145 rfl) <| pm_sc (sm_iadd dX9_even_146) <| pm_sc (sm_goto dX9_even_147 rfl) <| pm_sn
  | 11 => pm_sc (sm_iconst dX9_even_150 rfl) <| pm_sc (sm_fall rfl) <| pm_sn
  | 12 => pm_sc (sm_istore dX9_even_151) <| pm_sc (sm_iload dX9_even_153) <| pm_sc (sm_iload dX9_even_155) <| pm_sc (sm_mmax dX9_even_157 mw_1215 mw_105 mw_64 mw_106) <| pm_sc (sm_istore dX9_even_160) <| pm_sc (sm_iinc dX9_even_162 rfl) <| pm_sc (sm_goto dX9_even_165 rfl) <| pm_sn
  | 13 => pm_sc (sm_iload_n dX9_even_168 rfl) <| pm_sc (sm_if_ne dX9_even_169 rfl) <| pm_sc (sm_iload_n dX9_even_172 rfl) <| pm_sc (sm_goto dX9_even_173 rfl) <| pm_sn
  | 14 => pm_sc (sm_iload dX9_even_176) <| pm_sc (sm_iconst dX9_even_178 rfl) <| pm_sc (sm_icmp_lt dX9_even_179 rfl) <| pm_sc (sm_iconst dX9_even_182 rfl) <| pm_sc (sm_goto dX9_even_183 rfl) <| pm_sn
  | 15 => pm_sc (sm_iconst dX9_even_186 rfl) <| pm_sc (sm_fall rfl) <| pm_sn
  | 16 => pm_sc (sm_ireturn (pc' := 0) dX9_even_187 rfl) <| pm_sn
  | n + 17 => trivial
theorem ok_X9_even (K : pm_K) (l : Launch) (fb : Bool) (hfb : fb = K.2.2.2.2.2) : pm_MOk K l (pm_pg fb) pm_mt n_X9_even := ⟨by decide +kernel, by decide, pc_X9_even, rfl, sb_X9_even K l fb hfb⟩
def pc_X9_image (b : Nat) : Nat := ([0] : List Nat).getD b 0
set_option maxRecDepth 20000 in
theorem sb_X9_image (K : pm_K) (l : Launch) (fb : Bool) (hfb : fb = K.2.2.2.2.2) : ∀ b, pm_SimB K l pm_mt "NeedleLineModel" cX9_image 1 ((.some FieldType.int)) pc_X9_image (pc_X9_image b) (P_X9_image b)
  | 0 => pm_sc (sm_aload_n dX9_image_0 rfl) <| pm_sc (sm_gr dX9_image_1 fl_X9_9) <| pm_sc (sm_aload_n dX9_image_4 rfl) <| pm_sc (sm_gr dX9_image_5 fl_X9_13) <| pm_sc (sm_cs dX9_image_8 mt_X9_copy mw_1461 ls_X9_265) <| pm_sc (sm_aload_n dX9_image_11 rfl) <| pm_sc (sm_dup dX9_image_12) <| pm_sc (sm_gi dX9_image_13 fl_X9_269) <| pm_sc (sm_iconst dX9_image_16 rfl) <| pm_sc (sm_iadd dX9_image_17) <| pm_sc (sm_pi dX9_image_18 fp_X9_269) <| pm_sc (sm_aload_n dX9_image_21 rfl) <| pm_sc (sm_gi dX9_image_22 fl_X9_269) <| pm_sc (sm_ireturn (pc' := 0) dX9_image_25 rfl) <| pm_sn
  | n + 1 => trivial
theorem ok_X9_image (K : pm_K) (l : Launch) (fb : Bool) (hfb : fb = K.2.2.2.2.2) : pm_MOk K l (pm_pg fb) pm_mt n_X9_image := ⟨by decide +kernel, by decide, pc_X9_image, rfl, sb_X9_image K l fb hfb⟩
def pc_X9_restore (b : Nat) : Nat := ([0, 14] : List Nat).getD b 0
set_option maxRecDepth 20000 in
theorem sb_X9_restore (K : pm_K) (l : Launch) (fb : Bool) (hfb : fb = K.2.2.2.2.2) : ∀ b, pm_SimB K l pm_mt "NeedleLineModel" cX9_restore 1 ((.some FieldType.int)) pc_X9_restore (pc_X9_restore b) (P_X9_restore b)
  | 0 => pm_sc (sm_aload_n dX9_restore_0 rfl) <| pm_sc (sm_gi dX9_restore_1 fl_X9_269) <| pm_sc (sm_if_ne dX9_restore_4 rfl) <| pm_sc (sm_aload_n dX9_restore_7 rfl) <| pm_sc (sm_ldc dX9_restore_8 mw_1323) <| pm_sc (sm_cv dX9_restore_10 mt_X9_finding mw_1125 lv_X9_83) <| pm_sc (sm_ireturn (pc' := 0) dX9_restore_13 rfl) <| pm_sn
  | 1 => pm_sc (sm_aload_n dX9_restore_14 rfl) <| pm_sc (sm_gr dX9_restore_15 fl_X9_13) <| pm_sc (sm_aload_n dX9_restore_18 rfl) <| pm_sc (sm_gr dX9_restore_19 fl_X9_9) <| pm_sc (sm_cs dX9_restore_22 mt_X9_copy mw_1461 ls_X9_265) <| pm_sc (sm_aload_n dX9_restore_25 rfl) <| pm_sc (sm_gr dX9_restore_26 fl_X9_9) <| pm_sc (sm_iconst dX9_restore_29 rfl) <| pm_sc (sm_ia dX9_restore_30) <| pm_sc (sm_ireturn (pc' := 0) dX9_restore_31 rfl) <| pm_sn
  | n + 2 => trivial
theorem ok_X9_restore (K : pm_K) (l : Launch) (fb : Bool) (hfb : fb = K.2.2.2.2.2) : pm_MOk K l (pm_pg fb) pm_mt n_X9_restore := ⟨by decide +kernel, by decide, pc_X9_restore, rfl, sb_X9_restore K l fb hfb⟩
def pc_X9_tell (b : Nat) : Nat := ([0, 18] : List Nat).getD b 0
set_option maxRecDepth 20000 in
theorem sb_X9_tell (K : pm_K) (l : Launch) (fb : Bool) (hfb : fb = K.2.2.2.2.2) : ∀ b, pm_SimB K l pm_mt "NeedleLineModel" cX9_tell 2 ((.some FieldType.int)) pc_X9_tell (pc_X9_tell b) (P_X9_tell b)
  | 0 => pm_sc (sm_aload_n dX9_tell_0 rfl) <| pm_sc (sm_gr dX9_tell_1 fl_X9_9) <| pm_sc (sm_iconst dX9_tell_4 rfl) <| pm_sc (sm_ia dX9_tell_5) <| pm_sc (sm_bipush dX9_tell_6 (by decide)) <| pm_sc (sm_icmp_ne dX9_tell_8 rfl) <| pm_sc (sm_aload_n dX9_tell_11 rfl) <| pm_sc (sm_ldc dX9_tell_12 mw_1143) <| pm_sc (sm_cv dX9_tell_14 mt_X9_finding mw_1125 lv_X9_83) <| pm_sc (sm_ireturn (pc' := 0) dX9_tell_17 rfl) <| pm_sn
  | 1 => pm_sc (sm_aload_n dX9_tell_18 rfl) <| pm_sc (sm_gr dX9_tell_19 fl_X9_9) <| pm_sc (sm_sipush dX9_tell_22 (by decide)) <| pm_sc (sm_aload_n dX9_tell_25 rfl) <| pm_sc (sm_gr dX9_tell_26 fl_X9_9) <| pm_sc (sm_iconst dX9_tell_29 rfl) <| pm_sc (sm_ia dX9_tell_30) <| pm_sc (sm_iadd dX9_tell_31) <| pm_sc (sm_iload_n dX9_tell_32 rfl) <| pm_sc (sm_ias dX9_tell_33) <| pm_sc (sm_aload_n dX9_tell_34 rfl) <| pm_sc (sm_gr dX9_tell_35 fl_X9_9) <| pm_sc (sm_iconst dX9_tell_38 rfl) <| pm_sc (sm_dup2 dX9_tell_39) <| pm_sc (sm_ia dX9_tell_40) <| pm_sc (sm_iconst dX9_tell_41 rfl) <| pm_sc (sm_iadd dX9_tell_42) <| pm_sc (sm_ias dX9_tell_43) <| pm_sc (sm_aload_n dX9_tell_44 rfl) <| pm_sc (sm_gr dX9_tell_45 fl_X9_9) <| pm_sc (sm_iconst dX9_tell_48 rfl) <| pm_sc (sm_ia dX9_tell_49) <| pm_sc (sm_ireturn (pc' := 0) dX9_tell_50 rfl) <| pm_sn
  | n + 2 => trivial
theorem ok_X9_tell (K : pm_K) (l : Launch) (fb : Bool) (hfb : fb = K.2.2.2.2.2) : pm_MOk K l (pm_pg fb) pm_mt n_X9_tell := ⟨by decide +kernel, by decide, pc_X9_tell, rfl, sb_X9_tell K l fb hfb⟩
def pc_X9_check (b : Nat) : Nat := ([0, 20, 62, 81, 84] : List Nat).getD b 0
set_option maxRecDepth 20000 in
theorem sb_X9_check (K : pm_K) (l : Launch) (fb : Bool) (hfb : fb = K.2.2.2.2.2) : ∀ b, pm_SimB K l pm_mt "NeedleLineModel" cX9_check 3 ((.some FieldType.int)) pc_X9_check (pc_X9_check b) (P_X9_check b)
  | 0 => pm_sc (sm_aload_n dX9_check_0 rfl) <| pm_sc (sm_gr dX9_check_1 fl_X9_9) <| pm_sc (sm_iconst dX9_check_4 rfl) <| pm_sc (sm_ia dX9_check_5) <| pm_sc (sm_istore_n dX9_check_6 rfl) <| pm_sc (sm_aload_n dX9_check_7 rfl) <| pm_sc (sm_gr dX9_check_8 fl_X9_9) <| pm_sc (sm_iconst dX9_check_11 rfl) <| pm_sc (sm_iconst dX9_check_12 rfl) <| pm_sc (sm_ias dX9_check_13) <| pm_sc (sm_aload_n dX9_check_14 rfl) <| pm_sc (sm_cv dX9_check_15 mt_X9_goes mw_1187 lv_X9_117) <| pm_sc (sm_iconst dX9_check_18 rfl) <| pm_sc (sm_istore_n dX9_check_19 rfl) <| pm_sc (sm_fall rfl) <| pm_sn
  | 1 => pm_sc (sm_iload_n dX9_check_20 rfl) <| pm_sc (sm_iload_n dX9_check_21 rfl) <| pm_sc (sm_icmp_ge dX9_check_22 rfl) <| pm_sc (sm_iload_n dX9_check_25 rfl) <| pm_sc (sm_aload_n dX9_check_26 rfl) <| pm_sc (sm_gr dX9_check_27 fl_X9_9) <| pm_sc (sm_iconst dX9_check_30 rfl) <| pm_sc (sm_ia dX9_check_31) <| pm_sc (sm_icmp_ge dX9_check_32 rfl) <| pm_sc (sm_aload_n dX9_check_35 rfl) <| pm_sc (sm_gr dX9_check_36 fl_X9_9) <| pm_sc (sm_sipush dX9_check_39 (by decide)) <| pm_sc (sm_iload_n dX9_check_42 rfl) <| pm_sc (sm_iadd dX9_check_43) <| pm_sc (sm_ia dX9_check_44) <| pm_sc (sm_aload_n dX9_check_45 rfl) <| pm_sc (sm_gr dX9_check_46 fl_X9_19) <| pm_sc (sm_iload_n dX9_check_49 rfl) <| pm_sc (sm_iconst dX9_check_50 rfl) <| pm_sc (sm_iadd dX9_check_51) <| pm_sc (sm_ia dX9_check_52) <| pm_sc (sm_icmp_ne dX9_check_53 rfl) <| pm_sc (sm_iinc dX9_check_56 rfl) <| pm_sc (sm_goto dX9_check_59 rfl) <| pm_sn
  | 2 => pm_sc (sm_iload_n dX9_check_62 rfl) <| pm_sc (sm_iload_n dX9_check_63 rfl) <| pm_sc (sm_icmp_ne dX9_check_64 rfl) <| pm_sc (sm_iload_n dX9_check_67 rfl) <| pm_sc (sm_aload_n dX9_check_68 rfl) <| pm_sc (sm_gr dX9_check_69 fl_X9_9) <| pm_sc (sm_iconst dX9_check_72 rfl) <| pm_sc (sm_ia dX9_check_73) <| pm_sc (sm_icmp_ne dX9_check_74 rfl) <| pm_sc (sm_iconst dX9_check_77 rfl) <| pm_sc (sm_goto dX9_check_78 rfl) <| pm_sn
  | 3 => pm_sc (sm_iconst dX9_check_81 rfl) <| pm_sc (sm_iload_n dX9_check_82 rfl) <| pm_sc (sm_iadd dX9_check_83) <| pm_sc (sm_fall rfl) <| pm_sn
  | 4 => pm_sc (sm_ireturn (pc' := 0) dX9_check_84 rfl) <| pm_sn
  | n + 5 => trivial
theorem ok_X9_check (K : pm_K) (l : Launch) (fb : Bool) (hfb : fb = K.2.2.2.2.2) : pm_MOk K l (pm_pg fb) pm_mt n_X9_check := ⟨by decide +kernel, by decide, pc_X9_check, rfl, sb_X9_check K l fb hfb⟩
def pc_X9_count (b : Nat) : Nat := ([0, 48, 55, 57, 82, 84, 91, 98, 103, 110] : List Nat).getD b 0
set_option maxRecDepth 20000 in
theorem sb_X9_count (K : pm_K) (l : Launch) (fb : Bool) (hfb : fb = K.2.2.2.2.2) : ∀ b, pm_SimB K l pm_mt "NeedleLineModel" cX9_count 4 ((.some FieldType.int)) pc_X9_count (pc_X9_count b) (P_X9_count b)
  | 0 => pm_sc (sm_iconst dX9_count_0 rfl) <| pm_sc (sm_istore_n dX9_count_1 rfl) <| pm_sc (sm_iload_n dX9_count_2 rfl) <| pm_sc (sm_tsw dX9_count_3 (by decide +kernel) (by decide) rfl) <| pm_sn
  | 1 => pm_sc (sm_aload_n dX9_count_48 rfl) <| pm_sc (sm_gr dX9_count_49 fl_X9_9) <| pm_sc (sm_iload_n dX9_count_52 rfl) <| pm_sc (sm_ia dX9_count_53) <| pm_sc (sm_ireturn (pc' := 0) dX9_count_54 rfl) <| pm_sn
  | 2 => pm_sc (sm_iconst dX9_count_55 rfl) <| pm_sc (sm_istore_n dX9_count_56 rfl) <| pm_sc (sm_fall rfl) <| pm_sn
  | 3 => pm_sc (sm_iload_n dX9_count_57 rfl) <| pm_sc (sm_aload_n dX9_count_58 rfl) <| pm_sc (sm_gr dX9_count_59 fl_X9_9) <| pm_sc (sm_iconst dX9_count_62 rfl) <| pm_sc (sm_ia dX9_count_63) <| pm_sc (sm_icmp_ge dX9_count_64 rfl) <| pm_sc (sm_iload_n dX9_count_67 rfl) <| pm_sc (sm_aload_n dX9_count_68 rfl) <| pm_sc (sm_iload_n dX9_count_69 rfl) <| pm_sc (sm_iconst dX9_count_70 rfl) <| pm_sc (sm_cv dX9_count_71 mt_X9_mileOf mw_1179 lv_X9_104) <| pm_sc (sm_iadd dX9_count_74) <| pm_sc (sm_istore_n dX9_count_75 rfl) <| pm_sc (sm_iinc dX9_count_76 rfl) <| pm_sc (sm_goto dX9_count_79 rfl) <| pm_sn
  | 4 => pm_sc (sm_iload_n dX9_count_82 rfl) <| pm_sc (sm_ireturn (pc' := 0) dX9_count_83 rfl) <| pm_sn
  | 5 => pm_sc (sm_aload_n dX9_count_84 rfl) <| pm_sc (sm_gr dX9_count_85 fl_X9_9) <| pm_sc (sm_iconst dX9_count_88 rfl) <| pm_sc (sm_ia dX9_count_89) <| pm_sc (sm_ireturn (pc' := 0) dX9_count_90 rfl) <| pm_sn
  | 6 => pm_sc (sm_aload_n dX9_count_91 rfl) <| pm_sc (sm_gr dX9_count_92 fl_X9_9) <| pm_sc (sm_iconst dX9_count_95 rfl) <| pm_sc (sm_ia dX9_count_96) <| pm_sc (sm_ireturn (pc' := 0) dX9_count_97 rfl) <| pm_sn
  | 7 => pm_sc (sm_aload_n dX9_count_98 rfl) <| pm_sc (sm_gi dX9_count_99 fl_X9_236) <| pm_sc (sm_ireturn (pc' := 0) dX9_count_102 rfl) <| pm_sn
  | 8 => pm_sc (sm_aload_n dX9_count_103 rfl) <| pm_sc (sm_gr dX9_count_104 fl_X9_9) <| pm_sc (sm_iconst dX9_count_107 rfl) <| pm_sc (sm_ia dX9_count_108) <| pm_sc (sm_ireturn (pc' := 0) dX9_count_109 rfl) <| pm_sn
  | 9 => pm_sc (sm_aload_n dX9_count_110 rfl) <| pm_sc (sm_ldc dX9_count_111 mw_1121) <| pm_sc (sm_cv dX9_count_113 mt_X9_finding mw_1125 lv_X9_83) <| pm_sc (sm_ireturn (pc' := 0) dX9_count_116 rfl) <| pm_sn
  | n + 10 => trivial
theorem ok_X9_count (K : pm_K) (l : Launch) (fb : Bool) (hfb : fb = K.2.2.2.2.2) : pm_MOk K l (pm_pg fb) pm_mt n_X9_count := ⟨by decide +kernel, by decide, pc_X9_count, rfl, sb_X9_count K l fb hfb⟩
def pc_X9_told (b : Nat) : Nat := ([0, 19, 25] : List Nat).getD b 0
set_option maxRecDepth 20000 in
theorem sb_X9_told (K : pm_K) (l : Launch) (fb : Bool) (hfb : fb = K.2.2.2.2.2) : ∀ b, pm_SimB K l pm_mt "NeedleLineModel" cX9_told 2 ((.some FieldType.int)) pc_X9_told (pc_X9_told b) (P_X9_told b)
  | 0 => pm_sc (sm_iload_n dX9_told_0 rfl) <| pm_sc (sm_iconst dX9_told_1 rfl) <| pm_sc (sm_bipush dX9_told_2 (by decide)) <| pm_sc (sm_cs dX9_told_4 mt_X9_isIn mw_1116 ls_X9_75) <| pm_sc (sm_if_eq dX9_told_7 rfl) <| pm_sc (sm_aload_n dX9_told_10 rfl) <| pm_sc (sm_gr dX9_told_11 fl_X9_16) <| pm_sc (sm_iload_n dX9_told_14 rfl) <| pm_sc (sm_ia dX9_told_15) <| pm_sc (sm_goto dX9_told_16 rfl) <| pm_sn
  | 1 => pm_sc (sm_aload_n dX9_told_19 rfl) <| pm_sc (sm_ldc dX9_told_20 mw_1121) <| pm_sc (sm_cv dX9_told_22 mt_X9_finding mw_1125 lv_X9_83) <| pm_sc (sm_fall rfl) <| pm_sn
  | 2 => pm_sc (sm_ireturn (pc' := 0) dX9_told_25 rfl) <| pm_sn
  | n + 3 => trivial
theorem ok_X9_told (K : pm_K) (l : Launch) (fb : Bool) (hfb : fb = K.2.2.2.2.2) : pm_MOk K l (pm_pg fb) pm_mt n_X9_told := ⟨by decide +kernel, by decide, pc_X9_told, rfl, sb_X9_told K l fb hfb⟩
def pc_J0_length_8abf5 (b : Nat) : Nat := ([0] : List Nat).getD b 0
set_option maxRecDepth 20000 in
theorem sb_J0_length_8abf5 (K : pm_K) (l : Launch) (fb : Bool) (hfb : fb = K.2.2.2.2.2) : ∀ b, pm_SimB K l pm_mt "java/lang/String" cJ0_length_8abf5 1 ((.some FieldType.int)) pc_J0_length_8abf5 (pc_J0_length_8abf5 b) (P_J0_length_8abf5 b)
  | 0 => pm_sc (sm_aload_n dJ0_length_8abf5_0 rfl) <| pm_sc (sm_tv dJ0_length_8abf5_1 mw_1491) <| pm_sc (sm_lb dJ0_length_8abf5_4) <| pm_sc (sm_aload_n dJ0_length_8abf5_5 rfl) <| pm_sc (sm_ct dJ0_length_8abf5_6 mt_J0_coder_7d493 mw_628 lv_J0_335) <| pm_sc (sm_ishr dJ0_length_8abf5_9) <| pm_sc (sm_ireturn (pc' := 0) dJ0_length_8abf5_10 rfl) <| pm_sn
  | n + 1 => trivial
theorem ok_J0_length_8abf5 (K : pm_K) (l : Launch) (fb : Bool) (hfb : fb = K.2.2.2.2.2) : pm_MOk K l (pm_pg fb) pm_mt n_J0_length_8abf5 := ⟨by decide +kernel, by decide, pc_J0_length_8abf5, rfl, sb_J0_length_8abf5 K l fb hfb⟩
def pc_J0_charAt_5068e (b : Nat) : Nat := ([0, 16] : List Nat).getD b 0
set_option maxRecDepth 20000 in
theorem sb_J0_charAt_5068e (K : pm_K) (l : Launch) (fb : Bool) (hfb : fb = K.2.2.2.2.2) : ∀ b, pm_SimB K l pm_mt "java/lang/String" cJ0_charAt_5068e 2 ((.some FieldType.char)) pc_J0_charAt_5068e (pc_J0_charAt_5068e b) (P_J0_charAt_5068e b)
  | 0 => pm_sc (sm_aload_n dJ0_charAt_5068e_0 rfl) <| pm_sc (sm_ct dJ0_charAt_5068e_1 mt_J0_isLatin1_aae02 mw_618 lv_J0_492) <| pm_sc (sm_if_eq dJ0_charAt_5068e_4 rfl) <| pm_sc (sm_aload_n dJ0_charAt_5068e_7 rfl) <| pm_sc (sm_tv dJ0_charAt_5068e_8 mw_1491) <| pm_sc (sm_iload_n dJ0_charAt_5068e_11 rfl) <| pm_sc (sm_cs dJ0_charAt_5068e_12 mt_J1_charAt_3b067 mw_1272 ls_J0_495) <| pm_sc (sm_creturn (pc' := 0) dJ0_charAt_5068e_15 rfl) <| pm_sn
  | 1 => pm_sc (sm_aload_n dJ0_charAt_5068e_16 rfl) <| pm_sc (sm_tv dJ0_charAt_5068e_17 mw_1491) <| pm_sc (sm_iload_n dJ0_charAt_5068e_20 rfl) <| pm_sc (sm_no (pc' := 0)) <| pm_sn
  | n + 2 => trivial
theorem ok_J0_charAt_5068e (K : pm_K) (l : Launch) (fb : Bool) (hfb : fb = K.2.2.2.2.2) : pm_MOk K l (pm_pg fb) pm_mt n_J0_charAt_5068e := ⟨by decide +kernel, by decide, pc_J0_charAt_5068e, rfl, sb_J0_charAt_5068e K l fb hfb⟩
def pc_J0_indexOf_0f7a4 (b : Nat) : Nat := ([0] : List Nat).getD b 0
set_option maxRecDepth 20000 in
theorem sb_J0_indexOf_0f7a4 (K : pm_K) (l : Launch) (fb : Bool) (hfb : fb = K.2.2.2.2.2) : ∀ b, pm_SimB K l pm_mt "java/lang/String" cJ0_indexOf_0f7a4 2 ((.some FieldType.int)) pc_J0_indexOf_0f7a4 (pc_J0_indexOf_0f7a4 b) (P_J0_indexOf_0f7a4 b)
  | 0 => pm_sc (sm_aload_n dJ0_indexOf_0f7a4_0 rfl) <| pm_sc (sm_iload_n dJ0_indexOf_0f7a4_1 rfl) <| pm_sc (sm_iconst dJ0_indexOf_0f7a4_2 rfl) <| pm_sc (sm_ct dJ0_indexOf_0f7a4_3 mt_J0_indexOf_7cf53 mw_614 lv_J0_633) <| pm_sc (sm_ireturn (pc' := 0) dJ0_indexOf_0f7a4_6 rfl) <| pm_sn
  | n + 1 => trivial
theorem ok_J0_indexOf_0f7a4 (K : pm_K) (l : Launch) (fb : Bool) (hfb : fb = K.2.2.2.2.2) : pm_MOk K l (pm_pg fb) pm_mt n_J0_indexOf_0f7a4 := ⟨by decide +kernel, by decide, pc_J0_indexOf_0f7a4, rfl, sb_J0_indexOf_0f7a4 K l fb hfb⟩
def pc_J0_indexOf_7cf53 (b : Nat) : Nat := ([0, 23, 36] : List Nat).getD b 0
set_option maxRecDepth 20000 in
theorem sb_J0_indexOf_7cf53 (K : pm_K) (l : Launch) (fb : Bool) (hfb : fb = K.2.2.2.2.2) : ∀ b, pm_SimB K l pm_mt "java/lang/String" cJ0_indexOf_7cf53 3 ((.some FieldType.int)) pc_J0_indexOf_7cf53 (pc_J0_indexOf_7cf53 b) (P_J0_indexOf_7cf53 b)
  | 0 => pm_sc (sm_aload_n dJ0_indexOf_7cf53_0 rfl) <| pm_sc (sm_ct dJ0_indexOf_7cf53_1 mt_J0_isLatin1_aae02 mw_618 lv_J0_492) <| pm_sc (sm_if_eq dJ0_indexOf_7cf53_4 rfl) <| pm_sc (sm_aload_n dJ0_indexOf_7cf53_7 rfl) <| pm_sc (sm_tv dJ0_indexOf_7cf53_8 mw_1491) <| pm_sc (sm_iload_n dJ0_indexOf_7cf53_11 rfl) <| pm_sc (sm_iload_n dJ0_indexOf_7cf53_12 rfl) <| pm_sc (sm_aload_n dJ0_indexOf_7cf53_13 rfl) <| pm_sc (sm_ct dJ0_indexOf_7cf53_14 mt_J0_length_8abf5 mw_624 lv_J0_505) <| pm_sc (sm_cs dJ0_indexOf_7cf53_17 mt_J1_indexOf_4cfef mw_631 ls_J0_637) <| pm_sc (sm_goto dJ0_indexOf_7cf53_20 rfl) <| pm_sn
  | 1 => pm_sc (sm_aload_n dJ0_indexOf_7cf53_23 rfl) <| pm_sc (sm_tv dJ0_indexOf_7cf53_24 mw_1491) <| pm_sc (sm_iload_n dJ0_indexOf_7cf53_27 rfl) <| pm_sc (sm_iload_n dJ0_indexOf_7cf53_28 rfl) <| pm_sc (sm_aload_n dJ0_indexOf_7cf53_29 rfl) <| pm_sc (sm_ct dJ0_indexOf_7cf53_30 mt_J0_length_8abf5 mw_624 lv_J0_505) <| pm_sc (sm_no (pc' := 0)) <| pm_sn
  | 2 => pm_sc (sm_ireturn (pc' := 0) dJ0_indexOf_7cf53_36 rfl) <| pm_sn
  | n + 3 => trivial
theorem ok_J0_indexOf_7cf53 (K : pm_K) (l : Launch) (fb : Bool) (hfb : fb = K.2.2.2.2.2) : pm_MOk K l (pm_pg fb) pm_mt n_J0_indexOf_7cf53 := ⟨by decide +kernel, by decide, pc_J0_indexOf_7cf53, rfl, sb_J0_indexOf_7cf53 K l fb hfb⟩
def pc_J0_coder_7d493 (b : Nat) : Nat := ([0, 13, 14] : List Nat).getD b 0
set_option maxRecDepth 20000 in
theorem sb_J0_coder_7d493 (K : pm_K) (l : Launch) (fb : Bool) (hfb : fb = K.2.2.2.2.2) : ∀ b, pm_SimB K l pm_mt "java/lang/String" cJ0_coder_7d493 1 ((.some FieldType.byte)) pc_J0_coder_7d493 (pc_J0_coder_7d493 b) (P_J0_coder_7d493 b)
  | 0 => pm_sc (sm_cps dJ0_coder_7d493_0 mw_619) <| pm_sc (sm_if_eq dJ0_coder_7d493_3 rfl) <| pm_sc (sm_aload_n dJ0_coder_7d493_6 rfl) <| pm_sc (sm_tc dJ0_coder_7d493_7 mw_1490) <| pm_sc (sm_goto dJ0_coder_7d493_10 rfl) <| pm_sn
  | 1 => pm_sc (sm_iconst dJ0_coder_7d493_13 rfl) <| pm_sc (sm_fall rfl) <| pm_sn
  | 2 => pm_sc (sm_breturn (pc' := 0) dJ0_coder_7d493_14 rfl) <| pm_sn
  | n + 3 => trivial
theorem ok_J0_coder_7d493 (K : pm_K) (l : Launch) (fb : Bool) (hfb : fb = K.2.2.2.2.2) : pm_MOk K l (pm_pg fb) pm_mt n_J0_coder_7d493 := ⟨by decide +kernel, by decide, pc_J0_coder_7d493, rfl, sb_J0_coder_7d493 K l fb hfb⟩
def pc_J0_isLatin1_aae02 (b : Nat) : Nat := ([0, 17, 18] : List Nat).getD b 0
set_option maxRecDepth 20000 in
theorem sb_J0_isLatin1_aae02 (K : pm_K) (l : Launch) (fb : Bool) (hfb : fb = K.2.2.2.2.2) : ∀ b, pm_SimB K l pm_mt "java/lang/String" cJ0_isLatin1_aae02 1 ((.some FieldType.boolean)) pc_J0_isLatin1_aae02 (pc_J0_isLatin1_aae02 b) (P_J0_isLatin1_aae02 b)
  | 0 => pm_sc (sm_cps dJ0_isLatin1_aae02_0 mw_619) <| pm_sc (sm_if_eq dJ0_isLatin1_aae02_3 rfl) <| pm_sc (sm_aload_n dJ0_isLatin1_aae02_6 rfl) <| pm_sc (sm_tc dJ0_isLatin1_aae02_7 mw_1490) <| pm_sc (sm_if_ne dJ0_isLatin1_aae02_10 rfl) <| pm_sc (sm_iconst dJ0_isLatin1_aae02_13 rfl) <| pm_sc (sm_goto dJ0_isLatin1_aae02_14 rfl) <| pm_sn
  | 1 => pm_sc (sm_iconst dJ0_isLatin1_aae02_17 rfl) <| pm_sc (sm_fall rfl) <| pm_sn
  | 2 => pm_sc (sm_zreturn (pc' := 0) dJ0_isLatin1_aae02_18 rfl) <| pm_sn
  | n + 3 => trivial
theorem ok_J0_isLatin1_aae02 (K : pm_K) (l : Launch) (fb : Bool) (hfb : fb = K.2.2.2.2.2) : pm_MOk K l (pm_pg fb) pm_mt n_J0_isLatin1_aae02 := ⟨by decide +kernel, by decide, pc_J0_isLatin1_aae02, rfl, sb_J0_isLatin1_aae02 K l fb hfb⟩
def pc_J0_checkIndex_df160 (b : Nat) : Nat := ([0] : List Nat).getD b 0
set_option maxRecDepth 20000 in
theorem sb_J0_checkIndex_df160 (K : pm_K) (l : Launch) (fb : Bool) (hfb : fb = K.2.2.2.2.2) : ∀ b, pm_SimB K l pm_mt "java/lang/String" cJ0_checkIndex_df160 2 ((.none : Option FieldType)) pc_J0_checkIndex_df160 (pc_J0_checkIndex_df160 b) (P_J0_checkIndex_df160 fb b)
  | 0 => pm_sc (sm_iload_n dJ0_checkIndex_df160_0 rfl) <| pm_sc (sm_iload_n dJ0_checkIndex_df160_1 rfl) <| pm_sc (sm_fm dJ0_checkIndex_df160_2 hfb mw_658) <| pm_sc (sm_cs dJ0_checkIndex_df160_5 mt_J3_checkIndex_8e157 mw_1278 ls_J0_1059) <| pm_sc (sm_pop dJ0_checkIndex_df160_8) <| pm_sc (sm_return (pc' := 0) dJ0_checkIndex_df160_9 rfl) <| pm_sn
  | n + 1 => trivial
theorem ok_J0_checkIndex_df160 (K : pm_K) (l : Launch) (fb : Bool) (hfb : fb = K.2.2.2.2.2) : pm_MOk K l (pm_pg fb) pm_mt n_J0_checkIndex_df160 := ⟨by decide +kernel, by decide, pc_J0_checkIndex_df160, rfl, sb_J0_checkIndex_df160 K l fb hfb⟩
def pc_J1_charAt_3b067 (b : Nat) : Nat := ([0] : List Nat).getD b 0
set_option maxRecDepth 20000 in
theorem sb_J1_charAt_3b067 (K : pm_K) (l : Launch) (fb : Bool) (hfb : fb = K.2.2.2.2.2) : ∀ b, pm_SimB K l pm_mt "java/lang/StringLatin1" cJ1_charAt_3b067 2 ((.some FieldType.char)) pc_J1_charAt_3b067 (pc_J1_charAt_3b067 b) (P_J1_charAt_3b067 b)
  | 0 => pm_sc (sm_iload_n dJ1_charAt_3b067_0 rfl) <| pm_sc (sm_aload_n dJ1_charAt_3b067_1 rfl) <| pm_sc (sm_lb dJ1_charAt_3b067_2) <| pm_sc (sm_cs dJ1_charAt_3b067_3 mt_J0_checkIndex_df160 mw_1275 ls_J1_9) <| pm_sc (sm_aload_n dJ1_charAt_3b067_6 rfl) <| pm_sc (sm_iload_n dJ1_charAt_3b067_7 rfl) <| pm_sc (sm_ba dJ1_charAt_3b067_8) <| pm_sc (sm_sipush dJ1_charAt_3b067_9 (by decide)) <| pm_sc (sm_iand dJ1_charAt_3b067_12) <| pm_sc (sm_i2c dJ1_charAt_3b067_13) <| pm_sc (sm_creturn (pc' := 0) dJ1_charAt_3b067_14 rfl) <| pm_sn
  | n + 1 => trivial
theorem ok_J1_charAt_3b067 (K : pm_K) (l : Launch) (fb : Bool) (hfb : fb = K.2.2.2.2.2) : pm_MOk K l (pm_pg fb) pm_mt n_J1_charAt_3b067 := ⟨by decide +kernel, by decide, pc_J1_charAt_3b067, rfl, sb_J1_charAt_3b067 K l fb hfb⟩
def pc_J1_canEncode_9a6ad (b : Nat) : Nat := ([0, 15, 16] : List Nat).getD b 0
set_option maxRecDepth 20000 in
theorem sb_J1_canEncode_9a6ad (K : pm_K) (l : Launch) (fb : Bool) (hfb : fb = K.2.2.2.2.2) : ∀ b, pm_SimB K l pm_mt "java/lang/StringLatin1" cJ1_canEncode_9a6ad 1 ((.some FieldType.boolean)) pc_J1_canEncode_9a6ad (pc_J1_canEncode_9a6ad b) (P_J1_canEncode_9a6ad b)
  | 0 => pm_sc (sm_iload_n dJ1_canEncode_9a6ad_0 rfl) <| pm_sc (sm_if_lt dJ1_canEncode_9a6ad_1 rfl) <| pm_sc (sm_iload_n dJ1_canEncode_9a6ad_4 rfl) <| pm_sc (sm_sipush dJ1_canEncode_9a6ad_5 (by decide)) <| pm_sc (sm_icmp_gt dJ1_canEncode_9a6ad_8 rfl) <| pm_sc (sm_iconst dJ1_canEncode_9a6ad_11 rfl) <| pm_sc (sm_goto dJ1_canEncode_9a6ad_12 rfl) <| pm_sn
  | 1 => pm_sc (sm_iconst dJ1_canEncode_9a6ad_15 rfl) <| pm_sc (sm_fall rfl) <| pm_sn
  | 2 => pm_sc (sm_zreturn (pc' := 0) dJ1_canEncode_9a6ad_16 rfl) <| pm_sn
  | n + 3 => trivial
theorem ok_J1_canEncode_9a6ad (K : pm_K) (l : Launch) (fb : Bool) (hfb : fb = K.2.2.2.2.2) : pm_MOk K l (pm_pg fb) pm_mt n_J1_canEncode_9a6ad := ⟨by decide +kernel, by decide, pc_J1_canEncode_9a6ad, rfl, sb_J1_canEncode_9a6ad K l fb hfb⟩
def pc_J1_indexOf_4cfef (b : Nat) : Nat := ([0, 9, 29] : List Nat).getD b 0
set_option maxRecDepth 20000 in
theorem sb_J1_indexOf_4cfef (K : pm_K) (l : Launch) (fb : Bool) (hfb : fb = K.2.2.2.2.2) : ∀ b, pm_SimB K l pm_mt "java/lang/StringLatin1" cJ1_indexOf_4cfef 4 ((.some FieldType.int)) pc_J1_indexOf_4cfef (pc_J1_indexOf_4cfef b) (P_J1_indexOf_4cfef b)
  | 0 => pm_sc (sm_iload_n dJ1_indexOf_4cfef_0 rfl) <| pm_sc (sm_cs dJ1_indexOf_4cfef_1 mt_J1_canEncode_9a6ad mw_634 ls_J1_88) <| pm_sc (sm_if_ne dJ1_indexOf_4cfef_4 rfl) <| pm_sc (sm_iconst dJ1_indexOf_4cfef_7 rfl) <| pm_sc (sm_ireturn (pc' := 0) dJ1_indexOf_4cfef_8 rfl) <| pm_sn
  | 1 => pm_sc (sm_iload_n dJ1_indexOf_4cfef_9 rfl) <| pm_sc (sm_iconst dJ1_indexOf_4cfef_10 rfl) <| pm_sc (sm_mmax dJ1_indexOf_4cfef_11 mw_635 mw_105 mw_64 mw_106) <| pm_sc (sm_istore_n dJ1_indexOf_4cfef_14 rfl) <| pm_sc (sm_iload_n dJ1_indexOf_4cfef_15 rfl) <| pm_sc (sm_aload_n dJ1_indexOf_4cfef_16 rfl) <| pm_sc (sm_lb dJ1_indexOf_4cfef_17) <| pm_sc (sm_mmin dJ1_indexOf_4cfef_18 mw_636 mw_102 mw_64 mw_103) <| pm_sc (sm_istore_n dJ1_indexOf_4cfef_21 rfl) <| pm_sc (sm_iload_n dJ1_indexOf_4cfef_22 rfl) <| pm_sc (sm_iload_n dJ1_indexOf_4cfef_23 rfl) <| pm_sc (sm_icmp_lt dJ1_indexOf_4cfef_24 rfl) <| pm_sc (sm_iconst dJ1_indexOf_4cfef_27 rfl) <| pm_sc (sm_ireturn (pc' := 0) dJ1_indexOf_4cfef_28 rfl) <| pm_sn
  | 2 => pm_sc (sm_aload_n dJ1_indexOf_4cfef_29 rfl) <| pm_sc (sm_iload_n dJ1_indexOf_4cfef_30 rfl) <| pm_sc (sm_iload_n dJ1_indexOf_4cfef_31 rfl) <| pm_sc (sm_iload_n dJ1_indexOf_4cfef_32 rfl) <| pm_sc (sm_cs dJ1_indexOf_4cfef_33 mt_J1_indexOfChar_4cfef mw_639 ls_J1_95) <| pm_sc (sm_ireturn (pc' := 0) dJ1_indexOf_4cfef_36 rfl) <| pm_sn
  | n + 3 => trivial
theorem ok_J1_indexOf_4cfef (K : pm_K) (l : Launch) (fb : Bool) (hfb : fb = K.2.2.2.2.2) : pm_MOk K l (pm_pg fb) pm_mt n_J1_indexOf_4cfef := ⟨by decide +kernel, by decide, pc_J1_indexOf_4cfef, rfl, sb_J1_indexOf_4cfef K l fb hfb⟩
def pc_J1_indexOfChar_4cfef (b : Nat) : Nat := ([0, 7, 25, 31] : List Nat).getD b 0
set_option maxRecDepth 20000 in
theorem sb_J1_indexOfChar_4cfef (K : pm_K) (l : Launch) (fb : Bool) (hfb : fb = K.2.2.2.2.2) : ∀ b, pm_SimB K l pm_mt "java/lang/StringLatin1" cJ1_indexOfChar_4cfef 6 ((.some FieldType.int)) pc_J1_indexOfChar_4cfef (pc_J1_indexOfChar_4cfef b) (P_J1_indexOfChar_4cfef b)
  | 0 => pm_sc (sm_iload_n dJ1_indexOfChar_4cfef_0 rfl) <| pm_sc (sm_i2b dJ1_indexOfChar_4cfef_1) <| pm_sc (sm_istore dJ1_indexOfChar_4cfef_2) <| pm_sc (sm_iload_n dJ1_indexOfChar_4cfef_4 rfl) <| pm_sc (sm_istore dJ1_indexOfChar_4cfef_5) <| pm_sc (sm_fall rfl) <| pm_sn
  | 1 => pm_sc (sm_iload dJ1_indexOfChar_4cfef_7) <| pm_sc (sm_iload_n dJ1_indexOfChar_4cfef_9 rfl) <| pm_sc (sm_icmp_ge dJ1_indexOfChar_4cfef_10 rfl) <| pm_sc (sm_aload_n dJ1_indexOfChar_4cfef_13 rfl) <| pm_sc (sm_iload dJ1_indexOfChar_4cfef_14) <| pm_sc (sm_ba dJ1_indexOfChar_4cfef_16) <| pm_sc (sm_iload dJ1_indexOfChar_4cfef_17) <| pm_sc (sm_icmp_ne dJ1_indexOfChar_4cfef_19 rfl) <| pm_sc (sm_iload dJ1_indexOfChar_4cfef_22) <| pm_sc (sm_ireturn (pc' := 0) dJ1_indexOfChar_4cfef_24 rfl) <| pm_sn
  | 2 => pm_sc (sm_iinc dJ1_indexOfChar_4cfef_25 rfl) <| pm_sc (sm_goto dJ1_indexOfChar_4cfef_28 rfl) <| pm_sn
  | 3 => pm_sc (sm_iconst dJ1_indexOfChar_4cfef_31 rfl) <| pm_sc (sm_ireturn (pc' := 0) dJ1_indexOfChar_4cfef_32 rfl) <| pm_sn
  | n + 4 => trivial
theorem ok_J1_indexOfChar_4cfef (K : pm_K) (l : Launch) (fb : Bool) (hfb : fb = K.2.2.2.2.2) : pm_MOk K l (pm_pg fb) pm_mt n_J1_indexOfChar_4cfef := ⟨by decide +kernel, by decide, pc_J1_indexOfChar_4cfef, rfl, sb_J1_indexOfChar_4cfef K l fb hfb⟩
def pc_J3_checkIndex_8e157 (b : Nat) : Nat := ([0, 9, 16] : List Nat).getD b 0
set_option maxRecDepth 20000 in
theorem sb_J3_checkIndex_8e157 (K : pm_K) (l : Launch) (fb : Bool) (hfb : fb = K.2.2.2.2.2) : ∀ b, pm_SimB K l pm_mt "jdk/internal/util/Preconditions" cJ3_checkIndex_8e157 3 ((.some FieldType.int)) pc_J3_checkIndex_8e157 (pc_J3_checkIndex_8e157 b) (P_J3_checkIndex_8e157 b)
  | 0 => pm_sc (sm_iload_n dJ3_checkIndex_8e157_0 rfl) <| pm_sc (sm_if_lt dJ3_checkIndex_8e157_1 rfl) <| pm_sc (sm_iload_n dJ3_checkIndex_8e157_4 rfl) <| pm_sc (sm_iload_n dJ3_checkIndex_8e157_5 rfl) <| pm_sc (sm_icmp_lt dJ3_checkIndex_8e157_6 rfl) <| pm_sc (sm_fall rfl) <| pm_sn
  | 1 => pm_sc (sm_aload_n dJ3_checkIndex_8e157_9 rfl) <| pm_sc (sm_iload_n dJ3_checkIndex_8e157_10 rfl) <| pm_sc (sm_iload_n dJ3_checkIndex_8e157_11 rfl) <| pm_sc (sm_no (pc' := 0)) <| pm_sn
  | 2 => pm_sc (sm_iload_n dJ3_checkIndex_8e157_16 rfl) <| pm_sc (sm_ireturn (pc' := 0) dJ3_checkIndex_8e157_17 rfl) <| pm_sn
  | n + 3 => trivial
theorem ok_J3_checkIndex_8e157 (K : pm_K) (l : Launch) (fb : Bool) (hfb : fb = K.2.2.2.2.2) : pm_MOk K l (pm_pg fb) pm_mt n_J3_checkIndex_8e157 := ⟨by decide +kernel, by decide, pc_J3_checkIndex_8e157, rfl, sb_J3_checkIndex_8e157 K l fb hfb⟩
theorem okc_0 (K : pm_K) (l : Launch) (fb : Bool) (hfb : fb = K.2.2.2.2.2) : ∀ r, r < 20 → pm_MOk K l (pm_pg fb) pm_mt (0 + r)
  | 0, _ => ok_X0_isTold K l fb hfb
  | 1, _ => ok_X0_clear K l fb hfb
  | 2, _ => ok_X0_add K l fb hfb
  | 3, _ => ok_X0_take K l fb hfb
  | 4, _ => ok_X0_workedOut K l fb hfb
  | 5, _ => ok_X0_named K l fb hfb
  | 6, _ => ok_X0_joined K l fb hfb
  | 7, _ => ok_X0_truth K l fb hfb
  | 8, _ => ok_X1_faultOf K l fb hfb
  | 9, _ => ok_X1_readT K l fb hfb
  | 10, _ => ok_X1_readA K l fb hfb
  | 11, _ => ok_X1_readB K l fb hfb
  | 12, _ => ok_X1_readS K l fb hfb
  | 13, _ => ok_X1_readP K l fb hfb
  | 14, _ => ok_X1_readQ K l fb hfb
  | 15, _ => ok_X1_readNumber K l fb hfb
  | 16, _ => ok_X1_nameOf K l fb hfb
  | 17, _ => ok_X1_next K l fb hfb
  | 18, _ => ok_X1_isNext K l fb hfb
  | 19, _ => ok_X1_isDigit K l fb hfb
  | n + 20, h => absurd h (by omega)
theorem okc_1 (K : pm_K) (l : Launch) (fb : Bool) (hfb : fb = K.2.2.2.2.2) : ∀ r, r < 20 → pm_MOk K l (pm_pg fb) pm_mt (20 + r)
  | 0, _ => ok_X2_isMissing K l fb hfb
  | 1, _ => ok_X2_lay K l fb hfb
  | 2, _ => ok_X2_stand K l fb hfb
  | 3, _ => ok_X2_number K l fb hfb
  | 4, _ => ok_X2_write K l fb hfb
  | 5, _ => ok_X2_lowest K l fb hfb
  | 6, _ => ok_X2_step K l fb hfb
  | 7, _ => ok_X2_isEven K l fb hfb
  | 8, _ => ok_X2_evenSteps K l fb hfb
  | 9, _ => ok_X2_longestEvenRow K l fb hfb
  | 10, _ => ok_X3_isOf K l fb hfb
  | 11, _ => ok_X3_leansAt K l fb hfb
  | 12, _ => ok_X3_pushesAt K l fb hfb
  | 13, _ => ok_X3_shortensAt K l fb hfb
  | 14, _ => ok_X3_isFirst K l fb hfb
  | 15, _ => ok_X3_spans K l fb hfb
  | 16, _ => ok_X3_above K l fb hfb
  | 17, _ => ok_X4_speak K l fb hfb
  | 18, _ => ok_X4_isParted K l fb hfb
  | 19, _ => ok_X4_sound K l fb hfb
  | n + 20, h => absurd h (by omega)
theorem okc_2 (K : pm_K) (l : Launch) (fb : Bool) (hfb : fb = K.2.2.2.2.2) : ∀ r, r < 20 → pm_MOk K l (pm_pg fb) pm_mt (40 + r)
  | 0, _ => ok_X4_workedOut K l fb hfb
  | 1, _ => ok_X4_mended K l fb hfb
  | 2, _ => ok_X4_bodyOf K l fb hfb
  | 3, _ => ok_X5_draw K l fb hfb
  | 4, _ => ok_X5_take K l fb hfb
  | 5, _ => ok_X6_used K l fb hfb
  | 6, _ => ok_X6_use K l fb hfb
  | 7, _ => ok_X6_has K l fb hfb
  | 8, _ => ok_X6_isFull K l fb hfb
  | 9, _ => ok_X6_add K l fb hfb
  | 10, _ => ok_X6_at K l fb hfb
  | 11, _ => ok_X6_set K l fb hfb
  | 12, _ => ok_X6_howMany K l fb hfb
  | 13, _ => ok_X6_take K l fb hfb
  | 14, _ => ok_X6_holds K l fb hfb
  | 15, _ => ok_X7_go K l fb hfb
  | 16, _ => ok_X7_addUpSlips K l fb hfb
  | 17, _ => ok_X7_sideOf K l fb hfb
  | 18, _ => ok_X7_alongOf K l fb hfb
  | 19, _ => ok_X7_headingIn K l fb hfb
  | n + 20, h => absurd h (by omega)
theorem okc_3 (K : pm_K) (l : Launch) (fb : Bool) (hfb : fb = K.2.2.2.2.2) : ∀ r, r < 20 → pm_MOk K l (pm_pg fb) pm_mt (60 + r)
  | 0, _ => ok_X7_pushesIn K l fb hfb
  | 1, _ => ok_X7_shortensIn K l fb hfb
  | 2, _ => ok_X7_missSide K l fb hfb
  | 3, _ => ok_X7_missAlong K l fb hfb
  | 4, _ => ok_X7_wholeMiss K l fb hfb
  | 5, _ => ok_X7_distanceOf K l fb hfb
  | 6, _ => ok_X7_offWithChecks K l fb hfb
  | 7, _ => ok_X7_bestCheck K l fb hfb
  | 8, _ => ok_X7_bestPairOfChecks K l fb hfb
  | 9, _ => ok_X7_sumOfSides K l fb hfb
  | 10, _ => ok_X7_sumOfSquares K l fb hfb
  | 11, _ => ok_X7_offStraight K l fb hfb
  | 12, _ => ok_X8_miles K l fb hfb
  | 13, _ => ok_X8_mile K l fb hfb
  | 14, _ => ok_X8_mileIs K l fb hfb
  | 15, _ => ok_X8_stone K l fb hfb
  | 16, _ => ok_X8_slip K l fb hfb
  | 17, _ => ok_X8_slipIs K l fb hfb
  | 18, _ => ok_X8_as K l fb hfb
  | 19, _ => ok_X8_turn K l fb hfb
  | n + 20, h => absurd h (by omega)
theorem okc_4 (K : pm_K) (l : Launch) (fb : Bool) (hfb : fb = K.2.2.2.2.2) : ∀ r, r < 20 → pm_MOk K l (pm_pg fb) pm_mt (80 + r)
  | 0, _ => ok_X8_does K l fb hfb
  | 1, _ => ok_X8_feed K l fb hfb
  | 2, _ => ok_X8_text K l fb hfb
  | 3, _ => ok_X8_untell K l fb hfb
  | 4, _ => ok_X8_post K l fb hfb
  | 5, _ => ok_X8_miss K l fb hfb
  | 6, _ => ok_X8_wronged K l fb hfb
  | 7, _ => ok_X8_which K l fb hfb
  | 8, _ => ok_X8_checks K l fb hfb
  | 9, _ => ok_X8_hours K l fb hfb
  | 10, _ => ok_X8_within K l fb hfb
  | 11, _ => ok_X8_leaning K l fb hfb
  | 12, _ => ok_X8_straight K l fb hfb
  | 13, _ => ok_X8_offIt K l fb hfb
  | 14, _ => ok_X8_nearest K l fb hfb
  | 15, _ => ok_X8_crosses K l fb hfb
  | 16, _ => ok_X8_tree K l fb hfb
  | 17, _ => ok_X8_treeIs K l fb hfb
  | 18, _ => ok_X8_dig K l fb hfb
  | 19, _ => ok_X8_sorts K l fb hfb
  | n + 20, h => absurd h (by omega)
theorem okc_5 (K : pm_K) (l : Launch) (fb : Bool) (hfb : fb = K.2.2.2.2.2) : ∀ r, r < 20 → pm_MOk K l (pm_pg fb) pm_mt (100 + r)
  | 0, _ => ok_X8_waver K l fb hfb
  | 1, _ => ok_X8_still K l fb hfb
  | 2, _ => ok_X8_seed K l fb hfb
  | 3, _ => ok_X8_voice K l fb hfb
  | 4, _ => ok_X8_body K l fb hfb
  | 5, _ => ok_X8_sheet K l fb hfb
  | 6, _ => ok_X8_put K l fb hfb
  | 7, _ => ok_X8_move K l fb hfb
  | 8, _ => ok_X8_judge K l fb hfb
  | 9, _ => ok_X8_even K l fb hfb
  | 10, _ => ok_X8_image K l fb hfb
  | 11, _ => ok_X8_restore K l fb hfb
  | 12, _ => ok_X8_tell K l fb hfb
  | 13, _ => ok_X8_check K l fb hfb
  | 14, _ => ok_X8_count K l fb hfb
  | 15, _ => ok_X8_told K l fb hfb
  | 16, _ => ok_X8_fail K l fb hfb
  | 17, _ => ok_X8_lawOf K l fb hfb
  | 18, _ => ok_X8_sheetOf K l fb hfb
  | 19, _ => ok_X8_movingOf K l fb hfb
  | n + 20, h => absurd h (by omega)
theorem okc_6 (K : pm_K) (l : Launch) (fb : Bool) (hfb : fb = K.2.2.2.2.2) : ∀ r, r < 20 → pm_MOk K l (pm_pg fb) pm_mt (120 + r)
  | 0, _ => ok_X8_movedBy K l fb hfb
  | 1, _ => ok_X8_isMovedBy K l fb hfb
  | 2, _ => ok_X8_hoursOf K l fb hfb
  | 3, _ => ok_X8_held K l fb hfb
  | 4, _ => ok_X8_isIn K l fb hfb
  | 5, _ => ok_X8_greatestCommon K l fb hfb
  | 6, _ => ok_X9_finding K l fb hfb
  | 7, _ => ok_X9_isIn K l fb hfb
  | 8, _ => ok_X9_held K l fb hfb
  | 9, _ => ok_X9_copy K l fb hfb
  | 10, _ => ok_X9_become K l fb hfb
  | 11, _ => ok_X9_is K l fb hfb
  | 12, _ => ok_X9_isMile K l fb hfb
  | 13, _ => ok_X9_mileOf K l fb hfb
  | 14, _ => ok_X9_miles K l fb hfb
  | 15, _ => ok_X9_mile K l fb hfb
  | 16, _ => ok_X9_stone K l fb hfb
  | 17, _ => ok_X9_slipOf K l fb hfb
  | 18, _ => ok_X9_slip K l fb hfb
  | 19, _ => ok_X9_slipIs K l fb hfb
  | n + 20, h => absurd h (by omega)
theorem okc_7 (K : pm_K) (l : Launch) (fb : Bool) (hfb : fb = K.2.2.2.2.2) : ∀ r, r < 20 → pm_MOk K l (pm_pg fb) pm_mt (140 + r)
  | 0, _ => ok_X9_above K l fb hfb
  | 1, _ => ok_X9_as K l fb hfb
  | 2, _ => ok_X9_turn K l fb hfb
  | 3, _ => ok_X9_doesAt K l fb hfb
  | 4, _ => ok_X9_does K l fb hfb
  | 5, _ => ok_X9_allThat K l fb hfb
  | 6, _ => ok_X9_goes K l fb hfb
  | 7, _ => ok_X9_missIn K l fb hfb
  | 8, _ => ok_X9_mileIs K l fb hfb
  | 9, _ => ok_X9_feed K l fb hfb
  | 10, _ => ok_X9_here K l fb hfb
  | 11, _ => ok_X9_takes K l fb hfb
  | 12, _ => ok_X9_codes K l fb hfb
  | 13, _ => ok_X9_either K l fb hfb
  | 14, _ => ok_X9_both K l fb hfb
  | 15, _ => ok_X9_compared K l fb hfb
  | 16, _ => ok_X9_sum K l fb hfb
  | 17, _ => ok_X9_product K l fb hfb
  | 18, _ => ok_X9_nameOf K l fb hfb
  | 19, _ => ok_X9_one K l fb hfb
  | n + 20, h => absurd h (by omega)
theorem okc_8 (K : pm_K) (l : Launch) (fb : Bool) (hfb : fb = K.2.2.2.2.2) : ∀ r, r < 20 → pm_MOk K l (pm_pg fb) pm_mt (160 + r)
  | 0, _ => ok_X9_text K l fb hfb
  | 1, _ => ok_X9_untell K l fb hfb
  | 2, _ => ok_X9_done K l fb hfb
  | 3, _ => ok_X9_worked K l fb hfb
  | 4, _ => ok_X9_hasText K l fb hfb
  | 5, _ => ok_X9_given K l fb hfb
  | 6, _ => ok_X9_treesAt K l fb hfb
  | 7, _ => ok_X9_movingOf K l fb hfb
  | 8, _ => ok_X9_hoursOf K l fb hfb
  | 9, _ => ok_X9_post K l fb hfb
  | 10, _ => ok_X9_miss K l fb hfb
  | 11, _ => ok_X9_wronged K l fb hfb
  | 12, _ => ok_X9_which K l fb hfb
  | 13, _ => ok_X9_offBy K l fb hfb
  | 14, _ => ok_X9_checks K l fb hfb
  | 15, _ => ok_X9_hours K l fb hfb
  | 16, _ => ok_X9_within K l fb hfb
  | 17, _ => ok_X9_leaning K l fb hfb
  | 18, _ => ok_X9_divisor K l fb hfb
  | 19, _ => ok_X9_findStraight K l fb hfb
  | n + 20, h => absurd h (by omega)
theorem okc_9 (K : pm_K) (l : Launch) (fb : Bool) (hfb : fb = K.2.2.2.2.2) : ∀ r, r < 20 → pm_MOk K l (pm_pg fb) pm_mt (180 + r)
  | 0, _ => ok_X9_straight K l fb hfb
  | 1, _ => ok_X9_offIt K l fb hfb
  | 2, _ => ok_X9_nearest K l fb hfb
  | 3, _ => ok_X9_crosses K l fb hfb
  | 4, _ => ok_X9_treeOf K l fb hfb
  | 5, _ => ok_X9_tree K l fb hfb
  | 6, _ => ok_X9_treeIs K l fb hfb
  | 7, _ => ok_X9_dig K l fb hfb
  | 8, _ => ok_X9_sorts K l fb hfb
  | 9, _ => ok_X9_drawn K l fb hfb
  | 10, _ => ok_X9_waver K l fb hfb
  | 11, _ => ok_X9_still K l fb hfb
  | 12, _ => ok_X9_seed K l fb hfb
  | 13, _ => ok_X9_began K l fb hfb
  | 14, _ => ok_X9_hasOwn K l fb hfb
  | 15, _ => ok_X9_voiced K l fb hfb
  | 16, _ => ok_X9_bodyFrom K l fb hfb
  | 17, _ => ok_X9_body K l fb hfb
  | 18, _ => ok_X9_voice K l fb hfb
  | 19, _ => ok_X9_body_ K l fb hfb
  | n + 20, h => absurd h (by omega)
theorem okc_10 (K : pm_K) (l : Launch) (fb : Bool) (hfb : fb = K.2.2.2.2.2) : ∀ r, r < 20 → pm_MOk K l (pm_pg fb) pm_mt (200 + r)
  | 0, _ => ok_X9_isSheet K l fb hfb
  | 1, _ => ok_X9_sheet K l fb hfb
  | 2, _ => ok_X9_put K l fb hfb
  | 3, _ => ok_X9_move K l fb hfb
  | 4, _ => ok_X9_judge K l fb hfb
  | 5, _ => ok_X9_even K l fb hfb
  | 6, _ => ok_X9_image K l fb hfb
  | 7, _ => ok_X9_restore K l fb hfb
  | 8, _ => ok_X9_tell K l fb hfb
  | 9, _ => ok_X9_check K l fb hfb
  | 10, _ => ok_X9_count K l fb hfb
  | 11, _ => ok_X9_told K l fb hfb
  | 12, _ => ok_J0_length_8abf5 K l fb hfb
  | 13, _ => ok_J0_charAt_5068e K l fb hfb
  | 14, _ => ok_J0_indexOf_0f7a4 K l fb hfb
  | 15, _ => ok_J0_indexOf_7cf53 K l fb hfb
  | 16, _ => ok_J0_coder_7d493 K l fb hfb
  | 17, _ => ok_J0_isLatin1_aae02 K l fb hfb
  | 18, _ => ok_J0_checkIndex_df160 K l fb hfb
  | 19, _ => ok_J1_charAt_3b067 K l fb hfb
  | n + 20, h => absurd h (by omega)
theorem okc_11 (K : pm_K) (l : Launch) (fb : Bool) (hfb : fb = K.2.2.2.2.2) : ∀ r, r < 4 → pm_MOk K l (pm_pg fb) pm_mt (220 + r)
  | 0, _ => ok_J1_canEncode_9a6ad K l fb hfb
  | 1, _ => ok_J1_indexOf_4cfef K l fb hfb
  | 2, _ => ok_J1_indexOfChar_4cfef K l fb hfb
  | 3, _ => ok_J3_checkIndex_8e157 K l fb hfb
  | n + 4, h => absurd h (by omega)
theorem pm_ok (K : pm_K) (l : Launch) (fb : Bool) (hfb : fb = K.2.2.2.2.2) : ∀ y, (∀ b, pm_pg fb y b = []) ∨ pm_MOk K l (pm_pg fb) pm_mt y := by
  intro y
  by_cases hy : y < 224
  · right
    by_cases h0 : y < 20
    · have h := okc_0 K l fb hfb (y - 0) (by omega)
      rwa [show 0 + (y - 0) = y by omega] at h
    by_cases h1 : y < 40
    · have h := okc_1 K l fb hfb (y - 20) (by omega)
      rwa [show 20 + (y - 20) = y by omega] at h
    by_cases h2 : y < 60
    · have h := okc_2 K l fb hfb (y - 40) (by omega)
      rwa [show 40 + (y - 40) = y by omega] at h
    by_cases h3 : y < 80
    · have h := okc_3 K l fb hfb (y - 60) (by omega)
      rwa [show 60 + (y - 60) = y by omega] at h
    by_cases h4 : y < 100
    · have h := okc_4 K l fb hfb (y - 80) (by omega)
      rwa [show 80 + (y - 80) = y by omega] at h
    by_cases h5 : y < 120
    · have h := okc_5 K l fb hfb (y - 100) (by omega)
      rwa [show 100 + (y - 100) = y by omega] at h
    by_cases h6 : y < 140
    · have h := okc_6 K l fb hfb (y - 120) (by omega)
      rwa [show 120 + (y - 120) = y by omega] at h
    by_cases h7 : y < 160
    · have h := okc_7 K l fb hfb (y - 140) (by omega)
      rwa [show 140 + (y - 140) = y by omega] at h
    by_cases h8 : y < 180
    · have h := okc_8 K l fb hfb (y - 160) (by omega)
      rwa [show 160 + (y - 160) = y by omega] at h
    by_cases h9 : y < 200
    · have h := okc_9 K l fb hfb (y - 180) (by omega)
      rwa [show 180 + (y - 180) = y by omega] at h
    by_cases h10 : y < 220
    · have h := okc_10 K l fb hfb (y - 200) (by omega)
      rwa [show 200 + (y - 200) = y by omega] at h
    by_cases h11 : y < 224
    · have h := okc_11 K l fb hfb (y - 220) (by omega)
      rwa [show 220 + (y - 220) = y by omega] at h
    omega
  · left
    intro b
    have hl : (pgAll fb).length = 224 := rfl
    show ((pgAll fb)[y]?.getD (fun _ => [])) b = []
    rw [List.getElem?_eq_none (by omega)]
    rfl
theorem pm_mt40 : ∀ y, (pm_mt y).2.2.1 ≤ 40 := by
  intro y
  have h : ∀ q ∈ mtAll, q.2.2.1 ≤ 40 := by decide +kernel
  by_cases hy : y < mtAll.length
  · have e : pm_mt y = mtAll[y] := by
      show (mtAll[y]?).getD _ = _
      rw [List.getElem?_eq_getElem hy]; rfl
    rw [e]
    exact h _ (List.getElem_mem hy)
  · have e : pm_mt y = (yX0_truth, cX0_truth, 1, none) := by
      show (mtAll[y]?).getD _ = _
      rw [List.getElem?_eq_none (by omega)]; rfl
    rw [e]
    decide
