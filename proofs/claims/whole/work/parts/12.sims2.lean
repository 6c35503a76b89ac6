def pc_X8_count (b : Nat) : Nat := ([0, 48, 59, 70, 81, 94, 105, 116, 127, 135] : List Nat).getD b 0
set_option maxRecDepth 20000 in
theorem sb_X8_count (K : pm_K) (l : Launch) (fb : Bool) (hfb : fb = K.2.2.2.2.2) : ∀ b, pm_SimB K l pm_mt "NeedleLine" cX8_count 2 ((.some FieldType.int)) pc_X8_count (pc_X8_count b) (P_X8_count b)
  | 0 => pm_sc (sm_iload_n dX8_count_0 rfl) <| pm_sc (sm_tsw dX8_count_1 (by decide +kernel) (by decide) rfl) <| pm_sn
  | 1 => pm_sc (sm_aload_n dX8_count_48 rfl) <| pm_sc (sm_gr dX8_count_49 fl_X8_10) <| pm_sc (sm_gr dX8_count_52 fl_X8_69) <| pm_sc (sm_cv dX8_count_55 mt_X6_used mw_358 lv_X8_73) <| pm_sc (sm_ireturn (pc' := 0) dX8_count_58 rfl) <| pm_sn
  | 2 => pm_sc (sm_aload_n dX8_count_59 rfl) <| pm_sc (sm_gr dX8_count_60 fl_X8_10) <| pm_sc (sm_gr dX8_count_63 fl_X8_124) <| pm_sc (sm_cv dX8_count_66 mt_X6_used mw_358 lv_X8_216) <| pm_sc (sm_ireturn (pc' := 0) dX8_count_69 rfl) <| pm_sn
  | 3 => pm_sc (sm_aload_n dX8_count_70 rfl) <| pm_sc (sm_gr dX8_count_71 fl_X8_10) <| pm_sc (sm_gr dX8_count_74 fl_X8_204) <| pm_sc (sm_cv dX8_count_77 mt_X6_used mw_358 lv_X8_73) <| pm_sc (sm_ireturn (pc' := 0) dX8_count_80 rfl) <| pm_sn
  | 4 => pm_sc (sm_aload_n dX8_count_81 rfl) <| pm_sc (sm_gr dX8_count_82 fl_X8_10) <| pm_sc (sm_gr dX8_count_85 fl_X8_69) <| pm_sc (sm_iconst dX8_count_88 rfl) <| pm_sc (sm_iconst dX8_count_89 rfl) <| pm_sc (sm_cv dX8_count_90 mt_X6_howMany mw_740 lv_X8_207) <| pm_sc (sm_ireturn (pc' := 0) dX8_count_93 rfl) <| pm_sn
  | 5 => pm_sc (sm_aload_n dX8_count_94 rfl) <| pm_sc (sm_gr dX8_count_95 fl_X8_10) <| pm_sc (sm_gr dX8_count_98 fl_X8_154) <| pm_sc (sm_cv dX8_count_101 mt_X6_used mw_358 lv_X8_73) <| pm_sc (sm_ireturn (pc' := 0) dX8_count_104 rfl) <| pm_sn
  | 6 => pm_sc (sm_aload_n dX8_count_105 rfl) <| pm_sc (sm_gr dX8_count_106 fl_X8_10) <| pm_sc (sm_gr dX8_count_109 fl_X8_314) <| pm_sc (sm_cv dX8_count_112 mt_X6_used mw_358 lv_X8_73) <| pm_sc (sm_ireturn (pc' := 0) dX8_count_115 rfl) <| pm_sn
  | 7 => pm_sc (sm_aload_n dX8_count_116 rfl) <| pm_sc (sm_gr dX8_count_117 fl_X8_36) <| pm_sc (sm_gr dX8_count_120 fl_X8_267) <| pm_sc (sm_cv dX8_count_123 mt_X6_used mw_358 lv_X8_73) <| pm_sc (sm_ireturn (pc' := 0) dX8_count_126 rfl) <| pm_sn
  | 8 => pm_sc (sm_aload_n dX8_count_127 rfl) <| pm_sc (sm_gr dX8_count_128 fl_X8_10) <| pm_sc (sm_gi dX8_count_131 fl_X8_257) <| pm_sc (sm_ireturn (pc' := 0) dX8_count_134 rfl) <| pm_sn
  | 9 => pm_sc (sm_aload_n dX8_count_135 rfl) <| pm_sc (sm_iconst dX8_count_136 rfl) <| pm_sc (sm_cv dX8_count_137 mt_X8_fail mw_351 lv_X8_65) <| pm_sc (sm_ireturn (pc' := 0) dX8_count_140 rfl) <| pm_sn
  | n + 10 => trivial
theorem ok_X8_count (K : pm_K) (l : Launch) (fb : Bool) (hfb : fb = K.2.2.2.2.2) : pm_MOk K l (pm_pg fb) pm_mt n_X8_count := ⟨by decide +kernel, by decide, pc_X8_count, rfl, sb_X8_count K l fb hfb⟩
def pc_X8_told (b : Nat) : Nat := ([0, 19, 24] : List Nat).getD b 0
set_option maxRecDepth 20000 in
theorem sb_X8_told (K : pm_K) (l : Launch) (fb : Bool) (hfb : fb = K.2.2.2.2.2) : ∀ b, pm_SimB K l pm_mt "NeedleLine" cX8_told 2 ((.some FieldType.int)) pc_X8_told (pc_X8_told b) (P_X8_told b)
  | 0 => pm_sc (sm_iload_n dX8_told_0 rfl) <| pm_sc (sm_iconst dX8_told_1 rfl) <| pm_sc (sm_bipush dX8_told_2 (by decide)) <| pm_sc (sm_cs dX8_told_4 mt_X8_isIn mw_347 ls_X8_61) <| pm_sc (sm_if_eq dX8_told_7 rfl) <| pm_sc (sm_aload_n dX8_told_10 rfl) <| pm_sc (sm_gr dX8_told_11 fl_X8_46) <| pm_sc (sm_iload_n dX8_told_14 rfl) <| pm_sc (sm_ia dX8_told_15) <| pm_sc (sm_goto dX8_told_16 rfl) <| pm_sn
  | 1 => pm_sc (sm_aload_n dX8_told_19 rfl) <| pm_sc (sm_iconst dX8_told_20 rfl) <| pm_sc (sm_cv dX8_told_21 mt_X8_fail mw_351 lv_X8_65) <| pm_sc (sm_fall rfl) <| pm_sn
  | 2 => pm_sc (sm_ireturn (pc' := 0) dX8_told_24 rfl) <| pm_sn
  | n + 3 => trivial
theorem ok_X8_told (K : pm_K) (l : Launch) (fb : Bool) (hfb : fb = K.2.2.2.2.2) : pm_MOk K l (pm_pg fb) pm_mt n_X8_told := ⟨by decide +kernel, by decide, pc_X8_told, rfl, sb_X8_told K l fb hfb⟩
def pc_X8_fail (b : Nat) : Nat := ([0, 20] : List Nat).getD b 0
set_option maxRecDepth 20000 in
theorem sb_X8_fail (K : pm_K) (l : Launch) (fb : Bool) (hfb : fb = K.2.2.2.2.2) : ∀ b, pm_SimB K l pm_mt "NeedleLine" cX8_fail 2 ((.some FieldType.int)) pc_X8_fail (pc_X8_fail b) (P_X8_fail b)
  | 0 => pm_sc (sm_iload_n dX8_fail_0 rfl) <| pm_sc (sm_iconst dX8_fail_1 rfl) <| pm_sc (sm_bipush dX8_fail_2 (by decide)) <| pm_sc (sm_cs dX8_fail_4 mt_X8_isIn mw_347 ls_X8_61) <| pm_sc (sm_if_eq dX8_fail_7 rfl) <| pm_sc (sm_aload_n dX8_fail_10 rfl) <| pm_sc (sm_gr dX8_fail_11 fl_X8_46) <| pm_sc (sm_iload_n dX8_fail_14 rfl) <| pm_sc (sm_dup2 dX8_fail_15) <| pm_sc (sm_ia dX8_fail_16) <| pm_sc (sm_iconst dX8_fail_17 rfl) <| pm_sc (sm_iadd dX8_fail_18) <| pm_sc (sm_ias dX8_fail_19) <| pm_sc (sm_fall rfl) <| pm_sn
  | 1 => pm_sc (sm_ldcw dX8_fail_20 mw_352) <| pm_sc (sm_iload_n dX8_fail_23 rfl) <| pm_sc (sm_isub dX8_fail_24) <| pm_sc (sm_ireturn (pc' := 0) dX8_fail_25 rfl) <| pm_sn
  | n + 2 => trivial
theorem ok_X8_fail (K : pm_K) (l : Launch) (fb : Bool) (hfb : fb = K.2.2.2.2.2) : pm_MOk K l (pm_pg fb) pm_mt n_X8_fail := ⟨by decide +kernel, by decide, pc_X8_fail, rfl, sb_X8_fail K l fb hfb⟩
def pc_X8_lawOf (b : Nat) : Nat := ([0, 14, 21] : List Nat).getD b 0
set_option maxRecDepth 20000 in
theorem sb_X8_lawOf (K : pm_K) (l : Launch) (fb : Bool) (hfb : fb = K.2.2.2.2.2) : ∀ b, pm_SimB K l pm_mt "NeedleLine" cX8_lawOf 2 ((.some (FieldType.object "NeedleLine$Law"))) pc_X8_lawOf (pc_X8_lawOf b) (P_X8_lawOf b)
  | 0 => pm_sc (sm_iload_n dX8_lawOf_0 rfl) <| pm_sc (sm_if_ne dX8_lawOf_1 rfl) <| pm_sc (sm_aload_n dX8_lawOf_4 rfl) <| pm_sc (sm_gr dX8_lawOf_5 fl_X8_10) <| pm_sc (sm_gr dX8_lawOf_8 fl_X8_321) <| pm_sc (sm_goto dX8_lawOf_11 rfl) <| pm_sn
  | 1 => pm_sc (sm_aload_n dX8_lawOf_14 rfl) <| pm_sc (sm_gr dX8_lawOf_15 fl_X8_10) <| pm_sc (sm_gr dX8_lawOf_18 fl_X8_324) <| pm_sc (sm_fall rfl) <| pm_sn
  | 2 => pm_sc (sm_areturn (pc' := 0) dX8_lawOf_21 rfl) <| pm_sn
  | n + 3 => trivial
theorem ok_X8_lawOf (K : pm_K) (l : Launch) (fb : Bool) (hfb : fb = K.2.2.2.2.2) : pm_MOk K l (pm_pg fb) pm_mt n_X8_lawOf := ⟨by decide +kernel, by decide, pc_X8_lawOf, rfl, sb_X8_lawOf K l fb hfb⟩
def pc_X8_sheetOf (b : Nat) : Nat := ([0, 18, 19] : List Nat).getD b 0
set_option maxRecDepth 20000 in
theorem sb_X8_sheetOf (K : pm_K) (l : Launch) (fb : Bool) (hfb : fb = K.2.2.2.2.2) : ∀ b, pm_SimB K l pm_mt "NeedleLine" cX8_sheetOf 2 ((.some (FieldType.object "NeedleLine$Sheet"))) pc_X8_sheetOf (pc_X8_sheetOf b) (P_X8_sheetOf b)
  | 0 => pm_sc (sm_iload_n dX8_sheetOf_0 rfl) <| pm_sc (sm_iconst dX8_sheetOf_1 rfl) <| pm_sc (sm_iconst dX8_sheetOf_2 rfl) <| pm_sc (sm_cs dX8_sheetOf_3 mt_X8_isIn mw_347 ls_X8_61) <| pm_sc (sm_if_eq dX8_sheetOf_6 rfl) <| pm_sc (sm_aload_n dX8_sheetOf_9 rfl) <| pm_sc (sm_gr dX8_sheetOf_10 fl_X8_42) <| pm_sc (sm_iload_n dX8_sheetOf_13 rfl) <| pm_sc (sm_aa dX8_sheetOf_14) <| pm_sc (sm_goto dX8_sheetOf_15 rfl) <| pm_sn
  | 1 => pm_sc (sm_null dX8_sheetOf_18) <| pm_sc (sm_fall rfl) <| pm_sn
  | 2 => pm_sc (sm_areturn (pc' := 0) dX8_sheetOf_19 rfl) <| pm_sn
  | n + 3 => trivial
theorem ok_X8_sheetOf (K : pm_K) (l : Launch) (fb : Bool) (hfb : fb = K.2.2.2.2.2) : pm_MOk K l (pm_pg fb) pm_mt n_X8_sheetOf := ⟨by decide +kernel, by decide, pc_X8_sheetOf, rfl, sb_X8_sheetOf K l fb hfb⟩
def pc_X8_movingOf (b : Nat) : Nat := ([0, 37, 38, 39] : List Nat).getD b 0
set_option maxRecDepth 20000 in
theorem sb_X8_movingOf (K : pm_K) (l : Launch) (fb : Bool) (hfb : fb = K.2.2.2.2.2) : ∀ b, pm_SimB K l pm_mt "NeedleLine" cX8_movingOf 3 ((.some FieldType.int)) pc_X8_movingOf (pc_X8_movingOf b) (P_X8_movingOf b)
  | 0 => pm_sc (sm_aload_n dX8_movingOf_0 rfl) <| pm_sc (sm_gr dX8_movingOf_1 fl_X8_10) <| pm_sc (sm_gr dX8_movingOf_4 fl_X8_69) <| pm_sc (sm_cv dX8_movingOf_7 mt_X6_used mw_358 lv_X8_73) <| pm_sc (sm_istore_n dX8_movingOf_10 rfl) <| pm_sc (sm_aload_n dX8_movingOf_11 rfl) <| pm_sc (sm_gr dX8_movingOf_12 fl_X8_10) <| pm_sc (sm_gr dX8_movingOf_15 fl_X8_321) <| pm_sc (sm_cv dX8_movingOf_18 mt_X0_isTold mw_443 lv_X8_180) <| pm_sc (sm_if_ne dX8_movingOf_21 rfl) <| pm_sc (sm_iload_n dX8_movingOf_24 rfl) <| pm_sc (sm_if_le dX8_movingOf_25 rfl) <| pm_sc (sm_bipush dX8_movingOf_28 (by decide)) <| pm_sc (sm_iload_n dX8_movingOf_30 rfl) <| pm_sc (sm_imul dX8_movingOf_31) <| pm_sc (sm_iload_n dX8_movingOf_32 rfl) <| pm_sc (sm_idiv dX8_movingOf_33) <| pm_sc (sm_goto dX8_movingOf_34 rfl) <| pm_sn
  | 1 => pm_sc (sm_iconst dX8_movingOf_37 rfl) <| pm_sc (sm_fall rfl) <| pm_sn
  | 2 => pm_sc (sm_ireturn (pc' := 0) dX8_movingOf_38 rfl) <| pm_sn
  | 3 => pm_sc (sm_aload_n dX8_movingOf_39 rfl) <| pm_sc (sm_gr dX8_movingOf_40 fl_X8_50) <| pm_sc (sm_iconst dX8_movingOf_43 rfl) <| pm_sc (sm_iload_n dX8_movingOf_44 rfl) <| pm_sc (sm_ias dX8_movingOf_45) <| pm_sc (sm_aload_n dX8_movingOf_46 rfl) <| pm_sc (sm_gr dX8_movingOf_47 fl_X8_50) <| pm_sc (sm_iconst dX8_movingOf_50 rfl) <| pm_sc (sm_iload_n dX8_movingOf_51 rfl) <| pm_sc (sm_ias dX8_movingOf_52) <| pm_sc (sm_aload_n dX8_movingOf_53 rfl) <| pm_sc (sm_gr dX8_movingOf_54 fl_X8_50) <| pm_sc (sm_iconst dX8_movingOf_57 rfl) <| pm_sc (sm_aload_n dX8_movingOf_58 rfl) <| pm_sc (sm_gr dX8_movingOf_59 fl_X8_22) <| pm_sc (sm_cv dX8_movingOf_62 mt_X7_missSide mw_722 lv_X8_192) <| pm_sc (sm_ias dX8_movingOf_65) <| pm_sc (sm_aload_n dX8_movingOf_66 rfl) <| pm_sc (sm_gr dX8_movingOf_67 fl_X8_50) <| pm_sc (sm_iconst dX8_movingOf_70 rfl) <| pm_sc (sm_aload_n dX8_movingOf_71 rfl) <| pm_sc (sm_gr dX8_movingOf_72 fl_X8_22) <| pm_sc (sm_cv dX8_movingOf_75 mt_X7_missAlong mw_734 lv_X8_198) <| pm_sc (sm_ias dX8_movingOf_78) <| pm_sc (sm_aload_n dX8_movingOf_79 rfl) <| pm_sc (sm_gr dX8_movingOf_80 fl_X8_50) <| pm_sc (sm_iconst dX8_movingOf_83 rfl) <| pm_sc (sm_aload_n dX8_movingOf_84 rfl) <| pm_sc (sm_gr dX8_movingOf_85 fl_X8_10) <| pm_sc (sm_gr dX8_movingOf_88 fl_X8_204) <| pm_sc (sm_iconst dX8_movingOf_91 rfl) <| pm_sc (sm_iload_n dX8_movingOf_92 rfl) <| pm_sc (sm_cv dX8_movingOf_93 mt_X6_howMany mw_740 lv_X8_207) <| pm_sc (sm_ias dX8_movingOf_96) <| pm_sc (sm_aload_n dX8_movingOf_97 rfl) <| pm_sc (sm_gr dX8_movingOf_98 fl_X8_10) <| pm_sc (sm_gr dX8_movingOf_101 fl_X8_321) <| pm_sc (sm_aload_n dX8_movingOf_104 rfl) <| pm_sc (sm_gr dX8_movingOf_105 fl_X8_50) <| pm_sc (sm_aload_n dX8_movingOf_108 rfl) <| pm_sc (sm_gr dX8_movingOf_109 fl_X8_53) <| pm_sc (sm_cv dX8_movingOf_112 mt_X0_workedOut mw_447 lv_X8_327) <| pm_sc (sm_bipush dX8_movingOf_115 (by decide)) <| pm_sc (sm_cs dX8_movingOf_117 mt_X8_held mw_100 ls_X8_331) <| pm_sc (sm_ireturn (pc' := 0) dX8_movingOf_120 rfl) <| pm_sn
  | n + 4 => trivial
theorem ok_X8_movingOf (K : pm_K) (l : Launch) (fb : Bool) (hfb : fb = K.2.2.2.2.2) : pm_MOk K l (pm_pg fb) pm_mt n_X8_movingOf := ⟨by decide +kernel, by decide, pc_X8_movingOf, rfl, sb_X8_movingOf K l fb hfb⟩
def pc_X8_movedBy (b : Nat) : Nat := ([0] : List Nat).getD b 0
set_option maxRecDepth 20000 in
theorem sb_X8_movedBy (K : pm_K) (l : Launch) (fb : Bool) (hfb : fb = K.2.2.2.2.2) : ∀ b, pm_SimB K l pm_mt "NeedleLine" cX8_movedBy 3 ((.some FieldType.int)) pc_X8_movedBy (pc_X8_movedBy b) (P_X8_movedBy b)
  | 0 => pm_sc (sm_iload_n dX8_movedBy_0 rfl) <| pm_sc (sm_aload_n dX8_movedBy_1 rfl) <| pm_sc (sm_iload_n dX8_movedBy_2 rfl) <| pm_sc (sm_cv dX8_movedBy_3 mt_X8_movingOf mw_730 lv_X8_201) <| pm_sc (sm_imul dX8_movedBy_6) <| pm_sc (sm_bipush dX8_movedBy_7 (by decide)) <| pm_sc (sm_idiv dX8_movedBy_9) <| pm_sc (sm_ireturn (pc' := 0) dX8_movedBy_10 rfl) <| pm_sn
  | n + 1 => trivial
theorem ok_X8_movedBy (K : pm_K) (l : Launch) (fb : Bool) (hfb : fb = K.2.2.2.2.2) : pm_MOk K l (pm_pg fb) pm_mt n_X8_movedBy := ⟨by decide +kernel, by decide, pc_X8_movedBy, rfl, sb_X8_movedBy K l fb hfb⟩
def pc_X8_isMovedBy (b : Nat) : Nat := ([0, 23, 24] : List Nat).getD b 0
set_option maxRecDepth 20000 in
theorem sb_X8_isMovedBy (K : pm_K) (l : Launch) (fb : Bool) (hfb : fb = K.2.2.2.2.2) : ∀ b, pm_SimB K l pm_mt "NeedleLine" cX8_isMovedBy 3 ((.some FieldType.boolean)) pc_X8_isMovedBy (pc_X8_isMovedBy b) (P_X8_isMovedBy b)
  | 0 => pm_sc (sm_aload_n dX8_isMovedBy_0 rfl) <| pm_sc (sm_iload_n dX8_isMovedBy_1 rfl) <| pm_sc (sm_aload_n dX8_isMovedBy_2 rfl) <| pm_sc (sm_gr dX8_isMovedBy_3 fl_X8_22) <| pm_sc (sm_cv dX8_isMovedBy_6 mt_X7_missSide mw_722 lv_X8_192) <| pm_sc (sm_cv dX8_isMovedBy_9 mt_X8_movedBy mw_726 lv_X8_195) <| pm_sc (sm_mabs dX8_isMovedBy_12 mw_763 mw_752 mw_64 mw_753) <| pm_sc (sm_iload_n dX8_isMovedBy_15 rfl) <| pm_sc (sm_icmp_lt dX8_isMovedBy_16 rfl) <| pm_sc (sm_iconst dX8_isMovedBy_19 rfl) <| pm_sc (sm_goto dX8_isMovedBy_20 rfl) <| pm_sn
  | 1 => pm_sc (sm_iconst dX8_isMovedBy_23 rfl) <| pm_sc (sm_fall rfl) <| pm_sn
  | 2 => pm_sc (sm_zreturn (pc' := 0) dX8_isMovedBy_24 rfl) <| pm_sn
  | n + 3 => trivial
theorem ok_X8_isMovedBy (K : pm_K) (l : Launch) (fb : Bool) (hfb : fb = K.2.2.2.2.2) : pm_MOk K l (pm_pg fb) pm_mt n_X8_isMovedBy := ⟨by decide +kernel, by decide, pc_X8_isMovedBy, rfl, sb_X8_isMovedBy K l fb hfb⟩
def pc_X8_hoursOf (b : Nat) : Nat := ([0, 68] : List Nat).getD b 0
set_option maxRecDepth 20000 in
theorem sb_X8_hoursOf (K : pm_K) (l : Launch) (fb : Bool) (hfb : fb = K.2.2.2.2.2) : ∀ b, pm_SimB K l pm_mt "NeedleLine" cX8_hoursOf 5 ((.some FieldType.int)) pc_X8_hoursOf (pc_X8_hoursOf b) (P_X8_hoursOf b)
  | 0 => pm_sc (sm_aload_n dX8_hoursOf_0 rfl) <| pm_sc (sm_gr dX8_hoursOf_1 fl_X8_10) <| pm_sc (sm_gr dX8_hoursOf_4 fl_X8_69) <| pm_sc (sm_iconst dX8_hoursOf_7 rfl) <| pm_sc (sm_iload_n dX8_hoursOf_8 rfl) <| pm_sc (sm_cv dX8_hoursOf_9 mt_X6_at mw_373 lv_X8_89) <| pm_sc (sm_istore_n dX8_hoursOf_12 rfl) <| pm_sc (sm_aload_n dX8_hoursOf_13 rfl) <| pm_sc (sm_gr dX8_hoursOf_14 fl_X8_10) <| pm_sc (sm_gr dX8_hoursOf_17 fl_X8_69) <| pm_sc (sm_iconst dX8_hoursOf_20 rfl) <| pm_sc (sm_iload_n dX8_hoursOf_21 rfl) <| pm_sc (sm_cv dX8_hoursOf_22 mt_X6_at mw_373 lv_X8_89) <| pm_sc (sm_istore_n dX8_hoursOf_25 rfl) <| pm_sc (sm_aload_n dX8_hoursOf_26 rfl) <| pm_sc (sm_gr dX8_hoursOf_27 fl_X8_10) <| pm_sc (sm_gr dX8_hoursOf_30 fl_X8_69) <| pm_sc (sm_iconst dX8_hoursOf_33 rfl) <| pm_sc (sm_iload_n dX8_hoursOf_34 rfl) <| pm_sc (sm_cv dX8_hoursOf_35 mt_X6_at mw_373 lv_X8_89) <| pm_sc (sm_istore dX8_hoursOf_38) <| pm_sc (sm_aload_n dX8_hoursOf_40 rfl) <| pm_sc (sm_gr dX8_hoursOf_41 fl_X8_10) <| pm_sc (sm_gr dX8_hoursOf_44 fl_X8_324) <| pm_sc (sm_cv dX8_hoursOf_47 mt_X0_isTold mw_443 lv_X8_180) <| pm_sc (sm_if_ne dX8_hoursOf_50 rfl) <| pm_sc (sm_bipush dX8_hoursOf_53 (by decide)) <| pm_sc (sm_iload_n dX8_hoursOf_55 rfl) <| pm_sc (sm_iadd dX8_hoursOf_56) <| pm_sc (sm_iload_n dX8_hoursOf_57 rfl) <| pm_sc (sm_bipush dX8_hoursOf_58 (by decide)) <| pm_sc (sm_idiv dX8_hoursOf_60) <| pm_sc (sm_iadd dX8_hoursOf_61) <| pm_sc (sm_iconst dX8_hoursOf_62 rfl) <| pm_sc (sm_iload dX8_hoursOf_63) <| pm_sc (sm_imul dX8_hoursOf_65) <| pm_sc (sm_iadd dX8_hoursOf_66) <| pm_sc (sm_ireturn (pc' := 0) dX8_hoursOf_67 rfl) <| pm_sn
  | 1 => pm_sc (sm_aload_n dX8_hoursOf_68 rfl) <| pm_sc (sm_gr dX8_hoursOf_69 fl_X8_50) <| pm_sc (sm_iconst dX8_hoursOf_72 rfl) <| pm_sc (sm_iload_n dX8_hoursOf_73 rfl) <| pm_sc (sm_ias dX8_hoursOf_74) <| pm_sc (sm_aload_n dX8_hoursOf_75 rfl) <| pm_sc (sm_gr dX8_hoursOf_76 fl_X8_50) <| pm_sc (sm_iconst dX8_hoursOf_79 rfl) <| pm_sc (sm_iload_n dX8_hoursOf_80 rfl) <| pm_sc (sm_ias dX8_hoursOf_81) <| pm_sc (sm_aload_n dX8_hoursOf_82 rfl) <| pm_sc (sm_gr dX8_hoursOf_83 fl_X8_50) <| pm_sc (sm_iconst dX8_hoursOf_86 rfl) <| pm_sc (sm_iload_n dX8_hoursOf_87 rfl) <| pm_sc (sm_ias dX8_hoursOf_88) <| pm_sc (sm_aload_n dX8_hoursOf_89 rfl) <| pm_sc (sm_gr dX8_hoursOf_90 fl_X8_50) <| pm_sc (sm_iconst dX8_hoursOf_93 rfl) <| pm_sc (sm_iload dX8_hoursOf_94) <| pm_sc (sm_ias dX8_hoursOf_96) <| pm_sc (sm_aload_n dX8_hoursOf_97 rfl) <| pm_sc (sm_gr dX8_hoursOf_98 fl_X8_10) <| pm_sc (sm_gr dX8_hoursOf_101 fl_X8_324) <| pm_sc (sm_aload_n dX8_hoursOf_104 rfl) <| pm_sc (sm_gr dX8_hoursOf_105 fl_X8_50) <| pm_sc (sm_aload_n dX8_hoursOf_108 rfl) <| pm_sc (sm_gr dX8_hoursOf_109 fl_X8_53) <| pm_sc (sm_cv dX8_hoursOf_112 mt_X0_workedOut mw_447 lv_X8_327) <| pm_sc (sm_sipush dX8_hoursOf_115 (by decide)) <| pm_sc (sm_cs dX8_hoursOf_118 mt_X8_held mw_100 ls_X8_331) <| pm_sc (sm_ireturn (pc' := 0) dX8_hoursOf_121 rfl) <| pm_sn
  | n + 2 => trivial
theorem ok_X8_hoursOf (K : pm_K) (l : Launch) (fb : Bool) (hfb : fb = K.2.2.2.2.2) : pm_MOk K l (pm_pg fb) pm_mt n_X8_hoursOf := ⟨by decide +kernel, by decide, pc_X8_hoursOf, rfl, sb_X8_hoursOf K l fb hfb⟩
def pc_X8_held (b : Nat) : Nat := ([0] : List Nat).getD b 0
set_option maxRecDepth 20000 in
theorem sb_X8_held (K : pm_K) (l : Launch) (fb : Bool) (hfb : fb = K.2.2.2.2.2) : ∀ b, pm_SimB K l pm_mt "NeedleLine" cX8_held 2 ((.some FieldType.int)) pc_X8_held (pc_X8_held b) (P_X8_held b)
  | 0 => pm_sc (sm_iconst dX8_held_0 rfl) <| pm_sc (sm_iload_n dX8_held_1 rfl) <| pm_sc (sm_iload_n dX8_held_2 rfl) <| pm_sc (sm_mmin dX8_held_3 mw_101 mw_102 mw_64 mw_103) <| pm_sc (sm_mmax dX8_held_6 mw_104 mw_105 mw_64 mw_106) <| pm_sc (sm_ireturn (pc' := 0) dX8_held_9 rfl) <| pm_sn
  | n + 1 => trivial
theorem ok_X8_held (K : pm_K) (l : Launch) (fb : Bool) (hfb : fb = K.2.2.2.2.2) : pm_MOk K l (pm_pg fb) pm_mt n_X8_held := ⟨by decide +kernel, by decide, pc_X8_held, rfl, sb_X8_held K l fb hfb⟩
def pc_X8_isIn (b : Nat) : Nat := ([0, 14, 15] : List Nat).getD b 0
set_option maxRecDepth 20000 in
theorem sb_X8_isIn (K : pm_K) (l : Launch) (fb : Bool) (hfb : fb = K.2.2.2.2.2) : ∀ b, pm_SimB K l pm_mt "NeedleLine" cX8_isIn 3 ((.some FieldType.boolean)) pc_X8_isIn (pc_X8_isIn b) (P_X8_isIn b)
  | 0 => pm_sc (sm_iload_n dX8_isIn_0 rfl) <| pm_sc (sm_iload_n dX8_isIn_1 rfl) <| pm_sc (sm_icmp_lt dX8_isIn_2 rfl) <| pm_sc (sm_iload_n dX8_isIn_5 rfl) <| pm_sc (sm_iload_n dX8_isIn_6 rfl) <| pm_sc (sm_icmp_gt dX8_isIn_7 rfl) <| pm_sc (sm_iconst dX8_isIn_10 rfl) <| pm_sc (sm_goto dX8_isIn_11 rfl) <| pm_sn
  | 1 => pm_sc (sm_iconst dX8_isIn_14 rfl) <| pm_sc (sm_fall rfl) <| pm_sn
  | 2 => pm_sc (sm_zreturn (pc' := 0) dX8_isIn_15 rfl) <| pm_sn
  | n + 3 => trivial
theorem ok_X8_isIn (K : pm_K) (l : Launch) (fb : Bool) (hfb : fb = K.2.2.2.2.2) : pm_MOk K l (pm_pg fb) pm_mt n_X8_isIn := ⟨by decide +kernel, by decide, pc_X8_isIn, rfl, sb_X8_isIn K l fb hfb⟩
def pc_X8_greatestCommon (b : Nat) : Nat := ([0, 9, 44] : List Nat).getD b 0
set_option maxRecDepth 20000 in
theorem sb_X8_greatestCommon (K : pm_K) (l : Launch) (fb : Bool) (hfb : fb = K.2.2.2.2.2) : ∀ b, pm_SimB K l pm_mt "NeedleLine" cX8_greatestCommon 11 ((.some FieldType.long)) pc_X8_greatestCommon (pc_X8_greatestCommon b) (P_X8_greatestCommon b)
  | 0 => pm_sc (sm_lload_n dX8_greatestCommon_0 rfl) <| pm_sc (sm_lstore dX8_greatestCommon_1) <| pm_sc (sm_lload_n dX8_greatestCommon_3 rfl) <| pm_sc (sm_lstore dX8_greatestCommon_4) <| pm_sc (sm_iconst dX8_greatestCommon_6 rfl) <| pm_sc (sm_istore dX8_greatestCommon_7) <| pm_sc (sm_fall rfl) <| pm_sn
  | 1 => pm_sc (sm_iload dX8_greatestCommon_9) <| pm_sc (sm_bipush dX8_greatestCommon_11 (by decide)) <| pm_sc (sm_icmp_ge dX8_greatestCommon_13 rfl) <| pm_sc (sm_lload dX8_greatestCommon_16) <| pm_sc (sm_lconst dX8_greatestCommon_18 (by decide)) <| pm_sc (sm_lcmp dX8_greatestCommon_19) <| pm_sc (sm_if_eq dX8_greatestCommon_20 rfl) <| pm_sc (sm_lload dX8_greatestCommon_23) <| pm_sc (sm_lload dX8_greatestCommon_25) <| pm_sc (sm_lrem dX8_greatestCommon_27) <| pm_sc (sm_lstore dX8_greatestCommon_28) <| pm_sc (sm_lload dX8_greatestCommon_30) <| pm_sc (sm_lstore dX8_greatestCommon_32) <| pm_sc (sm_lload dX8_greatestCommon_34) <| pm_sc (sm_lstore dX8_greatestCommon_36) <| pm_sc (sm_iinc dX8_greatestCommon_38 rfl) <| pm_sc (sm_goto dX8_greatestCommon_41 rfl) <| pm_sn
  | 2 => pm_sc (sm_lload dX8_greatestCommon_44) <| pm_sc (sm_lreturn (pc' := 0) dX8_greatestCommon_46 rfl) <| pm_sn
  | n + 3 => trivial
theorem ok_X8_greatestCommon (K : pm_K) (l : Launch) (fb : Bool) (hfb : fb = K.2.2.2.2.2) : pm_MOk K l (pm_pg fb) pm_mt n_X8_greatestCommon := ⟨by decide +kernel, by decide, pc_X8_greatestCommon, rfl, sb_X8_greatestCommon K l fb hfb⟩
def pc_X9_finding (b : Nat) : Nat := ([0] : List Nat).getD b 0
set_option maxRecDepth 20000 in
theorem sb_X9_finding (K : pm_K) (l : Launch) (fb : Bool) (hfb : fb = K.2.2.2.2.2) : ∀ b, pm_SimB K l pm_mt "NeedleLineModel" cX9_finding 2 ((.some FieldType.int)) pc_X9_finding (pc_X9_finding b) (P_X9_finding b)
  | 0 => pm_sc (sm_aload_n dX9_finding_0 rfl) <| pm_sc (sm_gr dX9_finding_1 fl_X9_16) <| pm_sc (sm_ldc dX9_finding_4 mw_1126) <| pm_sc (sm_iload_n dX9_finding_6 rfl) <| pm_sc (sm_isub dX9_finding_7) <| pm_sc (sm_dup2 dX9_finding_8) <| pm_sc (sm_ia dX9_finding_9) <| pm_sc (sm_iconst dX9_finding_10 rfl) <| pm_sc (sm_iadd dX9_finding_11) <| pm_sc (sm_ias dX9_finding_12) <| pm_sc (sm_iload_n dX9_finding_13 rfl) <| pm_sc (sm_ireturn (pc' := 0) dX9_finding_14 rfl) <| pm_sn
  | n + 1 => trivial
theorem ok_X9_finding (K : pm_K) (l : Launch) (fb : Bool) (hfb : fb = K.2.2.2.2.2) : pm_MOk K l (pm_pg fb) pm_mt n_X9_finding := ⟨by decide +kernel, by decide, pc_X9_finding, rfl, sb_X9_finding K l fb hfb⟩
def pc_X9_isIn (b : Nat) : Nat := ([0, 14, 15] : List Nat).getD b 0
set_option maxRecDepth 20000 in
theorem sb_X9_isIn (K : pm_K) (l : Launch) (fb : Bool) (hfb : fb = K.2.2.2.2.2) : ∀ b, pm_SimB K l pm_mt "NeedleLineModel" cX9_isIn 3 ((.some FieldType.boolean)) pc_X9_isIn (pc_X9_isIn b) (P_X9_isIn b)
  | 0 => pm_sc (sm_iload_n dX9_isIn_0 rfl) <| pm_sc (sm_iload_n dX9_isIn_1 rfl) <| pm_sc (sm_icmp_lt dX9_isIn_2 rfl) <| pm_sc (sm_iload_n dX9_isIn_5 rfl) <| pm_sc (sm_iload_n dX9_isIn_6 rfl) <| pm_sc (sm_icmp_gt dX9_isIn_7 rfl) <| pm_sc (sm_iconst dX9_isIn_10 rfl) <| pm_sc (sm_goto dX9_isIn_11 rfl) <| pm_sn
  | 1 => pm_sc (sm_iconst dX9_isIn_14 rfl) <| pm_sc (sm_fall rfl) <| pm_sn
  | 2 => pm_sc (sm_zreturn (pc' := 0) dX9_isIn_15 rfl) <| pm_sn
  | n + 3 => trivial
theorem ok_X9_isIn (K : pm_K) (l : Launch) (fb : Bool) (hfb : fb = K.2.2.2.2.2) : pm_MOk K l (pm_pg fb) pm_mt n_X9_isIn := ⟨by decide +kernel, by decide, pc_X9_isIn, rfl, sb_X9_isIn K l fb hfb⟩
def pc_X9_held (b : Nat) : Nat := ([0] : List Nat).getD b 0
set_option maxRecDepth 20000 in
theorem sb_X9_held (K : pm_K) (l : Launch) (fb : Bool) (hfb : fb = K.2.2.2.2.2) : ∀ b, pm_SimB K l pm_mt "NeedleLineModel" cX9_held 3 ((.some FieldType.int)) pc_X9_held (pc_X9_held b) (P_X9_held b)
  | 0 => pm_sc (sm_iload_n dX9_held_0 rfl) <| pm_sc (sm_iload_n dX9_held_1 rfl) <| pm_sc (sm_iload_n dX9_held_2 rfl) <| pm_sc (sm_mmin dX9_held_3 mw_1214 mw_102 mw_64 mw_103) <| pm_sc (sm_mmax dX9_held_6 mw_1215 mw_105 mw_64 mw_106) <| pm_sc (sm_ireturn (pc' := 0) dX9_held_9 rfl) <| pm_sn
  | n + 1 => trivial
theorem ok_X9_held (K : pm_K) (l : Launch) (fb : Bool) (hfb : fb = K.2.2.2.2.2) : pm_MOk K l (pm_pg fb) pm_mt n_X9_held := ⟨by decide +kernel, by decide, pc_X9_held, rfl, sb_X9_held K l fb hfb⟩
def pc_X9_copy (b : Nat) : Nat := ([0, 2, 21] : List Nat).getD b 0
set_option maxRecDepth 20000 in
theorem sb_X9_copy (K : pm_K) (l : Launch) (fb : Bool) (hfb : fb = K.2.2.2.2.2) : ∀ b, pm_SimB K l pm_mt "NeedleLineModel" cX9_copy 3 ((.none : Option FieldType)) pc_X9_copy (pc_X9_copy b) (P_X9_copy b)
  | 0 => pm_sc (sm_iconst dX9_copy_0 rfl) <| pm_sc (sm_istore_n dX9_copy_1 rfl) <| pm_sc (sm_fall rfl) <| pm_sn
  | 1 => pm_sc (sm_iload_n dX9_copy_2 rfl) <| pm_sc (sm_sipush dX9_copy_3 (by decide)) <| pm_sc (sm_icmp_ge dX9_copy_6 rfl) <| pm_sc (sm_aload_n dX9_copy_9 rfl) <| pm_sc (sm_iload_n dX9_copy_10 rfl) <| pm_sc (sm_aload_n dX9_copy_11 rfl) <| pm_sc (sm_iload_n dX9_copy_12 rfl) <| pm_sc (sm_ia dX9_copy_13) <| pm_sc (sm_ias dX9_copy_14) <| pm_sc (sm_iinc dX9_copy_15 rfl) <| pm_sc (sm_goto dX9_copy_18 rfl) <| pm_sn
  | 2 => pm_sc (sm_return (pc' := 0) dX9_copy_21 rfl) <| pm_sn
  | n + 3 => trivial
theorem ok_X9_copy (K : pm_K) (l : Launch) (fb : Bool) (hfb : fb = K.2.2.2.2.2) : pm_MOk K l (pm_pg fb) pm_mt n_X9_copy := ⟨by decide +kernel, by decide, pc_X9_copy, rfl, sb_X9_copy K l fb hfb⟩
def pc_X9_become (b : Nat) : Nat := ([0] : List Nat).getD b 0
set_option maxRecDepth 20000 in
theorem sb_X9_become (K : pm_K) (l : Launch) (fb : Bool) (hfb : fb = K.2.2.2.2.2) : ∀ b, pm_SimB K l pm_mt "NeedleLineModel" cX9_become 4 ((.some FieldType.int)) pc_X9_become (pc_X9_become b) (P_X9_become b)
  | 0 => pm_sc (sm_aload_n dX9_become_0 rfl) <| pm_sc (sm_gr dX9_become_1 fl_X9_9) <| pm_sc (sm_iload_n dX9_become_4 rfl) <| pm_sc (sm_ia dX9_become_5) <| pm_sc (sm_istore_n dX9_become_6 rfl) <| pm_sc (sm_aload_n dX9_become_7 rfl) <| pm_sc (sm_gr dX9_become_8 fl_X9_9) <| pm_sc (sm_iload_n dX9_become_11 rfl) <| pm_sc (sm_iload_n dX9_become_12 rfl) <| pm_sc (sm_ias dX9_become_13) <| pm_sc (sm_iload_n dX9_become_14 rfl) <| pm_sc (sm_ireturn (pc' := 0) dX9_become_15 rfl) <| pm_sn
  | n + 1 => trivial
theorem ok_X9_become (K : pm_K) (l : Launch) (fb : Bool) (hfb : fb = K.2.2.2.2.2) : pm_MOk K l (pm_pg fb) pm_mt n_X9_become := ⟨by decide +kernel, by decide, pc_X9_become, rfl, sb_X9_become K l fb hfb⟩
def pc_X9_is (b : Nat) : Nat := ([0] : List Nat).getD b 0
set_option maxRecDepth 20000 in
theorem sb_X9_is (K : pm_K) (l : Launch) (fb : Bool) (hfb : fb = K.2.2.2.2.2) : ∀ b, pm_SimB K l pm_mt "NeedleLineModel" cX9_is 3 ((.some FieldType.boolean)) pc_X9_is (pc_X9_is b) (P_X9_is b)
  | 0 => pm_sc (sm_iload_n dX9_is_0 rfl) <| pm_sc (sm_iconst dX9_is_1 rfl) <| pm_sc (sm_aload_n dX9_is_2 rfl) <| pm_sc (sm_gr dX9_is_3 fl_X9_9) <| pm_sc (sm_iload_n dX9_is_6 rfl) <| pm_sc (sm_ia dX9_is_7) <| pm_sc (sm_iconst dX9_is_8 rfl) <| pm_sc (sm_isub dX9_is_9) <| pm_sc (sm_cs dX9_is_10 mt_X9_isIn mw_1116 ls_X9_75) <| pm_sc (sm_zreturn (pc' := 0) dX9_is_13 rfl) <| pm_sn
  | n + 1 => trivial
theorem ok_X9_is (K : pm_K) (l : Launch) (fb : Bool) (hfb : fb = K.2.2.2.2.2) : pm_MOk K l (pm_pg fb) pm_mt n_X9_is := ⟨by decide +kernel, by decide, pc_X9_is, rfl, sb_X9_is K l fb hfb⟩
def pc_X9_isMile (b : Nat) : Nat := ([0] : List Nat).getD b 0
set_option maxRecDepth 20000 in
theorem sb_X9_isMile (K : pm_K) (l : Launch) (fb : Bool) (hfb : fb = K.2.2.2.2.2) : ∀ b, pm_SimB K l pm_mt "NeedleLineModel" cX9_isMile 1 ((.some FieldType.boolean)) pc_X9_isMile (pc_X9_isMile b) (P_X9_isMile b)
  | 0 => pm_sc (sm_iload_n dX9_isMile_0 rfl) <| pm_sc (sm_iconst dX9_isMile_1 rfl) <| pm_sc (sm_bipush dX9_isMile_2 (by decide)) <| pm_sc (sm_cs dX9_isMile_4 mt_X9_isIn mw_1116 ls_X9_75) <| pm_sc (sm_zreturn (pc' := 0) dX9_isMile_7 rfl) <| pm_sn
  | n + 1 => trivial
theorem ok_X9_isMile (K : pm_K) (l : Launch) (fb : Bool) (hfb : fb = K.2.2.2.2.2) : pm_MOk K l (pm_pg fb) pm_mt n_X9_isMile := ⟨by decide +kernel, by decide, pc_X9_isMile, rfl, sb_X9_isMile K l fb hfb⟩
def pc_X9_mileOf (b : Nat) : Nat := ([0] : List Nat).getD b 0
set_option maxRecDepth 20000 in
theorem sb_X9_mileOf (K : pm_K) (l : Launch) (fb : Bool) (hfb : fb = K.2.2.2.2.2) : ∀ b, pm_SimB K l pm_mt "NeedleLineModel" cX9_mileOf 3 ((.some FieldType.int)) pc_X9_mileOf (pc_X9_mileOf b) (P_X9_mileOf b)
  | 0 => pm_sc (sm_aload_n dX9_mileOf_0 rfl) <| pm_sc (sm_gr dX9_mileOf_1 fl_X9_9) <| pm_sc (sm_bipush dX9_mileOf_4 (by decide)) <| pm_sc (sm_iconst dX9_mileOf_6 rfl) <| pm_sc (sm_iload_n dX9_mileOf_7 rfl) <| pm_sc (sm_imul dX9_mileOf_8) <| pm_sc (sm_iadd dX9_mileOf_9) <| pm_sc (sm_iload_n dX9_mileOf_10 rfl) <| pm_sc (sm_iadd dX9_mileOf_11) <| pm_sc (sm_ia dX9_mileOf_12) <| pm_sc (sm_ireturn (pc' := 0) dX9_mileOf_13 rfl) <| pm_sn
  | n + 1 => trivial
theorem ok_X9_mileOf (K : pm_K) (l : Launch) (fb : Bool) (hfb : fb = K.2.2.2.2.2) : pm_MOk K l (pm_pg fb) pm_mt n_X9_mileOf := ⟨by decide +kernel, by decide, pc_X9_mileOf, rfl, sb_X9_mileOf K l fb hfb⟩
def pc_X9_miles (b : Nat) : Nat := ([0, 19, 25] : List Nat).getD b 0
set_option maxRecDepth 20000 in
theorem sb_X9_miles (K : pm_K) (l : Launch) (fb : Bool) (hfb : fb = K.2.2.2.2.2) : ∀ b, pm_SimB K l pm_mt "NeedleLineModel" cX9_miles 2 ((.some FieldType.int)) pc_X9_miles (pc_X9_miles b) (P_X9_miles b)
  | 0 => pm_sc (sm_iload_n dX9_miles_0 rfl) <| pm_sc (sm_iconst dX9_miles_1 rfl) <| pm_sc (sm_bipush dX9_miles_2 (by decide)) <| pm_sc (sm_cs dX9_miles_4 mt_X9_isIn mw_1116 ls_X9_75) <| pm_sc (sm_if_eq dX9_miles_7 rfl) <| pm_sc (sm_aload_n dX9_miles_10 rfl) <| pm_sc (sm_iconst dX9_miles_11 rfl) <| pm_sc (sm_iload_n dX9_miles_12 rfl) <| pm_sc (sm_cv dX9_miles_13 mt_X9_become mw_1120 lv_X9_79) <| pm_sc (sm_goto dX9_miles_16 rfl) <| pm_sn
  | 1 => pm_sc (sm_aload_n dX9_miles_19 rfl) <| pm_sc (sm_ldc dX9_miles_20 mw_1121) <| pm_sc (sm_cv dX9_miles_22 mt_X9_finding mw_1125 lv_X9_83) <| pm_sc (sm_fall rfl) <| pm_sn
  | 2 => pm_sc (sm_ireturn (pc' := 0) dX9_miles_25 rfl) <| pm_sn
  | n + 3 => trivial
theorem ok_X9_miles (K : pm_K) (l : Launch) (fb : Bool) (hfb : fb = K.2.2.2.2.2) : pm_MOk K l (pm_pg fb) pm_mt n_X9_miles := ⟨by decide +kernel, by decide, pc_X9_miles, rfl, sb_X9_miles K l fb hfb⟩
def pc_X9_mile (b : Nat) : Nat := ([0, 36, 56, 57, 62, 81, 82, 87, 106, 107, 112, 130, 131, 136, 139, 160, 166] : List Nat).getD b 0
set_option maxRecDepth 20000 in
theorem sb_X9_mile (K : pm_K) (l : Launch) (fb : Bool) (hfb : fb = K.2.2.2.2.2) : ∀ b, pm_SimB K l pm_mt "NeedleLineModel" cX9_mile 5 ((.some FieldType.int)) pc_X9_mile (pc_X9_mile b) (P_X9_mile b)
  | 0 => pm_sc (sm_iload_n dX9_mile_0 rfl) <| pm_sc (sm_cs dX9_mile_1 mt_X9_isMile mw_1133 ls_X9_87) <| pm_sc (sm_istore dX9_mile_4) <| pm_sc (sm_iload_n dX9_mile_6 rfl) <| pm_sc (sm_tsw dX9_mile_7 (by decide +kernel) (by decide) rfl) <| pm_sn
  | 1 => pm_sc (sm_iload dX9_mile_36) <| pm_sc (sm_if_eq dX9_mile_38 rfl) <| pm_sc (sm_iload_n dX9_mile_41 rfl) <| pm_sc (sm_bipush dX9_mile_42 (by decide)) <| pm_sc (sm_bipush dX9_mile_44 (by decide)) <| pm_sc (sm_cs dX9_mile_46 mt_X9_isIn mw_1116 ls_X9_75) <| pm_sc (sm_if_eq dX9_mile_49 rfl) <| pm_sc (sm_iconst dX9_mile_52 rfl) <| pm_sc (sm_goto dX9_mile_53 rfl) <| pm_sn
  | 2 => pm_sc (sm_iconst dX9_mile_56 rfl) <| pm_sc (sm_fall rfl) <| pm_sn
  | 3 => pm_sc (sm_istore dX9_mile_57) <| pm_sc (sm_goto dX9_mile_59 rfl) <| pm_sn
  | 4 => pm_sc (sm_iload dX9_mile_62) <| pm_sc (sm_if_eq dX9_mile_64 rfl) <| pm_sc (sm_iload_n dX9_mile_67 rfl) <| pm_sc (sm_iconst dX9_mile_68 rfl) <| pm_sc (sm_bipush dX9_mile_69 (by decide)) <| pm_sc (sm_cs dX9_mile_71 mt_X9_isIn mw_1116 ls_X9_75) <| pm_sc (sm_if_eq dX9_mile_74 rfl) <| pm_sc (sm_iconst dX9_mile_77 rfl) <| pm_sc (sm_goto dX9_mile_78 rfl) <| pm_sn
  | 5 => pm_sc (sm_iconst dX9_mile_81 rfl) <| pm_sc (sm_fall rfl) <| pm_sn
  | 6 => pm_sc (sm_istore dX9_mile_82) <| pm_sc (sm_goto dX9_mile_84 rfl) <| pm_sn
  | 7 => pm_sc (sm_iload dX9_mile_87) <| pm_sc (sm_if_eq dX9_mile_89 rfl) <| pm_sc (sm_iload_n dX9_mile_92 rfl) <| pm_sc (sm_iconst dX9_mile_93 rfl) <| pm_sc (sm_bipush dX9_mile_94 (by decide)) <| pm_sc (sm_cs dX9_mile_96 mt_X9_isIn mw_1116 ls_X9_75) <| pm_sc (sm_if_eq dX9_mile_99 rfl) <| pm_sc (sm_iconst dX9_mile_102 rfl) <| pm_sc (sm_goto dX9_mile_103 rfl) <| pm_sn
  | 8 => pm_sc (sm_iconst dX9_mile_106 rfl) <| pm_sc (sm_fall rfl) <| pm_sn
  | 9 => pm_sc (sm_istore dX9_mile_107) <| pm_sc (sm_goto dX9_mile_109 rfl) <| pm_sn
  | 10 => pm_sc (sm_iload dX9_mile_112) <| pm_sc (sm_if_eq dX9_mile_114 rfl) <| pm_sc (sm_iload_n dX9_mile_117 rfl) <| pm_sc (sm_iconst dX9_mile_118 rfl) <| pm_sc (sm_iconst dX9_mile_119 rfl) <| pm_sc (sm_cs dX9_mile_120 mt_X9_isIn mw_1116 ls_X9_75) <| pm_sc (sm_if_eq dX9_mile_123 rfl) <| pm_sc (sm_iconst dX9_mile_126 rfl) <| pm_sc (sm_goto dX9_mile_127 rfl) <| pm_sn
  | 11 => pm_sc (sm_iconst dX9_mile_130 rfl) <| pm_sc (sm_fall rfl) <| pm_sn
  | 12 => pm_sc (sm_istore dX9_mile_131) <| pm_sc (sm_goto dX9_mile_133 rfl) <| pm_sn
  | 13 => pm_sc (sm_iconst dX9_mile_136 rfl) <| pm_sc (sm_istore dX9_mile_137) <| pm_sc (sm_fall rfl) <| pm_sn
  | 14 => pm_sc (sm_iload dX9_mile_139) <| pm_sc (sm_if_eq dX9_mile_141 rfl) <| pm_sc (sm_aload_n dX9_mile_144 rfl) <| pm_sc (sm_bipush dX9_mile_145 (by decide)) <| pm_sc (sm_iconst dX9_mile_147 rfl) <| pm_sc (sm_iload_n dX9_mile_148 rfl) <| pm_sc (sm_imul dX9_mile_149) <| pm_sc (sm_iadd dX9_mile_150) <| pm_sc (sm_iload_n dX9_mile_151 rfl) <| pm_sc (sm_iadd dX9_mile_152) <| pm_sc (sm_iload_n dX9_mile_153 rfl) <| pm_sc (sm_cv dX9_mile_154 mt_X9_become mw_1120 lv_X9_79) <| pm_sc (sm_goto dX9_mile_157 rfl) <| pm_sn
  | 15 => pm_sc (sm_aload_n dX9_mile_160 rfl) <| pm_sc (sm_ldc dX9_mile_161 mw_1121) <| pm_sc (sm_cv dX9_mile_163 mt_X9_finding mw_1125 lv_X9_83) <| pm_sc (sm_fall rfl) <| pm_sn
  | 16 => pm_sc (sm_ireturn (pc' := 0) dX9_mile_166 rfl) <| pm_sn
  | n + 17 => trivial
theorem ok_X9_mile (K : pm_K) (l : Launch) (fb : Bool) (hfb : fb = K.2.2.2.2.2) : pm_MOk K l (pm_pg fb) pm_mt n_X9_mile := ⟨by decide +kernel, by decide, pc_X9_mile, rfl, sb_X9_mile K l fb hfb⟩
def pc_X9_stone (b : Nat) : Nat := ([0, 23, 30] : List Nat).getD b 0
set_option maxRecDepth 20000 in
theorem sb_X9_stone (K : pm_K) (l : Launch) (fb : Bool) (hfb : fb = K.2.2.2.2.2) : ∀ b, pm_SimB K l pm_mt "NeedleLineModel" cX9_stone 3 ((.some FieldType.int)) pc_X9_stone (pc_X9_stone b) (P_X9_stone b)
  | 0 => pm_sc (sm_iload_n dX9_stone_0 rfl) <| pm_sc (sm_sipush dX9_stone_1 (by decide)) <| pm_sc (sm_sipush dX9_stone_4 (by decide)) <| pm_sc (sm_cs dX9_stone_7 mt_X9_isIn mw_1116 ls_X9_75) <| pm_sc (sm_if_eq dX9_stone_10 rfl) <| pm_sc (sm_iload_n dX9_stone_13 rfl) <| pm_sc (sm_iconst dX9_stone_14 rfl) <| pm_sc (sm_ldc dX9_stone_15 mw_1138) <| pm_sc (sm_cs dX9_stone_17 mt_X9_isIn mw_1116 ls_X9_75) <| pm_sc (sm_if_ne dX9_stone_20 rfl) <| pm_sc (sm_fall rfl) <| pm_sn
  | 1 => pm_sc (sm_aload_n dX9_stone_23 rfl) <| pm_sc (sm_ldc dX9_stone_24 mw_1121) <| pm_sc (sm_cv dX9_stone_26 mt_X9_finding mw_1125 lv_X9_83) <| pm_sc (sm_ireturn (pc' := 0) dX9_stone_29 rfl) <| pm_sn
  | 2 => pm_sc (sm_aload_n dX9_stone_30 rfl) <| pm_sc (sm_gr dX9_stone_31 fl_X9_9) <| pm_sc (sm_bipush dX9_stone_34 (by decide)) <| pm_sc (sm_iload_n dX9_stone_36 rfl) <| pm_sc (sm_ias dX9_stone_37) <| pm_sc (sm_aload_n dX9_stone_38 rfl) <| pm_sc (sm_gr dX9_stone_39 fl_X9_9) <| pm_sc (sm_bipush dX9_stone_42 (by decide)) <| pm_sc (sm_iload_n dX9_stone_44 rfl) <| pm_sc (sm_ias dX9_stone_45) <| pm_sc (sm_iconst dX9_stone_46 rfl) <| pm_sc (sm_ireturn (pc' := 0) dX9_stone_47 rfl) <| pm_sn
  | n + 3 => trivial
theorem ok_X9_stone (K : pm_K) (l : Launch) (fb : Bool) (hfb : fb = K.2.2.2.2.2) : pm_MOk K l (pm_pg fb) pm_mt n_X9_stone := ⟨by decide +kernel, by decide, pc_X9_stone, rfl, sb_X9_stone K l fb hfb⟩
def pc_X9_slipOf (b : Nat) : Nat := ([0] : List Nat).getD b 0
set_option maxRecDepth 20000 in
theorem sb_X9_slipOf (K : pm_K) (l : Launch) (fb : Bool) (hfb : fb = K.2.2.2.2.2) : ∀ b, pm_SimB K l pm_mt "NeedleLineModel" cX9_slipOf 3 ((.some FieldType.int)) pc_X9_slipOf (pc_X9_slipOf b) (P_X9_slipOf b)
  | 0 => pm_sc (sm_aload_n dX9_slipOf_0 rfl) <| pm_sc (sm_gr dX9_slipOf_1 fl_X9_9) <| pm_sc (sm_sipush dX9_slipOf_4 (by decide)) <| pm_sc (sm_iconst dX9_slipOf_7 rfl) <| pm_sc (sm_iload_n dX9_slipOf_8 rfl) <| pm_sc (sm_imul dX9_slipOf_9) <| pm_sc (sm_iadd dX9_slipOf_10) <| pm_sc (sm_iload_n dX9_slipOf_11 rfl) <| pm_sc (sm_iadd dX9_slipOf_12) <| pm_sc (sm_ia dX9_slipOf_13) <| pm_sc (sm_ireturn (pc' := 0) dX9_slipOf_14 rfl) <| pm_sn
  | n + 1 => trivial
theorem ok_X9_slipOf (K : pm_K) (l : Launch) (fb : Bool) (hfb : fb = K.2.2.2.2.2) : pm_MOk K l (pm_pg fb) pm_mt n_X9_slipOf := ⟨by decide +kernel, by decide, pc_X9_slipOf, rfl, sb_X9_slipOf K l fb hfb⟩
def pc_X9_slip (b : Nat) : Nat := ([0, 56, 63, 85] : List Nat).getD b 0
set_option maxRecDepth 20000 in
theorem sb_X9_slip (K : pm_K) (l : Launch) (fb : Bool) (hfb : fb = K.2.2.2.2.2) : ∀ b, pm_SimB K l pm_mt "NeedleLineModel" cX9_slip 6 ((.some FieldType.int)) pc_X9_slip (pc_X9_slip b) (P_X9_slip b)
  | 0 => pm_sc (sm_iload_n dX9_slip_0 rfl) <| pm_sc (sm_iconst dX9_slip_1 rfl) <| pm_sc (sm_bipush dX9_slip_2 (by decide)) <| pm_sc (sm_cs dX9_slip_4 mt_X9_isIn mw_1116 ls_X9_75) <| pm_sc (sm_if_eq dX9_slip_7 rfl) <| pm_sc (sm_iload_n dX9_slip_10 rfl) <| pm_sc (sm_if_lt dX9_slip_11 rfl) <| pm_sc (sm_iload_n dX9_slip_14 rfl) <| pm_sc (sm_bipush dX9_slip_15 (by decide)) <| pm_sc (sm_idiv dX9_slip_17) <| pm_sc (sm_cs dX9_slip_18 mt_X9_isMile mw_1133 ls_X9_87) <| pm_sc (sm_if_eq dX9_slip_21 rfl) <| pm_sc (sm_iload_n dX9_slip_24 rfl) <| pm_sc (sm_bipush dX9_slip_25 (by decide)) <| pm_sc (sm_irem dX9_slip_27) <| pm_sc (sm_cs dX9_slip_28 mt_X9_isMile mw_1133 ls_X9_87) <| pm_sc (sm_if_eq dX9_slip_31 rfl) <| pm_sc (sm_iload_n dX9_slip_34 rfl) <| pm_sc (sm_bipush dX9_slip_35 (by decide)) <| pm_sc (sm_irem dX9_slip_37) <| pm_sc (sm_iload_n dX9_slip_38 rfl) <| pm_sc (sm_bipush dX9_slip_39 (by decide)) <| pm_sc (sm_idiv dX9_slip_41) <| pm_sc (sm_icmp_lt dX9_slip_42 rfl) <| pm_sc (sm_iload_n dX9_slip_45 rfl) <| pm_sc (sm_bipush dX9_slip_46 (by decide)) <| pm_sc (sm_bipush dX9_slip_48 (by decide)) <| pm_sc (sm_cs dX9_slip_50 mt_X9_isIn mw_1116 ls_X9_75) <| pm_sc (sm_if_ne dX9_slip_53 rfl) <| pm_sc (sm_fall rfl) <| pm_sn
  | 1 => pm_sc (sm_aload_n dX9_slip_56 rfl) <| pm_sc (sm_ldc dX9_slip_57 mw_1121) <| pm_sc (sm_cv dX9_slip_59 mt_X9_finding mw_1125 lv_X9_83) <| pm_sc (sm_ireturn (pc' := 0) dX9_slip_62 rfl) <| pm_sn
  | 2 => pm_sc (sm_aload_n dX9_slip_63 rfl) <| pm_sc (sm_gr dX9_slip_64 fl_X9_9) <| pm_sc (sm_iconst dX9_slip_67 rfl) <| pm_sc (sm_ia dX9_slip_68) <| pm_sc (sm_istore dX9_slip_69) <| pm_sc (sm_iload dX9_slip_71) <| pm_sc (sm_bipush dX9_slip_73 (by decide)) <| pm_sc (sm_icmp_ne dX9_slip_75 rfl) <| pm_sc (sm_aload_n dX9_slip_78 rfl) <| pm_sc (sm_ldc dX9_slip_79 mw_1143) <| pm_sc (sm_cv dX9_slip_81 mt_X9_finding mw_1125 lv_X9_83) <| pm_sc (sm_ireturn (pc' := 0) dX9_slip_84 rfl) <| pm_sn
  | 3 => pm_sc (sm_sipush dX9_slip_85 (by decide)) <| pm_sc (sm_iconst dX9_slip_88 rfl) <| pm_sc (sm_iload dX9_slip_89) <| pm_sc (sm_imul dX9_slip_91) <| pm_sc (sm_iadd dX9_slip_92) <| pm_sc (sm_istore dX9_slip_93) <| pm_sc (sm_aload_n dX9_slip_95 rfl) <| pm_sc (sm_gr dX9_slip_96 fl_X9_9) <| pm_sc (sm_iload dX9_slip_99) <| pm_sc (sm_iconst dX9_slip_101 rfl) <| pm_sc (sm_iadd dX9_slip_102) <| pm_sc (sm_iload_n dX9_slip_103 rfl) <| pm_sc (sm_ias dX9_slip_104) <| pm_sc (sm_aload_n dX9_slip_105 rfl) <| pm_sc (sm_gr dX9_slip_106 fl_X9_9) <| pm_sc (sm_iload dX9_slip_109) <| pm_sc (sm_iconst dX9_slip_111 rfl) <| pm_sc (sm_iadd dX9_slip_112) <| pm_sc (sm_iload_n dX9_slip_113 rfl) <| pm_sc (sm_bipush dX9_slip_114 (by decide)) <| pm_sc (sm_idiv dX9_slip_116) <| pm_sc (sm_ias dX9_slip_117) <| pm_sc (sm_aload_n dX9_slip_118 rfl) <| pm_sc (sm_gr dX9_slip_119 fl_X9_9) <| pm_sc (sm_iload dX9_slip_122) <| pm_sc (sm_iconst dX9_slip_124 rfl) <| pm_sc (sm_iadd dX9_slip_125) <| pm_sc (sm_iload_n dX9_slip_126 rfl) <| pm_sc (sm_bipush dX9_slip_127 (by decide)) <| pm_sc (sm_irem dX9_slip_129) <| pm_sc (sm_ias dX9_slip_130) <| pm_sc (sm_aload_n dX9_slip_131 rfl) <| pm_sc (sm_gr dX9_slip_132 fl_X9_9) <| pm_sc (sm_iload dX9_slip_135) <| pm_sc (sm_iconst dX9_slip_137 rfl) <| pm_sc (sm_iadd dX9_slip_138) <| pm_sc (sm_iload_n dX9_slip_139 rfl) <| pm_sc (sm_ias dX9_slip_140) <| pm_sc (sm_aload_n dX9_slip_141 rfl) <| pm_sc (sm_gr dX9_slip_142 fl_X9_9) <| pm_sc (sm_iload dX9_slip_145) <| pm_sc (sm_iconst dX9_slip_147 rfl) <| pm_sc (sm_iadd dX9_slip_148) <| pm_sc (sm_iconst dX9_slip_149 rfl) <| pm_sc (sm_ias dX9_slip_150) <| pm_sc (sm_aload_n dX9_slip_151 rfl) <| pm_sc (sm_gr dX9_slip_152 fl_X9_9) <| pm_sc (sm_iconst dX9_slip_155 rfl) <| pm_sc (sm_dup2 dX9_slip_156) <| pm_sc (sm_ia dX9_slip_157) <| pm_sc (sm_iconst dX9_slip_158 rfl) <| pm_sc (sm_iadd dX9_slip_159) <| pm_sc (sm_ias dX9_slip_160) <| pm_sc (sm_iload dX9_slip_161) <| pm_sc (sm_ireturn (pc' := 0) dX9_slip_163 rfl) <| pm_sn
  | n + 4 => trivial
theorem ok_X9_slip (K : pm_K) (l : Launch) (fb : Bool) (hfb : fb = K.2.2.2.2.2) : pm_MOk K l (pm_pg fb) pm_mt n_X9_slip := ⟨by decide +kernel, by decide, pc_X9_slip, rfl, sb_X9_slip K l fb hfb⟩
def pc_X9_slipIs (b : Nat) : Nat := ([0, 27, 33] : List Nat).getD b 0
set_option maxRecDepth 20000 in
theorem sb_X9_slipIs (K : pm_K) (l : Launch) (fb : Bool) (hfb : fb = K.2.2.2.2.2) : ∀ b, pm_SimB K l pm_mt "NeedleLineModel" cX9_slipIs 3 ((.some FieldType.int)) pc_X9_slipIs (pc_X9_slipIs b) (P_X9_slipIs b)
  | 0 => pm_sc (sm_aload_n dX9_slipIs_0 rfl) <| pm_sc (sm_iload_n dX9_slipIs_1 rfl) <| pm_sc (sm_iconst dX9_slipIs_2 rfl) <| pm_sc (sm_cv dX9_slipIs_3 mt_X9_is mw_1151 lv_X9_93) <| pm_sc (sm_if_eq dX9_slipIs_6 rfl) <| pm_sc (sm_iload_n dX9_slipIs_9 rfl) <| pm_sc (sm_iconst dX9_slipIs_10 rfl) <| pm_sc (sm_iconst dX9_slipIs_11 rfl) <| pm_sc (sm_cs dX9_slipIs_12 mt_X9_isIn mw_1116 ls_X9_75) <| pm_sc (sm_if_eq dX9_slipIs_15 rfl) <| pm_sc (sm_aload_n dX9_slipIs_18 rfl) <| pm_sc (sm_iload_n dX9_slipIs_19 rfl) <| pm_sc (sm_iload_n dX9_slipIs_20 rfl) <| pm_sc (sm_cv dX9_slipIs_21 mt_X9_slipOf mw_1155 lv_X9_97) <| pm_sc (sm_goto dX9_slipIs_24 rfl) <| pm_sn
  | 1 => pm_sc (sm_aload_n dX9_slipIs_27 rfl) <| pm_sc (sm_ldc dX9_slipIs_28 mw_1121) <| pm_sc (sm_cv dX9_slipIs_30 mt_X9_finding mw_1125 lv_X9_83) <| pm_sc (sm_fall rfl) <| pm_sn
  | 2 => pm_sc (sm_ireturn (pc' := 0) dX9_slipIs_33 rfl) <| pm_sn
  | n + 3 => trivial
theorem ok_X9_slipIs (K : pm_K) (l : Launch) (fb : Bool) (hfb : fb = K.2.2.2.2.2) : pm_MOk K l (pm_pg fb) pm_mt n_X9_slipIs := ⟨by decide +kernel, by decide, pc_X9_slipIs, rfl, sb_X9_slipIs K l fb hfb⟩
def pc_X9_above (b : Nat) : Nat := ([0, 8, 17, 26, 36, 37] : List Nat).getD b 0
set_option maxRecDepth 20000 in
theorem sb_X9_above (K : pm_K) (l : Launch) (fb : Bool) (hfb : fb = K.2.2.2.2.2) : ∀ b, pm_SimB K l pm_mt "NeedleLineModel" cX9_above 1 ((.some FieldType.int)) pc_X9_above (pc_X9_above b) (P_X9_above b)
  | 0 => pm_sc (sm_iload_n dX9_above_0 rfl) <| pm_sc (sm_if_ne dX9_above_1 rfl) <| pm_sc (sm_iconst dX9_above_4 rfl) <| pm_sc (sm_goto dX9_above_5 rfl) <| pm_sn
  | 1 => pm_sc (sm_iload_n dX9_above_8 rfl) <| pm_sc (sm_iconst dX9_above_9 rfl) <| pm_sc (sm_icmp_ne dX9_above_10 rfl) <| pm_sc (sm_iconst dX9_above_13 rfl) <| pm_sc (sm_goto dX9_above_14 rfl) <| pm_sn
  | 2 => pm_sc (sm_iload_n dX9_above_17 rfl) <| pm_sc (sm_iconst dX9_above_18 rfl) <| pm_sc (sm_icmp_ne dX9_above_19 rfl) <| pm_sc (sm_iconst dX9_above_22 rfl) <| pm_sc (sm_goto dX9_above_23 rfl) <| pm_sn
  | 3 => pm_sc (sm_iload_n dX9_above_26 rfl) <| pm_sc (sm_bipush dX9_above_27 (by decide)) <| pm_sc (sm_icmp_ne dX9_above_29 rfl) <| pm_sc (sm_iconst dX9_above_32 rfl) <| pm_sc (sm_goto dX9_above_33 rfl) <| pm_sn
  | 4 => pm_sc (sm_iconst dX9_above_36 rfl) <| pm_sc (sm_fall rfl) <| pm_sn
  | 5 => pm_sc (sm_ireturn (pc' := 0) dX9_above_37 rfl) <| pm_sn
  | n + 6 => trivial
theorem ok_X9_above (K : pm_K) (l : Launch) (fb : Bool) (hfb : fb = K.2.2.2.2.2) : pm_MOk K l (pm_pg fb) pm_mt n_X9_above := ⟨by decide +kernel, by decide, pc_X9_above, rfl, sb_X9_above K l fb hfb⟩
def pc_X9_as (b : Nat) : Nat := ([0, 19, 26, 33, 50, 63, 69] : List Nat).getD b 0
set_option maxRecDepth 20000 in
theorem sb_X9_as (K : pm_K) (l : Launch) (fb : Bool) (hfb : fb = K.2.2.2.2.2) : ∀ b, pm_SimB K l pm_mt "NeedleLineModel" cX9_as 4 ((.some FieldType.int)) pc_X9_as (pc_X9_as b) (P_X9_as b)
  | 0 => pm_sc (sm_aload_n dX9_as_0 rfl) <| pm_sc (sm_iload_n dX9_as_1 rfl) <| pm_sc (sm_iconst dX9_as_2 rfl) <| pm_sc (sm_cv dX9_as_3 mt_X9_is mw_1151 lv_X9_93) <| pm_sc (sm_if_eq dX9_as_6 rfl) <| pm_sc (sm_iload_n dX9_as_9 rfl) <| pm_sc (sm_iconst dX9_as_10 rfl) <| pm_sc (sm_bipush dX9_as_11 (by decide)) <| pm_sc (sm_cs dX9_as_13 mt_X9_isIn mw_1116 ls_X9_75) <| pm_sc (sm_if_ne dX9_as_16 rfl) <| pm_sc (sm_fall rfl) <| pm_sn
  | 1 => pm_sc (sm_aload_n dX9_as_19 rfl) <| pm_sc (sm_ldc dX9_as_20 mw_1121) <| pm_sc (sm_cv dX9_as_22 mt_X9_finding mw_1125 lv_X9_83) <| pm_sc (sm_ireturn (pc' := 0) dX9_as_25 rfl) <| pm_sn
  | 2 => pm_sc (sm_aload_n dX9_as_26 rfl) <| pm_sc (sm_iload_n dX9_as_27 rfl) <| pm_sc (sm_iconst dX9_as_28 rfl) <| pm_sc (sm_cv dX9_as_29 mt_X9_slipOf mw_1155 lv_X9_97) <| pm_sc (sm_istore_n dX9_as_32 rfl) <| pm_sc (sm_fall rfl) <| pm_sn
  | 3 => pm_sc (sm_iload_n dX9_as_33 rfl) <| pm_sc (sm_if_lt dX9_as_34 rfl) <| pm_sc (sm_iload_n dX9_as_37 rfl) <| pm_sc (sm_iload_n dX9_as_38 rfl) <| pm_sc (sm_icmp_eq dX9_as_39 rfl) <| pm_sc (sm_iload_n dX9_as_42 rfl) <| pm_sc (sm_cs dX9_as_43 mt_X9_above mw_1162 ls_X9_100) <| pm_sc (sm_istore_n dX9_as_46 rfl) <| pm_sc (sm_goto dX9_as_47 rfl) <| pm_sn
  | 4 => pm_sc (sm_iload_n dX9_as_50 rfl) <| pm_sc (sm_if_ge dX9_as_51 rfl) <| pm_sc (sm_aload_n dX9_as_54 rfl) <| pm_sc (sm_ldc dX9_as_55 mw_1163) <| pm_sc (sm_cv dX9_as_57 mt_X9_finding mw_1125 lv_X9_83) <| pm_sc (sm_goto dX9_as_60 rfl) <| pm_sn
  | 5 => pm_sc (sm_aload_n dX9_as_63 rfl) <| pm_sc (sm_iload_n dX9_as_64 rfl) <| pm_sc (sm_iconst dX9_as_65 rfl) <| pm_sc (sm_cv dX9_as_66 mt_X9_slipOf mw_1155 lv_X9_97) <| pm_sc (sm_fall rfl) <| pm_sn
  | 6 => pm_sc (sm_ireturn (pc' := 0) dX9_as_69 rfl) <| pm_sn
  | n + 7 => trivial
theorem ok_X9_as (K : pm_K) (l : Launch) (fb : Bool) (hfb : fb = K.2.2.2.2.2) : pm_MOk K l (pm_pg fb) pm_mt n_X9_as := ⟨by decide +kernel, by decide, pc_X9_as, rfl, sb_X9_as K l fb hfb⟩
def pc_X9_turn (b : Nat) : Nat := ([0, 35, 41] : List Nat).getD b 0
set_option maxRecDepth 20000 in
theorem sb_X9_turn (K : pm_K) (l : Launch) (fb : Bool) (hfb : fb = K.2.2.2.2.2) : ∀ b, pm_SimB K l pm_mt "NeedleLineModel" cX9_turn 3 ((.some FieldType.int)) pc_X9_turn (pc_X9_turn b) (P_X9_turn b)
  | 0 => pm_sc (sm_aload_n dX9_turn_0 rfl) <| pm_sc (sm_iload_n dX9_turn_1 rfl) <| pm_sc (sm_iconst dX9_turn_2 rfl) <| pm_sc (sm_cv dX9_turn_3 mt_X9_is mw_1151 lv_X9_93) <| pm_sc (sm_if_eq dX9_turn_6 rfl) <| pm_sc (sm_iload_n dX9_turn_9 rfl) <| pm_sc (sm_iconst dX9_turn_10 rfl) <| pm_sc (sm_iconst dX9_turn_11 rfl) <| pm_sc (sm_cs dX9_turn_12 mt_X9_isIn mw_1116 ls_X9_75) <| pm_sc (sm_if_eq dX9_turn_15 rfl) <| pm_sc (sm_aload_n dX9_turn_18 rfl) <| pm_sc (sm_sipush dX9_turn_19 (by decide)) <| pm_sc (sm_iconst dX9_turn_22 rfl) <| pm_sc (sm_iload_n dX9_turn_23 rfl) <| pm_sc (sm_imul dX9_turn_24) <| pm_sc (sm_iadd dX9_turn_25) <| pm_sc (sm_iconst dX9_turn_26 rfl) <| pm_sc (sm_iadd dX9_turn_27) <| pm_sc (sm_iload_n dX9_turn_28 rfl) <| pm_sc (sm_cv dX9_turn_29 mt_X9_become mw_1120 lv_X9_79) <| pm_sc (sm_goto dX9_turn_32 rfl) <| pm_sn
  | 1 => pm_sc (sm_aload_n dX9_turn_35 rfl) <| pm_sc (sm_ldc dX9_turn_36 mw_1121) <| pm_sc (sm_cv dX9_turn_38 mt_X9_finding mw_1125 lv_X9_83) <| pm_sc (sm_fall rfl) <| pm_sn
  | 2 => pm_sc (sm_ireturn (pc' := 0) dX9_turn_41 rfl) <| pm_sn
  | n + 3 => trivial
theorem ok_X9_turn (K : pm_K) (l : Launch) (fb : Bool) (hfb : fb = K.2.2.2.2.2) : pm_MOk K l (pm_pg fb) pm_mt n_X9_turn := ⟨by decide +kernel, by decide, pc_X9_turn, rfl, sb_X9_turn K l fb hfb⟩
def pc_X9_doesAt (b : Nat) : Nat := ([0, 21, 43, 44, 59, 60, 120, 134, 135, 136, 145, 146, 147, 157, 158, 159, 176, 177, 181, 182, 183, 198, 199, 200, 212, 229, 230, 231] : List Nat).getD b 0
set_option maxRecDepth 20000 in
theorem sb_X9_doesAt (K : pm_K) (l : Launch) (fb : Bool) (hfb : fb = K.2.2.2.2.2) : ∀ b, pm_SimB K l pm_mt "NeedleLineModel" cX9_doesAt 8 ((.some FieldType.int)) pc_X9_doesAt (pc_X9_doesAt b) (P_X9_doesAt b)
  | 0 => pm_sc (sm_iload_n dX9_doesAt_0 rfl) <| pm_sc (sm_aload_n dX9_doesAt_1 rfl) <| pm_sc (sm_iload_n dX9_doesAt_2 rfl) <| pm_sc (sm_iconst dX9_doesAt_3 rfl) <| pm_sc (sm_cv dX9_doesAt_4 mt_X9_slipOf mw_1155 lv_X9_97) <| pm_sc (sm_aload_n dX9_doesAt_7 rfl) <| pm_sc (sm_iload_n dX9_doesAt_8 rfl) <| pm_sc (sm_iconst dX9_doesAt_9 rfl) <| pm_sc (sm_cv dX9_doesAt_10 mt_X9_slipOf mw_1155 lv_X9_97) <| pm_sc (sm_cs dX9_doesAt_13 mt_X9_isIn mw_1116 ls_X9_75) <| pm_sc (sm_if_ne dX9_doesAt_16 rfl) <| pm_sc (sm_iconst dX9_doesAt_19 rfl) <| pm_sc (sm_ireturn (pc' := 0) dX9_doesAt_20 rfl) <| pm_sn
  | 1 => pm_sc (sm_aload_n dX9_doesAt_21 rfl) <| pm_sc (sm_iload_n dX9_doesAt_22 rfl) <| pm_sc (sm_iconst dX9_doesAt_23 rfl) <| pm_sc (sm_cv dX9_doesAt_24 mt_X9_slipOf mw_1155 lv_X9_97) <| pm_sc (sm_istore dX9_doesAt_27) <| pm_sc (sm_iload_n dX9_doesAt_29 rfl) <| pm_sc (sm_aload_n dX9_doesAt_30 rfl) <| pm_sc (sm_iload_n dX9_doesAt_31 rfl) <| pm_sc (sm_iconst dX9_doesAt_32 rfl) <| pm_sc (sm_cv dX9_doesAt_33 mt_X9_slipOf mw_1155 lv_X9_97) <| pm_sc (sm_icmp_ne dX9_doesAt_36 rfl) <| pm_sc (sm_iconst dX9_doesAt_39 rfl) <| pm_sc (sm_goto dX9_doesAt_40 rfl) <| pm_sn
  | 2 => pm_sc (sm_iconst dX9_doesAt_43 rfl) <| pm_sc (sm_fall rfl) <| pm_sn
  | 3 => pm_sc (sm_istore dX9_doesAt_44) <| pm_sc (sm_aload_n dX9_doesAt_46 rfl) <| pm_sc (sm_iload_n dX9_doesAt_47 rfl) <| pm_sc (sm_iconst dX9_doesAt_48 rfl) <| pm_sc (sm_cv dX9_doesAt_49 mt_X9_mileOf mw_1179 lv_X9_104) <| pm_sc (sm_if_le dX9_doesAt_52 rfl) <| pm_sc (sm_iconst dX9_doesAt_55 rfl) <| pm_sc (sm_goto dX9_doesAt_56 rfl) <| pm_sn
  | 4 => pm_sc (sm_iconst dX9_doesAt_59 rfl) <| pm_sc (sm_fall rfl) <| pm_sn
  | 5 => pm_sc (sm_istore dX9_doesAt_60) <| pm_sc (sm_iload dX9_doesAt_62) <| pm_sc (sm_aload_n dX9_doesAt_64 rfl) <| pm_sc (sm_iload_n dX9_doesAt_65 rfl) <| pm_sc (sm_iconst dX9_doesAt_66 rfl) <| pm_sc (sm_cv dX9_doesAt_67 mt_X9_mileOf mw_1179 lv_X9_104) <| pm_sc (sm_iconst dX9_doesAt_70 rfl) <| pm_sc (sm_iadd dX9_doesAt_71) <| pm_sc (sm_imul dX9_doesAt_72) <| pm_sc (sm_istore dX9_doesAt_73) <| pm_sc (sm_aload_n dX9_doesAt_75 rfl) <| pm_sc (sm_iload_n dX9_doesAt_76 rfl) <| pm_sc (sm_iconst dX9_doesAt_77 rfl) <| pm_sc (sm_cv dX9_doesAt_78 mt_X9_slipOf mw_1155 lv_X9_97) <| pm_sc (sm_tsw dX9_doesAt_81 (by decide +kernel) (by decide) rfl) <| pm_sn
  | 6 => pm_sc (sm_iload_n dX9_doesAt_120 rfl) <| pm_sc (sm_if_ne dX9_doesAt_121 rfl) <| pm_sc (sm_iload dX9_doesAt_124) <| pm_sc (sm_if_eq dX9_doesAt_126 rfl) <| pm_sc (sm_iload dX9_doesAt_129) <| pm_sc (sm_goto dX9_doesAt_131 rfl) <| pm_sn
  | 7 => pm_sc (sm_iconst dX9_doesAt_134 rfl) <| pm_sc (sm_fall rfl) <| pm_sn
  | 8 => pm_sc (sm_ireturn (pc' := 0) dX9_doesAt_135 rfl) <| pm_sn
  | 9 => pm_sc (sm_iload_n dX9_doesAt_136 rfl) <| pm_sc (sm_if_ne dX9_doesAt_137 rfl) <| pm_sc (sm_iload dX9_doesAt_140) <| pm_sc (sm_goto dX9_doesAt_142 rfl) <| pm_sn
  | 10 => pm_sc (sm_iconst dX9_doesAt_145 rfl) <| pm_sc (sm_fall rfl) <| pm_sn
  | 11 => pm_sc (sm_ireturn (pc' := 0) dX9_doesAt_146 rfl) <| pm_sn
  | 12 => pm_sc (sm_iload_n dX9_doesAt_147 rfl) <| pm_sc (sm_iconst dX9_doesAt_148 rfl) <| pm_sc (sm_icmp_ne dX9_doesAt_149 rfl) <| pm_sc (sm_iload dX9_doesAt_152) <| pm_sc (sm_goto dX9_doesAt_154 rfl) <| pm_sn
  | 13 => pm_sc (sm_iconst dX9_doesAt_157 rfl) <| pm_sc (sm_fall rfl) <| pm_sn
  | 14 => pm_sc (sm_ireturn (pc' := 0) dX9_doesAt_158 rfl) <| pm_sn
  | 15 => pm_sc (sm_iload_n dX9_doesAt_159 rfl) <| pm_sc (sm_iconst dX9_doesAt_160 rfl) <| pm_sc (sm_icmp_ne dX9_doesAt_161 rfl) <| pm_sc (sm_iload dX9_doesAt_164) <| pm_sc (sm_iload dX9_doesAt_166) <| pm_sc (sm_if_eq dX9_doesAt_168 rfl) <| pm_sc (sm_bipush dX9_doesAt_171 (by decide)) <| pm_sc (sm_goto dX9_doesAt_173 rfl) <| pm_sn
  | 16 => pm_sc (sm_iconst dX9_doesAt_176 rfl) <| pm_sc (sm_fall rfl) <| pm_sn
  | 17 => pm_sc (sm_iadd dX9_doesAt_177) <| pm_sc (sm_goto dX9_doesAt_178 rfl) <| pm_sn
  | 18 => pm_sc (sm_iconst dX9_doesAt_181 rfl) <| pm_sc (sm_fall rfl) <| pm_sn
  | 19 => pm_sc (sm_ireturn (pc' := 0) dX9_doesAt_182 rfl) <| pm_sn
  | 20 => pm_sc (sm_iload_n dX9_doesAt_183 rfl) <| pm_sc (sm_iconst dX9_doesAt_184 rfl) <| pm_sc (sm_icmp_ne dX9_doesAt_185 rfl) <| pm_sc (sm_iload dX9_doesAt_188) <| pm_sc (sm_if_eq dX9_doesAt_190 rfl) <| pm_sc (sm_iload dX9_doesAt_193) <| pm_sc (sm_goto dX9_doesAt_195 rfl) <| pm_sn
  | 21 => pm_sc (sm_iconst dX9_doesAt_198 rfl) <| pm_sc (sm_fall rfl) <| pm_sn
  | 22 => pm_sc (sm_ireturn (pc' := 0) dX9_doesAt_199 rfl) <| pm_sn
  | 23 => pm_sc (sm_iload_n dX9_doesAt_200 rfl) <| pm_sc (sm_iconst dX9_doesAt_201 rfl) <| pm_sc (sm_icmp_ne dX9_doesAt_202 rfl) <| pm_sc (sm_iconst dX9_doesAt_205 rfl) <| pm_sc (sm_iload dX9_doesAt_206) <| pm_sc (sm_imul dX9_doesAt_208) <| pm_sc (sm_goto dX9_doesAt_209 rfl) <| pm_sn
  | 24 => pm_sc (sm_iload_n dX9_doesAt_212 rfl) <| pm_sc (sm_iconst dX9_doesAt_213 rfl) <| pm_sc (sm_icmp_ne dX9_doesAt_214 rfl) <| pm_sc (sm_iload dX9_doesAt_217) <| pm_sc (sm_if_eq dX9_doesAt_219 rfl) <| pm_sc (sm_iload dX9_doesAt_222) <| pm_sc (sm_iconst dX9_doesAt_224 rfl) <| pm_sc (sm_idiv dX9_doesAt_225) <| pm_sc (sm_goto dX9_doesAt_226 rfl) <| pm_sn
  | 25 => pm_sc (sm_iconst dX9_doesAt_229 rfl) <| pm_sc (sm_fall rfl) <| pm_sn
  | 26 => pm_sc (sm_ireturn (pc' := 0) dX9_doesAt_230 rfl) <| pm_sn
  | 27 => pm_sc (sm_iconst dX9_doesAt_231 rfl) <| pm_sc (sm_ireturn (pc' := 0) dX9_doesAt_232 rfl) <| pm_sn
  | n + 28 => trivial
theorem ok_X9_doesAt (K : pm_K) (l : Launch) (fb : Bool) (hfb : fb = K.2.2.2.2.2) : pm_MOk K l (pm_pg fb) pm_mt n_X9_doesAt := ⟨by decide +kernel, by decide, pc_X9_doesAt, rfl, sb_X9_doesAt K l fb hfb⟩
def pc_X9_does (b : Nat) : Nat := ([0, 35, 41] : List Nat).getD b 0
set_option maxRecDepth 20000 in
theorem sb_X9_does (K : pm_K) (l : Launch) (fb : Bool) (hfb : fb = K.2.2.2.2.2) : ∀ b, pm_SimB K l pm_mt "NeedleLineModel" cX9_does 4 ((.some FieldType.int)) pc_X9_does (pc_X9_does b) (P_X9_does b)
  | 0 => pm_sc (sm_aload_n dX9_does_0 rfl) <| pm_sc (sm_iload_n dX9_does_1 rfl) <| pm_sc (sm_iconst dX9_does_2 rfl) <| pm_sc (sm_cv dX9_does_3 mt_X9_is mw_1151 lv_X9_93) <| pm_sc (sm_if_eq dX9_does_6 rfl) <| pm_sc (sm_iload_n dX9_does_9 rfl) <| pm_sc (sm_cs dX9_does_10 mt_X9_isMile mw_1133 ls_X9_87) <| pm_sc (sm_if_eq dX9_does_13 rfl) <| pm_sc (sm_iload_n dX9_does_16 rfl) <| pm_sc (sm_iconst dX9_does_17 rfl) <| pm_sc (sm_iconst dX9_does_18 rfl) <| pm_sc (sm_cs dX9_does_19 mt_X9_isIn mw_1116 ls_X9_75) <| pm_sc (sm_if_eq dX9_does_22 rfl) <| pm_sc (sm_aload_n dX9_does_25 rfl) <| pm_sc (sm_iload_n dX9_does_26 rfl) <| pm_sc (sm_iload_n dX9_does_27 rfl) <| pm_sc (sm_iload_n dX9_does_28 rfl) <| pm_sc (sm_cv dX9_does_29 mt_X9_doesAt mw_1175 lv_X9_107) <| pm_sc (sm_goto dX9_does_32 rfl) <| pm_sn
  | 1 => pm_sc (sm_aload_n dX9_does_35 rfl) <| pm_sc (sm_ldc dX9_does_36 mw_1121) <| pm_sc (sm_cv dX9_does_38 mt_X9_finding mw_1125 lv_X9_83) <| pm_sc (sm_fall rfl) <| pm_sn
  | 2 => pm_sc (sm_ireturn (pc' := 0) dX9_does_41 rfl) <| pm_sn
  | n + 3 => trivial
theorem ok_X9_does (K : pm_K) (l : Launch) (fb : Bool) (hfb : fb = K.2.2.2.2.2) : pm_MOk K l (pm_pg fb) pm_mt n_X9_does := ⟨by decide +kernel, by decide, pc_X9_does, rfl, sb_X9_does K l fb hfb⟩
def pc_X9_allThat (b : Nat) : Nat := ([0, 5, 39, 40, 48] : List Nat).getD b 0
set_option maxRecDepth 20000 in
theorem sb_X9_allThat (K : pm_K) (l : Launch) (fb : Bool) (hfb : fb = K.2.2.2.2.2) : ∀ b, pm_SimB K l pm_mt "NeedleLineModel" cX9_allThat 5 ((.some FieldType.int)) pc_X9_allThat (pc_X9_allThat b) (P_X9_allThat b)
  | 0 => pm_sc (sm_iconst dX9_allThat_0 rfl) <| pm_sc (sm_istore_n dX9_allThat_1 rfl) <| pm_sc (sm_iconst dX9_allThat_2 rfl) <| pm_sc (sm_istore dX9_allThat_3) <| pm_sc (sm_fall rfl) <| pm_sn
  | 1 => pm_sc (sm_iload dX9_allThat_5) <| pm_sc (sm_aload_n dX9_allThat_7 rfl) <| pm_sc (sm_gr dX9_allThat_8 fl_X9_9) <| pm_sc (sm_iconst dX9_allThat_11 rfl) <| pm_sc (sm_ia dX9_allThat_12) <| pm_sc (sm_icmp_ge dX9_allThat_13 rfl) <| pm_sc (sm_iload_n dX9_allThat_16 rfl) <| pm_sc (sm_aload_n dX9_allThat_17 rfl) <| pm_sc (sm_iload dX9_allThat_18) <| pm_sc (sm_iconst dX9_allThat_20 rfl) <| pm_sc (sm_cv dX9_allThat_21 mt_X9_slipOf mw_1155 lv_X9_97) <| pm_sc (sm_iconst dX9_allThat_24 rfl) <| pm_sc (sm_icmp_ne dX9_allThat_25 rfl) <| pm_sc (sm_aload_n dX9_allThat_28 rfl) <| pm_sc (sm_iload dX9_allThat_29) <| pm_sc (sm_iload_n dX9_allThat_31 rfl) <| pm_sc (sm_iload_n dX9_allThat_32 rfl) <| pm_sc (sm_cv dX9_allThat_33 mt_X9_doesAt mw_1175 lv_X9_107) <| pm_sc (sm_goto dX9_allThat_36 rfl) <| pm_sn
  | 2 => pm_sc (sm_iconst dX9_allThat_39 rfl) <| pm_sc (sm_fall rfl) <| pm_sn
  | 3 => pm_sc (sm_iadd dX9_allThat_40) <| pm_sc (sm_istore_n dX9_allThat_41 rfl) <| pm_sc (sm_iinc dX9_allThat_42 rfl) <| pm_sc (sm_goto dX9_allThat_45 rfl) <| pm_sn
  | 4 => pm_sc (sm_iload_n dX9_allThat_48 rfl) <| pm_sc (sm_ireturn (pc' := 0) dX9_allThat_49 rfl) <| pm_sn
  | n + 5 => trivial
theorem ok_X9_allThat (K : pm_K) (l : Launch) (fb : Bool) (hfb : fb = K.2.2.2.2.2) : pm_MOk K l (pm_pg fb) pm_mt n_X9_allThat := ⟨by decide +kernel, by decide, pc_X9_allThat, rfl, sb_X9_allThat K l fb hfb⟩
def pc_X9_goes (b : Nat) : Nat := ([0, 4, 28, 29, 121] : List Nat).getD b 0
set_option maxRecDepth 20000 in
theorem sb_X9_goes (K : pm_K) (l : Launch) (fb : Bool) (hfb : fb = K.2.2.2.2.2) : ∀ b, pm_SimB K l pm_mt "NeedleLineModel" cX9_goes 3 ((.none : Option FieldType)) pc_X9_goes (pc_X9_goes b) (P_X9_goes b)
  | 0 => pm_sc (sm_iconst dX9_goes_0 rfl) <| pm_sc (sm_istore_n dX9_goes_1 rfl) <| pm_sc (sm_iconst dX9_goes_2 rfl) <| pm_sc (sm_istore_n dX9_goes_3 rfl) <| pm_sc (sm_fall rfl) <| pm_sn
  | 1 => pm_sc (sm_iload_n dX9_goes_4 rfl) <| pm_sc (sm_aload_n dX9_goes_5 rfl) <| pm_sc (sm_gr dX9_goes_6 fl_X9_9) <| pm_sc (sm_iconst dX9_goes_9 rfl) <| pm_sc (sm_ia dX9_goes_10) <| pm_sc (sm_icmp_ge dX9_goes_11 rfl) <| pm_sc (sm_aload_n dX9_goes_14 rfl) <| pm_sc (sm_iload_n dX9_goes_15 rfl) <| pm_sc (sm_iconst dX9_goes_16 rfl) <| pm_sc (sm_cv dX9_goes_17 mt_X9_mileOf mw_1179 lv_X9_104) <| pm_sc (sm_iconst dX9_goes_20 rfl) <| pm_sc (sm_icmp_ne dX9_goes_21 rfl) <| pm_sc (sm_iconst dX9_goes_24 rfl) <| pm_sc (sm_goto dX9_goes_25 rfl) <| pm_sn
  | 2 => pm_sc (sm_iload_n dX9_goes_28 rfl) <| pm_sc (sm_fall rfl) <| pm_sn
  | 3 => pm_sc (sm_aload_n dX9_goes_29 rfl) <| pm_sc (sm_iload_n dX9_goes_30 rfl) <| pm_sc (sm_iconst dX9_goes_31 rfl) <| pm_sc (sm_cv dX9_goes_32 mt_X9_allThat mw_1191 lv_X9_111) <| pm_sc (sm_iadd dX9_goes_35) <| pm_sc (sm_istore_n dX9_goes_36 rfl) <| pm_sc (sm_aload_n dX9_goes_37 rfl) <| pm_sc (sm_gr dX9_goes_38 fl_X9_25) <| pm_sc (sm_iload_n dX9_goes_41 rfl) <| pm_sc (sm_iload_n dX9_goes_42 rfl) <| pm_sc (sm_ias dX9_goes_43) <| pm_sc (sm_aload_n dX9_goes_44 rfl) <| pm_sc (sm_gr dX9_goes_45 fl_X9_19) <| pm_sc (sm_iload_n dX9_goes_48 rfl) <| pm_sc (sm_iconst dX9_goes_49 rfl) <| pm_sc (sm_iadd dX9_goes_50) <| pm_sc (sm_aload_n dX9_goes_51 rfl) <| pm_sc (sm_gr dX9_goes_52 fl_X9_19) <| pm_sc (sm_iload_n dX9_goes_55 rfl) <| pm_sc (sm_ia dX9_goes_56) <| pm_sc (sm_iload_n dX9_goes_57 rfl) <| pm_sc (sm_iadd dX9_goes_58) <| pm_sc (sm_aload_n dX9_goes_59 rfl) <| pm_sc (sm_iload_n dX9_goes_60 rfl) <| pm_sc (sm_iconst dX9_goes_61 rfl) <| pm_sc (sm_cv dX9_goes_62 mt_X9_mileOf mw_1179 lv_X9_104) <| pm_sc (sm_iadd dX9_goes_65) <| pm_sc (sm_aload_n dX9_goes_66 rfl) <| pm_sc (sm_iload_n dX9_goes_67 rfl) <| pm_sc (sm_iconst dX9_goes_68 rfl) <| pm_sc (sm_cv dX9_goes_69 mt_X9_allThat mw_1191 lv_X9_111) <| pm_sc (sm_iadd dX9_goes_72) <| pm_sc (sm_aload_n dX9_goes_73 rfl) <| pm_sc (sm_iload_n dX9_goes_74 rfl) <| pm_sc (sm_iconst dX9_goes_75 rfl) <| pm_sc (sm_cv dX9_goes_76 mt_X9_mileOf mw_1179 lv_X9_104) <| pm_sc (sm_iadd dX9_goes_79) <| pm_sc (sm_ias dX9_goes_80) <| pm_sc (sm_aload_n dX9_goes_81 rfl) <| pm_sc (sm_gr dX9_goes_82 fl_X9_22) <| pm_sc (sm_iload_n dX9_goes_85 rfl) <| pm_sc (sm_iconst dX9_goes_86 rfl) <| pm_sc (sm_iadd dX9_goes_87) <| pm_sc (sm_aload_n dX9_goes_88 rfl) <| pm_sc (sm_gr dX9_goes_89 fl_X9_22) <| pm_sc (sm_iload_n dX9_goes_92 rfl) <| pm_sc (sm_ia dX9_goes_93) <| pm_sc (sm_sipush dX9_goes_94 (by decide)) <| pm_sc (sm_iadd dX9_goes_97) <| pm_sc (sm_iconst dX9_goes_98 rfl) <| pm_sc (sm_aload_n dX9_goes_99 rfl) <| pm_sc (sm_iload_n dX9_goes_100 rfl) <| pm_sc (sm_iconst dX9_goes_101 rfl) <| pm_sc (sm_cv dX9_goes_102 mt_X9_mileOf mw_1179 lv_X9_104) <| pm_sc (sm_imul dX9_goes_105) <| pm_sc (sm_isub dX9_goes_106) <| pm_sc (sm_aload_n dX9_goes_107 rfl) <| pm_sc (sm_iload_n dX9_goes_108 rfl) <| pm_sc (sm_iconst dX9_goes_109 rfl) <| pm_sc (sm_cv dX9_goes_110 mt_X9_allThat mw_1191 lv_X9_111) <| pm_sc (sm_isub dX9_goes_113) <| pm_sc (sm_ias dX9_goes_114) <| pm_sc (sm_iinc dX9_goes_115 rfl) <| pm_sc (sm_goto dX9_goes_118 rfl) <| pm_sn
  | 4 => pm_sc (sm_return (pc' := 0) dX9_goes_121 rfl) <| pm_sn
  | n + 5 => trivial
theorem ok_X9_goes (K : pm_K) (l : Launch) (fb : Bool) (hfb : fb = K.2.2.2.2.2) : pm_MOk K l (pm_pg fb) pm_mt n_X9_goes := ⟨by decide +kernel, by decide, pc_X9_goes, rfl, sb_X9_goes K l fb hfb⟩
def pc_X9_missIn (b : Nat) : Nat := ([0, 46, 56, 66] : List Nat).getD b 0
set_option maxRecDepth 20000 in
theorem sb_X9_missIn (K : pm_K) (l : Launch) (fb : Bool) (hfb : fb = K.2.2.2.2.2) : ∀ b, pm_SimB K l pm_mt "NeedleLineModel" cX9_missIn 5 ((.some FieldType.int)) pc_X9_missIn (pc_X9_missIn b) (P_X9_missIn b)
  | 0 => pm_sc (sm_aload_n dX9_missIn_0 rfl) <| pm_sc (sm_gr dX9_missIn_1 fl_X9_9) <| pm_sc (sm_iconst dX9_missIn_4 rfl) <| pm_sc (sm_ia dX9_missIn_5) <| pm_sc (sm_istore_n dX9_missIn_6 rfl) <| pm_sc (sm_aload_n dX9_missIn_7 rfl) <| pm_sc (sm_gr dX9_missIn_8 fl_X9_19) <| pm_sc (sm_iload_n dX9_missIn_11 rfl) <| pm_sc (sm_ia dX9_missIn_12) <| pm_sc (sm_aload_n dX9_missIn_13 rfl) <| pm_sc (sm_gr dX9_missIn_14 fl_X9_9) <| pm_sc (sm_bipush dX9_missIn_17 (by decide)) <| pm_sc (sm_ia dX9_missIn_19) <| pm_sc (sm_isub dX9_missIn_20) <| pm_sc (sm_istore_n dX9_missIn_21 rfl) <| pm_sc (sm_aload_n dX9_missIn_22 rfl) <| pm_sc (sm_gr dX9_missIn_23 fl_X9_22) <| pm_sc (sm_iload_n dX9_missIn_26 rfl) <| pm_sc (sm_ia dX9_missIn_27) <| pm_sc (sm_aload_n dX9_missIn_28 rfl) <| pm_sc (sm_gr dX9_missIn_29 fl_X9_9) <| pm_sc (sm_bipush dX9_missIn_32 (by decide)) <| pm_sc (sm_ia dX9_missIn_34) <| pm_sc (sm_isub dX9_missIn_35) <| pm_sc (sm_istore dX9_missIn_36) <| pm_sc (sm_iload_n dX9_missIn_38 rfl) <| pm_sc (sm_if_ne dX9_missIn_39 rfl) <| pm_sc (sm_iload_n dX9_missIn_42 rfl) <| pm_sc (sm_goto dX9_missIn_43 rfl) <| pm_sn
  | 1 => pm_sc (sm_iload_n dX9_missIn_46 rfl) <| pm_sc (sm_iconst dX9_missIn_47 rfl) <| pm_sc (sm_icmp_ne dX9_missIn_48 rfl) <| pm_sc (sm_iload dX9_missIn_51) <| pm_sc (sm_goto dX9_missIn_53 rfl) <| pm_sn
  | 2 => pm_sc (sm_iload_n dX9_missIn_56 rfl) <| pm_sc (sm_mabs dX9_missIn_57 mw_1302 mw_752 mw_64 mw_753) <| pm_sc (sm_iload dX9_missIn_60) <| pm_sc (sm_mabs dX9_missIn_62 mw_1302 mw_752 mw_64 mw_753) <| pm_sc (sm_iadd dX9_missIn_65) <| pm_sc (sm_fall rfl) <| pm_sn
  | 3 => pm_sc (sm_ireturn (pc' := 0) dX9_missIn_66 rfl) <| pm_sn
  | n + 4 => trivial
theorem ok_X9_missIn (K : pm_K) (l : Launch) (fb : Bool) (hfb : fb = K.2.2.2.2.2) : pm_MOk K l (pm_pg fb) pm_mt n_X9_missIn := ⟨by decide +kernel, by decide, pc_X9_missIn, rfl, sb_X9_missIn K l fb hfb⟩
def pc_X9_mileIs (b : Nat) : Nat := ([0, 19, 26, 60, 66, 73, 80, 87] : List Nat).getD b 0
set_option maxRecDepth 20000 in
theorem sb_X9_mileIs (K : pm_K) (l : Launch) (fb : Bool) (hfb : fb = K.2.2.2.2.2) : ∀ b, pm_SimB K l pm_mt "NeedleLineModel" cX9_mileIs 3 ((.some FieldType.int)) pc_X9_mileIs (pc_X9_mileIs b) (P_X9_mileIs b)
  | 0 => pm_sc (sm_aload_n dX9_mileIs_0 rfl) <| pm_sc (sm_iload_n dX9_mileIs_1 rfl) <| pm_sc (sm_iconst dX9_mileIs_2 rfl) <| pm_sc (sm_cv dX9_mileIs_3 mt_X9_is mw_1151 lv_X9_93) <| pm_sc (sm_if_eq dX9_mileIs_6 rfl) <| pm_sc (sm_iload_n dX9_mileIs_9 rfl) <| pm_sc (sm_iconst dX9_mileIs_10 rfl) <| pm_sc (sm_bipush dX9_mileIs_11 (by decide)) <| pm_sc (sm_cs dX9_mileIs_13 mt_X9_isIn mw_1116 ls_X9_75) <| pm_sc (sm_if_ne dX9_mileIs_16 rfl) <| pm_sc (sm_fall rfl) <| pm_sn
  | 1 => pm_sc (sm_aload_n dX9_mileIs_19 rfl) <| pm_sc (sm_ldc dX9_mileIs_20 mw_1121) <| pm_sc (sm_cv dX9_mileIs_22 mt_X9_finding mw_1125 lv_X9_83) <| pm_sc (sm_ireturn (pc' := 0) dX9_mileIs_25 rfl) <| pm_sn
  | 2 => pm_sc (sm_aload_n dX9_mileIs_26 rfl) <| pm_sc (sm_cv dX9_mileIs_27 mt_X9_goes mw_1187 lv_X9_117) <| pm_sc (sm_iload_n dX9_mileIs_30 rfl) <| pm_sc (sm_tsw dX9_mileIs_31 (by decide +kernel) (by decide) rfl) <| pm_sn
  | 3 => pm_sc (sm_aload_n dX9_mileIs_60 rfl) <| pm_sc (sm_iload_n dX9_mileIs_61 rfl) <| pm_sc (sm_cv dX9_mileIs_62 mt_X9_hoursOf mw_1195 lv_X9_120) <| pm_sc (sm_ireturn (pc' := 0) dX9_mileIs_65 rfl) <| pm_sn
  | 4 => pm_sc (sm_aload_n dX9_mileIs_66 rfl) <| pm_sc (sm_gr dX9_mileIs_67 fl_X9_25) <| pm_sc (sm_iload_n dX9_mileIs_70 rfl) <| pm_sc (sm_ia dX9_mileIs_71) <| pm_sc (sm_ireturn (pc' := 0) dX9_mileIs_72 rfl) <| pm_sn
  | 5 => pm_sc (sm_aload_n dX9_mileIs_73 rfl) <| pm_sc (sm_iload_n dX9_mileIs_74 rfl) <| pm_sc (sm_iconst dX9_mileIs_75 rfl) <| pm_sc (sm_cv dX9_mileIs_76 mt_X9_allThat mw_1191 lv_X9_111) <| pm_sc (sm_ireturn (pc' := 0) dX9_mileIs_79 rfl) <| pm_sn
  | 6 => pm_sc (sm_aload_n dX9_mileIs_80 rfl) <| pm_sc (sm_iload_n dX9_mileIs_81 rfl) <| pm_sc (sm_iconst dX9_mileIs_82 rfl) <| pm_sc (sm_cv dX9_mileIs_83 mt_X9_allThat mw_1191 lv_X9_111) <| pm_sc (sm_ireturn (pc' := 0) dX9_mileIs_86 rfl) <| pm_sn
  | 7 => pm_sc (sm_aload_n dX9_mileIs_87 rfl) <| pm_sc (sm_iload_n dX9_mileIs_88 rfl) <| pm_sc (sm_iload_n dX9_mileIs_89 rfl) <| pm_sc (sm_cv dX9_mileIs_90 mt_X9_mileOf mw_1179 lv_X9_104) <| pm_sc (sm_ireturn (pc' := 0) dX9_mileIs_93 rfl) <| pm_sn
  | n + 8 => trivial
theorem ok_X9_mileIs (K : pm_K) (l : Launch) (fb : Bool) (hfb : fb = K.2.2.2.2.2) : pm_MOk K l (pm_pg fb) pm_mt n_X9_mileIs := ⟨by decide +kernel, by decide, pc_X9_mileIs, rfl, sb_X9_mileIs K l fb hfb⟩
def pc_X9_feed (b : Nat) : Nat := ([0, 17, 37, 40, 89] : List Nat).getD b 0
set_option maxRecDepth 20000 in
theorem sb_X9_feed (K : pm_K) (l : Launch) (fb : Bool) (hfb : fb = K.2.2.2.2.2) : ∀ b, pm_SimB K l pm_mt "NeedleLineModel" cX9_feed 5 ((.some FieldType.int)) pc_X9_feed (pc_X9_feed b) (P_X9_feed b)
  | 0 => pm_sc (sm_iload_n dX9_feed_0 rfl) <| pm_sc (sm_iconst dX9_feed_1 rfl) <| pm_sc (sm_bipush dX9_feed_2 (by decide)) <| pm_sc (sm_cs dX9_feed_4 mt_X9_isIn mw_1116 ls_X9_75) <| pm_sc (sm_if_ne dX9_feed_7 rfl) <| pm_sc (sm_aload_n dX9_feed_10 rfl) <| pm_sc (sm_ldc dX9_feed_11 mw_1121) <| pm_sc (sm_cv dX9_feed_13 mt_X9_finding mw_1125 lv_X9_83) <| pm_sc (sm_ireturn (pc' := 0) dX9_feed_16 rfl) <| pm_sn
  | 1 => pm_sc (sm_aload_n dX9_feed_17 rfl) <| pm_sc (sm_gr dX9_feed_18 fl_X9_9) <| pm_sc (sm_iconst dX9_feed_21 rfl) <| pm_sc (sm_ia dX9_feed_22) <| pm_sc (sm_iload_n dX9_feed_23 rfl) <| pm_sc (sm_iadd dX9_feed_24) <| pm_sc (sm_bipush dX9_feed_25 (by decide)) <| pm_sc (sm_icmp_le dX9_feed_27 rfl) <| pm_sc (sm_aload_n dX9_feed_30 rfl) <| pm_sc (sm_ldc dX9_feed_31 mw_1143) <| pm_sc (sm_cv dX9_feed_33 mt_X9_finding mw_1125 lv_X9_83) <| pm_sc (sm_ireturn (pc' := 0) dX9_feed_36 rfl) <| pm_sn
  | 2 => pm_sc (sm_iconst dX9_feed_37 rfl) <| pm_sc (sm_istore dX9_feed_38) <| pm_sc (sm_fall rfl) <| pm_sn
  | 3 => pm_sc (sm_iload dX9_feed_40) <| pm_sc (sm_iload_n dX9_feed_42 rfl) <| pm_sc (sm_icmp_ge dX9_feed_43 rfl) <| pm_sc (sm_aload_n dX9_feed_46 rfl) <| pm_sc (sm_gr dX9_feed_47 fl_X9_9) <| pm_sc (sm_sipush dX9_feed_50 (by decide)) <| pm_sc (sm_aload_n dX9_feed_53 rfl) <| pm_sc (sm_gr dX9_feed_54 fl_X9_9) <| pm_sc (sm_iconst dX9_feed_57 rfl) <| pm_sc (sm_ia dX9_feed_58) <| pm_sc (sm_iadd dX9_feed_59) <| pm_sc (sm_lload_n dX9_feed_60 rfl) <| pm_sc (sm_bipush dX9_feed_61 (by decide)) <| pm_sc (sm_iload dX9_feed_63) <| pm_sc (sm_imul dX9_feed_65) <| pm_sc (sm_lshr dX9_feed_66) <| pm_sc (sm_ldc2 dX9_feed_67 mw_1220) <| pm_sc (sm_land dX9_feed_70) <| pm_sc (sm_l2i dX9_feed_71) <| pm_sc (sm_ias dX9_feed_72) <| pm_sc (sm_aload_n dX9_feed_73 rfl) <| pm_sc (sm_gr dX9_feed_74 fl_X9_9) <| pm_sc (sm_iconst dX9_feed_77 rfl) <| pm_sc (sm_dup2 dX9_feed_78) <| pm_sc (sm_ia dX9_feed_79) <| pm_sc (sm_iconst dX9_feed_80 rfl) <| pm_sc (sm_iadd dX9_feed_81) <| pm_sc (sm_ias dX9_feed_82) <| pm_sc (sm_iinc dX9_feed_83 rfl) <| pm_sc (sm_goto dX9_feed_86 rfl) <| pm_sn
  | 4 => pm_sc (sm_aload_n dX9_feed_89 rfl) <| pm_sc (sm_gr dX9_feed_90 fl_X9_9) <| pm_sc (sm_iconst dX9_feed_93 rfl) <| pm_sc (sm_ia dX9_feed_94) <| pm_sc (sm_ireturn (pc' := 0) dX9_feed_95 rfl) <| pm_sn
  | n + 5 => trivial
theorem ok_X9_feed (K : pm_K) (l : Launch) (fb : Bool) (hfb : fb = K.2.2.2.2.2) : pm_MOk K l (pm_pg fb) pm_mt n_X9_feed := ⟨by decide +kernel, by decide, pc_X9_feed, rfl, sb_X9_feed K l fb hfb⟩
def pc_X9_here (b : Nat) : Nat := ([0, 36, 37] : List Nat).getD b 0
set_option maxRecDepth 20000 in
theorem sb_X9_here (K : pm_K) (l : Launch) (fb : Bool) (hfb : fb = K.2.2.2.2.2) : ∀ b, pm_SimB K l pm_mt "NeedleLineModel" cX9_here 1 ((.some FieldType.int)) pc_X9_here (pc_X9_here b) (P_X9_here b)
  | 0 => pm_sc (sm_aload_n dX9_here_0 rfl) <| pm_sc (sm_gi dX9_here_1 fl_X9_125) <| pm_sc (sm_if_ne dX9_here_4 rfl) <| pm_sc (sm_aload_n dX9_here_7 rfl) <| pm_sc (sm_gi dX9_here_8 fl_X9_129) <| pm_sc (sm_aload_n dX9_here_11 rfl) <| pm_sc (sm_gr dX9_here_12 fl_X9_9) <| pm_sc (sm_iconst dX9_here_15 rfl) <| pm_sc (sm_ia dX9_here_16) <| pm_sc (sm_icmp_ge dX9_here_17 rfl) <| pm_sc (sm_aload_n dX9_here_20 rfl) <| pm_sc (sm_gr dX9_here_21 fl_X9_9) <| pm_sc (sm_sipush dX9_here_24 (by decide)) <| pm_sc (sm_aload_n dX9_here_27 rfl) <| pm_sc (sm_gi dX9_here_28 fl_X9_129) <| pm_sc (sm_iadd dX9_here_31) <| pm_sc (sm_ia dX9_here_32) <| pm_sc (sm_goto dX9_here_33 rfl) <| pm_sn
  | 1 => pm_sc (sm_iconst dX9_here_36 rfl) <| pm_sc (sm_fall rfl) <| pm_sn
  | 2 => pm_sc (sm_ireturn (pc' := 0) dX9_here_37 rfl) <| pm_sn
  | n + 3 => trivial
theorem ok_X9_here (K : pm_K) (l : Launch) (fb : Bool) (hfb : fb = K.2.2.2.2.2) : pm_MOk K l (pm_pg fb) pm_mt n_X9_here := ⟨by decide +kernel, by decide, pc_X9_here, rfl, sb_X9_here K l fb hfb⟩
def pc_X9_takes (b : Nat) : Nat := ([0, 12, 13, 27, 28] : List Nat).getD b 0
set_option maxRecDepth 20000 in
theorem sb_X9_takes (K : pm_K) (l : Launch) (fb : Bool) (hfb : fb = K.2.2.2.2.2) : ∀ b, pm_SimB K l pm_mt "NeedleLineModel" cX9_takes 3 ((.some FieldType.boolean)) pc_X9_takes (pc_X9_takes b) (P_X9_takes b)
  | 0 => pm_sc (sm_aload_n dX9_takes_0 rfl) <| pm_sc (sm_cv dX9_takes_1 mt_X9_here mw_1252 lv_X9_133) <| pm_sc (sm_iload_n dX9_takes_4 rfl) <| pm_sc (sm_icmp_ne dX9_takes_5 rfl) <| pm_sc (sm_iconst dX9_takes_8 rfl) <| pm_sc (sm_goto dX9_takes_9 rfl) <| pm_sn
  | 1 => pm_sc (sm_iconst dX9_takes_12 rfl) <| pm_sc (sm_fall rfl) <| pm_sn
  | 2 => pm_sc (sm_istore_n dX9_takes_13 rfl) <| pm_sc (sm_aload_n dX9_takes_14 rfl) <| pm_sc (sm_dup dX9_takes_15) <| pm_sc (sm_gi dX9_takes_16 fl_X9_129) <| pm_sc (sm_iload_n dX9_takes_19 rfl) <| pm_sc (sm_if_eq dX9_takes_20 rfl) <| pm_sc (sm_iconst dX9_takes_23 rfl) <| pm_sc (sm_goto dX9_takes_24 rfl) <| pm_sn
  | 3 => pm_sc (sm_iconst dX9_takes_27 rfl) <| pm_sc (sm_fall rfl) <| pm_sn
  | 4 => pm_sc (sm_iadd dX9_takes_28) <| pm_sc (sm_pi dX9_takes_29 fp_X9_129) <| pm_sc (sm_iload_n dX9_takes_32 rfl) <| pm_sc (sm_zreturn (pc' := 0) dX9_takes_33 rfl) <| pm_sn
  | n + 5 => trivial
theorem ok_X9_takes (K : pm_K) (l : Launch) (fb : Bool) (hfb : fb = K.2.2.2.2.2) : pm_MOk K l (pm_pg fb) pm_mt n_X9_takes := ⟨by decide +kernel, by decide, pc_X9_takes, rfl, sb_X9_takes K l fb hfb⟩
def pc_X9_codes (b : Nat) : Nat := ([0, 27] : List Nat).getD b 0
set_option maxRecDepth 20000 in
theorem sb_X9_codes (K : pm_K) (l : Launch) (fb : Bool) (hfb : fb = K.2.2.2.2.2) : ∀ b, pm_SimB K l pm_mt "NeedleLineModel" cX9_codes 2 ((.none : Option FieldType)) pc_X9_codes (pc_X9_codes b) (P_X9_codes b)
  | 0 => pm_sc (sm_aload_n dX9_codes_0 rfl) <| pm_sc (sm_gi dX9_codes_1 fl_X9_125) <| pm_sc (sm_if_ne dX9_codes_4 rfl) <| pm_sc (sm_aload_n dX9_codes_7 rfl) <| pm_sc (sm_gr dX9_codes_8 fl_X9_38) <| pm_sc (sm_aload_n dX9_codes_11 rfl) <| pm_sc (sm_gi dX9_codes_12 fl_X9_137) <| pm_sc (sm_iload_n dX9_codes_15 rfl) <| pm_sc (sm_ias dX9_codes_16) <| pm_sc (sm_aload_n dX9_codes_17 rfl) <| pm_sc (sm_dup dX9_codes_18) <| pm_sc (sm_gi dX9_codes_19 fl_X9_137) <| pm_sc (sm_iconst dX9_codes_22 rfl) <| pm_sc (sm_iadd dX9_codes_23) <| pm_sc (sm_pi dX9_codes_24 fp_X9_137) <| pm_sc (sm_fall rfl) <| pm_sn
  | 1 => pm_sc (sm_return (pc' := 0) dX9_codes_27 rfl) <| pm_sn
  | n + 2 => trivial
theorem ok_X9_codes (K : pm_K) (l : Launch) (fb : Bool) (hfb : fb = K.2.2.2.2.2) : pm_MOk K l (pm_pg fb) pm_mt n_X9_codes := ⟨by decide +kernel, by decide, pc_X9_codes, rfl, sb_X9_codes K l fb hfb⟩
def pc_X9_either (b : Nat) : Nat := ([0, 4, 27] : List Nat).getD b 0
set_option maxRecDepth 20000 in
theorem sb_X9_either (K : pm_K) (l : Launch) (fb : Bool) (hfb : fb = K.2.2.2.2.2) : ∀ b, pm_SimB K l pm_mt "NeedleLineModel" cX9_either 1 ((.none : Option FieldType)) pc_X9_either (pc_X9_either b) (P_X9_either b)
  | 0 => pm_sc (sm_aload_n dX9_either_0 rfl) <| pm_sc (sm_cv dX9_either_1 mt_X9_both mw_1232 lv_X9_140) <| pm_sc (sm_fall rfl) <| pm_sn
  | 1 => pm_sc (sm_aload_n dX9_either_4 rfl) <| pm_sc (sm_bipush dX9_either_5 (by decide)) <| pm_sc (sm_cv dX9_either_7 mt_X9_takes mw_1260 lv_X9_143) <| pm_sc (sm_if_eq dX9_either_10 rfl) <| pm_sc (sm_aload_n dX9_either_13 rfl) <| pm_sc (sm_cv dX9_either_14 mt_X9_both mw_1232 lv_X9_140) <| pm_sc (sm_aload_n dX9_either_17 rfl) <| pm_sc (sm_sipush dX9_either_18 (by decide)) <| pm_sc (sm_cv dX9_either_21 mt_X9_codes mw_1256 lv_X9_146) <| pm_sc (sm_goto dX9_either_24 rfl) <| pm_sn
  | 2 => pm_sc (sm_return (pc' := 0) dX9_either_27 rfl) <| pm_sn
  | n + 3 => trivial
theorem ok_X9_either (K : pm_K) (l : Launch) (fb : Bool) (hfb : fb = K.2.2.2.2.2) : pm_MOk K l (pm_pg fb) pm_mt n_X9_either := ⟨by decide +kernel, by decide, pc_X9_either, rfl, sb_X9_either K l fb hfb⟩
def pc_X9_both (b : Nat) : Nat := ([0, 4, 27] : List Nat).getD b 0
set_option maxRecDepth 20000 in
theorem sb_X9_both (K : pm_K) (l : Launch) (fb : Bool) (hfb : fb = K.2.2.2.2.2) : ∀ b, pm_SimB K l pm_mt "NeedleLineModel" cX9_both 1 ((.none : Option FieldType)) pc_X9_both (pc_X9_both b) (P_X9_both b)
  | 0 => pm_sc (sm_aload_n dX9_both_0 rfl) <| pm_sc (sm_cv dX9_both_1 mt_X9_compared mw_1236 lv_X9_150) <| pm_sc (sm_fall rfl) <| pm_sn
  | 1 => pm_sc (sm_aload_n dX9_both_4 rfl) <| pm_sc (sm_bipush dX9_both_5 (by decide)) <| pm_sc (sm_cv dX9_both_7 mt_X9_takes mw_1260 lv_X9_143) <| pm_sc (sm_if_eq dX9_both_10 rfl) <| pm_sc (sm_aload_n dX9_both_13 rfl) <| pm_sc (sm_cv dX9_both_14 mt_X9_compared mw_1236 lv_X9_150) <| pm_sc (sm_aload_n dX9_both_17 rfl) <| pm_sc (sm_sipush dX9_both_18 (by decide)) <| pm_sc (sm_cv dX9_both_21 mt_X9_codes mw_1256 lv_X9_146) <| pm_sc (sm_goto dX9_both_24 rfl) <| pm_sn
  | 2 => pm_sc (sm_return (pc' := 0) dX9_both_27 rfl) <| pm_sn
  | n + 3 => trivial
theorem ok_X9_both (K : pm_K) (l : Launch) (fb : Bool) (hfb : fb = K.2.2.2.2.2) : pm_MOk K l (pm_pg fb) pm_mt n_X9_both := ⟨by decide +kernel, by decide, pc_X9_both, rfl, sb_X9_both K l fb hfb⟩
def pc_X9_compared (b : Nat) : Nat := ([0, 19, 34, 49, 50, 64] : List Nat).getD b 0
set_option maxRecDepth 20000 in
theorem sb_X9_compared (K : pm_K) (l : Launch) (fb : Bool) (hfb : fb = K.2.2.2.2.2) : ∀ b, pm_SimB K l pm_mt "NeedleLineModel" cX9_compared 2 ((.none : Option FieldType)) pc_X9_compared (pc_X9_compared b) (P_X9_compared b)
  | 0 => pm_sc (sm_aload_n dX9_compared_0 rfl) <| pm_sc (sm_cv dX9_compared_1 mt_X9_sum mw_1240 lv_X9_153) <| pm_sc (sm_aload_n dX9_compared_4 rfl) <| pm_sc (sm_bipush dX9_compared_5 (by decide)) <| pm_sc (sm_cv dX9_compared_7 mt_X9_takes mw_1260 lv_X9_143) <| pm_sc (sm_if_eq dX9_compared_10 rfl) <| pm_sc (sm_sipush dX9_compared_13 (by decide)) <| pm_sc (sm_goto dX9_compared_16 rfl) <| pm_sn
  | 1 => pm_sc (sm_aload_n dX9_compared_19 rfl) <| pm_sc (sm_bipush dX9_compared_20 (by decide)) <| pm_sc (sm_cv dX9_compared_22 mt_X9_takes mw_1260 lv_X9_143) <| pm_sc (sm_if_eq dX9_compared_25 rfl) <| pm_sc (sm_sipush dX9_compared_28 (by decide)) <| pm_sc (sm_goto dX9_compared_31 rfl) <| pm_sn
  | 2 => pm_sc (sm_aload_n dX9_compared_34 rfl) <| pm_sc (sm_bipush dX9_compared_35 (by decide)) <| pm_sc (sm_cv dX9_compared_37 mt_X9_takes mw_1260 lv_X9_143) <| pm_sc (sm_if_eq dX9_compared_40 rfl) <| pm_sc (sm_sipush dX9_compared_43 (by decide)) <| pm_sc (sm_goto dX9_compared_46 rfl) <| pm_sn
  | 3 => pm_sc (sm_iconst dX9_compared_49 rfl) <| pm_sc (sm_fall rfl) <| pm_sn
  | 4 => pm_sc (sm_istore_n dX9_compared_50 rfl) <| pm_sc (sm_iload_n dX9_compared_51 rfl) <| pm_sc (sm_if_le dX9_compared_52 rfl) <| pm_sc (sm_aload_n dX9_compared_55 rfl) <| pm_sc (sm_cv dX9_compared_56 mt_X9_sum mw_1240 lv_X9_153) <| pm_sc (sm_aload_n dX9_compared_59 rfl) <| pm_sc (sm_iload_n dX9_compared_60 rfl) <| pm_sc (sm_cv dX9_compared_61 mt_X9_codes mw_1256 lv_X9_146) <| pm_sc (sm_fall rfl) <| pm_sn
  | 5 => pm_sc (sm_return (pc' := 0) dX9_compared_64 rfl) <| pm_sn
  | n + 6 => trivial
theorem ok_X9_compared (K : pm_K) (l : Launch) (fb : Bool) (hfb : fb = K.2.2.2.2.2) : pm_MOk K l (pm_pg fb) pm_mt n_X9_compared := ⟨by decide +kernel, by decide, pc_X9_compared, rfl, sb_X9_compared K l fb hfb⟩
def pc_X9_sum (b : Nat) : Nat := ([0, 19, 34, 35, 36, 64, 79, 80, 84] : List Nat).getD b 0
set_option maxRecDepth 20000 in
theorem sb_X9_sum (K : pm_K) (l : Launch) (fb : Bool) (hfb : fb = K.2.2.2.2.2) : ∀ b, pm_SimB K l pm_mt "NeedleLineModel" cX9_sum 2 ((.none : Option FieldType)) pc_X9_sum (pc_X9_sum b) (P_X9_sum b)
  | 0 => pm_sc (sm_aload_n dX9_sum_0 rfl) <| pm_sc (sm_cv dX9_sum_1 mt_X9_product mw_1244 lv_X9_156) <| pm_sc (sm_aload_n dX9_sum_4 rfl) <| pm_sc (sm_bipush dX9_sum_5 (by decide)) <| pm_sc (sm_cv dX9_sum_7 mt_X9_takes mw_1260 lv_X9_143) <| pm_sc (sm_if_eq dX9_sum_10 rfl) <| pm_sc (sm_sipush dX9_sum_13 (by decide)) <| pm_sc (sm_goto dX9_sum_16 rfl) <| pm_sn
  | 1 => pm_sc (sm_aload_n dX9_sum_19 rfl) <| pm_sc (sm_bipush dX9_sum_20 (by decide)) <| pm_sc (sm_cv dX9_sum_22 mt_X9_takes mw_1260 lv_X9_143) <| pm_sc (sm_if_eq dX9_sum_25 rfl) <| pm_sc (sm_sipush dX9_sum_28 (by decide)) <| pm_sc (sm_goto dX9_sum_31 rfl) <| pm_sn
  | 2 => pm_sc (sm_iconst dX9_sum_34 rfl) <| pm_sc (sm_fall rfl) <| pm_sn
  | 3 => pm_sc (sm_istore_n dX9_sum_35 rfl) <| pm_sc (sm_fall rfl) <| pm_sn
  | 4 => pm_sc (sm_iload_n dX9_sum_36 rfl) <| pm_sc (sm_if_le dX9_sum_37 rfl) <| pm_sc (sm_aload_n dX9_sum_40 rfl) <| pm_sc (sm_cv dX9_sum_41 mt_X9_product mw_1244 lv_X9_156) <| pm_sc (sm_aload_n dX9_sum_44 rfl) <| pm_sc (sm_iload_n dX9_sum_45 rfl) <| pm_sc (sm_cv dX9_sum_46 mt_X9_codes mw_1256 lv_X9_146) <| pm_sc (sm_aload_n dX9_sum_49 rfl) <| pm_sc (sm_bipush dX9_sum_50 (by decide)) <| pm_sc (sm_cv dX9_sum_52 mt_X9_takes mw_1260 lv_X9_143) <| pm_sc (sm_if_eq dX9_sum_55 rfl) <| pm_sc (sm_sipush dX9_sum_58 (by decide)) <| pm_sc (sm_goto dX9_sum_61 rfl) <| pm_sn
  | 5 => pm_sc (sm_aload_n dX9_sum_64 rfl) <| pm_sc (sm_bipush dX9_sum_65 (by decide)) <| pm_sc (sm_cv dX9_sum_67 mt_X9_takes mw_1260 lv_X9_143) <| pm_sc (sm_if_eq dX9_sum_70 rfl) <| pm_sc (sm_sipush dX9_sum_73 (by decide)) <| pm_sc (sm_goto dX9_sum_76 rfl) <| pm_sn
  | 6 => pm_sc (sm_iconst dX9_sum_79 rfl) <| pm_sc (sm_fall rfl) <| pm_sn
  | 7 => pm_sc (sm_istore_n dX9_sum_80 rfl) <| pm_sc (sm_goto dX9_sum_81 rfl) <| pm_sn
  | 8 => pm_sc (sm_return (pc' := 0) dX9_sum_84 rfl) <| pm_sn
  | n + 9 => trivial
theorem ok_X9_sum (K : pm_K) (l : Launch) (fb : Bool) (hfb : fb = K.2.2.2.2.2) : pm_MOk K l (pm_pg fb) pm_mt n_X9_sum := ⟨by decide +kernel, by decide, pc_X9_sum, rfl, sb_X9_sum K l fb hfb⟩
def pc_X9_product (b : Nat) : Nat := ([0, 19, 34, 49, 50, 51, 79, 94, 109, 110, 114] : List Nat).getD b 0
set_option maxRecDepth 20000 in
theorem sb_X9_product (K : pm_K) (l : Launch) (fb : Bool) (hfb : fb = K.2.2.2.2.2) : ∀ b, pm_SimB K l pm_mt "NeedleLineModel" cX9_product 2 ((.none : Option FieldType)) pc_X9_product (pc_X9_product b) (P_X9_product b)
  | 0 => pm_sc (sm_aload_n dX9_product_0 rfl) <| pm_sc (sm_cv dX9_product_1 mt_X9_one mw_1248 lv_X9_159) <| pm_sc (sm_aload_n dX9_product_4 rfl) <| pm_sc (sm_bipush dX9_product_5 (by decide)) <| pm_sc (sm_cv dX9_product_7 mt_X9_takes mw_1260 lv_X9_143) <| pm_sc (sm_if_eq dX9_product_10 rfl) <| pm_sc (sm_sipush dX9_product_13 (by decide)) <| pm_sc (sm_goto dX9_product_16 rfl) <| pm_sn
  | 1 => pm_sc (sm_aload_n dX9_product_19 rfl) <| pm_sc (sm_bipush dX9_product_20 (by decide)) <| pm_sc (sm_cv dX9_product_22 mt_X9_takes mw_1260 lv_X9_143) <| pm_sc (sm_if_eq dX9_product_25 rfl) <| pm_sc (sm_sipush dX9_product_28 (by decide)) <| pm_sc (sm_goto dX9_product_31 rfl) <| pm_sn
  | 2 => pm_sc (sm_aload_n dX9_product_34 rfl) <| pm_sc (sm_bipush dX9_product_35 (by decide)) <| pm_sc (sm_cv dX9_product_37 mt_X9_takes mw_1260 lv_X9_143) <| pm_sc (sm_if_eq dX9_product_40 rfl) <| pm_sc (sm_sipush dX9_product_43 (by decide)) <| pm_sc (sm_goto dX9_product_46 rfl) <| pm_sn
  | 3 => pm_sc (sm_iconst dX9_product_49 rfl) <| pm_sc (sm_fall rfl) <| pm_sn
  | 4 => pm_sc (sm_istore_n dX9_product_50 rfl) <| pm_sc (sm_fall rfl) <| pm_sn
  | 5 => pm_sc (sm_iload_n dX9_product_51 rfl) <| pm_sc (sm_if_le dX9_product_52 rfl) <| pm_sc (sm_aload_n dX9_product_55 rfl) <| pm_sc (sm_cv dX9_product_56 mt_X9_one mw_1248 lv_X9_159) <| pm_sc (sm_aload_n dX9_product_59 rfl) <| pm_sc (sm_iload_n dX9_product_60 rfl) <| pm_sc (sm_cv dX9_product_61 mt_X9_codes mw_1256 lv_X9_146) <| pm_sc (sm_aload_n dX9_product_64 rfl) <| pm_sc (sm_bipush dX9_product_65 (by decide)) <| pm_sc (sm_cv dX9_product_67 mt_X9_takes mw_1260 lv_X9_143) <| pm_sc (sm_if_eq dX9_product_70 rfl) <| pm_sc (sm_sipush dX9_product_73 (by decide)) <| pm_sc (sm_goto dX9_product_76 rfl) <| pm_sn
  | 6 => pm_sc (sm_aload_n dX9_product_79 rfl) <| pm_sc (sm_bipush dX9_product_80 (by decide)) <| pm_sc (sm_cv dX9_product_82 mt_X9_takes mw_1260 lv_X9_143) <| pm_sc (sm_if_eq dX9_product_85 rfl) <| pm_sc (sm_sipush dX9_product_88 (by decide)) <| pm_sc (sm_goto dX9_product_91 rfl) <| pm_sn
  | 7 => pm_sc (sm_aload_n dX9_product_94 rfl) <| pm_sc (sm_bipush dX9_product_95 (by decide)) <| pm_sc (sm_cv dX9_product_97 mt_X9_takes mw_1260 lv_X9_143) <| pm_sc (sm_if_eq dX9_product_100 rfl) <| pm_sc (sm_sipush dX9_product_103 (by decide)) <| pm_sc (sm_goto dX9_product_106 rfl) <| pm_sn
  | 8 => pm_sc (sm_iconst dX9_product_109 rfl) <| pm_sc (sm_fall rfl) <| pm_sn
  | 9 => pm_sc (sm_istore_n dX9_product_110 rfl) <| pm_sc (sm_goto dX9_product_111 rfl) <| pm_sn
  | 10 => pm_sc (sm_return (pc' := 0) dX9_product_114 rfl) <| pm_sn
  | n + 11 => trivial
theorem ok_X9_product (K : pm_K) (l : Launch) (fb : Bool) (hfb : fb = K.2.2.2.2.2) : pm_MOk K l (pm_pg fb) pm_mt n_X9_product := ⟨by decide +kernel, by decide, pc_X9_product, rfl, sb_X9_product K l fb hfb⟩
def pc_X9_nameOf (b : Nat) : Nat := ([0, 4, 41, 42, 49] : List Nat).getD b 0
set_option maxRecDepth 20000 in
theorem sb_X9_nameOf (K : pm_K) (l : Launch) (fb : Bool) (hfb : fb = K.2.2.2.2.2) : ∀ b, pm_SimB K l pm_mt "NeedleLineModel" cX9_nameOf 4 ((.some FieldType.int)) pc_X9_nameOf (pc_X9_nameOf b) (P_X9_nameOf b)
  | 0 => pm_sc (sm_iconst dX9_nameOf_0 rfl) <| pm_sc (sm_istore_n dX9_nameOf_1 rfl) <| pm_sc (sm_iconst dX9_nameOf_2 rfl) <| pm_sc (sm_istore_n dX9_nameOf_3 rfl) <| pm_sc (sm_fall rfl) <| pm_sn
  | 1 => pm_sc (sm_iload_n dX9_nameOf_4 rfl) <| pm_sc (sm_aload_n dX9_nameOf_5 rfl) <| pm_sc (sm_gr dX9_nameOf_6 fl_X9_34) <| pm_sc (sm_aload_n dX9_nameOf_9 rfl) <| pm_sc (sm_gi dX9_nameOf_10 fl_X9_162) <| pm_sc (sm_aa dX9_nameOf_13) <| pm_sc (sm_ct dX9_nameOf_14 mt_J0_length_8abf5 mw_624 lv_X9_165) <| pm_sc (sm_icmp_ge dX9_nameOf_17 rfl) <| pm_sc (sm_aload_n dX9_nameOf_20 rfl) <| pm_sc (sm_gr dX9_nameOf_21 fl_X9_34) <| pm_sc (sm_aload_n dX9_nameOf_24 rfl) <| pm_sc (sm_gi dX9_nameOf_25 fl_X9_162) <| pm_sc (sm_aa dX9_nameOf_28) <| pm_sc (sm_iload_n dX9_nameOf_29 rfl) <| pm_sc (sm_ct dX9_nameOf_30 mt_J0_charAt_5068e mw_1269 lv_X9_168) <| pm_sc (sm_iload_n dX9_nameOf_33 rfl) <| pm_sc (sm_icmp_ne dX9_nameOf_34 rfl) <| pm_sc (sm_iload_n dX9_nameOf_37 rfl) <| pm_sc (sm_goto dX9_nameOf_38 rfl) <| pm_sn
  | 2 => pm_sc (sm_iload_n dX9_nameOf_41 rfl) <| pm_sc (sm_fall rfl) <| pm_sn
  | 3 => pm_sc (sm_istore_n dX9_nameOf_42 rfl) <| pm_sc (sm_iinc dX9_nameOf_43 rfl) <| pm_sc (sm_goto dX9_nameOf_46 rfl) <| pm_sn
  | 4 => pm_sc (sm_iload_n dX9_nameOf_49 rfl) <| pm_sc (sm_ireturn (pc' := 0) dX9_nameOf_50 rfl) <| pm_sn
  | n + 5 => trivial
theorem ok_X9_nameOf (K : pm_K) (l : Launch) (fb : Bool) (hfb : fb = K.2.2.2.2.2) : pm_MOk K l (pm_pg fb) pm_mt n_X9_nameOf := ⟨by decide +kernel, by decide, pc_X9_nameOf, rfl, sb_X9_nameOf K l fb hfb⟩
def pc_X9_one (b : Nat) : Nat := ([0, 17, 30, 31, 81, 99, 100, 103, 116, 131, 179, 187, 195, 200, 213, 217, 218, 247] : List Nat).getD b 0
set_option maxRecDepth 20000 in
theorem sb_X9_one (K : pm_K) (l : Launch) (fb : Bool) (hfb : fb = K.2.2.2.2.2) : ∀ b, pm_SimB K l pm_mt "NeedleLineModel" cX9_one 4 ((.none : Option FieldType)) pc_X9_one (pc_X9_one b) (P_X9_one b)
  | 0 => pm_sc (sm_aload_n dX9_one_0 rfl) <| pm_sc (sm_cv dX9_one_1 mt_X9_here mw_1252 lv_X9_133) <| pm_sc (sm_istore_n dX9_one_4 rfl) <| pm_sc (sm_iload_n dX9_one_5 rfl) <| pm_sc (sm_bipush dX9_one_6 (by decide)) <| pm_sc (sm_icmp_eq dX9_one_8 rfl) <| pm_sc (sm_iload_n dX9_one_11 rfl) <| pm_sc (sm_bipush dX9_one_12 (by decide)) <| pm_sc (sm_icmp_ne dX9_one_14 rfl) <| pm_sc (sm_fall rfl) <| pm_sn
  | 1 => pm_sc (sm_aload_n dX9_one_17 rfl) <| pm_sc (sm_aload_n dX9_one_18 rfl) <| pm_sc (sm_gi dX9_one_19 fl_X9_172) <| pm_sc (sm_iconst dX9_one_22 rfl) <| pm_sc (sm_icmp_ne dX9_one_23 rfl) <| pm_sc (sm_iconst dX9_one_26 rfl) <| pm_sc (sm_goto dX9_one_27 rfl) <| pm_sn
  | 2 => pm_sc (sm_iconst dX9_one_30 rfl) <| pm_sc (sm_fall rfl) <| pm_sn
  | 3 => pm_sc (sm_pz dX9_one_31 fp_X9_125) <| pm_sc (sm_aload_n dX9_one_34 rfl) <| pm_sc (sm_gi dX9_one_35 fl_X9_125) <| pm_sc (sm_if_ne dX9_one_38 rfl) <| pm_sc (sm_aload_n dX9_one_41 rfl) <| pm_sc (sm_dup dX9_one_42) <| pm_sc (sm_gi dX9_one_43 fl_X9_172) <| pm_sc (sm_iconst dX9_one_46 rfl) <| pm_sc (sm_iadd dX9_one_47) <| pm_sc (sm_pi dX9_one_48 fp_X9_172) <| pm_sc (sm_aload_n dX9_one_51 rfl) <| pm_sc (sm_dup dX9_one_52) <| pm_sc (sm_gi dX9_one_53 fl_X9_129) <| pm_sc (sm_iconst dX9_one_56 rfl) <| pm_sc (sm_iadd dX9_one_57) <| pm_sc (sm_pi dX9_one_58 fp_X9_129) <| pm_sc (sm_iload_n dX9_one_61 rfl) <| pm_sc (sm_bipush dX9_one_62 (by decide)) <| pm_sc (sm_icmp_ne dX9_one_64 rfl) <| pm_sc (sm_aload_n dX9_one_67 rfl) <| pm_sc (sm_cv dX9_one_68 mt_X9_one mw_1248 lv_X9_159) <| pm_sc (sm_aload_n dX9_one_71 rfl) <| pm_sc (sm_sipush dX9_one_72 (by decide)) <| pm_sc (sm_cv dX9_one_75 mt_X9_codes mw_1256 lv_X9_146) <| pm_sc (sm_goto dX9_one_78 rfl) <| pm_sn
  | 4 => pm_sc (sm_aload_n dX9_one_81 rfl) <| pm_sc (sm_cv dX9_one_82 mt_X9_either mw_1228 lv_X9_175) <| pm_sc (sm_aload_n dX9_one_85 rfl) <| pm_sc (sm_aload_n dX9_one_86 rfl) <| pm_sc (sm_bipush dX9_one_87 (by decide)) <| pm_sc (sm_cv dX9_one_89 mt_X9_takes mw_1260 lv_X9_143) <| pm_sc (sm_if_ne dX9_one_92 rfl) <| pm_sc (sm_iconst dX9_one_95 rfl) <| pm_sc (sm_goto dX9_one_96 rfl) <| pm_sn
  | 5 => pm_sc (sm_iconst dX9_one_99 rfl) <| pm_sc (sm_fall rfl) <| pm_sn
  | 6 => pm_sc (sm_pz dX9_one_100 fp_X9_125) <| pm_sc (sm_fall rfl) <| pm_sn
  | 7 => pm_sc (sm_aload_n dX9_one_103 rfl) <| pm_sc (sm_dup dX9_one_104) <| pm_sc (sm_gi dX9_one_105 fl_X9_172) <| pm_sc (sm_iconst dX9_one_108 rfl) <| pm_sc (sm_isub dX9_one_109) <| pm_sc (sm_pi dX9_one_110 fp_X9_172) <| pm_sc (sm_goto dX9_one_113 rfl) <| pm_sn
  | 8 => pm_sc (sm_iload_n dX9_one_116 rfl) <| pm_sc (sm_bipush dX9_one_117 (by decide)) <| pm_sc (sm_bipush dX9_one_119 (by decide)) <| pm_sc (sm_cs dX9_one_121 mt_X9_isIn mw_1116 ls_X9_75) <| pm_sc (sm_if_eq dX9_one_124 rfl) <| pm_sc (sm_iconst dX9_one_127 rfl) <| pm_sc (sm_istore_n dX9_one_128 rfl) <| pm_sc (sm_iconst dX9_one_129 rfl) <| pm_sc (sm_istore_n dX9_one_130 rfl) <| pm_sc (sm_fall rfl) <| pm_sn
  | 9 => pm_sc (sm_iload_n dX9_one_131 rfl) <| pm_sc (sm_iconst dX9_one_132 rfl) <| pm_sc (sm_icmp_ge dX9_one_133 rfl) <| pm_sc (sm_aload_n dX9_one_136 rfl) <| pm_sc (sm_cv dX9_one_137 mt_X9_here mw_1252 lv_X9_133) <| pm_sc (sm_bipush dX9_one_140 (by decide)) <| pm_sc (sm_bipush dX9_one_142 (by decide)) <| pm_sc (sm_cs dX9_one_144 mt_X9_isIn mw_1116 ls_X9_75) <| pm_sc (sm_if_eq dX9_one_147 rfl) <| pm_sc (sm_bipush dX9_one_150 (by decide)) <| pm_sc (sm_iload_n dX9_one_152 rfl) <| pm_sc (sm_imul dX9_one_153) <| pm_sc (sm_aload_n dX9_one_154 rfl) <| pm_sc (sm_cv dX9_one_155 mt_X9_here mw_1252 lv_X9_133) <| pm_sc (sm_iadd dX9_one_158) <| pm_sc (sm_bipush dX9_one_159 (by decide)) <| pm_sc (sm_isub dX9_one_161) <| pm_sc (sm_istore_n dX9_one_162 rfl) <| pm_sc (sm_aload_n dX9_one_163 rfl) <| pm_sc (sm_dup dX9_one_164) <| pm_sc (sm_gi dX9_one_165 fl_X9_129) <| pm_sc (sm_iconst dX9_one_168 rfl) <| pm_sc (sm_iadd dX9_one_169) <| pm_sc (sm_pi dX9_one_170 fp_X9_129) <| pm_sc (sm_iinc dX9_one_173 rfl) <| pm_sc (sm_goto dX9_one_176 rfl) <| pm_sn
  | 10 => pm_sc (sm_aload_n dX9_one_179 rfl) <| pm_sc (sm_iload_n dX9_one_180 rfl) <| pm_sc (sm_cv dX9_one_181 mt_X9_codes mw_1256 lv_X9_146) <| pm_sc (sm_goto dX9_one_184 rfl) <| pm_sn
  | 11 => pm_sc (sm_iload_n dX9_one_187 rfl) <| pm_sc (sm_if_ge dX9_one_188 rfl) <| pm_sc (sm_iconst dX9_one_191 rfl) <| pm_sc (sm_goto dX9_one_192 rfl) <| pm_sn
  | 12 => pm_sc (sm_aload_n dX9_one_195 rfl) <| pm_sc (sm_iload_n dX9_one_196 rfl) <| pm_sc (sm_cv dX9_one_197 mt_X9_nameOf mw_1264 lv_X9_178) <| pm_sc (sm_fall rfl) <| pm_sn
  | 13 => pm_sc (sm_istore_n dX9_one_200 rfl) <| pm_sc (sm_aload_n dX9_one_201 rfl) <| pm_sc (sm_aload_n dX9_one_202 rfl) <| pm_sc (sm_gi dX9_one_203 fl_X9_125) <| pm_sc (sm_if_ne dX9_one_206 rfl) <| pm_sc (sm_iload_n dX9_one_209 rfl) <| pm_sc (sm_if_ge dX9_one_210 rfl) <| pm_sc (sm_fall rfl) <| pm_sn
  | 14 => pm_sc (sm_iconst dX9_one_213 rfl) <| pm_sc (sm_goto dX9_one_214 rfl) <| pm_sn
  | 15 => pm_sc (sm_iconst dX9_one_217 rfl) <| pm_sc (sm_fall rfl) <| pm_sn
  | 16 => pm_sc (sm_pz dX9_one_218 fp_X9_125) <| pm_sc (sm_aload_n dX9_one_221 rfl) <| pm_sc (sm_gi dX9_one_222 fl_X9_125) <| pm_sc (sm_if_ne dX9_one_225 rfl) <| pm_sc (sm_aload_n dX9_one_228 rfl) <| pm_sc (sm_sipush dX9_one_229 (by decide)) <| pm_sc (sm_iload_n dX9_one_232 rfl) <| pm_sc (sm_iadd dX9_one_233) <| pm_sc (sm_cv dX9_one_234 mt_X9_codes mw_1256 lv_X9_146) <| pm_sc (sm_aload_n dX9_one_237 rfl) <| pm_sc (sm_dup dX9_one_238) <| pm_sc (sm_gi dX9_one_239 fl_X9_129) <| pm_sc (sm_iconst dX9_one_242 rfl) <| pm_sc (sm_iadd dX9_one_243) <| pm_sc (sm_pi dX9_one_244 fp_X9_129) <| pm_sc (sm_fall rfl) <| pm_sn
  | 17 => pm_sc (sm_return (pc' := 0) dX9_one_247 rfl) <| pm_sn
  | n + 18 => trivial
theorem ok_X9_one (K : pm_K) (l : Launch) (fb : Bool) (hfb : fb = K.2.2.2.2.2) : pm_MOk K l (pm_pg fb) pm_mt n_X9_one := ⟨by decide +kernel, by decide, pc_X9_one, rfl, sb_X9_one K l fb hfb⟩
def pc_X9_text (b : Nat) : Nat := ([0, 16, 66, 70, 71, 96, 118, 158] : List Nat).getD b 0
set_option maxRecDepth 20000 in
theorem sb_X9_text (K : pm_K) (l : Launch) (fb : Bool) (hfb : fb = K.2.2.2.2.2) : ∀ b, pm_SimB K l pm_mt "NeedleLineModel" cX9_text 3 ((.some FieldType.int)) pc_X9_text (pc_X9_text b) (P_X9_text b)
  | 0 => pm_sc (sm_iload_n dX9_text_0 rfl) <| pm_sc (sm_iconst dX9_text_1 rfl) <| pm_sc (sm_iconst dX9_text_2 rfl) <| pm_sc (sm_cs dX9_text_3 mt_X9_isIn mw_1116 ls_X9_75) <| pm_sc (sm_if_ne dX9_text_6 rfl) <| pm_sc (sm_aload_n dX9_text_9 rfl) <| pm_sc (sm_ldc dX9_text_10 mw_1121) <| pm_sc (sm_cv dX9_text_12 mt_X9_finding mw_1125 lv_X9_83) <| pm_sc (sm_ireturn (pc' := 0) dX9_text_15 rfl) <| pm_sn
  | 1 => pm_sc (sm_aload_n dX9_text_16 rfl) <| pm_sc (sm_iload_n dX9_text_17 rfl) <| pm_sc (sm_pi dX9_text_18 fp_X9_162) <| pm_sc (sm_aload_n dX9_text_21 rfl) <| pm_sc (sm_iconst dX9_text_22 rfl) <| pm_sc (sm_pi dX9_text_23 fp_X9_129) <| pm_sc (sm_aload_n dX9_text_26 rfl) <| pm_sc (sm_iconst dX9_text_27 rfl) <| pm_sc (sm_pi dX9_text_28 fp_X9_172) <| pm_sc (sm_aload_n dX9_text_31 rfl) <| pm_sc (sm_iconst dX9_text_32 rfl) <| pm_sc (sm_pz dX9_text_33 fp_X9_125) <| pm_sc (sm_aload_n dX9_text_36 rfl) <| pm_sc (sm_iconst dX9_text_37 rfl) <| pm_sc (sm_pi dX9_text_38 fp_X9_137) <| pm_sc (sm_aload_n dX9_text_41 rfl) <| pm_sc (sm_cv dX9_text_42 mt_X9_either mw_1228 lv_X9_175) <| pm_sc (sm_aload_n dX9_text_45 rfl) <| pm_sc (sm_aload_n dX9_text_46 rfl) <| pm_sc (sm_gi dX9_text_47 fl_X9_125) <| pm_sc (sm_if_ne dX9_text_50 rfl) <| pm_sc (sm_aload_n dX9_text_53 rfl) <| pm_sc (sm_gi dX9_text_54 fl_X9_129) <| pm_sc (sm_aload_n dX9_text_57 rfl) <| pm_sc (sm_gr dX9_text_58 fl_X9_9) <| pm_sc (sm_iconst dX9_text_61 rfl) <| pm_sc (sm_ia dX9_text_62) <| pm_sc (sm_icmp_ge dX9_text_63 rfl) <| pm_sc (sm_fall rfl) <| pm_sn
  | 2 => pm_sc (sm_iconst dX9_text_66 rfl) <| pm_sc (sm_goto dX9_text_67 rfl) <| pm_sn
  | 3 => pm_sc (sm_iconst dX9_text_70 rfl) <| pm_sc (sm_fall rfl) <| pm_sn
  | 4 => pm_sc (sm_pz dX9_text_71 fp_X9_125) <| pm_sc (sm_aload_n dX9_text_74 rfl) <| pm_sc (sm_gr dX9_text_75 fl_X9_9) <| pm_sc (sm_iconst dX9_text_78 rfl) <| pm_sc (sm_iconst dX9_text_79 rfl) <| pm_sc (sm_ias dX9_text_80) <| pm_sc (sm_aload_n dX9_text_81 rfl) <| pm_sc (sm_gi dX9_text_82 fl_X9_125) <| pm_sc (sm_if_eq dX9_text_85 rfl) <| pm_sc (sm_bipush dX9_text_88 (by decide)) <| pm_sc (sm_aload_n dX9_text_90 rfl) <| pm_sc (sm_gi dX9_text_91 fl_X9_129) <| pm_sc (sm_isub dX9_text_94) <| pm_sc (sm_ireturn (pc' := 0) dX9_text_95 rfl) <| pm_sn
  | 5 => pm_sc (sm_aload_n dX9_text_96 rfl) <| pm_sc (sm_gr dX9_text_97 fl_X9_9) <| pm_sc (sm_sipush dX9_text_100 (by decide)) <| pm_sc (sm_bipush dX9_text_103 (by decide)) <| pm_sc (sm_aload_n dX9_text_105 rfl) <| pm_sc (sm_gi dX9_text_106 fl_X9_162) <| pm_sc (sm_imul dX9_text_109) <| pm_sc (sm_iadd dX9_text_110) <| pm_sc (sm_aload_n dX9_text_111 rfl) <| pm_sc (sm_gi dX9_text_112 fl_X9_137) <| pm_sc (sm_ias dX9_text_115) <| pm_sc (sm_iconst dX9_text_116 rfl) <| pm_sc (sm_istore_n dX9_text_117 rfl) <| pm_sc (sm_fall rfl) <| pm_sn
  | 6 => pm_sc (sm_iload_n dX9_text_118 rfl) <| pm_sc (sm_aload_n dX9_text_119 rfl) <| pm_sc (sm_gi dX9_text_120 fl_X9_137) <| pm_sc (sm_icmp_ge dX9_text_123 rfl) <| pm_sc (sm_aload_n dX9_text_126 rfl) <| pm_sc (sm_gr dX9_text_127 fl_X9_9) <| pm_sc (sm_sipush dX9_text_130 (by decide)) <| pm_sc (sm_bipush dX9_text_133 (by decide)) <| pm_sc (sm_aload_n dX9_text_135 rfl) <| pm_sc (sm_gi dX9_text_136 fl_X9_162) <| pm_sc (sm_imul dX9_text_139) <| pm_sc (sm_iadd dX9_text_140) <| pm_sc (sm_iconst dX9_text_141 rfl) <| pm_sc (sm_iadd dX9_text_142) <| pm_sc (sm_iload_n dX9_text_143 rfl) <| pm_sc (sm_iadd dX9_text_144) <| pm_sc (sm_aload_n dX9_text_145 rfl) <| pm_sc (sm_gr dX9_text_146 fl_X9_38) <| pm_sc (sm_iload_n dX9_text_149 rfl) <| pm_sc (sm_ia dX9_text_150) <| pm_sc (sm_ias dX9_text_151) <| pm_sc (sm_iinc dX9_text_152 rfl) <| pm_sc (sm_goto dX9_text_155 rfl) <| pm_sn
  | 7 => pm_sc (sm_iconst dX9_text_158 rfl) <| pm_sc (sm_ireturn (pc' := 0) dX9_text_159 rfl) <| pm_sn
  | n + 8 => trivial
theorem ok_X9_text (K : pm_K) (l : Launch) (fb : Bool) (hfb : fb = K.2.2.2.2.2) : pm_MOk K l (pm_pg fb) pm_mt n_X9_text := ⟨by decide +kernel, by decide, pc_X9_text, rfl, sb_X9_text K l fb hfb⟩
def pc_X9_untell (b : Nat) : Nat := ([0, 29, 33, 39] : List Nat).getD b 0
set_option maxRecDepth 20000 in
theorem sb_X9_untell (K : pm_K) (l : Launch) (fb : Bool) (hfb : fb = K.2.2.2.2.2) : ∀ b, pm_SimB K l pm_mt "NeedleLineModel" cX9_untell 2 ((.some FieldType.int)) pc_X9_untell (pc_X9_untell b) (P_X9_untell b)
  | 0 => pm_sc (sm_iload_n dX9_untell_0 rfl) <| pm_sc (sm_iconst dX9_untell_1 rfl) <| pm_sc (sm_iconst dX9_untell_2 rfl) <| pm_sc (sm_cs dX9_untell_3 mt_X9_isIn mw_1116 ls_X9_75) <| pm_sc (sm_if_eq dX9_untell_6 rfl) <| pm_sc (sm_aload_n dX9_untell_9 rfl) <| pm_sc (sm_sipush dX9_untell_10 (by decide)) <| pm_sc (sm_bipush dX9_untell_13 (by decide)) <| pm_sc (sm_iload_n dX9_untell_15 rfl) <| pm_sc (sm_imul dX9_untell_16) <| pm_sc (sm_iadd dX9_untell_17) <| pm_sc (sm_iconst dX9_untell_18 rfl) <| pm_sc (sm_cv dX9_untell_19 mt_X9_become mw_1120 lv_X9_79) <| pm_sc (sm_if_le dX9_untell_22 rfl) <| pm_sc (sm_iconst dX9_untell_25 rfl) <| pm_sc (sm_goto dX9_untell_26 rfl) <| pm_sn
  | 1 => pm_sc (sm_iconst dX9_untell_29 rfl) <| pm_sc (sm_goto dX9_untell_30 rfl) <| pm_sn
  | 2 => pm_sc (sm_aload_n dX9_untell_33 rfl) <| pm_sc (sm_ldc dX9_untell_34 mw_1121) <| pm_sc (sm_cv dX9_untell_36 mt_X9_finding mw_1125 lv_X9_83) <| pm_sc (sm_fall rfl) <| pm_sn
  | 3 => pm_sc (sm_ireturn (pc' := 0) dX9_untell_39 rfl) <| pm_sn
  | n + 4 => trivial
theorem ok_X9_untell (K : pm_K) (l : Launch) (fb : Bool) (hfb : fb = K.2.2.2.2.2) : pm_MOk K l (pm_pg fb) pm_mt n_X9_untell := ⟨by decide +kernel, by decide, pc_X9_untell, rfl, sb_X9_untell K l fb hfb⟩
def pc_X9_done (b : Nat) : Nat := ([0, 52, 60, 64, 65, 66, 78, 79, 80, 89, 90, 91, 100, 101, 102, 111, 112, 113, 117, 121, 125, 133, 136, 137, 145, 148] : List Nat).getD b 0
set_option maxRecDepth 20000 in
theorem sb_X9_done (K : pm_K) (l : Launch) (fb : Bool) (hfb : fb = K.2.2.2.2.2) : ∀ b, pm_SimB K l pm_mt "NeedleLineModel" cX9_done 3 ((.some FieldType.int)) pc_X9_done (pc_X9_done b) (P_X9_done b)
  | 0 => pm_sc (sm_iload_n dX9_done_0 rfl) <| pm_sc (sm_tsw dX9_done_1 (by decide +kernel) (by decide) rfl) <| pm_sn
  | 1 => pm_sc (sm_iload_n dX9_done_52 rfl) <| pm_sc (sm_if_ne dX9_done_53 rfl) <| pm_sc (sm_iload_n dX9_done_56 rfl) <| pm_sc (sm_if_eq dX9_done_57 rfl) <| pm_sc (sm_fall rfl) <| pm_sn
  | 2 => pm_sc (sm_iconst dX9_done_60 rfl) <| pm_sc (sm_goto dX9_done_61 rfl) <| pm_sn
  | 3 => pm_sc (sm_iconst dX9_done_64 rfl) <| pm_sc (sm_fall rfl) <| pm_sn
  | 4 => pm_sc (sm_ireturn (pc' := 0) dX9_done_65 rfl) <| pm_sn
  | 5 => pm_sc (sm_iload_n dX9_done_66 rfl) <| pm_sc (sm_if_eq dX9_done_67 rfl) <| pm_sc (sm_iload_n dX9_done_70 rfl) <| pm_sc (sm_if_eq dX9_done_71 rfl) <| pm_sc (sm_iconst dX9_done_74 rfl) <| pm_sc (sm_goto dX9_done_75 rfl) <| pm_sn
  | 6 => pm_sc (sm_iconst dX9_done_78 rfl) <| pm_sc (sm_fall rfl) <| pm_sn
  | 7 => pm_sc (sm_ireturn (pc' := 0) dX9_done_79 rfl) <| pm_sn
  | 8 => pm_sc (sm_iload_n dX9_done_80 rfl) <| pm_sc (sm_iload_n dX9_done_81 rfl) <| pm_sc (sm_icmp_ge dX9_done_82 rfl) <| pm_sc (sm_iconst dX9_done_85 rfl) <| pm_sc (sm_goto dX9_done_86 rfl) <| pm_sn
  | 9 => pm_sc (sm_iconst dX9_done_89 rfl) <| pm_sc (sm_fall rfl) <| pm_sn
  | 10 => pm_sc (sm_ireturn (pc' := 0) dX9_done_90 rfl) <| pm_sn
  | 11 => pm_sc (sm_iload_n dX9_done_91 rfl) <| pm_sc (sm_iload_n dX9_done_92 rfl) <| pm_sc (sm_icmp_ne dX9_done_93 rfl) <| pm_sc (sm_iconst dX9_done_96 rfl) <| pm_sc (sm_goto dX9_done_97 rfl) <| pm_sn
  | 12 => pm_sc (sm_iconst dX9_done_100 rfl) <| pm_sc (sm_fall rfl) <| pm_sn
  | 13 => pm_sc (sm_ireturn (pc' := 0) dX9_done_101 rfl) <| pm_sn
  | 14 => pm_sc (sm_iload_n dX9_done_102 rfl) <| pm_sc (sm_iload_n dX9_done_103 rfl) <| pm_sc (sm_icmp_le dX9_done_104 rfl) <| pm_sc (sm_iconst dX9_done_107 rfl) <| pm_sc (sm_goto dX9_done_108 rfl) <| pm_sn
  | 15 => pm_sc (sm_iconst dX9_done_111 rfl) <| pm_sc (sm_fall rfl) <| pm_sn
  | 16 => pm_sc (sm_ireturn (pc' := 0) dX9_done_112 rfl) <| pm_sn
  | 17 => pm_sc (sm_iload_n dX9_done_113 rfl) <| pm_sc (sm_iload_n dX9_done_114 rfl) <| pm_sc (sm_iadd dX9_done_115) <| pm_sc (sm_ireturn (pc' := 0) dX9_done_116 rfl) <| pm_sn
  | 18 => pm_sc (sm_iload_n dX9_done_117 rfl) <| pm_sc (sm_iload_n dX9_done_118 rfl) <| pm_sc (sm_isub dX9_done_119) <| pm_sc (sm_ireturn (pc' := 0) dX9_done_120 rfl) <| pm_sn
  | 19 => pm_sc (sm_iload_n dX9_done_121 rfl) <| pm_sc (sm_iload_n dX9_done_122 rfl) <| pm_sc (sm_imul dX9_done_123) <| pm_sc (sm_ireturn (pc' := 0) dX9_done_124 rfl) <| pm_sn
  | 20 => pm_sc (sm_iload_n dX9_done_125 rfl) <| pm_sc (sm_if_ne dX9_done_126 rfl) <| pm_sc (sm_iconst dX9_done_129 rfl) <| pm_sc (sm_goto dX9_done_130 rfl) <| pm_sn
  | 21 => pm_sc (sm_iload_n dX9_done_133 rfl) <| pm_sc (sm_iload_n dX9_done_134 rfl) <| pm_sc (sm_idiv dX9_done_135) <| pm_sc (sm_fall rfl) <| pm_sn
  | 22 => pm_sc (sm_ireturn (pc' := 0) dX9_done_136 rfl) <| pm_sn
  | 23 => pm_sc (sm_iload_n dX9_done_137 rfl) <| pm_sc (sm_if_ne dX9_done_138 rfl) <| pm_sc (sm_iconst dX9_done_141 rfl) <| pm_sc (sm_goto dX9_done_142 rfl) <| pm_sn
  | 24 => pm_sc (sm_iload_n dX9_done_145 rfl) <| pm_sc (sm_iload_n dX9_done_146 rfl) <| pm_sc (sm_irem dX9_done_147) <| pm_sc (sm_fall rfl) <| pm_sn
  | 25 => pm_sc (sm_ireturn (pc' := 0) dX9_done_148 rfl) <| pm_sn
  | n + 26 => trivial
theorem ok_X9_done (K : pm_K) (l : Launch) (fb : Bool) (hfb : fb = K.2.2.2.2.2) : pm_MOk K l (pm_pg fb) pm_mt n_X9_done := ⟨by decide +kernel, by decide, pc_X9_done, rfl, sb_X9_done K l fb hfb⟩
def pc_X9_worked (b : Nat) : Nat := ([0, 4, 52, 63, 70, 100, 101, 105, 135, 141] : List Nat).getD b 0
set_option maxRecDepth 20000 in
theorem sb_X9_worked (K : pm_K) (l : Launch) (fb : Bool) (hfb : fb = K.2.2.2.2.2) : ∀ b, pm_SimB K l pm_mt "NeedleLineModel" cX9_worked 5 ((.some FieldType.int)) pc_X9_worked (pc_X9_worked b) (P_X9_worked b)
  | 0 => pm_sc (sm_iconst dX9_worked_0 rfl) <| pm_sc (sm_istore_n dX9_worked_1 rfl) <| pm_sc (sm_iload_n dX9_worked_2 rfl) <| pm_sc (sm_istore_n dX9_worked_3 rfl) <| pm_sc (sm_fall rfl) <| pm_sn
  | 1 => pm_sc (sm_iload_n dX9_worked_4 rfl) <| pm_sc (sm_iload_n dX9_worked_5 rfl) <| pm_sc (sm_aload_n dX9_worked_6 rfl) <| pm_sc (sm_gr dX9_worked_7 fl_X9_9) <| pm_sc (sm_iload_n dX9_worked_10 rfl) <| pm_sc (sm_iconst dX9_worked_11 rfl) <| pm_sc (sm_isub dX9_worked_12) <| pm_sc (sm_ia dX9_worked_13) <| pm_sc (sm_iadd dX9_worked_14) <| pm_sc (sm_icmp_ge dX9_worked_15 rfl) <| pm_sc (sm_aload_n dX9_worked_18 rfl) <| pm_sc (sm_gr dX9_worked_19 fl_X9_9) <| pm_sc (sm_iload_n dX9_worked_22 rfl) <| pm_sc (sm_ia dX9_worked_23) <| pm_sc (sm_istore dX9_worked_24) <| pm_sc (sm_iload dX9_worked_26) <| pm_sc (sm_sipush dX9_worked_28 (by decide)) <| pm_sc (sm_icmp_ge dX9_worked_31 rfl) <| pm_sc (sm_aload_n dX9_worked_34 rfl) <| pm_sc (sm_gr dX9_worked_35 fl_X9_44) <| pm_sc (sm_iload_n dX9_worked_38 rfl) <| pm_sc (sm_iload dX9_worked_39) <| pm_sc (sm_sipush dX9_worked_41 (by decide)) <| pm_sc (sm_icmp_ge dX9_worked_44 rfl) <| pm_sc (sm_iload dX9_worked_47) <| pm_sc (sm_goto dX9_worked_49 rfl) <| pm_sn
  | 2 => pm_sc (sm_aload_n dX9_worked_52 rfl) <| pm_sc (sm_gr dX9_worked_53 fl_X9_41) <| pm_sc (sm_iload dX9_worked_56) <| pm_sc (sm_sipush dX9_worked_58 (by decide)) <| pm_sc (sm_isub dX9_worked_61) <| pm_sc (sm_ia dX9_worked_62) <| pm_sc (sm_fall rfl) <| pm_sn
  | 3 => pm_sc (sm_ias dX9_worked_63) <| pm_sc (sm_iinc dX9_worked_64 rfl) <| pm_sc (sm_goto dX9_worked_67 rfl) <| pm_sn
  | 4 => pm_sc (sm_iload dX9_worked_70) <| pm_sc (sm_sipush dX9_worked_72 (by decide)) <| pm_sc (sm_icmp_ne dX9_worked_75 rfl) <| pm_sc (sm_aload_n dX9_worked_78 rfl) <| pm_sc (sm_gr dX9_worked_79 fl_X9_44) <| pm_sc (sm_iload_n dX9_worked_82 rfl) <| pm_sc (sm_iconst dX9_worked_83 rfl) <| pm_sc (sm_isub dX9_worked_84) <| pm_sc (sm_aload_n dX9_worked_85 rfl) <| pm_sc (sm_gr dX9_worked_86 fl_X9_44) <| pm_sc (sm_iload_n dX9_worked_89 rfl) <| pm_sc (sm_iconst dX9_worked_90 rfl) <| pm_sc (sm_isub dX9_worked_91) <| pm_sc (sm_ia dX9_worked_92) <| pm_sc (sm_if_ne dX9_worked_93 rfl) <| pm_sc (sm_iconst dX9_worked_96 rfl) <| pm_sc (sm_goto dX9_worked_97 rfl) <| pm_sn
  | 5 => pm_sc (sm_iconst dX9_worked_100 rfl) <| pm_sc (sm_fall rfl) <| pm_sn
  | 6 => pm_sc (sm_ias dX9_worked_101) <| pm_sc (sm_goto dX9_worked_102 rfl) <| pm_sn
  | 7 => pm_sc (sm_iinc dX9_worked_105 rfl) <| pm_sc (sm_aload_n dX9_worked_108 rfl) <| pm_sc (sm_gr dX9_worked_109 fl_X9_44) <| pm_sc (sm_iload_n dX9_worked_112 rfl) <| pm_sc (sm_iconst dX9_worked_113 rfl) <| pm_sc (sm_isub dX9_worked_114) <| pm_sc (sm_iload dX9_worked_115) <| pm_sc (sm_aload_n dX9_worked_117 rfl) <| pm_sc (sm_gr dX9_worked_118 fl_X9_44) <| pm_sc (sm_iload_n dX9_worked_121 rfl) <| pm_sc (sm_iconst dX9_worked_122 rfl) <| pm_sc (sm_isub dX9_worked_123) <| pm_sc (sm_ia dX9_worked_124) <| pm_sc (sm_aload_n dX9_worked_125 rfl) <| pm_sc (sm_gr dX9_worked_126 fl_X9_44) <| pm_sc (sm_iload_n dX9_worked_129 rfl) <| pm_sc (sm_ia dX9_worked_130) <| pm_sc (sm_cs dX9_worked_131 mt_X9_done mw_1210 ls_X9_181) <| pm_sc (sm_ias dX9_worked_134) <| pm_sc (sm_fall rfl) <| pm_sn
  | 8 => pm_sc (sm_iinc dX9_worked_135 rfl) <| pm_sc (sm_goto dX9_worked_138 rfl) <| pm_sn
  | 9 => pm_sc (sm_aload_n dX9_worked_141 rfl) <| pm_sc (sm_gr dX9_worked_142 fl_X9_44) <| pm_sc (sm_iconst dX9_worked_145 rfl) <| pm_sc (sm_ia dX9_worked_146) <| pm_sc (sm_ireturn (pc' := 0) dX9_worked_147 rfl) <| pm_sn
  | n + 10 => trivial
theorem ok_X9_worked (K : pm_K) (l : Launch) (fb : Bool) (hfb : fb = K.2.2.2.2.2) : pm_MOk K l (pm_pg fb) pm_mt n_X9_worked := ⟨by decide +kernel, by decide, pc_X9_worked, rfl, sb_X9_worked K l fb hfb⟩
