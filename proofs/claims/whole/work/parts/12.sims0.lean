/-! EACH METHOD'S ACTIONS ARE ITS BYTECODE, by program -/
theorem pm_sc {K : pm_K} {l : Launch} {mt : pm_T} {own : String} {cc : ByteArray} {nL : Nat} {rt : Option FieldType} {pcb : Nat → Nat} {pc pc' : Nat} {a : pm_Ac} {k : List pm_Ac} (h1 : pm_Sim K l mt own cc nL rt pcb pc pc' a) (h2 : pm_SimB K l mt own cc nL rt pcb pc' k) : pm_SimB K l mt own cc nL rt pcb pc (a :: k) := ⟨pc', h1, h2⟩
theorem pm_sn {K : pm_K} {l : Launch} {mt : pm_T} {own : String} {cc : ByteArray} {nL : Nat} {rt : Option FieldType} {pcb : Nat → Nat} {pc : Nat} : pm_SimB K l mt own cc nL rt pcb pc [] := trivial
def pc_X0_isTold (b : Nat) : Nat := ([0, 11, 12] : List Nat).getD b 0
set_option maxRecDepth 20000 in
theorem sb_X0_isTold (K : pm_K) (l : Launch) (fb : Bool) (hfb : fb = K.2.2.2.2.2) : ∀ b, pm_SimB K l pm_mt "NeedleLine$Law" cX0_isTold 1 ((.some FieldType.boolean)) pc_X0_isTold (pc_X0_isTold b) (P_X0_isTold b)
  | 0 => pm_sc (sm_aload_n dX0_isTold_0 rfl) <| pm_sc (sm_gi dX0_isTold_1 fl_X0_15) <| pm_sc (sm_if_le dX0_isTold_4 rfl) <| pm_sc (sm_iconst dX0_isTold_7 rfl) <| pm_sc (sm_goto dX0_isTold_8 rfl) <| pm_sn
  | 1 => pm_sc (sm_iconst dX0_isTold_11 rfl) <| pm_sc (sm_fall rfl) <| pm_sn
  | 2 => pm_sc (sm_zreturn (pc' := 0) dX0_isTold_12 rfl) <| pm_sn
  | n + 3 => trivial
theorem ok_X0_isTold (K : pm_K) (l : Launch) (fb : Bool) (hfb : fb = K.2.2.2.2.2) : pm_MOk K l (pm_pg fb) pm_mt n_X0_isTold := ⟨by decide +kernel, by decide, pc_X0_isTold, rfl, sb_X0_isTold K l fb hfb⟩
def pc_X0_clear (b : Nat) : Nat := ([0] : List Nat).getD b 0
set_option maxRecDepth 20000 in
theorem sb_X0_clear (K : pm_K) (l : Launch) (fb : Bool) (hfb : fb = K.2.2.2.2.2) : ∀ b, pm_SimB K l pm_mt "NeedleLine$Law" cX0_clear 1 ((.none : Option FieldType)) pc_X0_clear (pc_X0_clear b) (P_X0_clear b)
  | 0 => pm_sc (sm_aload_n dX0_clear_0 rfl) <| pm_sc (sm_iconst dX0_clear_1 rfl) <| pm_sc (sm_pi dX0_clear_2 fp_X0_15) <| pm_sc (sm_return (pc' := 0) dX0_clear_5 rfl) <| pm_sn
  | n + 1 => trivial
theorem ok_X0_clear (K : pm_K) (l : Launch) (fb : Bool) (hfb : fb = K.2.2.2.2.2) : pm_MOk K l (pm_pg fb) pm_mt n_X0_clear := ⟨by decide +kernel, by decide, pc_X0_clear, rfl, sb_X0_clear K l fb hfb⟩
def pc_X0_add (b : Nat) : Nat := ([0, 32] : List Nat).getD b 0
set_option maxRecDepth 20000 in
theorem sb_X0_add (K : pm_K) (l : Launch) (fb : Bool) (hfb : fb = K.2.2.2.2.2) : ∀ b, pm_SimB K l pm_mt "NeedleLine$Law" cX0_add 2 ((.none : Option FieldType)) pc_X0_add (pc_X0_add b) (P_X0_add b)
  | 0 => pm_sc (sm_aload_n dX0_add_0 rfl) <| pm_sc (sm_gi dX0_add_1 fl_X0_15) <| pm_sc (sm_aload_n dX0_add_4 rfl) <| pm_sc (sm_gr dX0_add_5 fl_X0_9) <| pm_sc (sm_ln dX0_add_8) <| pm_sc (sm_icmp_ge dX0_add_9 rfl) <| pm_sc (sm_aload_n dX0_add_12 rfl) <| pm_sc (sm_gr dX0_add_13 fl_X0_9) <| pm_sc (sm_aload_n dX0_add_16 rfl) <| pm_sc (sm_gi dX0_add_17 fl_X0_15) <| pm_sc (sm_iload_n dX0_add_20 rfl) <| pm_sc (sm_ias dX0_add_21) <| pm_sc (sm_aload_n dX0_add_22 rfl) <| pm_sc (sm_dup dX0_add_23) <| pm_sc (sm_gi dX0_add_24 fl_X0_15) <| pm_sc (sm_iconst dX0_add_27 rfl) <| pm_sc (sm_iadd dX0_add_28) <| pm_sc (sm_pi dX0_add_29 fp_X0_15) <| pm_sc (sm_fall rfl) <| pm_sn
  | 1 => pm_sc (sm_return (pc' := 0) dX0_add_32 rfl) <| pm_sn
  | n + 2 => trivial
theorem ok_X0_add (K : pm_K) (l : Launch) (fb : Bool) (hfb : fb = K.2.2.2.2.2) : pm_MOk K l (pm_pg fb) pm_mt n_X0_add := ⟨by decide +kernel, by decide, pc_X0_add, rfl, sb_X0_add K l fb hfb⟩
def pc_X0_take (b : Nat) : Nat := ([0] : List Nat).getD b 0
set_option maxRecDepth 20000 in
theorem sb_X0_take (K : pm_K) (l : Launch) (fb : Bool) (hfb : fb = K.2.2.2.2.2) : ∀ b, pm_SimB K l pm_mt "NeedleLine$Law" cX0_take 2 ((.none : Option FieldType)) pc_X0_take (pc_X0_take b) (P_X0_take b)
  | 0 => pm_sc (sm_aload_n dX0_take_0 rfl) <| pm_sc (sm_gr dX0_take_1 fl_X0_9) <| pm_sc (sm_iconst dX0_take_4 rfl) <| pm_sc (sm_aload_n dX0_take_5 rfl) <| pm_sc (sm_gr dX0_take_6 fl_X0_9) <| pm_sc (sm_iconst dX0_take_9 rfl) <| pm_sc (sm_aload_n dX0_take_10 rfl) <| pm_sc (sm_gr dX0_take_11 fl_X0_9) <| pm_sc (sm_ln dX0_take_14) <| pm_sc (sm_cp dX0_take_15 mw_701 mw_556 mw_555 mw_72) <| pm_sc (sm_aload_n dX0_take_18 rfl) <| pm_sc (sm_aload_n dX0_take_19 rfl) <| pm_sc (sm_gi dX0_take_20 fl_X0_15) <| pm_sc (sm_pi dX0_take_23 fp_X0_15) <| pm_sc (sm_return (pc' := 0) dX0_take_26 rfl) <| pm_sn
  | n + 1 => trivial
theorem ok_X0_take (K : pm_K) (l : Launch) (fb : Bool) (hfb : fb = K.2.2.2.2.2) : pm_MOk K l (pm_pg fb) pm_mt n_X0_take := ⟨by decide +kernel, by decide, pc_X0_take, rfl, sb_X0_take K l fb hfb⟩
def pc_X0_workedOut (b : Nat) : Nat := ([0, 5, 52, 62, 69, 98, 99, 106, 136, 142, 152, 153] : List Nat).getD b 0
set_option maxRecDepth 20000 in
theorem sb_X0_workedOut (K : pm_K) (l : Launch) (fb : Bool) (hfb : fb = K.2.2.2.2.2) : ∀ b, pm_SimB K l pm_mt "NeedleLine$Law" cX0_workedOut 6 ((.some FieldType.int)) pc_X0_workedOut (pc_X0_workedOut b) (P_X0_workedOut b)
  | 0 => pm_sc (sm_iconst dX0_workedOut_0 rfl) <| pm_sc (sm_istore_n dX0_workedOut_1 rfl) <| pm_sc (sm_iconst dX0_workedOut_2 rfl) <| pm_sc (sm_istore dX0_workedOut_3) <| pm_sc (sm_fall rfl) <| pm_sn
  | 1 => pm_sc (sm_iload dX0_workedOut_5) <| pm_sc (sm_aload_n dX0_workedOut_7 rfl) <| pm_sc (sm_gi dX0_workedOut_8 fl_X0_15) <| pm_sc (sm_icmp_ge dX0_workedOut_11 rfl) <| pm_sc (sm_aload_n dX0_workedOut_14 rfl) <| pm_sc (sm_gr dX0_workedOut_15 fl_X0_9) <| pm_sc (sm_iload dX0_workedOut_18) <| pm_sc (sm_ia dX0_workedOut_20) <| pm_sc (sm_istore dX0_workedOut_21) <| pm_sc (sm_iload dX0_workedOut_23) <| pm_sc (sm_sipush dX0_workedOut_25 (by decide)) <| pm_sc (sm_icmp_ge dX0_workedOut_28 rfl) <| pm_sc (sm_iload_n dX0_workedOut_31 rfl) <| pm_sc (sm_aload_n dX0_workedOut_32 rfl) <| pm_sc (sm_ln dX0_workedOut_33) <| pm_sc (sm_icmp_ge dX0_workedOut_34 rfl) <| pm_sc (sm_aload_n dX0_workedOut_37 rfl) <| pm_sc (sm_iload_n dX0_workedOut_38 rfl) <| pm_sc (sm_iload dX0_workedOut_39) <| pm_sc (sm_sipush dX0_workedOut_41 (by decide)) <| pm_sc (sm_icmp_ge dX0_workedOut_44 rfl) <| pm_sc (sm_iload dX0_workedOut_47) <| pm_sc (sm_goto dX0_workedOut_49 rfl) <| pm_sn
  | 2 => pm_sc (sm_aload_n dX0_workedOut_52 rfl) <| pm_sc (sm_iload dX0_workedOut_53) <| pm_sc (sm_sipush dX0_workedOut_55 (by decide)) <| pm_sc (sm_isub dX0_workedOut_58) <| pm_sc (sm_cs dX0_workedOut_59 mt_X0_named mw_450 ls_X0_25) <| pm_sc (sm_fall rfl) <| pm_sn
  | 3 => pm_sc (sm_ias dX0_workedOut_62) <| pm_sc (sm_iinc dX0_workedOut_63 rfl) <| pm_sc (sm_goto dX0_workedOut_66 rfl) <| pm_sn
  | 4 => pm_sc (sm_iload dX0_workedOut_69) <| pm_sc (sm_sipush dX0_workedOut_71 (by decide)) <| pm_sc (sm_icmp_ne dX0_workedOut_74 rfl) <| pm_sc (sm_iload_n dX0_workedOut_77 rfl) <| pm_sc (sm_iconst dX0_workedOut_78 rfl) <| pm_sc (sm_icmp_lt dX0_workedOut_79 rfl) <| pm_sc (sm_aload_n dX0_workedOut_82 rfl) <| pm_sc (sm_iload_n dX0_workedOut_83 rfl) <| pm_sc (sm_iconst dX0_workedOut_84 rfl) <| pm_sc (sm_isub dX0_workedOut_85) <| pm_sc (sm_aload_n dX0_workedOut_86 rfl) <| pm_sc (sm_iload_n dX0_workedOut_87 rfl) <| pm_sc (sm_iconst dX0_workedOut_88 rfl) <| pm_sc (sm_isub dX0_workedOut_89) <| pm_sc (sm_ia dX0_workedOut_90) <| pm_sc (sm_if_ne dX0_workedOut_91 rfl) <| pm_sc (sm_iconst dX0_workedOut_94 rfl) <| pm_sc (sm_goto dX0_workedOut_95 rfl) <| pm_sn
  | 5 => pm_sc (sm_iconst dX0_workedOut_98 rfl) <| pm_sc (sm_fall rfl) <| pm_sn
  | 6 => pm_sc (sm_cs dX0_workedOut_99 mt_X0_truth mw_454 ls_X0_29) <| pm_sc (sm_ias dX0_workedOut_102) <| pm_sc (sm_goto dX0_workedOut_103 rfl) <| pm_sn
  | 7 => pm_sc (sm_iload_n dX0_workedOut_106 rfl) <| pm_sc (sm_iconst dX0_workedOut_107 rfl) <| pm_sc (sm_icmp_lt dX0_workedOut_108 rfl) <| pm_sc (sm_iinc dX0_workedOut_111 rfl) <| pm_sc (sm_aload_n dX0_workedOut_114 rfl) <| pm_sc (sm_iload_n dX0_workedOut_115 rfl) <| pm_sc (sm_iconst dX0_workedOut_116 rfl) <| pm_sc (sm_isub dX0_workedOut_117) <| pm_sc (sm_iload dX0_workedOut_118) <| pm_sc (sm_sipush dX0_workedOut_120 (by decide)) <| pm_sc (sm_isub dX0_workedOut_123) <| pm_sc (sm_aload_n dX0_workedOut_124 rfl) <| pm_sc (sm_iload_n dX0_workedOut_125 rfl) <| pm_sc (sm_iconst dX0_workedOut_126 rfl) <| pm_sc (sm_isub dX0_workedOut_127) <| pm_sc (sm_ia dX0_workedOut_128) <| pm_sc (sm_aload_n dX0_workedOut_129 rfl) <| pm_sc (sm_iload_n dX0_workedOut_130 rfl) <| pm_sc (sm_ia dX0_workedOut_131) <| pm_sc (sm_cs dX0_workedOut_132 mt_X0_joined mw_457 ls_X0_33) <| pm_sc (sm_ias dX0_workedOut_135) <| pm_sc (sm_fall rfl) <| pm_sn
  | 8 => pm_sc (sm_iinc dX0_workedOut_136 rfl) <| pm_sc (sm_goto dX0_workedOut_139 rfl) <| pm_sn
  | 9 => pm_sc (sm_iload_n dX0_workedOut_142 rfl) <| pm_sc (sm_if_le dX0_workedOut_143 rfl) <| pm_sc (sm_aload_n dX0_workedOut_146 rfl) <| pm_sc (sm_iconst dX0_workedOut_147 rfl) <| pm_sc (sm_ia dX0_workedOut_148) <| pm_sc (sm_goto dX0_workedOut_149 rfl) <| pm_sn
  | 10 => pm_sc (sm_iconst dX0_workedOut_152 rfl) <| pm_sc (sm_fall rfl) <| pm_sn
  | 11 => pm_sc (sm_ireturn (pc' := 0) dX0_workedOut_153 rfl) <| pm_sn
  | n + 12 => trivial
theorem ok_X0_workedOut (K : pm_K) (l : Launch) (fb : Bool) (hfb : fb = K.2.2.2.2.2) : pm_MOk K l (pm_pg fb) pm_mt n_X0_workedOut := ⟨by decide +kernel, by decide, pc_X0_workedOut, rfl, sb_X0_workedOut K l fb hfb⟩
def pc_X0_named (b : Nat) : Nat := ([0, 18, 19] : List Nat).getD b 0
set_option maxRecDepth 20000 in
theorem sb_X0_named (K : pm_K) (l : Launch) (fb : Bool) (hfb : fb = K.2.2.2.2.2) : ∀ b, pm_SimB K l pm_mt "NeedleLine$Law" cX0_named 2 ((.some FieldType.int)) pc_X0_named (pc_X0_named b) (P_X0_named b)
  | 0 => pm_sc (sm_iload_n dX0_named_0 rfl) <| pm_sc (sm_iconst dX0_named_1 rfl) <| pm_sc (sm_aload_n dX0_named_2 rfl) <| pm_sc (sm_ln dX0_named_3) <| pm_sc (sm_iconst dX0_named_4 rfl) <| pm_sc (sm_isub dX0_named_5) <| pm_sc (sm_cs dX0_named_6 mt_X8_isIn mw_347 ls_X0_37) <| pm_sc (sm_if_eq dX0_named_9 rfl) <| pm_sc (sm_aload_n dX0_named_12 rfl) <| pm_sc (sm_iload_n dX0_named_13 rfl) <| pm_sc (sm_ia dX0_named_14) <| pm_sc (sm_goto dX0_named_15 rfl) <| pm_sn
  | 1 => pm_sc (sm_iconst dX0_named_18 rfl) <| pm_sc (sm_fall rfl) <| pm_sn
  | 2 => pm_sc (sm_ireturn (pc' := 0) dX0_named_19 rfl) <| pm_sn
  | n + 3 => trivial
theorem ok_X0_named (K : pm_K) (l : Launch) (fb : Bool) (hfb : fb = K.2.2.2.2.2) : pm_MOk K l (pm_pg fb) pm_mt n_X0_named := ⟨by decide +kernel, by decide, pc_X0_named, rfl, sb_X0_named K l fb hfb⟩
def pc_X0_joined (b : Nat) : Nat := ([0, 84, 92, 96, 97, 101, 113, 114, 118, 127, 128, 132, 141, 142, 146, 155, 156, 160, 164, 168, 172, 180, 183, 184, 192, 195] : List Nat).getD b 0
set_option maxRecDepth 20000 in
theorem sb_X0_joined (K : pm_K) (l : Launch) (fb : Bool) (hfb : fb = K.2.2.2.2.2) : ∀ b, pm_SimB K l pm_mt "NeedleLine$Law" cX0_joined 3 ((.some FieldType.int)) pc_X0_joined (pc_X0_joined b) (P_X0_joined b)
  | 0 => pm_sc (sm_iload_n dX0_joined_0 rfl) <| pm_sc (sm_lsw dX0_joined_1 (by decide +kernel) (by decide +kernel) rfl) <| pm_sn
  | 1 => pm_sc (sm_iload_n dX0_joined_84 rfl) <| pm_sc (sm_if_ne dX0_joined_85 rfl) <| pm_sc (sm_iload_n dX0_joined_88 rfl) <| pm_sc (sm_if_eq dX0_joined_89 rfl) <| pm_sc (sm_fall rfl) <| pm_sn
  | 2 => pm_sc (sm_iconst dX0_joined_92 rfl) <| pm_sc (sm_goto dX0_joined_93 rfl) <| pm_sn
  | 3 => pm_sc (sm_iconst dX0_joined_96 rfl) <| pm_sc (sm_fall rfl) <| pm_sn
  | 4 => pm_sc (sm_cs dX0_joined_97 mt_X0_truth mw_454 ls_X0_29) <| pm_sc (sm_ireturn (pc' := 0) dX0_joined_100 rfl) <| pm_sn
  | 5 => pm_sc (sm_iload_n dX0_joined_101 rfl) <| pm_sc (sm_if_eq dX0_joined_102 rfl) <| pm_sc (sm_iload_n dX0_joined_105 rfl) <| pm_sc (sm_if_eq dX0_joined_106 rfl) <| pm_sc (sm_iconst dX0_joined_109 rfl) <| pm_sc (sm_goto dX0_joined_110 rfl) <| pm_sn
  | 6 => pm_sc (sm_iconst dX0_joined_113 rfl) <| pm_sc (sm_fall rfl) <| pm_sn
  | 7 => pm_sc (sm_cs dX0_joined_114 mt_X0_truth mw_454 ls_X0_29) <| pm_sc (sm_ireturn (pc' := 0) dX0_joined_117 rfl) <| pm_sn
  | 8 => pm_sc (sm_iload_n dX0_joined_118 rfl) <| pm_sc (sm_iload_n dX0_joined_119 rfl) <| pm_sc (sm_icmp_ge dX0_joined_120 rfl) <| pm_sc (sm_iconst dX0_joined_123 rfl) <| pm_sc (sm_goto dX0_joined_124 rfl) <| pm_sn
  | 9 => pm_sc (sm_iconst dX0_joined_127 rfl) <| pm_sc (sm_fall rfl) <| pm_sn
  | 10 => pm_sc (sm_cs dX0_joined_128 mt_X0_truth mw_454 ls_X0_29) <| pm_sc (sm_ireturn (pc' := 0) dX0_joined_131 rfl) <| pm_sn
  | 11 => pm_sc (sm_iload_n dX0_joined_132 rfl) <| pm_sc (sm_iload_n dX0_joined_133 rfl) <| pm_sc (sm_icmp_ne dX0_joined_134 rfl) <| pm_sc (sm_iconst dX0_joined_137 rfl) <| pm_sc (sm_goto dX0_joined_138 rfl) <| pm_sn
  | 12 => pm_sc (sm_iconst dX0_joined_141 rfl) <| pm_sc (sm_fall rfl) <| pm_sn
  | 13 => pm_sc (sm_cs dX0_joined_142 mt_X0_truth mw_454 ls_X0_29) <| pm_sc (sm_ireturn (pc' := 0) dX0_joined_145 rfl) <| pm_sn
  | 14 => pm_sc (sm_iload_n dX0_joined_146 rfl) <| pm_sc (sm_iload_n dX0_joined_147 rfl) <| pm_sc (sm_icmp_le dX0_joined_148 rfl) <| pm_sc (sm_iconst dX0_joined_151 rfl) <| pm_sc (sm_goto dX0_joined_152 rfl) <| pm_sn
  | 15 => pm_sc (sm_iconst dX0_joined_155 rfl) <| pm_sc (sm_fall rfl) <| pm_sn
  | 16 => pm_sc (sm_cs dX0_joined_156 mt_X0_truth mw_454 ls_X0_29) <| pm_sc (sm_ireturn (pc' := 0) dX0_joined_159 rfl) <| pm_sn
  | 17 => pm_sc (sm_iload_n dX0_joined_160 rfl) <| pm_sc (sm_iload_n dX0_joined_161 rfl) <| pm_sc (sm_iadd dX0_joined_162) <| pm_sc (sm_ireturn (pc' := 0) dX0_joined_163 rfl) <| pm_sn
  | 18 => pm_sc (sm_iload_n dX0_joined_164 rfl) <| pm_sc (sm_iload_n dX0_joined_165 rfl) <| pm_sc (sm_isub dX0_joined_166) <| pm_sc (sm_ireturn (pc' := 0) dX0_joined_167 rfl) <| pm_sn
  | 19 => pm_sc (sm_iload_n dX0_joined_168 rfl) <| pm_sc (sm_iload_n dX0_joined_169 rfl) <| pm_sc (sm_imul dX0_joined_170) <| pm_sc (sm_ireturn (pc' := 0) dX0_joined_171 rfl) <| pm_sn
  | 20 => pm_sc (sm_iload_n dX0_joined_172 rfl) <| pm_sc (sm_if_ne dX0_joined_173 rfl) <| pm_sc (sm_iconst dX0_joined_176 rfl) <| pm_sc (sm_goto dX0_joined_177 rfl) <| pm_sn
  | 21 => pm_sc (sm_iload_n dX0_joined_180 rfl) <| pm_sc (sm_iload_n dX0_joined_181 rfl) <| pm_sc (sm_idiv dX0_joined_182) <| pm_sc (sm_fall rfl) <| pm_sn
  | 22 => pm_sc (sm_ireturn (pc' := 0) dX0_joined_183 rfl) <| pm_sn
  | 23 => pm_sc (sm_iload_n dX0_joined_184 rfl) <| pm_sc (sm_if_ne dX0_joined_185 rfl) <| pm_sc (sm_iconst dX0_joined_188 rfl) <| pm_sc (sm_goto dX0_joined_189 rfl) <| pm_sn
  | 24 => pm_sc (sm_iload_n dX0_joined_192 rfl) <| pm_sc (sm_iload_n dX0_joined_193 rfl) <| pm_sc (sm_irem dX0_joined_194) <| pm_sc (sm_fall rfl) <| pm_sn
  | 25 => pm_sc (sm_ireturn (pc' := 0) dX0_joined_195 rfl) <| pm_sn
  | n + 26 => trivial
theorem ok_X0_joined (K : pm_K) (l : Launch) (fb : Bool) (hfb : fb = K.2.2.2.2.2) : pm_MOk K l (pm_pg fb) pm_mt n_X0_joined := ⟨by decide +kernel, by decide, pc_X0_joined, rfl, sb_X0_joined K l fb hfb⟩
def pc_X0_truth (b : Nat) : Nat := ([0, 8, 9] : List Nat).getD b 0
set_option maxRecDepth 20000 in
theorem sb_X0_truth (K : pm_K) (l : Launch) (fb : Bool) (hfb : fb = K.2.2.2.2.2) : ∀ b, pm_SimB K l pm_mt "NeedleLine$Law" cX0_truth 1 ((.some FieldType.int)) pc_X0_truth (pc_X0_truth b) (P_X0_truth b)
  | 0 => pm_sc (sm_iload_n dX0_truth_0 rfl) <| pm_sc (sm_if_eq dX0_truth_1 rfl) <| pm_sc (sm_iconst dX0_truth_4 rfl) <| pm_sc (sm_goto dX0_truth_5 rfl) <| pm_sn
  | 1 => pm_sc (sm_iconst dX0_truth_8 rfl) <| pm_sc (sm_fall rfl) <| pm_sn
  | 2 => pm_sc (sm_ireturn (pc' := 0) dX0_truth_9 rfl) <| pm_sn
  | n + 3 => trivial
theorem ok_X0_truth (K : pm_K) (l : Launch) (fb : Bool) (hfb : fb = K.2.2.2.2.2) : pm_MOk K l (pm_pg fb) pm_mt n_X0_truth := ⟨by decide +kernel, by decide, pc_X0_truth, rfl, sb_X0_truth K l fb hfb⟩
def pc_X1_faultOf (b : Nat) : Nat := ([0, 60, 67, 68] : List Nat).getD b 0
set_option maxRecDepth 20000 in
theorem sb_X1_faultOf (K : pm_K) (l : Launch) (fb : Bool) (hfb : fb = K.2.2.2.2.2) : ∀ b, pm_SimB K l pm_mt "NeedleLine$Parser" cX1_faultOf 3 ((.some FieldType.int)) pc_X1_faultOf (pc_X1_faultOf b) (P_X1_faultOf b)
  | 0 => pm_sc (sm_aload_n dX1_faultOf_0 rfl) <| pm_sc (sm_gr dX1_faultOf_1 fl_X1_23) <| pm_sc (sm_aload_n dX1_faultOf_4 rfl) <| pm_sc (sm_cv dX1_faultOf_5 mt_X6_take mw_552 lv_X1_44) <| pm_sc (sm_aload_n dX1_faultOf_8 rfl) <| pm_sc (sm_aload_n dX1_faultOf_9 rfl) <| pm_sc (sm_ps dX1_faultOf_10 fp_X1_29) <| pm_sc (sm_aload_n dX1_faultOf_13 rfl) <| pm_sc (sm_gr dX1_faultOf_14 fl_X1_12) <| pm_sc (sm_cv dX1_faultOf_17 mt_X0_clear mw_560 lv_X1_48) <| pm_sc (sm_aload_n dX1_faultOf_20 rfl) <| pm_sc (sm_iconst dX1_faultOf_21 rfl) <| pm_sc (sm_pi dX1_faultOf_22 fp_X1_33) <| pm_sc (sm_aload_n dX1_faultOf_25 rfl) <| pm_sc (sm_iconst dX1_faultOf_26 rfl) <| pm_sc (sm_pi dX1_faultOf_27 fp_X1_37) <| pm_sc (sm_aload_n dX1_faultOf_30 rfl) <| pm_sc (sm_iconst dX1_faultOf_31 rfl) <| pm_sc (sm_pz dX1_faultOf_32 fp_X1_40) <| pm_sc (sm_aload_n dX1_faultOf_35 rfl) <| pm_sc (sm_cv dX1_faultOf_36 mt_X1_readT mw_564 lv_X1_51) <| pm_sc (sm_aload_n dX1_faultOf_39 rfl) <| pm_sc (sm_gi dX1_faultOf_40 fl_X1_40) <| pm_sc (sm_if_ne dX1_faultOf_43 rfl) <| pm_sc (sm_aload_n dX1_faultOf_46 rfl) <| pm_sc (sm_gi dX1_faultOf_47 fl_X1_33) <| pm_sc (sm_aload_n dX1_faultOf_50 rfl) <| pm_sc (sm_gr dX1_faultOf_51 fl_X1_23) <| pm_sc (sm_cv dX1_faultOf_54 mt_X6_used mw_358 lv_X1_54) <| pm_sc (sm_icmp_ge dX1_faultOf_57 rfl) <| pm_sc (sm_fall rfl) <| pm_sn
  | 1 => pm_sc (sm_aload_n dX1_faultOf_60 rfl) <| pm_sc (sm_gi dX1_faultOf_61 fl_X1_33) <| pm_sc (sm_goto dX1_faultOf_64 rfl) <| pm_sn
  | 2 => pm_sc (sm_iconst dX1_faultOf_67 rfl) <| pm_sc (sm_fall rfl) <| pm_sn
  | 3 => pm_sc (sm_ireturn (pc' := 0) dX1_faultOf_68 rfl) <| pm_sn
  | n + 4 => trivial
theorem ok_X1_faultOf (K : pm_K) (l : Launch) (fb : Bool) (hfb : fb = K.2.2.2.2.2) : pm_MOk K l (pm_pg fb) pm_mt n_X1_faultOf := ⟨by decide +kernel, by decide, pc_X1_faultOf, rfl, sb_X1_faultOf K l fb hfb⟩
def pc_X1_readT (b : Nat) : Nat := ([0, 6, 51] : List Nat).getD b 0
set_option maxRecDepth 20000 in
theorem sb_X1_readT (K : pm_K) (l : Launch) (fb : Bool) (hfb : fb = K.2.2.2.2.2) : ∀ b, pm_SimB K l pm_mt "NeedleLine$Parser" cX1_readT 2 ((.none : Option FieldType)) pc_X1_readT (pc_X1_readT b) (P_X1_readT b)
  | 0 => pm_sc (sm_aload_n dX1_readT_0 rfl) <| pm_sc (sm_cv dX1_readT_1 mt_X1_readA mw_568 lv_X1_58) <| pm_sc (sm_iconst dX1_readT_4 rfl) <| pm_sc (sm_istore_n dX1_readT_5 rfl) <| pm_sc (sm_fall rfl) <| pm_sn
  | 1 => pm_sc (sm_iload_n dX1_readT_6 rfl) <| pm_sc (sm_bipush dX1_readT_7 (by decide)) <| pm_sc (sm_icmp_ge dX1_readT_9 rfl) <| pm_sc (sm_aload_n dX1_readT_12 rfl) <| pm_sc (sm_bipush dX1_readT_13 (by decide)) <| pm_sc (sm_cv dX1_readT_15 mt_X1_isNext mw_692 lv_X1_61) <| pm_sc (sm_if_eq dX1_readT_18 rfl) <| pm_sc (sm_aload_n dX1_readT_21 rfl) <| pm_sc (sm_dup dX1_readT_22) <| pm_sc (sm_gi dX1_readT_23 fl_X1_33) <| pm_sc (sm_iconst dX1_readT_26 rfl) <| pm_sc (sm_iadd dX1_readT_27) <| pm_sc (sm_pi dX1_readT_28 fp_X1_33) <| pm_sc (sm_aload_n dX1_readT_31 rfl) <| pm_sc (sm_cv dX1_readT_32 mt_X1_readA mw_568 lv_X1_58) <| pm_sc (sm_aload_n dX1_readT_35 rfl) <| pm_sc (sm_gr dX1_readT_36 fl_X1_12) <| pm_sc (sm_sipush dX1_readT_39 (by decide)) <| pm_sc (sm_cv dX1_readT_42 mt_X0_add mw_602 lv_X1_65) <| pm_sc (sm_iinc dX1_readT_45 rfl) <| pm_sc (sm_goto dX1_readT_48 rfl) <| pm_sn
  | 2 => pm_sc (sm_return (pc' := 0) dX1_readT_51 rfl) <| pm_sn
  | n + 3 => trivial
theorem ok_X1_readT (K : pm_K) (l : Launch) (fb : Bool) (hfb : fb = K.2.2.2.2.2) : pm_MOk K l (pm_pg fb) pm_mt n_X1_readT := ⟨by decide +kernel, by decide, pc_X1_readT, rfl, sb_X1_readT K l fb hfb⟩
def pc_X1_readA (b : Nat) : Nat := ([0, 6, 51] : List Nat).getD b 0
set_option maxRecDepth 20000 in
theorem sb_X1_readA (K : pm_K) (l : Launch) (fb : Bool) (hfb : fb = K.2.2.2.2.2) : ∀ b, pm_SimB K l pm_mt "NeedleLine$Parser" cX1_readA 2 ((.none : Option FieldType)) pc_X1_readA (pc_X1_readA b) (P_X1_readA b)
  | 0 => pm_sc (sm_aload_n dX1_readA_0 rfl) <| pm_sc (sm_cv dX1_readA_1 mt_X1_readB mw_572 lv_X1_69) <| pm_sc (sm_iconst dX1_readA_4 rfl) <| pm_sc (sm_istore_n dX1_readA_5 rfl) <| pm_sc (sm_fall rfl) <| pm_sn
  | 1 => pm_sc (sm_iload_n dX1_readA_6 rfl) <| pm_sc (sm_bipush dX1_readA_7 (by decide)) <| pm_sc (sm_icmp_ge dX1_readA_9 rfl) <| pm_sc (sm_aload_n dX1_readA_12 rfl) <| pm_sc (sm_bipush dX1_readA_13 (by decide)) <| pm_sc (sm_cv dX1_readA_15 mt_X1_isNext mw_692 lv_X1_61) <| pm_sc (sm_if_eq dX1_readA_18 rfl) <| pm_sc (sm_aload_n dX1_readA_21 rfl) <| pm_sc (sm_dup dX1_readA_22) <| pm_sc (sm_gi dX1_readA_23 fl_X1_33) <| pm_sc (sm_iconst dX1_readA_26 rfl) <| pm_sc (sm_iadd dX1_readA_27) <| pm_sc (sm_pi dX1_readA_28 fp_X1_33) <| pm_sc (sm_aload_n dX1_readA_31 rfl) <| pm_sc (sm_cv dX1_readA_32 mt_X1_readB mw_572 lv_X1_69) <| pm_sc (sm_aload_n dX1_readA_35 rfl) <| pm_sc (sm_gr dX1_readA_36 fl_X1_12) <| pm_sc (sm_sipush dX1_readA_39 (by decide)) <| pm_sc (sm_cv dX1_readA_42 mt_X0_add mw_602 lv_X1_65) <| pm_sc (sm_iinc dX1_readA_45 rfl) <| pm_sc (sm_goto dX1_readA_48 rfl) <| pm_sn
  | 2 => pm_sc (sm_return (pc' := 0) dX1_readA_51 rfl) <| pm_sn
  | n + 3 => trivial
theorem ok_X1_readA (K : pm_K) (l : Launch) (fb : Bool) (hfb : fb = K.2.2.2.2.2) : pm_MOk K l (pm_pg fb) pm_mt n_X1_readA := ⟨by decide +kernel, by decide, pc_X1_readA, rfl, sb_X1_readA K l fb hfb⟩
def pc_X1_readB (b : Nat) : Nat := ([0, 31, 62] : List Nat).getD b 0
set_option maxRecDepth 20000 in
theorem sb_X1_readB (K : pm_K) (l : Launch) (fb : Bool) (hfb : fb = K.2.2.2.2.2) : ∀ b, pm_SimB K l pm_mt "NeedleLine$Parser" cX1_readB 2 ((.none : Option FieldType)) pc_X1_readB (pc_X1_readB b) (P_X1_readB b)
  | 0 => pm_sc (sm_aload_n dX1_readB_0 rfl) <| pm_sc (sm_cv dX1_readB_1 mt_X1_readS mw_576 lv_X1_72) <| pm_sc (sm_aload_n dX1_readB_4 rfl) <| pm_sc (sm_bipush dX1_readB_5 (by decide)) <| pm_sc (sm_cv dX1_readB_7 mt_X1_isNext mw_692 lv_X1_61) <| pm_sc (sm_if_ne dX1_readB_10 rfl) <| pm_sc (sm_aload_n dX1_readB_13 rfl) <| pm_sc (sm_bipush dX1_readB_14 (by decide)) <| pm_sc (sm_cv dX1_readB_16 mt_X1_isNext mw_692 lv_X1_61) <| pm_sc (sm_if_ne dX1_readB_19 rfl) <| pm_sc (sm_aload_n dX1_readB_22 rfl) <| pm_sc (sm_bipush dX1_readB_23 (by decide)) <| pm_sc (sm_cv dX1_readB_25 mt_X1_isNext mw_692 lv_X1_61) <| pm_sc (sm_if_eq dX1_readB_28 rfl) <| pm_sc (sm_fall rfl) <| pm_sn
  | 1 => pm_sc (sm_aload_n dX1_readB_31 rfl) <| pm_sc (sm_cv dX1_readB_32 mt_X1_next mw_588 lv_X1_75) <| pm_sc (sm_istore_n dX1_readB_35 rfl) <| pm_sc (sm_aload_n dX1_readB_36 rfl) <| pm_sc (sm_dup dX1_readB_37) <| pm_sc (sm_gi dX1_readB_38 fl_X1_33) <| pm_sc (sm_iconst dX1_readB_41 rfl) <| pm_sc (sm_iadd dX1_readB_42) <| pm_sc (sm_pi dX1_readB_43 fp_X1_33) <| pm_sc (sm_aload_n dX1_readB_46 rfl) <| pm_sc (sm_cv dX1_readB_47 mt_X1_readS mw_576 lv_X1_72) <| pm_sc (sm_aload_n dX1_readB_50 rfl) <| pm_sc (sm_gr dX1_readB_51 fl_X1_12) <| pm_sc (sm_sipush dX1_readB_54 (by decide)) <| pm_sc (sm_iload_n dX1_readB_57 rfl) <| pm_sc (sm_iadd dX1_readB_58) <| pm_sc (sm_cv dX1_readB_59 mt_X0_add mw_602 lv_X1_65) <| pm_sc (sm_fall rfl) <| pm_sn
  | 2 => pm_sc (sm_return (pc' := 0) dX1_readB_62 rfl) <| pm_sn
  | n + 3 => trivial
theorem ok_X1_readB (K : pm_K) (l : Launch) (fb : Bool) (hfb : fb = K.2.2.2.2.2) : pm_MOk K l (pm_pg fb) pm_mt n_X1_readB := ⟨by decide +kernel, by decide, pc_X1_readB, rfl, sb_X1_readB K l fb hfb⟩
def pc_X1_readS (b : Nat) : Nat := ([0, 6, 30, 67] : List Nat).getD b 0
set_option maxRecDepth 20000 in
theorem sb_X1_readS (K : pm_K) (l : Launch) (fb : Bool) (hfb : fb = K.2.2.2.2.2) : ∀ b, pm_SimB K l pm_mt "NeedleLine$Parser" cX1_readS 3 ((.none : Option FieldType)) pc_X1_readS (pc_X1_readS b) (P_X1_readS b)
  | 0 => pm_sc (sm_aload_n dX1_readS_0 rfl) <| pm_sc (sm_cv dX1_readS_1 mt_X1_readP mw_580 lv_X1_78) <| pm_sc (sm_iconst dX1_readS_4 rfl) <| pm_sc (sm_istore_n dX1_readS_5 rfl) <| pm_sc (sm_fall rfl) <| pm_sn
  | 1 => pm_sc (sm_iload_n dX1_readS_6 rfl) <| pm_sc (sm_bipush dX1_readS_7 (by decide)) <| pm_sc (sm_icmp_ge dX1_readS_9 rfl) <| pm_sc (sm_aload_n dX1_readS_12 rfl) <| pm_sc (sm_bipush dX1_readS_13 (by decide)) <| pm_sc (sm_cv dX1_readS_15 mt_X1_isNext mw_692 lv_X1_61) <| pm_sc (sm_if_ne dX1_readS_18 rfl) <| pm_sc (sm_aload_n dX1_readS_21 rfl) <| pm_sc (sm_bipush dX1_readS_22 (by decide)) <| pm_sc (sm_cv dX1_readS_24 mt_X1_isNext mw_692 lv_X1_61) <| pm_sc (sm_if_eq dX1_readS_27 rfl) <| pm_sc (sm_fall rfl) <| pm_sn
  | 2 => pm_sc (sm_aload_n dX1_readS_30 rfl) <| pm_sc (sm_cv dX1_readS_31 mt_X1_next mw_588 lv_X1_75) <| pm_sc (sm_istore_n dX1_readS_34 rfl) <| pm_sc (sm_aload_n dX1_readS_35 rfl) <| pm_sc (sm_dup dX1_readS_36) <| pm_sc (sm_gi dX1_readS_37 fl_X1_33) <| pm_sc (sm_iconst dX1_readS_40 rfl) <| pm_sc (sm_iadd dX1_readS_41) <| pm_sc (sm_pi dX1_readS_42 fp_X1_33) <| pm_sc (sm_aload_n dX1_readS_45 rfl) <| pm_sc (sm_cv dX1_readS_46 mt_X1_readP mw_580 lv_X1_78) <| pm_sc (sm_aload_n dX1_readS_49 rfl) <| pm_sc (sm_gr dX1_readS_50 fl_X1_12) <| pm_sc (sm_sipush dX1_readS_53 (by decide)) <| pm_sc (sm_iload_n dX1_readS_56 rfl) <| pm_sc (sm_iadd dX1_readS_57) <| pm_sc (sm_cv dX1_readS_58 mt_X0_add mw_602 lv_X1_65) <| pm_sc (sm_iinc dX1_readS_61 rfl) <| pm_sc (sm_goto dX1_readS_64 rfl) <| pm_sn
  | 3 => pm_sc (sm_return (pc' := 0) dX1_readS_67 rfl) <| pm_sn
  | n + 4 => trivial
theorem ok_X1_readS (K : pm_K) (l : Launch) (fb : Bool) (hfb : fb = K.2.2.2.2.2) : pm_MOk K l (pm_pg fb) pm_mt n_X1_readS := ⟨by decide +kernel, by decide, pc_X1_readS, rfl, sb_X1_readS K l fb hfb⟩
def pc_X1_readP (b : Nat) : Nat := ([0, 6, 39, 76] : List Nat).getD b 0
set_option maxRecDepth 20000 in
theorem sb_X1_readP (K : pm_K) (l : Launch) (fb : Bool) (hfb : fb = K.2.2.2.2.2) : ∀ b, pm_SimB K l pm_mt "NeedleLine$Parser" cX1_readP 3 ((.none : Option FieldType)) pc_X1_readP (pc_X1_readP b) (P_X1_readP b)
  | 0 => pm_sc (sm_aload_n dX1_readP_0 rfl) <| pm_sc (sm_cv dX1_readP_1 mt_X1_readQ mw_584 lv_X1_81) <| pm_sc (sm_iconst dX1_readP_4 rfl) <| pm_sc (sm_istore_n dX1_readP_5 rfl) <| pm_sc (sm_fall rfl) <| pm_sn
  | 1 => pm_sc (sm_iload_n dX1_readP_6 rfl) <| pm_sc (sm_bipush dX1_readP_7 (by decide)) <| pm_sc (sm_icmp_ge dX1_readP_9 rfl) <| pm_sc (sm_aload_n dX1_readP_12 rfl) <| pm_sc (sm_bipush dX1_readP_13 (by decide)) <| pm_sc (sm_cv dX1_readP_15 mt_X1_isNext mw_692 lv_X1_61) <| pm_sc (sm_if_ne dX1_readP_18 rfl) <| pm_sc (sm_aload_n dX1_readP_21 rfl) <| pm_sc (sm_bipush dX1_readP_22 (by decide)) <| pm_sc (sm_cv dX1_readP_24 mt_X1_isNext mw_692 lv_X1_61) <| pm_sc (sm_if_ne dX1_readP_27 rfl) <| pm_sc (sm_aload_n dX1_readP_30 rfl) <| pm_sc (sm_bipush dX1_readP_31 (by decide)) <| pm_sc (sm_cv dX1_readP_33 mt_X1_isNext mw_692 lv_X1_61) <| pm_sc (sm_if_eq dX1_readP_36 rfl) <| pm_sc (sm_fall rfl) <| pm_sn
  | 2 => pm_sc (sm_aload_n dX1_readP_39 rfl) <| pm_sc (sm_cv dX1_readP_40 mt_X1_next mw_588 lv_X1_75) <| pm_sc (sm_istore_n dX1_readP_43 rfl) <| pm_sc (sm_aload_n dX1_readP_44 rfl) <| pm_sc (sm_dup dX1_readP_45) <| pm_sc (sm_gi dX1_readP_46 fl_X1_33) <| pm_sc (sm_iconst dX1_readP_49 rfl) <| pm_sc (sm_iadd dX1_readP_50) <| pm_sc (sm_pi dX1_readP_51 fp_X1_33) <| pm_sc (sm_aload_n dX1_readP_54 rfl) <| pm_sc (sm_cv dX1_readP_55 mt_X1_readQ mw_584 lv_X1_81) <| pm_sc (sm_aload_n dX1_readP_58 rfl) <| pm_sc (sm_gr dX1_readP_59 fl_X1_12) <| pm_sc (sm_sipush dX1_readP_62 (by decide)) <| pm_sc (sm_iload_n dX1_readP_65 rfl) <| pm_sc (sm_iadd dX1_readP_66) <| pm_sc (sm_cv dX1_readP_67 mt_X0_add mw_602 lv_X1_65) <| pm_sc (sm_iinc dX1_readP_70 rfl) <| pm_sc (sm_goto dX1_readP_73 rfl) <| pm_sn
  | 3 => pm_sc (sm_return (pc' := 0) dX1_readP_76 rfl) <| pm_sn
  | n + 4 => trivial
theorem ok_X1_readP (K : pm_K) (l : Launch) (fb : Bool) (hfb : fb = K.2.2.2.2.2) : pm_MOk K l (pm_pg fb) pm_mt n_X1_readP := ⟨by decide +kernel, by decide, pc_X1_readP, rfl, sb_X1_readP K l fb hfb⟩
def pc_X1_readQ (b : Nat) : Nat := ([0, 19, 56, 117, 179, 180, 199, 200, 207, 212] : List Nat).getD b 0
set_option maxRecDepth 20000 in
theorem sb_X1_readQ (K : pm_K) (l : Launch) (fb : Bool) (hfb : fb = K.2.2.2.2.2) : ∀ b, pm_SimB K l pm_mt "NeedleLine$Parser" cX1_readQ 2 ((.none : Option FieldType)) pc_X1_readQ (pc_X1_readQ b) (P_X1_readQ b)
  | 0 => pm_sc (sm_aload_n dX1_readQ_0 rfl) <| pm_sc (sm_cv dX1_readQ_1 mt_X1_next mw_588 lv_X1_75) <| pm_sc (sm_istore_n dX1_readQ_4 rfl) <| pm_sc (sm_iload_n dX1_readQ_5 rfl) <| pm_sc (sm_cs dX1_readQ_6 mt_X1_isDigit mw_593 ls_X1_84) <| pm_sc (sm_if_eq dX1_readQ_9 rfl) <| pm_sc (sm_aload_n dX1_readQ_12 rfl) <| pm_sc (sm_cv dX1_readQ_13 mt_X1_readNumber mw_598 lv_X1_87) <| pm_sc (sm_goto dX1_readQ_16 rfl) <| pm_sn
  | 1 => pm_sc (sm_aload_n dX1_readQ_19 rfl) <| pm_sc (sm_iload_n dX1_readQ_20 rfl) <| pm_sc (sm_cv dX1_readQ_21 mt_X1_nameOf mw_606 lv_X1_90) <| pm_sc (sm_if_lt dX1_readQ_24 rfl) <| pm_sc (sm_aload_n dX1_readQ_27 rfl) <| pm_sc (sm_gr dX1_readQ_28 fl_X1_12) <| pm_sc (sm_sipush dX1_readQ_31 (by decide)) <| pm_sc (sm_aload_n dX1_readQ_34 rfl) <| pm_sc (sm_iload_n dX1_readQ_35 rfl) <| pm_sc (sm_cv dX1_readQ_36 mt_X1_nameOf mw_606 lv_X1_90) <| pm_sc (sm_iadd dX1_readQ_39) <| pm_sc (sm_cv dX1_readQ_40 mt_X0_add mw_602 lv_X1_65) <| pm_sc (sm_aload_n dX1_readQ_43 rfl) <| pm_sc (sm_dup dX1_readQ_44) <| pm_sc (sm_gi dX1_readQ_45 fl_X1_33) <| pm_sc (sm_iconst dX1_readQ_48 rfl) <| pm_sc (sm_iadd dX1_readQ_49) <| pm_sc (sm_pi dX1_readQ_50 fp_X1_33) <| pm_sc (sm_goto dX1_readQ_53 rfl) <| pm_sn
  | 2 => pm_sc (sm_iload_n dX1_readQ_56 rfl) <| pm_sc (sm_bipush dX1_readQ_57 (by decide)) <| pm_sc (sm_icmp_ne dX1_readQ_59 rfl) <| pm_sc (sm_aload_n dX1_readQ_62 rfl) <| pm_sc (sm_gi dX1_readQ_63 fl_X1_37) <| pm_sc (sm_iconst dX1_readQ_66 rfl) <| pm_sc (sm_icmp_ge dX1_readQ_67 rfl) <| pm_sc (sm_aload_n dX1_readQ_70 rfl) <| pm_sc (sm_dup dX1_readQ_71) <| pm_sc (sm_gi dX1_readQ_72 fl_X1_37) <| pm_sc (sm_iconst dX1_readQ_75 rfl) <| pm_sc (sm_iadd dX1_readQ_76) <| pm_sc (sm_pi dX1_readQ_77 fp_X1_37) <| pm_sc (sm_aload_n dX1_readQ_80 rfl) <| pm_sc (sm_dup dX1_readQ_81) <| pm_sc (sm_gi dX1_readQ_82 fl_X1_33) <| pm_sc (sm_iconst dX1_readQ_85 rfl) <| pm_sc (sm_iadd dX1_readQ_86) <| pm_sc (sm_pi dX1_readQ_87 fp_X1_33) <| pm_sc (sm_aload_n dX1_readQ_90 rfl) <| pm_sc (sm_cv dX1_readQ_91 mt_X1_readQ mw_584 lv_X1_81) <| pm_sc (sm_aload_n dX1_readQ_94 rfl) <| pm_sc (sm_dup dX1_readQ_95) <| pm_sc (sm_gi dX1_readQ_96 fl_X1_37) <| pm_sc (sm_iconst dX1_readQ_99 rfl) <| pm_sc (sm_isub dX1_readQ_100) <| pm_sc (sm_pi dX1_readQ_101 fp_X1_37) <| pm_sc (sm_aload_n dX1_readQ_104 rfl) <| pm_sc (sm_gr dX1_readQ_105 fl_X1_12) <| pm_sc (sm_sipush dX1_readQ_108 (by decide)) <| pm_sc (sm_cv dX1_readQ_111 mt_X0_add mw_602 lv_X1_65) <| pm_sc (sm_goto dX1_readQ_114 rfl) <| pm_sn
  | 3 => pm_sc (sm_iload_n dX1_readQ_117 rfl) <| pm_sc (sm_bipush dX1_readQ_118 (by decide)) <| pm_sc (sm_icmp_ne dX1_readQ_120 rfl) <| pm_sc (sm_aload_n dX1_readQ_123 rfl) <| pm_sc (sm_gi dX1_readQ_124 fl_X1_37) <| pm_sc (sm_iconst dX1_readQ_127 rfl) <| pm_sc (sm_icmp_ge dX1_readQ_128 rfl) <| pm_sc (sm_aload_n dX1_readQ_131 rfl) <| pm_sc (sm_dup dX1_readQ_132) <| pm_sc (sm_gi dX1_readQ_133 fl_X1_37) <| pm_sc (sm_iconst dX1_readQ_136 rfl) <| pm_sc (sm_iadd dX1_readQ_137) <| pm_sc (sm_pi dX1_readQ_138 fp_X1_37) <| pm_sc (sm_aload_n dX1_readQ_141 rfl) <| pm_sc (sm_dup dX1_readQ_142) <| pm_sc (sm_gi dX1_readQ_143 fl_X1_33) <| pm_sc (sm_iconst dX1_readQ_146 rfl) <| pm_sc (sm_iadd dX1_readQ_147) <| pm_sc (sm_pi dX1_readQ_148 fp_X1_33) <| pm_sc (sm_aload_n dX1_readQ_151 rfl) <| pm_sc (sm_cv dX1_readQ_152 mt_X1_readT mw_564 lv_X1_51) <| pm_sc (sm_aload_n dX1_readQ_155 rfl) <| pm_sc (sm_dup dX1_readQ_156) <| pm_sc (sm_gi dX1_readQ_157 fl_X1_37) <| pm_sc (sm_iconst dX1_readQ_160 rfl) <| pm_sc (sm_isub dX1_readQ_161) <| pm_sc (sm_pi dX1_readQ_162 fp_X1_37) <| pm_sc (sm_aload_n dX1_readQ_165 rfl) <| pm_sc (sm_aload_n dX1_readQ_166 rfl) <| pm_sc (sm_bipush dX1_readQ_167 (by decide)) <| pm_sc (sm_cv dX1_readQ_169 mt_X1_isNext mw_692 lv_X1_61) <| pm_sc (sm_if_ne dX1_readQ_172 rfl) <| pm_sc (sm_iconst dX1_readQ_175 rfl) <| pm_sc (sm_goto dX1_readQ_176 rfl) <| pm_sn
  | 4 => pm_sc (sm_iconst dX1_readQ_179 rfl) <| pm_sc (sm_fall rfl) <| pm_sn
  | 5 => pm_sc (sm_pz dX1_readQ_180 fp_X1_40) <| pm_sc (sm_aload_n dX1_readQ_183 rfl) <| pm_sc (sm_dup dX1_readQ_184) <| pm_sc (sm_gi dX1_readQ_185 fl_X1_33) <| pm_sc (sm_aload_n dX1_readQ_188 rfl) <| pm_sc (sm_gi dX1_readQ_189 fl_X1_40) <| pm_sc (sm_if_eq dX1_readQ_192 rfl) <| pm_sc (sm_iconst dX1_readQ_195 rfl) <| pm_sc (sm_goto dX1_readQ_196 rfl) <| pm_sn
  | 6 => pm_sc (sm_iconst dX1_readQ_199 rfl) <| pm_sc (sm_fall rfl) <| pm_sn
  | 7 => pm_sc (sm_iadd dX1_readQ_200) <| pm_sc (sm_pi dX1_readQ_201 fp_X1_33) <| pm_sc (sm_goto dX1_readQ_204 rfl) <| pm_sn
  | 8 => pm_sc (sm_aload_n dX1_readQ_207 rfl) <| pm_sc (sm_iconst dX1_readQ_208 rfl) <| pm_sc (sm_pz dX1_readQ_209 fp_X1_40) <| pm_sc (sm_fall rfl) <| pm_sn
  | 9 => pm_sc (sm_return (pc' := 0) dX1_readQ_212 rfl) <| pm_sn
  | n + 10 => trivial
theorem ok_X1_readQ (K : pm_K) (l : Launch) (fb : Bool) (hfb : fb = K.2.2.2.2.2) : pm_MOk K l (pm_pg fb) pm_mt n_X1_readQ := ⟨by decide +kernel, by decide, pc_X1_readQ, rfl, sb_X1_readQ K l fb hfb⟩
def pc_X1_readNumber (b : Nat) : Nat := ([0, 4, 48] : List Nat).getD b 0
set_option maxRecDepth 20000 in
theorem sb_X1_readNumber (K : pm_K) (l : Launch) (fb : Bool) (hfb : fb = K.2.2.2.2.2) : ∀ b, pm_SimB K l pm_mt "NeedleLine$Parser" cX1_readNumber 3 ((.none : Option FieldType)) pc_X1_readNumber (pc_X1_readNumber b) (P_X1_readNumber b)
  | 0 => pm_sc (sm_iconst dX1_readNumber_0 rfl) <| pm_sc (sm_istore_n dX1_readNumber_1 rfl) <| pm_sc (sm_iconst dX1_readNumber_2 rfl) <| pm_sc (sm_istore_n dX1_readNumber_3 rfl) <| pm_sc (sm_fall rfl) <| pm_sn
  | 1 => pm_sc (sm_iload_n dX1_readNumber_4 rfl) <| pm_sc (sm_iconst dX1_readNumber_5 rfl) <| pm_sc (sm_icmp_ge dX1_readNumber_6 rfl) <| pm_sc (sm_aload_n dX1_readNumber_9 rfl) <| pm_sc (sm_cv dX1_readNumber_10 mt_X1_next mw_588 lv_X1_75) <| pm_sc (sm_cs dX1_readNumber_13 mt_X1_isDigit mw_593 ls_X1_84) <| pm_sc (sm_if_eq dX1_readNumber_16 rfl) <| pm_sc (sm_bipush dX1_readNumber_19 (by decide)) <| pm_sc (sm_iload_n dX1_readNumber_21 rfl) <| pm_sc (sm_imul dX1_readNumber_22) <| pm_sc (sm_aload_n dX1_readNumber_23 rfl) <| pm_sc (sm_cv dX1_readNumber_24 mt_X1_next mw_588 lv_X1_75) <| pm_sc (sm_iadd dX1_readNumber_27) <| pm_sc (sm_bipush dX1_readNumber_28 (by decide)) <| pm_sc (sm_isub dX1_readNumber_30) <| pm_sc (sm_istore_n dX1_readNumber_31 rfl) <| pm_sc (sm_aload_n dX1_readNumber_32 rfl) <| pm_sc (sm_dup dX1_readNumber_33) <| pm_sc (sm_gi dX1_readNumber_34 fl_X1_33) <| pm_sc (sm_iconst dX1_readNumber_37 rfl) <| pm_sc (sm_iadd dX1_readNumber_38) <| pm_sc (sm_pi dX1_readNumber_39 fp_X1_33) <| pm_sc (sm_iinc dX1_readNumber_42 rfl) <| pm_sc (sm_goto dX1_readNumber_45 rfl) <| pm_sn
  | 2 => pm_sc (sm_aload_n dX1_readNumber_48 rfl) <| pm_sc (sm_gr dX1_readNumber_49 fl_X1_12) <| pm_sc (sm_iload_n dX1_readNumber_52 rfl) <| pm_sc (sm_cv dX1_readNumber_53 mt_X0_add mw_602 lv_X1_65) <| pm_sc (sm_return (pc' := 0) dX1_readNumber_56 rfl) <| pm_sn
  | n + 3 => trivial
theorem ok_X1_readNumber (K : pm_K) (l : Launch) (fb : Bool) (hfb : fb = K.2.2.2.2.2) : pm_MOk K l (pm_pg fb) pm_mt n_X1_readNumber := ⟨by decide +kernel, by decide, pc_X1_readNumber, rfl, sb_X1_readNumber K l fb hfb⟩
def pc_X1_nameOf (b : Nat) : Nat := ([0, 23, 24] : List Nat).getD b 0
set_option maxRecDepth 20000 in
theorem sb_X1_nameOf (K : pm_K) (l : Launch) (fb : Bool) (hfb : fb = K.2.2.2.2.2) : ∀ b, pm_SimB K l pm_mt "NeedleLine$Parser" cX1_nameOf 2 ((.some FieldType.int)) pc_X1_nameOf (pc_X1_nameOf b) (P_X1_nameOf b)
  | 0 => pm_sc (sm_iload_n dX1_nameOf_0 rfl) <| pm_sc (sm_iconst dX1_nameOf_1 rfl) <| pm_sc (sm_sipush dX1_nameOf_2 (by decide)) <| pm_sc (sm_cs dX1_nameOf_5 mt_X8_isIn mw_347 ls_X1_94) <| pm_sc (sm_if_eq dX1_nameOf_8 rfl) <| pm_sc (sm_aload_n dX1_nameOf_11 rfl) <| pm_sc (sm_gs dX1_nameOf_12 fl_X1_29) <| pm_sc (sm_iload_n dX1_nameOf_15 rfl) <| pm_sc (sm_i2c dX1_nameOf_16) <| pm_sc (sm_ct dX1_nameOf_17 mt_J0_indexOf_0f7a4 mw_610 lv_X1_98) <| pm_sc (sm_goto dX1_nameOf_20 rfl) <| pm_sn
  | 1 => pm_sc (sm_iconst dX1_nameOf_23 rfl) <| pm_sc (sm_fall rfl) <| pm_sn
  | 2 => pm_sc (sm_ireturn (pc' := 0) dX1_nameOf_24 rfl) <| pm_sn
  | n + 3 => trivial
theorem ok_X1_nameOf (K : pm_K) (l : Launch) (fb : Bool) (hfb : fb = K.2.2.2.2.2) : pm_MOk K l (pm_pg fb) pm_mt n_X1_nameOf := ⟨by decide +kernel, by decide, pc_X1_nameOf, rfl, sb_X1_nameOf K l fb hfb⟩
def pc_X1_next (b : Nat) : Nat := ([0, 29, 30] : List Nat).getD b 0
set_option maxRecDepth 20000 in
theorem sb_X1_next (K : pm_K) (l : Launch) (fb : Bool) (hfb : fb = K.2.2.2.2.2) : ∀ b, pm_SimB K l pm_mt "NeedleLine$Parser" cX1_next 1 ((.some FieldType.int)) pc_X1_next (pc_X1_next b) (P_X1_next b)
  | 0 => pm_sc (sm_aload_n dX1_next_0 rfl) <| pm_sc (sm_gi dX1_next_1 fl_X1_33) <| pm_sc (sm_aload_n dX1_next_4 rfl) <| pm_sc (sm_gr dX1_next_5 fl_X1_23) <| pm_sc (sm_cv dX1_next_8 mt_X6_used mw_358 lv_X1_54) <| pm_sc (sm_icmp_ge dX1_next_11 rfl) <| pm_sc (sm_aload_n dX1_next_14 rfl) <| pm_sc (sm_gr dX1_next_15 fl_X1_23) <| pm_sc (sm_iconst dX1_next_18 rfl) <| pm_sc (sm_aload_n dX1_next_19 rfl) <| pm_sc (sm_gi dX1_next_20 fl_X1_33) <| pm_sc (sm_cv dX1_next_23 mt_X6_at mw_373 lv_X1_103) <| pm_sc (sm_goto dX1_next_26 rfl) <| pm_sn
  | 1 => pm_sc (sm_iconst dX1_next_29 rfl) <| pm_sc (sm_fall rfl) <| pm_sn
  | 2 => pm_sc (sm_ireturn (pc' := 0) dX1_next_30 rfl) <| pm_sn
  | n + 3 => trivial
theorem ok_X1_next (K : pm_K) (l : Launch) (fb : Bool) (hfb : fb = K.2.2.2.2.2) : pm_MOk K l (pm_pg fb) pm_mt n_X1_next := ⟨by decide +kernel, by decide, pc_X1_next, rfl, sb_X1_next K l fb hfb⟩
def pc_X1_isNext (b : Nat) : Nat := ([0, 19, 20] : List Nat).getD b 0
set_option maxRecDepth 20000 in
theorem sb_X1_isNext (K : pm_K) (l : Launch) (fb : Bool) (hfb : fb = K.2.2.2.2.2) : ∀ b, pm_SimB K l pm_mt "NeedleLine$Parser" cX1_isNext 2 ((.some FieldType.boolean)) pc_X1_isNext (pc_X1_isNext b) (P_X1_isNext b)
  | 0 => pm_sc (sm_aload_n dX1_isNext_0 rfl) <| pm_sc (sm_gi dX1_isNext_1 fl_X1_40) <| pm_sc (sm_if_ne dX1_isNext_4 rfl) <| pm_sc (sm_aload_n dX1_isNext_7 rfl) <| pm_sc (sm_cv dX1_isNext_8 mt_X1_next mw_588 lv_X1_75) <| pm_sc (sm_iload_n dX1_isNext_11 rfl) <| pm_sc (sm_icmp_ne dX1_isNext_12 rfl) <| pm_sc (sm_iconst dX1_isNext_15 rfl) <| pm_sc (sm_goto dX1_isNext_16 rfl) <| pm_sn
  | 1 => pm_sc (sm_iconst dX1_isNext_19 rfl) <| pm_sc (sm_fall rfl) <| pm_sn
  | 2 => pm_sc (sm_zreturn (pc' := 0) dX1_isNext_20 rfl) <| pm_sn
  | n + 3 => trivial
theorem ok_X1_isNext (K : pm_K) (l : Launch) (fb : Bool) (hfb : fb = K.2.2.2.2.2) : pm_MOk K l (pm_pg fb) pm_mt n_X1_isNext := ⟨by decide +kernel, by decide, pc_X1_isNext, rfl, sb_X1_isNext K l fb hfb⟩
def pc_X1_isDigit (b : Nat) : Nat := ([0] : List Nat).getD b 0
set_option maxRecDepth 20000 in
theorem sb_X1_isDigit (K : pm_K) (l : Launch) (fb : Bool) (hfb : fb = K.2.2.2.2.2) : ∀ b, pm_SimB K l pm_mt "NeedleLine$Parser" cX1_isDigit 1 ((.some FieldType.boolean)) pc_X1_isDigit (pc_X1_isDigit b) (P_X1_isDigit b)
  | 0 => pm_sc (sm_iload_n dX1_isDigit_0 rfl) <| pm_sc (sm_bipush dX1_isDigit_1 (by decide)) <| pm_sc (sm_bipush dX1_isDigit_3 (by decide)) <| pm_sc (sm_cs dX1_isDigit_5 mt_X8_isIn mw_347 ls_X1_94) <| pm_sc (sm_zreturn (pc' := 0) dX1_isDigit_8 rfl) <| pm_sn
  | n + 1 => trivial
theorem ok_X1_isDigit (K : pm_K) (l : Launch) (fb : Bool) (hfb : fb = K.2.2.2.2.2) : pm_MOk K l (pm_pg fb) pm_mt n_X1_isDigit := ⟨by decide +kernel, by decide, pc_X1_isDigit, rfl, sb_X1_isDigit K l fb hfb⟩
def pc_X2_isMissing (b : Nat) : Nat := ([0, 11, 12] : List Nat).getD b 0
set_option maxRecDepth 20000 in
theorem sb_X2_isMissing (K : pm_K) (l : Launch) (fb : Bool) (hfb : fb = K.2.2.2.2.2) : ∀ b, pm_SimB K l pm_mt "NeedleLine$Sheet" cX2_isMissing 1 ((.some FieldType.boolean)) pc_X2_isMissing (pc_X2_isMissing b) (P_X2_isMissing b)
  | 0 => pm_sc (sm_aload_n dX2_isMissing_0 rfl) <| pm_sc (sm_gi dX2_isMissing_1 fl_X2_15) <| pm_sc (sm_if_ne dX2_isMissing_4 rfl) <| pm_sc (sm_iconst dX2_isMissing_7 rfl) <| pm_sc (sm_goto dX2_isMissing_8 rfl) <| pm_sn
  | 1 => pm_sc (sm_iconst dX2_isMissing_11 rfl) <| pm_sc (sm_fall rfl) <| pm_sn
  | 2 => pm_sc (sm_zreturn (pc' := 0) dX2_isMissing_12 rfl) <| pm_sn
  | n + 3 => trivial
theorem ok_X2_isMissing (K : pm_K) (l : Launch) (fb : Bool) (hfb : fb = K.2.2.2.2.2) : pm_MOk K l (pm_pg fb) pm_mt n_X2_isMissing := ⟨by decide +kernel, by decide, pc_X2_isMissing, rfl, sb_X2_isMissing K l fb hfb⟩
def pc_X2_lay (b : Nat) : Nat := ([0, 17, 36] : List Nat).getD b 0
set_option maxRecDepth 20000 in
theorem sb_X2_lay (K : pm_K) (l : Launch) (fb : Bool) (hfb : fb = K.2.2.2.2.2) : ∀ b, pm_SimB K l pm_mt "NeedleLine$Sheet" cX2_lay 4 ((.none : Option FieldType)) pc_X2_lay (pc_X2_lay b) (P_X2_lay b)
  | 0 => pm_sc (sm_aload_n dX2_lay_0 rfl) <| pm_sc (sm_iload_n dX2_lay_1 rfl) <| pm_sc (sm_pi dX2_lay_2 fp_X2_15) <| pm_sc (sm_aload_n dX2_lay_5 rfl) <| pm_sc (sm_iload_n dX2_lay_6 rfl) <| pm_sc (sm_bipush dX2_lay_7 (by decide)) <| pm_sc (sm_cs dX2_lay_9 mt_X8_held mw_100 ls_X2_22) <| pm_sc (sm_pi dX2_lay_12 fp_X2_19) <| pm_sc (sm_iconst dX2_lay_15 rfl) <| pm_sc (sm_istore_n dX2_lay_16 rfl) <| pm_sc (sm_fall rfl) <| pm_sn
  | 1 => pm_sc (sm_iload_n dX2_lay_17 rfl) <| pm_sc (sm_bipush dX2_lay_18 (by decide)) <| pm_sc (sm_icmp_ge dX2_lay_20 rfl) <| pm_sc (sm_aload_n dX2_lay_23 rfl) <| pm_sc (sm_gr dX2_lay_24 fl_X2_9) <| pm_sc (sm_iload_n dX2_lay_27 rfl) <| pm_sc (sm_iconst dX2_lay_28 rfl) <| pm_sc (sm_ias dX2_lay_29) <| pm_sc (sm_iinc dX2_lay_30 rfl) <| pm_sc (sm_goto dX2_lay_33 rfl) <| pm_sn
  | 2 => pm_sc (sm_return (pc' := 0) dX2_lay_36 rfl) <| pm_sn
  | n + 3 => trivial
theorem ok_X2_lay (K : pm_K) (l : Launch) (fb : Bool) (hfb : fb = K.2.2.2.2.2) : pm_MOk K l (pm_pg fb) pm_mt n_X2_lay := ⟨by decide +kernel, by decide, pc_X2_lay, rfl, sb_X2_lay K l fb hfb⟩
def pc_X2_stand (b : Nat) : Nat := ([0, 30, 31] : List Nat).getD b 0
set_option maxRecDepth 20000 in
theorem sb_X2_stand (K : pm_K) (l : Launch) (fb : Bool) (hfb : fb = K.2.2.2.2.2) : ∀ b, pm_SimB K l pm_mt "NeedleLine$Sheet" cX2_stand 3 ((.some FieldType.boolean)) pc_X2_stand (pc_X2_stand b) (P_X2_stand b)
  | 0 => pm_sc (sm_iload_n dX2_stand_0 rfl) <| pm_sc (sm_if_lt dX2_stand_1 rfl) <| pm_sc (sm_iload_n dX2_stand_4 rfl) <| pm_sc (sm_if_lt dX2_stand_5 rfl) <| pm_sc (sm_iload_n dX2_stand_8 rfl) <| pm_sc (sm_aload_n dX2_stand_9 rfl) <| pm_sc (sm_gi dX2_stand_10 fl_X2_19) <| pm_sc (sm_icmp_gt dX2_stand_13 rfl) <| pm_sc (sm_iload_n dX2_stand_16 rfl) <| pm_sc (sm_aload_n dX2_stand_17 rfl) <| pm_sc (sm_gi dX2_stand_18 fl_X2_19) <| pm_sc (sm_iload_n dX2_stand_21 rfl) <| pm_sc (sm_isub dX2_stand_22) <| pm_sc (sm_icmp_gt dX2_stand_23 rfl) <| pm_sc (sm_iconst dX2_stand_26 rfl) <| pm_sc (sm_goto dX2_stand_27 rfl) <| pm_sn
  | 1 => pm_sc (sm_iconst dX2_stand_30 rfl) <| pm_sc (sm_fall rfl) <| pm_sn
  | 2 => pm_sc (sm_zreturn (pc' := 0) dX2_stand_31 rfl) <| pm_sn
  | n + 3 => trivial
theorem ok_X2_stand (K : pm_K) (l : Launch) (fb : Bool) (hfb : fb = K.2.2.2.2.2) : pm_MOk K l (pm_pg fb) pm_mt n_X2_stand := ⟨by decide +kernel, by decide, pc_X2_stand, rfl, sb_X2_stand K l fb hfb⟩
def pc_X2_number (b : Nat) : Nat := ([0, 23, 24] : List Nat).getD b 0
set_option maxRecDepth 20000 in
theorem sb_X2_number (K : pm_K) (l : Launch) (fb : Bool) (hfb : fb = K.2.2.2.2.2) : ∀ b, pm_SimB K l pm_mt "NeedleLine$Sheet" cX2_number 2 ((.some FieldType.int)) pc_X2_number (pc_X2_number b) (P_X2_number b)
  | 0 => pm_sc (sm_iload_n dX2_number_0 rfl) <| pm_sc (sm_iconst dX2_number_1 rfl) <| pm_sc (sm_aload_n dX2_number_2 rfl) <| pm_sc (sm_gi dX2_number_3 fl_X2_19) <| pm_sc (sm_iconst dX2_number_6 rfl) <| pm_sc (sm_isub dX2_number_7) <| pm_sc (sm_cs dX2_number_8 mt_X8_isIn mw_347 ls_X2_26) <| pm_sc (sm_if_eq dX2_number_11 rfl) <| pm_sc (sm_aload_n dX2_number_14 rfl) <| pm_sc (sm_gr dX2_number_15 fl_X2_9) <| pm_sc (sm_iload_n dX2_number_18 rfl) <| pm_sc (sm_ia dX2_number_19) <| pm_sc (sm_goto dX2_number_20 rfl) <| pm_sn
  | 1 => pm_sc (sm_iconst dX2_number_23 rfl) <| pm_sc (sm_fall rfl) <| pm_sn
  | 2 => pm_sc (sm_ireturn (pc' := 0) dX2_number_24 rfl) <| pm_sn
  | n + 3 => trivial
theorem ok_X2_number (K : pm_K) (l : Launch) (fb : Bool) (hfb : fb = K.2.2.2.2.2) : pm_MOk K l (pm_pg fb) pm_mt n_X2_number := ⟨by decide +kernel, by decide, pc_X2_number, rfl, sb_X2_number K l fb hfb⟩
def pc_X2_write (b : Nat) : Nat := ([0, 25] : List Nat).getD b 0
set_option maxRecDepth 20000 in
theorem sb_X2_write (K : pm_K) (l : Launch) (fb : Bool) (hfb : fb = K.2.2.2.2.2) : ∀ b, pm_SimB K l pm_mt "NeedleLine$Sheet" cX2_write 3 ((.none : Option FieldType)) pc_X2_write (pc_X2_write b) (P_X2_write b)
  | 0 => pm_sc (sm_iload_n dX2_write_0 rfl) <| pm_sc (sm_iconst dX2_write_1 rfl) <| pm_sc (sm_aload_n dX2_write_2 rfl) <| pm_sc (sm_gi dX2_write_3 fl_X2_19) <| pm_sc (sm_iconst dX2_write_6 rfl) <| pm_sc (sm_isub dX2_write_7) <| pm_sc (sm_cs dX2_write_8 mt_X8_isIn mw_347 ls_X2_26) <| pm_sc (sm_if_eq dX2_write_11 rfl) <| pm_sc (sm_aload_n dX2_write_14 rfl) <| pm_sc (sm_gr dX2_write_15 fl_X2_9) <| pm_sc (sm_iload_n dX2_write_18 rfl) <| pm_sc (sm_aload_n dX2_write_19 rfl) <| pm_sc (sm_iload_n dX2_write_20 rfl) <| pm_sc (sm_cv dX2_write_21 mt_X2_lowest mw_948 lv_X2_30) <| pm_sc (sm_ias dX2_write_24) <| pm_sc (sm_fall rfl) <| pm_sn
  | 1 => pm_sc (sm_return (pc' := 0) dX2_write_25 rfl) <| pm_sn
  | n + 2 => trivial
theorem ok_X2_write (K : pm_K) (l : Launch) (fb : Bool) (hfb : fb = K.2.2.2.2.2) : pm_MOk K l (pm_pg fb) pm_mt n_X2_write := ⟨by decide +kernel, by decide, pc_X2_write, rfl, sb_X2_write K l fb hfb⟩
def pc_X2_lowest (b : Nat) : Nat := ([0, 32, 35, 38] : List Nat).getD b 0
set_option maxRecDepth 20000 in
theorem sb_X2_lowest (K : pm_K) (l : Launch) (fb : Bool) (hfb : fb = K.2.2.2.2.2) : ∀ b, pm_SimB K l pm_mt "NeedleLine$Sheet" cX2_lowest 2 ((.some FieldType.int)) pc_X2_lowest (pc_X2_lowest b) (P_X2_lowest b)
  | 0 => pm_sc (sm_aload_n dX2_lowest_0 rfl) <| pm_sc (sm_gi dX2_lowest_1 fl_X2_15) <| pm_sc (sm_lsw dX2_lowest_4 (by decide +kernel) (by decide +kernel) rfl) <| pm_sn
  | 1 => pm_sc (sm_iload_n dX2_lowest_32 rfl) <| pm_sc (sm_i2b dX2_lowest_33) <| pm_sc (sm_ireturn (pc' := 0) dX2_lowest_34 rfl) <| pm_sn
  | 2 => pm_sc (sm_iload_n dX2_lowest_35 rfl) <| pm_sc (sm_i2s dX2_lowest_36) <| pm_sc (sm_ireturn (pc' := 0) dX2_lowest_37 rfl) <| pm_sn
  | 3 => pm_sc (sm_iload_n dX2_lowest_38 rfl) <| pm_sc (sm_ireturn (pc' := 0) dX2_lowest_39 rfl) <| pm_sn
  | n + 4 => trivial
theorem ok_X2_lowest (K : pm_K) (l : Launch) (fb : Bool) (hfb : fb = K.2.2.2.2.2) : pm_MOk K l (pm_pg fb) pm_mt n_X2_lowest := ⟨by decide +kernel, by decide, pc_X2_lowest, rfl, sb_X2_lowest K l fb hfb⟩
def pc_X2_step (b : Nat) : Nat := ([0] : List Nat).getD b 0
set_option maxRecDepth 20000 in
theorem sb_X2_step (K : pm_K) (l : Launch) (fb : Bool) (hfb : fb = K.2.2.2.2.2) : ∀ b, pm_SimB K l pm_mt "NeedleLine$Sheet" cX2_step 2 ((.some FieldType.int)) pc_X2_step (pc_X2_step b) (P_X2_step b)
  | 0 => pm_sc (sm_aload_n dX2_step_0 rfl) <| pm_sc (sm_iload_n dX2_step_1 rfl) <| pm_sc (sm_cv dX2_step_2 mt_X2_number mw_961 lv_X2_34) <| pm_sc (sm_aload_n dX2_step_5 rfl) <| pm_sc (sm_iload_n dX2_step_6 rfl) <| pm_sc (sm_iconst dX2_step_7 rfl) <| pm_sc (sm_isub dX2_step_8) <| pm_sc (sm_cv dX2_step_9 mt_X2_number mw_961 lv_X2_34) <| pm_sc (sm_isub dX2_step_12) <| pm_sc (sm_ireturn (pc' := 0) dX2_step_13 rfl) <| pm_sn
  | n + 1 => trivial
theorem ok_X2_step (K : pm_K) (l : Launch) (fb : Bool) (hfb : fb = K.2.2.2.2.2) : pm_MOk K l (pm_pg fb) pm_mt n_X2_step := ⟨by decide +kernel, by decide, pc_X2_step, rfl, sb_X2_step K l fb hfb⟩
def pc_X2_isEven (b : Nat) : Nat := ([0, 24, 25] : List Nat).getD b 0
set_option maxRecDepth 20000 in
theorem sb_X2_isEven (K : pm_K) (l : Launch) (fb : Bool) (hfb : fb = K.2.2.2.2.2) : ∀ b, pm_SimB K l pm_mt "NeedleLine$Sheet" cX2_isEven 2 ((.some FieldType.boolean)) pc_X2_isEven (pc_X2_isEven b) (P_X2_isEven b)
  | 0 => pm_sc (sm_iload_n dX2_isEven_0 rfl) <| pm_sc (sm_iconst dX2_isEven_1 rfl) <| pm_sc (sm_icmp_lt dX2_isEven_2 rfl) <| pm_sc (sm_aload_n dX2_isEven_5 rfl) <| pm_sc (sm_iload_n dX2_isEven_6 rfl) <| pm_sc (sm_cv dX2_isEven_7 mt_X2_step mw_977 lv_X2_37) <| pm_sc (sm_aload_n dX2_isEven_10 rfl) <| pm_sc (sm_iload_n dX2_isEven_11 rfl) <| pm_sc (sm_iconst dX2_isEven_12 rfl) <| pm_sc (sm_isub dX2_isEven_13) <| pm_sc (sm_cv dX2_isEven_14 mt_X2_step mw_977 lv_X2_37) <| pm_sc (sm_icmp_ne dX2_isEven_17 rfl) <| pm_sc (sm_iconst dX2_isEven_20 rfl) <| pm_sc (sm_goto dX2_isEven_21 rfl) <| pm_sn
  | 1 => pm_sc (sm_iconst dX2_isEven_24 rfl) <| pm_sc (sm_fall rfl) <| pm_sn
  | 2 => pm_sc (sm_zreturn (pc' := 0) dX2_isEven_25 rfl) <| pm_sn
  | n + 3 => trivial
theorem ok_X2_isEven (K : pm_K) (l : Launch) (fb : Bool) (hfb : fb = K.2.2.2.2.2) : pm_MOk K l (pm_pg fb) pm_mt n_X2_isEven := ⟨by decide +kernel, by decide, pc_X2_isEven, rfl, sb_X2_isEven K l fb hfb⟩
def pc_X2_evenSteps (b : Nat) : Nat := ([0, 4, 25, 26, 34] : List Nat).getD b 0
set_option maxRecDepth 20000 in
theorem sb_X2_evenSteps (K : pm_K) (l : Launch) (fb : Bool) (hfb : fb = K.2.2.2.2.2) : ∀ b, pm_SimB K l pm_mt "NeedleLine$Sheet" cX2_evenSteps 3 ((.some FieldType.int)) pc_X2_evenSteps (pc_X2_evenSteps b) (P_X2_evenSteps b)
  | 0 => pm_sc (sm_iconst dX2_evenSteps_0 rfl) <| pm_sc (sm_istore_n dX2_evenSteps_1 rfl) <| pm_sc (sm_iconst dX2_evenSteps_2 rfl) <| pm_sc (sm_istore_n dX2_evenSteps_3 rfl) <| pm_sc (sm_fall rfl) <| pm_sn
  | 1 => pm_sc (sm_iload_n dX2_evenSteps_4 rfl) <| pm_sc (sm_aload_n dX2_evenSteps_5 rfl) <| pm_sc (sm_gi dX2_evenSteps_6 fl_X2_19) <| pm_sc (sm_icmp_ge dX2_evenSteps_9 rfl) <| pm_sc (sm_iload_n dX2_evenSteps_12 rfl) <| pm_sc (sm_aload_n dX2_evenSteps_13 rfl) <| pm_sc (sm_iload_n dX2_evenSteps_14 rfl) <| pm_sc (sm_cv dX2_evenSteps_15 mt_X2_isEven mw_973 lv_X2_40) <| pm_sc (sm_if_eq dX2_evenSteps_18 rfl) <| pm_sc (sm_iconst dX2_evenSteps_21 rfl) <| pm_sc (sm_goto dX2_evenSteps_22 rfl) <| pm_sn
  | 2 => pm_sc (sm_iconst dX2_evenSteps_25 rfl) <| pm_sc (sm_fall rfl) <| pm_sn
  | 3 => pm_sc (sm_iadd dX2_evenSteps_26) <| pm_sc (sm_istore_n dX2_evenSteps_27 rfl) <| pm_sc (sm_iinc dX2_evenSteps_28 rfl) <| pm_sc (sm_goto dX2_evenSteps_31 rfl) <| pm_sn
  | 4 => pm_sc (sm_iload_n dX2_evenSteps_34 rfl) <| pm_sc (sm_ireturn (pc' := 0) dX2_evenSteps_35 rfl) <| pm_sn
  | n + 5 => trivial
theorem ok_X2_evenSteps (K : pm_K) (l : Launch) (fb : Bool) (hfb : fb = K.2.2.2.2.2) : pm_MOk K l (pm_pg fb) pm_mt n_X2_evenSteps := ⟨by decide +kernel, by decide, pc_X2_evenSteps, rfl, sb_X2_evenSteps K l fb hfb⟩
def pc_X2_longestEvenRow (b : Nat) : Nat := ([0, 6, 28, 29, 42] : List Nat).getD b 0
set_option maxRecDepth 20000 in
theorem sb_X2_longestEvenRow (K : pm_K) (l : Launch) (fb : Bool) (hfb : fb = K.2.2.2.2.2) : ∀ b, pm_SimB K l pm_mt "NeedleLine$Sheet" cX2_longestEvenRow 4 ((.some FieldType.int)) pc_X2_longestEvenRow (pc_X2_longestEvenRow b) (P_X2_longestEvenRow b)
  | 0 => pm_sc (sm_iconst dX2_longestEvenRow_0 rfl) <| pm_sc (sm_istore_n dX2_longestEvenRow_1 rfl) <| pm_sc (sm_iconst dX2_longestEvenRow_2 rfl) <| pm_sc (sm_istore_n dX2_longestEvenRow_3 rfl) <| pm_sc (sm_iconst dX2_longestEvenRow_4 rfl) <| pm_sc (sm_istore_n dX2_longestEvenRow_5 rfl) <| pm_sc (sm_fall rfl) <| pm_sn
  | 1 => pm_sc (sm_iload_n dX2_longestEvenRow_6 rfl) <| pm_sc (sm_aload_n dX2_longestEvenRow_7 rfl) <| pm_sc (sm_gi dX2_longestEvenRow_8 fl_X2_19) <| pm_sc (sm_icmp_ge dX2_longestEvenRow_11 rfl) <| pm_sc (sm_aload_n dX2_longestEvenRow_14 rfl) <| pm_sc (sm_iload_n dX2_longestEvenRow_15 rfl) <| pm_sc (sm_cv dX2_longestEvenRow_16 mt_X2_isEven mw_973 lv_X2_40) <| pm_sc (sm_if_eq dX2_longestEvenRow_19 rfl) <| pm_sc (sm_iload_n dX2_longestEvenRow_22 rfl) <| pm_sc (sm_iconst dX2_longestEvenRow_23 rfl) <| pm_sc (sm_iadd dX2_longestEvenRow_24) <| pm_sc (sm_goto dX2_longestEvenRow_25 rfl) <| pm_sn
  | 2 => pm_sc (sm_iconst dX2_longestEvenRow_28 rfl) <| pm_sc (sm_fall rfl) <| pm_sn
  | 3 => pm_sc (sm_istore_n dX2_longestEvenRow_29 rfl) <| pm_sc (sm_iload_n dX2_longestEvenRow_30 rfl) <| pm_sc (sm_iload_n dX2_longestEvenRow_31 rfl) <| pm_sc (sm_mmax dX2_longestEvenRow_32 mw_983 mw_105 mw_64 mw_106) <| pm_sc (sm_istore_n dX2_longestEvenRow_35 rfl) <| pm_sc (sm_iinc dX2_longestEvenRow_36 rfl) <| pm_sc (sm_goto dX2_longestEvenRow_39 rfl) <| pm_sn
  | 4 => pm_sc (sm_iload_n dX2_longestEvenRow_42 rfl) <| pm_sc (sm_ireturn (pc' := 0) dX2_longestEvenRow_43 rfl) <| pm_sn
  | n + 5 => trivial
theorem ok_X2_longestEvenRow (K : pm_K) (l : Launch) (fb : Bool) (hfb : fb = K.2.2.2.2.2) : pm_MOk K l (pm_pg fb) pm_mt n_X2_longestEvenRow := ⟨by decide +kernel, by decide, pc_X2_longestEvenRow, rfl, sb_X2_longestEvenRow K l fb hfb⟩
def pc_X3_isOf (b : Nat) : Nat := ([0, 10, 33, 42, 43] : List Nat).getD b 0
set_option maxRecDepth 20000 in
theorem sb_X3_isOf (K : pm_K) (l : Launch) (fb : Bool) (hfb : fb = K.2.2.2.2.2) : ∀ b, pm_SimB K l pm_mt "NeedleLine$Slips" cX3_isOf 5 ((.some FieldType.boolean)) pc_X3_isOf (pc_X3_isOf b) (P_X3_isOf b)
  | 0 => pm_sc (sm_aload_n dX3_isOf_0 rfl) <| pm_sc (sm_iconst dX3_isOf_1 rfl) <| pm_sc (sm_iload_n dX3_isOf_2 rfl) <| pm_sc (sm_cv dX3_isOf_3 mt_X6_at mw_373 lv_X3_9) <| pm_sc (sm_istore_n dX3_isOf_6 rfl) <| pm_sc (sm_iconst dX3_isOf_7 rfl) <| pm_sc (sm_istore dX3_isOf_8) <| pm_sc (sm_fall rfl) <| pm_sn
  | 1 => pm_sc (sm_iload dX3_isOf_10) <| pm_sc (sm_bipush dX3_isOf_12 (by decide)) <| pm_sc (sm_icmp_ge dX3_isOf_14 rfl) <| pm_sc (sm_iload_n dX3_isOf_17 rfl) <| pm_sc (sm_iload_n dX3_isOf_18 rfl) <| pm_sc (sm_icmp_eq dX3_isOf_19 rfl) <| pm_sc (sm_iload_n dX3_isOf_22 rfl) <| pm_sc (sm_cs dX3_isOf_23 mt_X3_above mw_518 ls_X3_15) <| pm_sc (sm_istore_n dX3_isOf_26 rfl) <| pm_sc (sm_iinc dX3_isOf_27 rfl) <| pm_sc (sm_goto dX3_isOf_30 rfl) <| pm_sn
  | 2 => pm_sc (sm_iload_n dX3_isOf_33 rfl) <| pm_sc (sm_iload_n dX3_isOf_34 rfl) <| pm_sc (sm_icmp_ne dX3_isOf_35 rfl) <| pm_sc (sm_iconst dX3_isOf_38 rfl) <| pm_sc (sm_goto dX3_isOf_39 rfl) <| pm_sn
  | 3 => pm_sc (sm_iconst dX3_isOf_42 rfl) <| pm_sc (sm_fall rfl) <| pm_sn
  | 4 => pm_sc (sm_zreturn (pc' := 0) dX3_isOf_43 rfl) <| pm_sn
  | n + 5 => trivial
theorem ok_X3_isOf (K : pm_K) (l : Launch) (fb : Bool) (hfb : fb = K.2.2.2.2.2) : pm_MOk K l (pm_pg fb) pm_mt n_X3_isOf := ⟨by decide +kernel, by decide, pc_X3_isOf, rfl, sb_X3_isOf K l fb hfb⟩
def pc_X3_leansAt (b : Nat) : Nat := ([0, 36, 46, 56, 69, 70] : List Nat).getD b 0
set_option maxRecDepth 20000 in
theorem sb_X3_leansAt (K : pm_K) (l : Launch) (fb : Bool) (hfb : fb = K.2.2.2.2.2) : ∀ b, pm_SimB K l pm_mt "NeedleLine$Slips" cX3_leansAt 4 ((.some FieldType.int)) pc_X3_leansAt (pc_X3_leansAt b) (P_X3_leansAt b)
  | 0 => pm_sc (sm_iconst dX3_leansAt_0 rfl) <| pm_sc (sm_istore_n dX3_leansAt_1 rfl) <| pm_sc (sm_aload_n dX3_leansAt_2 rfl) <| pm_sc (sm_iconst dX3_leansAt_3 rfl) <| pm_sc (sm_iload_n dX3_leansAt_4 rfl) <| pm_sc (sm_cv dX3_leansAt_5 mt_X6_at mw_373 lv_X3_9) <| pm_sc (sm_lsw dX3_leansAt_8 (by decide +kernel) (by decide +kernel) rfl) <| pm_sn
  | 1 => pm_sc (sm_aload_n dX3_leansAt_36 rfl) <| pm_sc (sm_iload_n dX3_leansAt_37 rfl) <| pm_sc (sm_iload_n dX3_leansAt_38 rfl) <| pm_sc (sm_cv dX3_leansAt_39 mt_X3_isFirst mw_422 lv_X3_19) <| pm_sc (sm_istore_n dX3_leansAt_42 rfl) <| pm_sc (sm_goto dX3_leansAt_43 rfl) <| pm_sn
  | 2 => pm_sc (sm_aload_n dX3_leansAt_46 rfl) <| pm_sc (sm_iload_n dX3_leansAt_47 rfl) <| pm_sc (sm_iload_n dX3_leansAt_48 rfl) <| pm_sc (sm_cv dX3_leansAt_49 mt_X3_spans mw_426 lv_X3_23) <| pm_sc (sm_istore_n dX3_leansAt_52 rfl) <| pm_sc (sm_goto dX3_leansAt_53 rfl) <| pm_sn
  | 3 => pm_sc (sm_iload_n dX3_leansAt_56 rfl) <| pm_sc (sm_if_eq dX3_leansAt_57 rfl) <| pm_sc (sm_aload_n dX3_leansAt_60 rfl) <| pm_sc (sm_iconst dX3_leansAt_61 rfl) <| pm_sc (sm_iload_n dX3_leansAt_62 rfl) <| pm_sc (sm_cv dX3_leansAt_63 mt_X6_at mw_373 lv_X3_9) <| pm_sc (sm_goto dX3_leansAt_66 rfl) <| pm_sn
  | 4 => pm_sc (sm_iconst dX3_leansAt_69 rfl) <| pm_sc (sm_fall rfl) <| pm_sn
  | 5 => pm_sc (sm_ireturn (pc' := 0) dX3_leansAt_70 rfl) <| pm_sn
  | n + 6 => trivial
theorem ok_X3_leansAt (K : pm_K) (l : Launch) (fb : Bool) (hfb : fb = K.2.2.2.2.2) : pm_MOk K l (pm_pg fb) pm_mt n_X3_leansAt := ⟨by decide +kernel, by decide, pc_X3_leansAt, rfl, sb_X3_leansAt K l fb hfb⟩
def pc_X3_pushesAt (b : Nat) : Nat := ([0, 13, 15, 48, 55, 64] : List Nat).getD b 0
set_option maxRecDepth 20000 in
theorem sb_X3_pushesAt (K : pm_K) (l : Launch) (fb : Bool) (hfb : fb = K.2.2.2.2.2) : ∀ b, pm_SimB K l pm_mt "NeedleLine$Slips" cX3_pushesAt 4 ((.some FieldType.int)) pc_X3_pushesAt (pc_X3_pushesAt b) (P_X3_pushesAt b)
  | 0 => pm_sc (sm_iload_n dX3_pushesAt_0 rfl) <| pm_sc (sm_if_le dX3_pushesAt_1 rfl) <| pm_sc (sm_aload_n dX3_pushesAt_4 rfl) <| pm_sc (sm_iload_n dX3_pushesAt_5 rfl) <| pm_sc (sm_iload_n dX3_pushesAt_6 rfl) <| pm_sc (sm_cv dX3_pushesAt_7 mt_X3_spans mw_426 lv_X3_23) <| pm_sc (sm_if_ne dX3_pushesAt_10 rfl) <| pm_sc (sm_fall rfl) <| pm_sn
  | 1 => pm_sc (sm_iconst dX3_pushesAt_13 rfl) <| pm_sc (sm_ireturn (pc' := 0) dX3_pushesAt_14 rfl) <| pm_sn
  | 2 => pm_sc (sm_aload_n dX3_pushesAt_15 rfl) <| pm_sc (sm_iconst dX3_pushesAt_16 rfl) <| pm_sc (sm_iload_n dX3_pushesAt_17 rfl) <| pm_sc (sm_cv dX3_pushesAt_18 mt_X6_at mw_373 lv_X3_9) <| pm_sc (sm_lsw dX3_pushesAt_21 (by decide +kernel) (by decide +kernel) rfl) <| pm_sn
  | 3 => pm_sc (sm_aload_n dX3_pushesAt_48 rfl) <| pm_sc (sm_iconst dX3_pushesAt_49 rfl) <| pm_sc (sm_iload_n dX3_pushesAt_50 rfl) <| pm_sc (sm_cv dX3_pushesAt_51 mt_X6_at mw_373 lv_X3_9) <| pm_sc (sm_ireturn (pc' := 0) dX3_pushesAt_54 rfl) <| pm_sn
  | 4 => pm_sc (sm_aload_n dX3_pushesAt_55 rfl) <| pm_sc (sm_iconst dX3_pushesAt_56 rfl) <| pm_sc (sm_iload_n dX3_pushesAt_57 rfl) <| pm_sc (sm_cv dX3_pushesAt_58 mt_X6_at mw_373 lv_X3_9) <| pm_sc (sm_iconst dX3_pushesAt_61 rfl) <| pm_sc (sm_idiv dX3_pushesAt_62) <| pm_sc (sm_ireturn (pc' := 0) dX3_pushesAt_63 rfl) <| pm_sn
  | 5 => pm_sc (sm_iconst dX3_pushesAt_64 rfl) <| pm_sc (sm_ireturn (pc' := 0) dX3_pushesAt_65 rfl) <| pm_sn
  | n + 6 => trivial
theorem ok_X3_pushesAt (K : pm_K) (l : Launch) (fb : Bool) (hfb : fb = K.2.2.2.2.2) : pm_MOk K l (pm_pg fb) pm_mt n_X3_pushesAt := ⟨by decide +kernel, by decide, pc_X3_pushesAt, rfl, sb_X3_pushesAt K l fb hfb⟩
def pc_X3_shortensAt (b : Nat) : Nat := ([0, 11, 60, 67, 87, 88, 90, 95] : List Nat).getD b 0
set_option maxRecDepth 20000 in
theorem sb_X3_shortensAt (K : pm_K) (l : Launch) (fb : Bool) (hfb : fb = K.2.2.2.2.2) : ∀ b, pm_SimB K l pm_mt "NeedleLine$Slips" cX3_shortensAt 5 ((.some FieldType.int)) pc_X3_shortensAt (pc_X3_shortensAt b) (P_X3_shortensAt b)
  | 0 => pm_sc (sm_aload_n dX3_shortensAt_0 rfl) <| pm_sc (sm_iload_n dX3_shortensAt_1 rfl) <| pm_sc (sm_iload_n dX3_shortensAt_2 rfl) <| pm_sc (sm_cv dX3_shortensAt_3 mt_X3_spans mw_426 lv_X3_23) <| pm_sc (sm_if_ne dX3_shortensAt_6 rfl) <| pm_sc (sm_iconst dX3_shortensAt_9 rfl) <| pm_sc (sm_ireturn (pc' := 0) dX3_shortensAt_10 rfl) <| pm_sn
  | 1 => pm_sc (sm_aload_n dX3_shortensAt_11 rfl) <| pm_sc (sm_iconst dX3_shortensAt_12 rfl) <| pm_sc (sm_iload_n dX3_shortensAt_13 rfl) <| pm_sc (sm_cv dX3_shortensAt_14 mt_X6_at mw_373 lv_X3_9) <| pm_sc (sm_istore dX3_shortensAt_17) <| pm_sc (sm_aload_n dX3_shortensAt_19 rfl) <| pm_sc (sm_iconst dX3_shortensAt_20 rfl) <| pm_sc (sm_iload_n dX3_shortensAt_21 rfl) <| pm_sc (sm_cv dX3_shortensAt_22 mt_X6_at mw_373 lv_X3_9) <| pm_sc (sm_tsw dX3_shortensAt_25 (by decide +kernel) (by decide) rfl) <| pm_sn
  | 2 => pm_sc (sm_iload dX3_shortensAt_60) <| pm_sc (sm_iload_n dX3_shortensAt_62 rfl) <| pm_sc (sm_iconst dX3_shortensAt_63 rfl) <| pm_sc (sm_iadd dX3_shortensAt_64) <| pm_sc (sm_imul dX3_shortensAt_65) <| pm_sc (sm_ireturn (pc' := 0) dX3_shortensAt_66 rfl) <| pm_sn
  | 3 => pm_sc (sm_iload dX3_shortensAt_67) <| pm_sc (sm_iload_n dX3_shortensAt_69 rfl) <| pm_sc (sm_iconst dX3_shortensAt_70 rfl) <| pm_sc (sm_iadd dX3_shortensAt_71) <| pm_sc (sm_imul dX3_shortensAt_72) <| pm_sc (sm_aload_n dX3_shortensAt_73 rfl) <| pm_sc (sm_iload_n dX3_shortensAt_74 rfl) <| pm_sc (sm_iload_n dX3_shortensAt_75 rfl) <| pm_sc (sm_cv dX3_shortensAt_76 mt_X3_isFirst mw_422 lv_X3_19) <| pm_sc (sm_if_eq dX3_shortensAt_79 rfl) <| pm_sc (sm_bipush dX3_shortensAt_82 (by decide)) <| pm_sc (sm_goto dX3_shortensAt_84 rfl) <| pm_sn
  | 4 => pm_sc (sm_iconst dX3_shortensAt_87 rfl) <| pm_sc (sm_fall rfl) <| pm_sn
  | 5 => pm_sc (sm_iadd dX3_shortensAt_88) <| pm_sc (sm_ireturn (pc' := 0) dX3_shortensAt_89 rfl) <| pm_sn
  | 6 => pm_sc (sm_iconst dX3_shortensAt_90 rfl) <| pm_sc (sm_iload dX3_shortensAt_91) <| pm_sc (sm_imul dX3_shortensAt_93) <| pm_sc (sm_ireturn (pc' := 0) dX3_shortensAt_94 rfl) <| pm_sn
  | 7 => pm_sc (sm_iconst dX3_shortensAt_95 rfl) <| pm_sc (sm_ireturn (pc' := 0) dX3_shortensAt_96 rfl) <| pm_sn
  | n + 8 => trivial
theorem ok_X3_shortensAt (K : pm_K) (l : Launch) (fb : Bool) (hfb : fb = K.2.2.2.2.2) : pm_MOk K l (pm_pg fb) pm_mt n_X3_shortensAt := ⟨by decide +kernel, by decide, pc_X3_shortensAt, rfl, sb_X3_shortensAt K l fb hfb⟩
def pc_X3_isFirst (b : Nat) : Nat := ([0, 14, 15] : List Nat).getD b 0
set_option maxRecDepth 20000 in
theorem sb_X3_isFirst (K : pm_K) (l : Launch) (fb : Bool) (hfb : fb = K.2.2.2.2.2) : ∀ b, pm_SimB K l pm_mt "NeedleLine$Slips" cX3_isFirst 3 ((.some FieldType.boolean)) pc_X3_isFirst (pc_X3_isFirst b) (P_X3_isFirst b)
  | 0 => pm_sc (sm_iload_n dX3_isFirst_0 rfl) <| pm_sc (sm_aload_n dX3_isFirst_1 rfl) <| pm_sc (sm_iconst dX3_isFirst_2 rfl) <| pm_sc (sm_iload_n dX3_isFirst_3 rfl) <| pm_sc (sm_cv dX3_isFirst_4 mt_X6_at mw_373 lv_X3_9) <| pm_sc (sm_icmp_ne dX3_isFirst_7 rfl) <| pm_sc (sm_iconst dX3_isFirst_10 rfl) <| pm_sc (sm_goto dX3_isFirst_11 rfl) <| pm_sn
  | 1 => pm_sc (sm_iconst dX3_isFirst_14 rfl) <| pm_sc (sm_fall rfl) <| pm_sn
  | 2 => pm_sc (sm_zreturn (pc' := 0) dX3_isFirst_15 rfl) <| pm_sn
  | n + 3 => trivial
theorem ok_X3_isFirst (K : pm_K) (l : Launch) (fb : Bool) (hfb : fb = K.2.2.2.2.2) : pm_MOk K l (pm_pg fb) pm_mt n_X3_isFirst := ⟨by decide +kernel, by decide, pc_X3_isFirst, rfl, sb_X3_isFirst K l fb hfb⟩
def pc_X3_spans (b : Nat) : Nat := ([0] : List Nat).getD b 0
set_option maxRecDepth 20000 in
theorem sb_X3_spans (K : pm_K) (l : Launch) (fb : Bool) (hfb : fb = K.2.2.2.2.2) : ∀ b, pm_SimB K l pm_mt "NeedleLine$Slips" cX3_spans 3 ((.some FieldType.boolean)) pc_X3_spans (pc_X3_spans b) (P_X3_spans b)
  | 0 => pm_sc (sm_iload_n dX3_spans_0 rfl) <| pm_sc (sm_aload_n dX3_spans_1 rfl) <| pm_sc (sm_iconst dX3_spans_2 rfl) <| pm_sc (sm_iload_n dX3_spans_3 rfl) <| pm_sc (sm_cv dX3_spans_4 mt_X6_at mw_373 lv_X3_9) <| pm_sc (sm_aload_n dX3_spans_7 rfl) <| pm_sc (sm_iconst dX3_spans_8 rfl) <| pm_sc (sm_iload_n dX3_spans_9 rfl) <| pm_sc (sm_cv dX3_spans_10 mt_X6_at mw_373 lv_X3_9) <| pm_sc (sm_cs dX3_spans_13 mt_X8_isIn mw_347 ls_X3_26) <| pm_sc (sm_zreturn (pc' := 0) dX3_spans_16 rfl) <| pm_sn
  | n + 1 => trivial
theorem ok_X3_spans (K : pm_K) (l : Launch) (fb : Bool) (hfb : fb = K.2.2.2.2.2) : pm_MOk K l (pm_pg fb) pm_mt n_X3_spans := ⟨by decide +kernel, by decide, pc_X3_spans, rfl, sb_X3_spans K l fb hfb⟩
def pc_X3_above (b : Nat) : Nat := ([0, 18, 19] : List Nat).getD b 0
set_option maxRecDepth 20000 in
theorem sb_X3_above (K : pm_K) (l : Launch) (fb : Bool) (hfb : fb = K.2.2.2.2.2) : ∀ b, pm_SimB K l pm_mt "NeedleLine$Slips" cX3_above 1 ((.some FieldType.int)) pc_X3_above (pc_X3_above b) (P_X3_above b)
  | 0 => pm_sc (sm_iload_n dX3_above_0 rfl) <| pm_sc (sm_iconst dX3_above_1 rfl) <| pm_sc (sm_bipush dX3_above_2 (by decide)) <| pm_sc (sm_cs dX3_above_4 mt_X8_isIn mw_347 ls_X3_26) <| pm_sc (sm_if_eq dX3_above_7 rfl) <| pm_sc (sm_st dX3_above_10 (j := 2) rfl (Or.inr ⟨_, nw_519⟩)) <| pm_sc (sm_iload_n dX3_above_13 rfl) <| pm_sc (sm_is dX3_above_14) <| pm_sc (sm_goto dX3_above_15 rfl) <| pm_sn
  | 1 => pm_sc (sm_iconst dX3_above_18 rfl) <| pm_sc (sm_fall rfl) <| pm_sn
  | 2 => pm_sc (sm_ireturn (pc' := 0) dX3_above_19 rfl) <| pm_sn
  | n + 3 => trivial
theorem ok_X3_above (K : pm_K) (l : Launch) (fb : Bool) (hfb : fb = K.2.2.2.2.2) : pm_MOk K l (pm_pg fb) pm_mt n_X3_above := ⟨by decide +kernel, by decide, pc_X3_above, rfl, sb_X3_above K l fb hfb⟩
def pc_X4_speak (b : Nat) : Nat := ([0] : List Nat).getD b 0
set_option maxRecDepth 20000 in
theorem sb_X4_speak (K : pm_K) (l : Launch) (fb : Bool) (hfb : fb = K.2.2.2.2.2) : ∀ b, pm_SimB K l pm_mt "NeedleLine$Speaker" cX4_speak 5 ((.some FieldType.int)) pc_X4_speak (pc_X4_speak b) (P_X4_speak b)
  | 0 => pm_sc (sm_aload_n dX4_speak_0 rfl) <| pm_sc (sm_aload_n dX4_speak_1 rfl) <| pm_sc (sm_iconst dX4_speak_2 rfl) <| pm_sc (sm_iload_n dX4_speak_3 rfl) <| pm_sc (sm_cv dX4_speak_4 mt_X6_at mw_373 lv_X4_34) <| pm_sc (sm_pi dX4_speak_7 fp_X4_20) <| pm_sc (sm_aload_n dX4_speak_10 rfl) <| pm_sc (sm_iload_n dX4_speak_11 rfl) <| pm_sc (sm_pi dX4_speak_12 fp_X4_24) <| pm_sc (sm_aload_n dX4_speak_15 rfl) <| pm_sc (sm_aload_n dX4_speak_16 rfl) <| pm_sc (sm_iconst dX4_speak_17 rfl) <| pm_sc (sm_iload_n dX4_speak_18 rfl) <| pm_sc (sm_cv dX4_speak_19 mt_X6_at mw_373 lv_X4_34) <| pm_sc (sm_pi dX4_speak_22 fp_X4_27) <| pm_sc (sm_aload_n dX4_speak_25 rfl) <| pm_sc (sm_iconst dX4_speak_26 rfl) <| pm_sc (sm_pz dX4_speak_27 fp_X4_30) <| pm_sc (sm_aload_n dX4_speak_30 rfl) <| pm_sc (sm_gr dX4_speak_31 fl_X4_14) <| pm_sc (sm_iconst dX4_speak_34 rfl) <| pm_sc (sm_cv dX4_speak_35 mt_X6_use mw_150 lv_X4_40) <| pm_sc (sm_aload_n dX4_speak_38 rfl) <| pm_sc (sm_iload_n dX4_speak_39 rfl) <| pm_sc (sm_aload_n dX4_speak_40 rfl) <| pm_sc (sm_gi dX4_speak_41 fl_X4_20) <| pm_sc (sm_iload dX4_speak_44) <| pm_sc (sm_iconst dX4_speak_46 rfl) <| pm_sc (sm_cv dX4_speak_47 mt_X4_sound mw_889 lv_X4_44) <| pm_sc (sm_ireturn (pc' := 0) dX4_speak_50 rfl) <| pm_sn
  | n + 1 => trivial
theorem ok_X4_speak (K : pm_K) (l : Launch) (fb : Bool) (hfb : fb = K.2.2.2.2.2) : pm_MOk K l (pm_pg fb) pm_mt n_X4_speak := ⟨by decide +kernel, by decide, pc_X4_speak, rfl, sb_X4_speak K l fb hfb⟩
def pc_X4_isParted (b : Nat) : Nat := ([0] : List Nat).getD b 0
set_option maxRecDepth 20000 in
theorem sb_X4_isParted (K : pm_K) (l : Launch) (fb : Bool) (hfb : fb = K.2.2.2.2.2) : ∀ b, pm_SimB K l pm_mt "NeedleLine$Speaker" cX4_isParted 1 ((.some FieldType.boolean)) pc_X4_isParted (pc_X4_isParted b) (P_X4_isParted b)
  | 0 => pm_sc (sm_aload_n dX4_isParted_0 rfl) <| pm_sc (sm_gi dX4_isParted_1 fl_X4_30) <| pm_sc (sm_zreturn (pc' := 0) dX4_isParted_4 rfl) <| pm_sn
  | n + 1 => trivial
theorem ok_X4_isParted (K : pm_K) (l : Launch) (fb : Bool) (hfb : fb = K.2.2.2.2.2) : pm_MOk K l (pm_pg fb) pm_mt n_X4_isParted := ⟨by decide +kernel, by decide, pc_X4_isParted, rfl, sb_X4_isParted K l fb hfb⟩
def pc_X4_sound (b : Nat) : Nat := ([0, 6, 35, 49, 51, 75] : List Nat).getD b 0
set_option maxRecDepth 20000 in
theorem sb_X4_sound (K : pm_K) (l : Launch) (fb : Bool) (hfb : fb = K.2.2.2.2.2) : ∀ b, pm_SimB K l pm_mt "NeedleLine$Speaker" cX4_sound 7 ((.some FieldType.int)) pc_X4_sound (pc_X4_sound b) (P_X4_sound b)
  | 0 => pm_sc (sm_iload_n dX4_sound_0 rfl) <| pm_sc (sm_istore dX4_sound_1) <| pm_sc (sm_iconst dX4_sound_3 rfl) <| pm_sc (sm_istore dX4_sound_4) <| pm_sc (sm_fall rfl) <| pm_sn
  | 1 => pm_sc (sm_iload dX4_sound_6) <| pm_sc (sm_bipush dX4_sound_8 (by decide)) <| pm_sc (sm_icmp_ge dX4_sound_10 rfl) <| pm_sc (sm_iload dX4_sound_13) <| pm_sc (sm_iload_n dX4_sound_15 rfl) <| pm_sc (sm_cs dX4_sound_16 mt_X4_bodyOf mw_892 ls_X4_48) <| pm_sc (sm_if_ne dX4_sound_19 rfl) <| pm_sc (sm_iload dX4_sound_22) <| pm_sc (sm_cs dX4_sound_24 mt_X3_above mw_518 ls_X4_51) <| pm_sc (sm_istore dX4_sound_27) <| pm_sc (sm_iinc dX4_sound_29 rfl) <| pm_sc (sm_goto dX4_sound_32 rfl) <| pm_sn
  | 2 => pm_sc (sm_aload_n dX4_sound_35 rfl) <| pm_sc (sm_gi dX4_sound_36 fl_X4_30) <| pm_sc (sm_if_ne dX4_sound_39 rfl) <| pm_sc (sm_iload dX4_sound_42) <| pm_sc (sm_bipush dX4_sound_44 (by decide)) <| pm_sc (sm_icmp_lt dX4_sound_46 rfl) <| pm_sc (sm_fall rfl) <| pm_sn
  | 3 => pm_sc (sm_iconst dX4_sound_49 rfl) <| pm_sc (sm_ireturn (pc' := 0) dX4_sound_50 rfl) <| pm_sn
  | 4 => pm_sc (sm_aload_n dX4_sound_51 rfl) <| pm_sc (sm_gr dX4_sound_52 fl_X4_14) <| pm_sc (sm_cv dX4_sound_55 mt_X6_isFull mw_486 lv_X4_55) <| pm_sc (sm_if_ne dX4_sound_58 rfl) <| pm_sc (sm_aload_n dX4_sound_61 rfl) <| pm_sc (sm_gr dX4_sound_62 fl_X4_14) <| pm_sc (sm_iload dX4_sound_65) <| pm_sc (sm_iload_n dX4_sound_67 rfl) <| pm_sc (sm_cs dX4_sound_68 mt_X4_bodyOf mw_892 ls_X4_48) <| pm_sc (sm_cv dX4_sound_71 mt_X6_add mw_492 lv_X4_59) <| pm_sc (sm_pop dX4_sound_74) <| pm_sc (sm_fall rfl) <| pm_sn
  | 5 => pm_sc (sm_aload_n dX4_sound_75 rfl) <| pm_sc (sm_iload dX4_sound_76) <| pm_sc (sm_iload_n dX4_sound_78 rfl) <| pm_sc (sm_cs dX4_sound_79 mt_X4_bodyOf mw_892 ls_X4_48) <| pm_sc (sm_iload dX4_sound_82) <| pm_sc (sm_cs dX4_sound_84 mt_X3_above mw_518 ls_X4_51) <| pm_sc (sm_iload_n dX4_sound_87 rfl) <| pm_sc (sm_iload dX4_sound_88) <| pm_sc (sm_iconst dX4_sound_90 rfl) <| pm_sc (sm_iadd dX4_sound_91) <| pm_sc (sm_cv dX4_sound_92 mt_X4_workedOut mw_902 lv_X4_62) <| pm_sc (sm_ireturn (pc' := 0) dX4_sound_95 rfl) <| pm_sn
  | n + 6 => trivial
theorem ok_X4_sound (K : pm_K) (l : Launch) (fb : Bool) (hfb : fb = K.2.2.2.2.2) : pm_MOk K l (pm_pg fb) pm_mt n_X4_sound := ⟨by decide +kernel, by decide, pc_X4_sound, rfl, sb_X4_sound K l fb hfb⟩
def pc_X4_workedOut (b : Nat) : Nat := ([0, 116, 123, 138, 156, 162, 174, 197, 209, 221, 236, 248, 271, 286, 298] : List Nat).getD b 0
set_option maxRecDepth 20000 in
theorem sb_X4_workedOut (K : pm_K) (l : Launch) (fb : Bool) (hfb : fb = K.2.2.2.2.2) : ∀ b, pm_SimB K l pm_mt "NeedleLine$Speaker" cX4_workedOut 5 ((.some FieldType.int)) pc_X4_workedOut (pc_X4_workedOut b) (P_X4_workedOut b)
  | 0 => pm_sc (sm_iload_n dX4_workedOut_0 rfl) <| pm_sc (sm_lsw dX4_workedOut_1 (by decide +kernel) (by decide +kernel) rfl) <| pm_sn
  | 1 => pm_sc (sm_iload_n dX4_workedOut_116 rfl) <| pm_sc (sm_aload_n dX4_workedOut_117 rfl) <| pm_sc (sm_gi dX4_workedOut_118 fl_X4_24) <| pm_sc (sm_iadd dX4_workedOut_121) <| pm_sc (sm_ireturn (pc' := 0) dX4_workedOut_122 rfl) <| pm_sn
  | 2 => pm_sc (sm_aload_n dX4_workedOut_123 rfl) <| pm_sc (sm_iconst dX4_workedOut_124 rfl) <| pm_sc (sm_aload_n dX4_workedOut_125 rfl) <| pm_sc (sm_gi dX4_workedOut_126 fl_X4_20) <| pm_sc (sm_iload_n dX4_workedOut_129 rfl) <| pm_sc (sm_iload dX4_workedOut_130) <| pm_sc (sm_cv dX4_workedOut_132 mt_X4_sound mw_889 lv_X4_44) <| pm_sc (sm_iconst dX4_workedOut_135 rfl) <| pm_sc (sm_imul dX4_workedOut_136) <| pm_sc (sm_ireturn (pc' := 0) dX4_workedOut_137 rfl) <| pm_sn
  | 3 => pm_sc (sm_aload_n dX4_workedOut_138 rfl) <| pm_sc (sm_iconst dX4_workedOut_139 rfl) <| pm_sc (sm_aload_n dX4_workedOut_140 rfl) <| pm_sc (sm_gi dX4_workedOut_141 fl_X4_20) <| pm_sc (sm_iload_n dX4_workedOut_144 rfl) <| pm_sc (sm_iload dX4_workedOut_145) <| pm_sc (sm_cv dX4_workedOut_147 mt_X4_sound mw_889 lv_X4_44) <| pm_sc (sm_aload_n dX4_workedOut_150 rfl) <| pm_sc (sm_gi dX4_workedOut_151 fl_X4_27) <| pm_sc (sm_isub dX4_workedOut_154) <| pm_sc (sm_ireturn (pc' := 0) dX4_workedOut_155 rfl) <| pm_sn
  | 4 => pm_sc (sm_aload_n dX4_workedOut_156 rfl) <| pm_sc (sm_iload_n dX4_workedOut_157 rfl) <| pm_sc (sm_cv dX4_workedOut_158 mt_X4_mended mw_906 lv_X4_65) <| pm_sc (sm_ireturn (pc' := 0) dX4_workedOut_161 rfl) <| pm_sn
  | 5 => pm_sc (sm_aload_n dX4_workedOut_162 rfl) <| pm_sc (sm_iconst dX4_workedOut_163 rfl) <| pm_sc (sm_iload_n dX4_workedOut_164 rfl) <| pm_sc (sm_iload_n dX4_workedOut_165 rfl) <| pm_sc (sm_iload dX4_workedOut_166) <| pm_sc (sm_cv dX4_workedOut_168 mt_X4_sound mw_889 lv_X4_44) <| pm_sc (sm_iconst dX4_workedOut_171 rfl) <| pm_sc (sm_isub dX4_workedOut_172) <| pm_sc (sm_ireturn (pc' := 0) dX4_workedOut_173 rfl) <| pm_sn
  | 6 => pm_sc (sm_aload_n dX4_workedOut_174 rfl) <| pm_sc (sm_iconst dX4_workedOut_175 rfl) <| pm_sc (sm_iload_n dX4_workedOut_176 rfl) <| pm_sc (sm_iload_n dX4_workedOut_177 rfl) <| pm_sc (sm_iload dX4_workedOut_178) <| pm_sc (sm_cv dX4_workedOut_180 mt_X4_sound mw_889 lv_X4_44) <| pm_sc (sm_aload_n dX4_workedOut_183 rfl) <| pm_sc (sm_iconst dX4_workedOut_184 rfl) <| pm_sc (sm_aload_n dX4_workedOut_185 rfl) <| pm_sc (sm_gi dX4_workedOut_186 fl_X4_20) <| pm_sc (sm_iconst dX4_workedOut_189 rfl) <| pm_sc (sm_iload dX4_workedOut_190) <| pm_sc (sm_cv dX4_workedOut_192 mt_X4_sound mw_889 lv_X4_44) <| pm_sc (sm_iadd dX4_workedOut_195) <| pm_sc (sm_ireturn (pc' := 0) dX4_workedOut_196 rfl) <| pm_sn
  | 7 => pm_sc (sm_iconst dX4_workedOut_197 rfl) <| pm_sc (sm_aload_n dX4_workedOut_198 rfl) <| pm_sc (sm_iconst dX4_workedOut_199 rfl) <| pm_sc (sm_iload_n dX4_workedOut_200 rfl) <| pm_sc (sm_iload_n dX4_workedOut_201 rfl) <| pm_sc (sm_iload dX4_workedOut_202) <| pm_sc (sm_cv dX4_workedOut_204 mt_X4_sound mw_889 lv_X4_44) <| pm_sc (sm_isub dX4_workedOut_207) <| pm_sc (sm_ireturn (pc' := 0) dX4_workedOut_208 rfl) <| pm_sn
  | 8 => pm_sc (sm_aload_n dX4_workedOut_209 rfl) <| pm_sc (sm_iconst dX4_workedOut_210 rfl) <| pm_sc (sm_iload_n dX4_workedOut_211 rfl) <| pm_sc (sm_iload_n dX4_workedOut_212 rfl) <| pm_sc (sm_iconst dX4_workedOut_213 rfl) <| pm_sc (sm_idiv dX4_workedOut_214) <| pm_sc (sm_iload dX4_workedOut_215) <| pm_sc (sm_cv dX4_workedOut_217 mt_X4_sound mw_889 lv_X4_44) <| pm_sc (sm_ireturn (pc' := 0) dX4_workedOut_220 rfl) <| pm_sn
  | 9 => pm_sc (sm_aload_n dX4_workedOut_221 rfl) <| pm_sc (sm_iconst dX4_workedOut_222 rfl) <| pm_sc (sm_iload_n dX4_workedOut_223 rfl) <| pm_sc (sm_iload_n dX4_workedOut_224 rfl) <| pm_sc (sm_iload dX4_workedOut_225) <| pm_sc (sm_cv dX4_workedOut_227 mt_X4_sound mw_889 lv_X4_44) <| pm_sc (sm_aload_n dX4_workedOut_230 rfl) <| pm_sc (sm_gi dX4_workedOut_231 fl_X4_24) <| pm_sc (sm_iadd dX4_workedOut_234) <| pm_sc (sm_ireturn (pc' := 0) dX4_workedOut_235 rfl) <| pm_sn
  | 10 => pm_sc (sm_aload_n dX4_workedOut_236 rfl) <| pm_sc (sm_iconst dX4_workedOut_237 rfl) <| pm_sc (sm_iload_n dX4_workedOut_238 rfl) <| pm_sc (sm_iload_n dX4_workedOut_239 rfl) <| pm_sc (sm_iload dX4_workedOut_240) <| pm_sc (sm_cv dX4_workedOut_242 mt_X4_sound mw_889 lv_X4_44) <| pm_sc (sm_iconst dX4_workedOut_245 rfl) <| pm_sc (sm_imul dX4_workedOut_246) <| pm_sc (sm_ireturn (pc' := 0) dX4_workedOut_247 rfl) <| pm_sn
  | 11 => pm_sc (sm_aload_n dX4_workedOut_248 rfl) <| pm_sc (sm_iconst dX4_workedOut_249 rfl) <| pm_sc (sm_iload_n dX4_workedOut_250 rfl) <| pm_sc (sm_iload_n dX4_workedOut_251 rfl) <| pm_sc (sm_iload dX4_workedOut_252) <| pm_sc (sm_cv dX4_workedOut_254 mt_X4_sound mw_889 lv_X4_44) <| pm_sc (sm_aload_n dX4_workedOut_257 rfl) <| pm_sc (sm_iconst dX4_workedOut_258 rfl) <| pm_sc (sm_aload_n dX4_workedOut_259 rfl) <| pm_sc (sm_gi dX4_workedOut_260 fl_X4_20) <| pm_sc (sm_iconst dX4_workedOut_263 rfl) <| pm_sc (sm_iload dX4_workedOut_264) <| pm_sc (sm_cv dX4_workedOut_266 mt_X4_sound mw_889 lv_X4_44) <| pm_sc (sm_isub dX4_workedOut_269) <| pm_sc (sm_ireturn (pc' := 0) dX4_workedOut_270 rfl) <| pm_sn
  | 12 => pm_sc (sm_aload_n dX4_workedOut_271 rfl) <| pm_sc (sm_iconst dX4_workedOut_272 rfl) <| pm_sc (sm_iload_n dX4_workedOut_273 rfl) <| pm_sc (sm_iload_n dX4_workedOut_274 rfl) <| pm_sc (sm_iload dX4_workedOut_275) <| pm_sc (sm_cv dX4_workedOut_277 mt_X4_sound mw_889 lv_X4_44) <| pm_sc (sm_aload_n dX4_workedOut_280 rfl) <| pm_sc (sm_gi dX4_workedOut_281 fl_X4_27) <| pm_sc (sm_ixor dX4_workedOut_284) <| pm_sc (sm_ireturn (pc' := 0) dX4_workedOut_285 rfl) <| pm_sn
  | 13 => pm_sc (sm_aload_n dX4_workedOut_286 rfl) <| pm_sc (sm_iconst dX4_workedOut_287 rfl) <| pm_sc (sm_iload_n dX4_workedOut_288 rfl) <| pm_sc (sm_iload_n dX4_workedOut_289 rfl) <| pm_sc (sm_iconst dX4_workedOut_290 rfl) <| pm_sc (sm_iadd dX4_workedOut_291) <| pm_sc (sm_iload dX4_workedOut_292) <| pm_sc (sm_cv dX4_workedOut_294 mt_X4_sound mw_889 lv_X4_44) <| pm_sc (sm_ireturn (pc' := 0) dX4_workedOut_297 rfl) <| pm_sn
  | 14 => pm_sc (sm_bipush dX4_workedOut_298 (by decide)) <| pm_sc (sm_ireturn (pc' := 0) dX4_workedOut_300 rfl) <| pm_sn
  | n + 15 => trivial
theorem ok_X4_workedOut (K : pm_K) (l : Launch) (fb : Bool) (hfb : fb = K.2.2.2.2.2) : pm_MOk K l (pm_pg fb) pm_mt n_X4_workedOut := ⟨by decide +kernel, by decide, pc_X4_workedOut, rfl, sb_X4_workedOut K l fb hfb⟩
def pc_X4_mended (b : Nat) : Nat := ([0, 21] : List Nat).getD b 0
set_option maxRecDepth 20000 in
theorem sb_X4_mended (K : pm_K) (l : Launch) (fb : Bool) (hfb : fb = K.2.2.2.2.2) : ∀ b, pm_SimB K l pm_mt "NeedleLine$Speaker" cX4_mended 3 ((.some FieldType.int)) pc_X4_mended (pc_X4_mended b) (P_X4_mended b)
  | 0 => pm_sc (sm_aload_n dX4_mended_0 rfl) <| pm_sc (sm_gi dX4_mended_1 fl_X4_27) <| pm_sc (sm_aload_n dX4_mended_4 rfl) <| pm_sc (sm_gi dX4_mended_5 fl_X4_24) <| pm_sc (sm_isub dX4_mended_8) <| pm_sc (sm_istore_n dX4_mended_9 rfl) <| pm_sc (sm_iload_n dX4_mended_10 rfl) <| pm_sc (sm_if_ne dX4_mended_11 rfl) <| pm_sc (sm_aload_n dX4_mended_14 rfl) <| pm_sc (sm_iconst dX4_mended_15 rfl) <| pm_sc (sm_pz dX4_mended_16 fp_X4_30) <| pm_sc (sm_iconst dX4_mended_19 rfl) <| pm_sc (sm_ireturn (pc' := 0) dX4_mended_20 rfl) <| pm_sn
  | 1 => pm_sc (sm_iload_n dX4_mended_21 rfl) <| pm_sc (sm_iload_n dX4_mended_22 rfl) <| pm_sc (sm_idiv dX4_mended_23) <| pm_sc (sm_ireturn (pc' := 0) dX4_mended_24 rfl) <| pm_sn
  | n + 2 => trivial
theorem ok_X4_mended (K : pm_K) (l : Launch) (fb : Bool) (hfb : fb = K.2.2.2.2.2) : pm_MOk K l (pm_pg fb) pm_mt n_X4_mended := ⟨by decide +kernel, by decide, pc_X4_mended, rfl, sb_X4_mended K l fb hfb⟩
def pc_X4_bodyOf (b : Nat) : Nat := ([0, 23, 24, 41, 42] : List Nat).getD b 0
set_option maxRecDepth 20000 in
theorem sb_X4_bodyOf (K : pm_K) (l : Launch) (fb : Bool) (hfb : fb = K.2.2.2.2.2) : ∀ b, pm_SimB K l pm_mt "NeedleLine$Speaker" cX4_bodyOf 3 ((.some FieldType.int)) pc_X4_bodyOf (pc_X4_bodyOf b) (P_X4_bodyOf b)
  | 0 => pm_sc (sm_iload_n dX4_bodyOf_0 rfl) <| pm_sc (sm_iconst dX4_bodyOf_1 rfl) <| pm_sc (sm_bipush dX4_bodyOf_2 (by decide)) <| pm_sc (sm_cs dX4_bodyOf_4 mt_X8_isIn mw_347 ls_X4_68) <| pm_sc (sm_if_eq dX4_bodyOf_7 rfl) <| pm_sc (sm_iload_n dX4_bodyOf_10 rfl) <| pm_sc (sm_iconst dX4_bodyOf_11 rfl) <| pm_sc (sm_iconst dX4_bodyOf_12 rfl) <| pm_sc (sm_cs dX4_bodyOf_13 mt_X8_isIn mw_347 ls_X4_68) <| pm_sc (sm_if_eq dX4_bodyOf_16 rfl) <| pm_sc (sm_iconst dX4_bodyOf_19 rfl) <| pm_sc (sm_goto dX4_bodyOf_20 rfl) <| pm_sn
  | 1 => pm_sc (sm_iconst dX4_bodyOf_23 rfl) <| pm_sc (sm_fall rfl) <| pm_sn
  | 2 => pm_sc (sm_istore_n dX4_bodyOf_24 rfl) <| pm_sc (sm_iload_n dX4_bodyOf_25 rfl) <| pm_sc (sm_if_eq dX4_bodyOf_26 rfl) <| pm_sc (sm_st dX4_bodyOf_29 (j := 3) rfl (Or.inr ⟨_, nw_894⟩)) <| pm_sc (sm_iload_n dX4_bodyOf_32 rfl) <| pm_sc (sm_iconst dX4_bodyOf_33 rfl) <| pm_sc (sm_imul dX4_bodyOf_34) <| pm_sc (sm_iload_n dX4_bodyOf_35 rfl) <| pm_sc (sm_iadd dX4_bodyOf_36) <| pm_sc (sm_is dX4_bodyOf_37) <| pm_sc (sm_goto dX4_bodyOf_38 rfl) <| pm_sn
  | 3 => pm_sc (sm_iconst dX4_bodyOf_41 rfl) <| pm_sc (sm_fall rfl) <| pm_sn
  | 4 => pm_sc (sm_ireturn (pc' := 0) dX4_bodyOf_42 rfl) <| pm_sn
  | n + 5 => trivial
theorem ok_X4_bodyOf (K : pm_K) (l : Launch) (fb : Bool) (hfb : fb = K.2.2.2.2.2) : pm_MOk K l (pm_pg fb) pm_mt n_X4_bodyOf := ⟨by decide +kernel, by decide, pc_X4_bodyOf, rfl, sb_X4_bodyOf K l fb hfb⟩
def pc_X5_draw (b : Nat) : Nat := ([0] : List Nat).getD b 0
set_option maxRecDepth 20000 in
theorem sb_X5_draw (K : pm_K) (l : Launch) (fb : Bool) (hfb : fb = K.2.2.2.2.2) : ∀ b, pm_SimB K l pm_mt "NeedleLine$State" cX5_draw 1 ((.some FieldType.int)) pc_X5_draw (pc_X5_draw b) (P_X5_draw b)
  | 0 => pm_sc (sm_aload_n dX5_draw_0 rfl) <| pm_sc (sm_aload_n dX5_draw_1 rfl) <| pm_sc (sm_gi dX5_draw_2 fl_X5_53) <| pm_sc (sm_ldc dX5_draw_5 mw_867) <| pm_sc (sm_imul dX5_draw_7) <| pm_sc (sm_sipush dX5_draw_8 (by decide)) <| pm_sc (sm_iadd dX5_draw_11) <| pm_sc (sm_pi dX5_draw_12 fp_X5_53) <| pm_sc (sm_aload_n dX5_draw_15 rfl) <| pm_sc (sm_gi dX5_draw_16 fl_X5_53) <| pm_sc (sm_bipush dX5_draw_19 (by decide)) <| pm_sc (sm_iushr dX5_draw_21) <| pm_sc (sm_ireturn (pc' := 0) dX5_draw_22 rfl) <| pm_sn
  | n + 1 => trivial
theorem ok_X5_draw (K : pm_K) (l : Launch) (fb : Bool) (hfb : fb = K.2.2.2.2.2) : pm_MOk K l (pm_pg fb) pm_mt n_X5_draw := ⟨by decide +kernel, by decide, pc_X5_draw, rfl, sb_X5_draw K l fb hfb⟩
def pc_X5_take (b : Nat) : Nat := ([0] : List Nat).getD b 0
set_option maxRecDepth 20000 in
theorem sb_X5_take (K : pm_K) (l : Launch) (fb : Bool) (hfb : fb = K.2.2.2.2.2) : ∀ b, pm_SimB K l pm_mt "NeedleLine$State" cX5_take 2 ((.none : Option FieldType)) pc_X5_take (pc_X5_take b) (P_X5_take b)
  | 0 => pm_sc (sm_aload_n dX5_take_0 rfl) <| pm_sc (sm_gr dX5_take_1 fl_X5_14) <| pm_sc (sm_aload_n dX5_take_4 rfl) <| pm_sc (sm_gr dX5_take_5 fl_X5_14) <| pm_sc (sm_cv dX5_take_8 mt_X6_take mw_552 lv_X5_61) <| pm_sc (sm_aload_n dX5_take_11 rfl) <| pm_sc (sm_gr dX5_take_12 fl_X5_23) <| pm_sc (sm_aload_n dX5_take_15 rfl) <| pm_sc (sm_gr dX5_take_16 fl_X5_23) <| pm_sc (sm_cv dX5_take_19 mt_X6_take mw_552 lv_X5_65) <| pm_sc (sm_aload_n dX5_take_22 rfl) <| pm_sc (sm_gr dX5_take_23 fl_X5_27) <| pm_sc (sm_aload_n dX5_take_26 rfl) <| pm_sc (sm_gr dX5_take_27 fl_X5_27) <| pm_sc (sm_cv dX5_take_30 mt_X6_take mw_552 lv_X5_61) <| pm_sc (sm_aload_n dX5_take_33 rfl) <| pm_sc (sm_gr dX5_take_34 fl_X5_30) <| pm_sc (sm_aload_n dX5_take_37 rfl) <| pm_sc (sm_gr dX5_take_38 fl_X5_30) <| pm_sc (sm_cv dX5_take_41 mt_X6_take mw_552 lv_X5_61) <| pm_sc (sm_aload_n dX5_take_44 rfl) <| pm_sc (sm_gr dX5_take_45 fl_X5_33) <| pm_sc (sm_aload_n dX5_take_48 rfl) <| pm_sc (sm_gr dX5_take_49 fl_X5_33) <| pm_sc (sm_cv dX5_take_52 mt_X6_take mw_552 lv_X5_61) <| pm_sc (sm_aload_n dX5_take_55 rfl) <| pm_sc (sm_gr dX5_take_56 fl_X5_39) <| pm_sc (sm_aload_n dX5_take_59 rfl) <| pm_sc (sm_gr dX5_take_60 fl_X5_39) <| pm_sc (sm_cv dX5_take_63 mt_X0_take mw_700 lv_X5_66) <| pm_sc (sm_aload_n dX5_take_66 rfl) <| pm_sc (sm_gr dX5_take_67 fl_X5_43) <| pm_sc (sm_aload_n dX5_take_70 rfl) <| pm_sc (sm_gr dX5_take_71 fl_X5_43) <| pm_sc (sm_cv dX5_take_74 mt_X0_take mw_700 lv_X5_66) <| pm_sc (sm_aload_n dX5_take_77 rfl) <| pm_sc (sm_aload_n dX5_take_78 rfl) <| pm_sc (sm_gi dX5_take_79 fl_X5_46) <| pm_sc (sm_pi dX5_take_82 fp_X5_46) <| pm_sc (sm_aload_n dX5_take_85 rfl) <| pm_sc (sm_aload_n dX5_take_86 rfl) <| pm_sc (sm_gi dX5_take_87 fl_X5_50) <| pm_sc (sm_pi dX5_take_90 fp_X5_50) <| pm_sc (sm_aload_n dX5_take_93 rfl) <| pm_sc (sm_aload_n dX5_take_94 rfl) <| pm_sc (sm_gi dX5_take_95 fl_X5_53) <| pm_sc (sm_pi dX5_take_98 fp_X5_53) <| pm_sc (sm_return (pc' := 0) dX5_take_101 rfl) <| pm_sn
  | n + 1 => trivial
theorem ok_X5_take (K : pm_K) (l : Launch) (fb : Bool) (hfb : fb = K.2.2.2.2.2) : pm_MOk K l (pm_pg fb) pm_mt n_X5_take := ⟨by decide +kernel, by decide, pc_X5_take, rfl, sb_X5_take K l fb hfb⟩
def pc_X6_used (b : Nat) : Nat := ([0] : List Nat).getD b 0
set_option maxRecDepth 20000 in
theorem sb_X6_used (K : pm_K) (l : Launch) (fb : Bool) (hfb : fb = K.2.2.2.2.2) : ∀ b, pm_SimB K l pm_mt "NeedleLine$Table" cX6_used 1 ((.some FieldType.int)) pc_X6_used (pc_X6_used b) (P_X6_used b)
  | 0 => pm_sc (sm_aload_n dX6_used_0 rfl) <| pm_sc (sm_gi dX6_used_1 fl_X6_9) <| pm_sc (sm_ireturn (pc' := 0) dX6_used_4 rfl) <| pm_sn
  | n + 1 => trivial
theorem ok_X6_used (K : pm_K) (l : Launch) (fb : Bool) (hfb : fb = K.2.2.2.2.2) : pm_MOk K l (pm_pg fb) pm_mt n_X6_used := ⟨by decide +kernel, by decide, pc_X6_used, rfl, sb_X6_used K l fb hfb⟩
def pc_X6_use (b : Nat) : Nat := ([0] : List Nat).getD b 0
set_option maxRecDepth 20000 in
theorem sb_X6_use (K : pm_K) (l : Launch) (fb : Bool) (hfb : fb = K.2.2.2.2.2) : ∀ b, pm_SimB K l pm_mt "NeedleLine$Table" cX6_use 2 ((.none : Option FieldType)) pc_X6_use (pc_X6_use b) (P_X6_use b)
  | 0 => pm_sc (sm_aload_n dX6_use_0 rfl) <| pm_sc (sm_iload_n dX6_use_1 rfl) <| pm_sc (sm_aload_n dX6_use_2 rfl) <| pm_sc (sm_gc dX6_use_3 fl_X6_22) <| pm_sc (sm_cs dX6_use_6 mt_X8_held mw_100 ls_X6_15) <| pm_sc (sm_pi dX6_use_9 fp_X6_9) <| pm_sc (sm_return (pc' := 0) dX6_use_12 rfl) <| pm_sn
  | n + 1 => trivial
theorem ok_X6_use (K : pm_K) (l : Launch) (fb : Bool) (hfb : fb = K.2.2.2.2.2) : pm_MOk K l (pm_pg fb) pm_mt n_X6_use := ⟨by decide +kernel, by decide, pc_X6_use, rfl, sb_X6_use K l fb hfb⟩
def pc_X6_has (b : Nat) : Nat := ([0] : List Nat).getD b 0
set_option maxRecDepth 20000 in
theorem sb_X6_has (K : pm_K) (l : Launch) (fb : Bool) (hfb : fb = K.2.2.2.2.2) : ∀ b, pm_SimB K l pm_mt "NeedleLine$Table" cX6_has 2 ((.some FieldType.boolean)) pc_X6_has (pc_X6_has b) (P_X6_has b)
  | 0 => pm_sc (sm_iload_n dX6_has_0 rfl) <| pm_sc (sm_iconst dX6_has_1 rfl) <| pm_sc (sm_aload_n dX6_has_2 rfl) <| pm_sc (sm_gi dX6_has_3 fl_X6_9) <| pm_sc (sm_iconst dX6_has_6 rfl) <| pm_sc (sm_isub dX6_has_7) <| pm_sc (sm_cs dX6_has_8 mt_X8_isIn mw_347 ls_X6_29) <| pm_sc (sm_zreturn (pc' := 0) dX6_has_11 rfl) <| pm_sn
  | n + 1 => trivial
theorem ok_X6_has (K : pm_K) (l : Launch) (fb : Bool) (hfb : fb = K.2.2.2.2.2) : pm_MOk K l (pm_pg fb) pm_mt n_X6_has := ⟨by decide +kernel, by decide, pc_X6_has, rfl, sb_X6_has K l fb hfb⟩
def pc_X6_isFull (b : Nat) : Nat := ([0, 15, 16] : List Nat).getD b 0
set_option maxRecDepth 20000 in
theorem sb_X6_isFull (K : pm_K) (l : Launch) (fb : Bool) (hfb : fb = K.2.2.2.2.2) : ∀ b, pm_SimB K l pm_mt "NeedleLine$Table" cX6_isFull 1 ((.some FieldType.boolean)) pc_X6_isFull (pc_X6_isFull b) (P_X6_isFull b)
  | 0 => pm_sc (sm_aload_n dX6_isFull_0 rfl) <| pm_sc (sm_gi dX6_isFull_1 fl_X6_9) <| pm_sc (sm_aload_n dX6_isFull_4 rfl) <| pm_sc (sm_gc dX6_isFull_5 fl_X6_22) <| pm_sc (sm_icmp_lt dX6_isFull_8 rfl) <| pm_sc (sm_iconst dX6_isFull_11 rfl) <| pm_sc (sm_goto dX6_isFull_12 rfl) <| pm_sn
  | 1 => pm_sc (sm_iconst dX6_isFull_15 rfl) <| pm_sc (sm_fall rfl) <| pm_sn
  | 2 => pm_sc (sm_zreturn (pc' := 0) dX6_isFull_16 rfl) <| pm_sn
  | n + 3 => trivial
theorem ok_X6_isFull (K : pm_K) (l : Launch) (fb : Bool) (hfb : fb = K.2.2.2.2.2) : pm_MOk K l (pm_pg fb) pm_mt n_X6_isFull := ⟨by decide +kernel, by decide, pc_X6_isFull, rfl, sb_X6_isFull K l fb hfb⟩
def pc_X6_add (b : Nat) : Nat := ([0] : List Nat).getD b 0
set_option maxRecDepth 20000 in
theorem sb_X6_add (K : pm_K) (l : Launch) (fb : Bool) (hfb : fb = K.2.2.2.2.2) : ∀ b, pm_SimB K l pm_mt "NeedleLine$Table" cX6_add 3 ((.some FieldType.int)) pc_X6_add (pc_X6_add b) (P_X6_add b)
  | 0 => pm_sc (sm_aload_n dX6_add_0 rfl) <| pm_sc (sm_gi dX6_add_1 fl_X6_9) <| pm_sc (sm_istore_n dX6_add_4 rfl) <| pm_sc (sm_aload_n dX6_add_5 rfl) <| pm_sc (sm_aload_n dX6_add_6 rfl) <| pm_sc (sm_gi dX6_add_7 fl_X6_9) <| pm_sc (sm_iconst dX6_add_10 rfl) <| pm_sc (sm_iadd dX6_add_11) <| pm_sc (sm_cv dX6_add_12 mt_X6_use mw_150 lv_X6_33) <| pm_sc (sm_aload_n dX6_add_15 rfl) <| pm_sc (sm_iconst dX6_add_16 rfl) <| pm_sc (sm_iload_n dX6_add_17 rfl) <| pm_sc (sm_iload_n dX6_add_18 rfl) <| pm_sc (sm_cv dX6_add_19 mt_X6_set mw_383 lv_X6_37) <| pm_sc (sm_iload_n dX6_add_22 rfl) <| pm_sc (sm_ireturn (pc' := 0) dX6_add_23 rfl) <| pm_sn
  | n + 1 => trivial
theorem ok_X6_add (K : pm_K) (l : Launch) (fb : Bool) (hfb : fb = K.2.2.2.2.2) : pm_MOk K l (pm_pg fb) pm_mt n_X6_add := ⟨by decide +kernel, by decide, pc_X6_add, rfl, sb_X6_add K l fb hfb⟩
def pc_X6_at (b : Nat) : Nat := ([0, 25, 26] : List Nat).getD b 0
set_option maxRecDepth 20000 in
theorem sb_X6_at (K : pm_K) (l : Launch) (fb : Bool) (hfb : fb = K.2.2.2.2.2) : ∀ b, pm_SimB K l pm_mt "NeedleLine$Table" cX6_at 3 ((.some FieldType.int)) pc_X6_at (pc_X6_at b) (P_X6_at b)
  | 0 => pm_sc (sm_aload_n dX6_at_0 rfl) <| pm_sc (sm_iload_n dX6_at_1 rfl) <| pm_sc (sm_iload_n dX6_at_2 rfl) <| pm_sc (sm_cv dX6_at_3 mt_X6_holds mw_377 lv_X6_41) <| pm_sc (sm_if_eq dX6_at_6 rfl) <| pm_sc (sm_aload_n dX6_at_9 rfl) <| pm_sc (sm_gr dX6_at_10 fl_X6_25) <| pm_sc (sm_iload_n dX6_at_13 rfl) <| pm_sc (sm_aload_n dX6_at_14 rfl) <| pm_sc (sm_gc dX6_at_15 fl_X6_22) <| pm_sc (sm_imul dX6_at_18) <| pm_sc (sm_iload_n dX6_at_19 rfl) <| pm_sc (sm_iadd dX6_at_20) <| pm_sc (sm_ia dX6_at_21) <| pm_sc (sm_goto dX6_at_22 rfl) <| pm_sn
  | 1 => pm_sc (sm_iconst dX6_at_25 rfl) <| pm_sc (sm_fall rfl) <| pm_sn
  | 2 => pm_sc (sm_ireturn (pc' := 0) dX6_at_26 rfl) <| pm_sn
  | n + 3 => trivial
theorem ok_X6_at (K : pm_K) (l : Launch) (fb : Bool) (hfb : fb = K.2.2.2.2.2) : pm_MOk K l (pm_pg fb) pm_mt n_X6_at := ⟨by decide +kernel, by decide, pc_X6_at, rfl, sb_X6_at K l fb hfb⟩
def pc_X6_set (b : Nat) : Nat := ([0, 23] : List Nat).getD b 0
set_option maxRecDepth 20000 in
theorem sb_X6_set (K : pm_K) (l : Launch) (fb : Bool) (hfb : fb = K.2.2.2.2.2) : ∀ b, pm_SimB K l pm_mt "NeedleLine$Table" cX6_set 4 ((.none : Option FieldType)) pc_X6_set (pc_X6_set b) (P_X6_set b)
  | 0 => pm_sc (sm_aload_n dX6_set_0 rfl) <| pm_sc (sm_iload_n dX6_set_1 rfl) <| pm_sc (sm_iload_n dX6_set_2 rfl) <| pm_sc (sm_cv dX6_set_3 mt_X6_holds mw_377 lv_X6_41) <| pm_sc (sm_if_eq dX6_set_6 rfl) <| pm_sc (sm_aload_n dX6_set_9 rfl) <| pm_sc (sm_gr dX6_set_10 fl_X6_25) <| pm_sc (sm_iload_n dX6_set_13 rfl) <| pm_sc (sm_aload_n dX6_set_14 rfl) <| pm_sc (sm_gc dX6_set_15 fl_X6_22) <| pm_sc (sm_imul dX6_set_18) <| pm_sc (sm_iload_n dX6_set_19 rfl) <| pm_sc (sm_iadd dX6_set_20) <| pm_sc (sm_iload_n dX6_set_21 rfl) <| pm_sc (sm_ias dX6_set_22) <| pm_sc (sm_fall rfl) <| pm_sn
  | 1 => pm_sc (sm_return (pc' := 0) dX6_set_23 rfl) <| pm_sn
  | n + 2 => trivial
theorem ok_X6_set (K : pm_K) (l : Launch) (fb : Bool) (hfb : fb = K.2.2.2.2.2) : pm_MOk K l (pm_pg fb) pm_mt n_X6_set := ⟨by decide +kernel, by decide, pc_X6_set, rfl, sb_X6_set K l fb hfb⟩
def pc_X6_howMany (b : Nat) : Nat := ([0, 5, 28, 34] : List Nat).getD b 0
set_option maxRecDepth 20000 in
theorem sb_X6_howMany (K : pm_K) (l : Launch) (fb : Bool) (hfb : fb = K.2.2.2.2.2) : ∀ b, pm_SimB K l pm_mt "NeedleLine$Table" cX6_howMany 5 ((.some FieldType.int)) pc_X6_howMany (pc_X6_howMany b) (P_X6_howMany b)
  | 0 => pm_sc (sm_iconst dX6_howMany_0 rfl) <| pm_sc (sm_istore_n dX6_howMany_1 rfl) <| pm_sc (sm_iconst dX6_howMany_2 rfl) <| pm_sc (sm_istore dX6_howMany_3) <| pm_sc (sm_fall rfl) <| pm_sn
  | 1 => pm_sc (sm_iload dX6_howMany_5) <| pm_sc (sm_aload_n dX6_howMany_7 rfl) <| pm_sc (sm_gi dX6_howMany_8 fl_X6_9) <| pm_sc (sm_icmp_ge dX6_howMany_11 rfl) <| pm_sc (sm_aload_n dX6_howMany_14 rfl) <| pm_sc (sm_iload_n dX6_howMany_15 rfl) <| pm_sc (sm_iload dX6_howMany_16) <| pm_sc (sm_cv dX6_howMany_18 mt_X6_at mw_373 lv_X6_45) <| pm_sc (sm_iload_n dX6_howMany_21 rfl) <| pm_sc (sm_icmp_ne dX6_howMany_22 rfl) <| pm_sc (sm_iinc dX6_howMany_25 rfl) <| pm_sc (sm_fall rfl) <| pm_sn
  | 2 => pm_sc (sm_iinc dX6_howMany_28 rfl) <| pm_sc (sm_goto dX6_howMany_31 rfl) <| pm_sn
  | 3 => pm_sc (sm_iload_n dX6_howMany_34 rfl) <| pm_sc (sm_ireturn (pc' := 0) dX6_howMany_35 rfl) <| pm_sn
  | n + 4 => trivial
theorem ok_X6_howMany (K : pm_K) (l : Launch) (fb : Bool) (hfb : fb = K.2.2.2.2.2) : pm_MOk K l (pm_pg fb) pm_mt n_X6_howMany := ⟨by decide +kernel, by decide, pc_X6_howMany, rfl, sb_X6_howMany K l fb hfb⟩
def pc_X6_take (b : Nat) : Nat := ([0] : List Nat).getD b 0
set_option maxRecDepth 20000 in
theorem sb_X6_take (K : pm_K) (l : Launch) (fb : Bool) (hfb : fb = K.2.2.2.2.2) : ∀ b, pm_SimB K l pm_mt "NeedleLine$Table" cX6_take 3 ((.none : Option FieldType)) pc_X6_take (pc_X6_take b) (P_X6_take b)
  | 0 => pm_sc (sm_aload_n dX6_take_0 rfl) <| pm_sc (sm_gr dX6_take_1 fl_X6_25) <| pm_sc (sm_ln dX6_take_4) <| pm_sc (sm_aload_n dX6_take_5 rfl) <| pm_sc (sm_gr dX6_take_6 fl_X6_25) <| pm_sc (sm_ln dX6_take_9) <| pm_sc (sm_mmin dX6_take_10 mw_553 mw_102 mw_64 mw_103) <| pm_sc (sm_istore_n dX6_take_13 rfl) <| pm_sc (sm_aload_n dX6_take_14 rfl) <| pm_sc (sm_gr dX6_take_15 fl_X6_25) <| pm_sc (sm_iconst dX6_take_18 rfl) <| pm_sc (sm_aload_n dX6_take_19 rfl) <| pm_sc (sm_gr dX6_take_20 fl_X6_25) <| pm_sc (sm_iconst dX6_take_23 rfl) <| pm_sc (sm_iload_n dX6_take_24 rfl) <| pm_sc (sm_cp dX6_take_25 mw_554 mw_556 mw_555 mw_72) <| pm_sc (sm_aload_n dX6_take_28 rfl) <| pm_sc (sm_aload_n dX6_take_29 rfl) <| pm_sc (sm_gi dX6_take_30 fl_X6_9) <| pm_sc (sm_cv dX6_take_33 mt_X6_use mw_150 lv_X6_33) <| pm_sc (sm_return (pc' := 0) dX6_take_36 rfl) <| pm_sn
  | n + 1 => trivial
theorem ok_X6_take (K : pm_K) (l : Launch) (fb : Bool) (hfb : fb = K.2.2.2.2.2) : pm_MOk K l (pm_pg fb) pm_mt n_X6_take := ⟨by decide +kernel, by decide, pc_X6_take, rfl, sb_X6_take K l fb hfb⟩
def pc_X6_holds (b : Nat) : Nat := ([0, 28, 29] : List Nat).getD b 0
set_option maxRecDepth 20000 in
theorem sb_X6_holds (K : pm_K) (l : Launch) (fb : Bool) (hfb : fb = K.2.2.2.2.2) : ∀ b, pm_SimB K l pm_mt "NeedleLine$Table" cX6_holds 3 ((.some FieldType.boolean)) pc_X6_holds (pc_X6_holds b) (P_X6_holds b)
  | 0 => pm_sc (sm_iload_n dX6_holds_0 rfl) <| pm_sc (sm_if_lt dX6_holds_1 rfl) <| pm_sc (sm_iload_n dX6_holds_4 rfl) <| pm_sc (sm_aload_n dX6_holds_5 rfl) <| pm_sc (sm_gc dX6_holds_6 fl_X6_19) <| pm_sc (sm_icmp_ge dX6_holds_9 rfl) <| pm_sc (sm_iload_n dX6_holds_12 rfl) <| pm_sc (sm_if_lt dX6_holds_13 rfl) <| pm_sc (sm_iload_n dX6_holds_16 rfl) <| pm_sc (sm_aload_n dX6_holds_17 rfl) <| pm_sc (sm_gc dX6_holds_18 fl_X6_22) <| pm_sc (sm_icmp_ge dX6_holds_21 rfl) <| pm_sc (sm_iconst dX6_holds_24 rfl) <| pm_sc (sm_goto dX6_holds_25 rfl) <| pm_sn
  | 1 => pm_sc (sm_iconst dX6_holds_28 rfl) <| pm_sc (sm_fall rfl) <| pm_sn
  | 2 => pm_sc (sm_zreturn (pc' := 0) dX6_holds_29 rfl) <| pm_sn
  | n + 3 => trivial
theorem ok_X6_holds (K : pm_K) (l : Launch) (fb : Bool) (hfb : fb = K.2.2.2.2.2) : pm_MOk K l (pm_pg fb) pm_mt n_X6_holds := ⟨by decide +kernel, by decide, pc_X6_holds, rfl, sb_X6_holds K l fb hfb⟩
def pc_X7_go (b : Nat) : Nat := ([0, 37, 106, 197] : List Nat).getD b 0
set_option maxRecDepth 20000 in
theorem sb_X7_go (K : pm_K) (l : Launch) (fb : Bool) (hfb : fb = K.2.2.2.2.2) : ∀ b, pm_SimB K l pm_mt "NeedleLine$Walk" cX7_go 5 ((.none : Option FieldType)) pc_X7_go (pc_X7_go b) (P_X7_go b)
  | 0 => pm_sc (sm_aload_n dX7_go_0 rfl) <| pm_sc (sm_aload_n dX7_go_1 rfl) <| pm_sc (sm_gr dX7_go_2 fl_X7_43) <| pm_sc (sm_cv dX7_go_5 mt_X6_used mw_358 lv_X7_49) <| pm_sc (sm_bipush dX7_go_8 (by decide)) <| pm_sc (sm_cs dX7_go_10 mt_X8_held mw_100 ls_X7_55) <| pm_sc (sm_pi dX7_go_13 fp_X7_33) <| pm_sc (sm_aload_n dX7_go_16 rfl) <| pm_sc (sm_aload_n dX7_go_17 rfl) <| pm_sc (sm_gi dX7_go_18 fl_X7_59) <| pm_sc (sm_pi dX7_go_21 fp_X7_37) <| pm_sc (sm_aload_n dX7_go_24 rfl) <| pm_sc (sm_aload_n dX7_go_25 rfl) <| pm_sc (sm_gi dX7_go_26 fl_X7_60) <| pm_sc (sm_pi dX7_go_29 fp_X7_40) <| pm_sc (sm_iconst dX7_go_32 rfl) <| pm_sc (sm_istore_n dX7_go_33 rfl) <| pm_sc (sm_iconst dX7_go_34 rfl) <| pm_sc (sm_istore dX7_go_35) <| pm_sc (sm_fall rfl) <| pm_sn
  | 1 => pm_sc (sm_iload dX7_go_37) <| pm_sc (sm_aload_n dX7_go_39 rfl) <| pm_sc (sm_gi dX7_go_40 fl_X7_33) <| pm_sc (sm_icmp_ge dX7_go_43 rfl) <| pm_sc (sm_aload_n dX7_go_46 rfl) <| pm_sc (sm_aload_n dX7_go_47 rfl) <| pm_sc (sm_iload dX7_go_48) <| pm_sc (sm_iload_n dX7_go_50 rfl) <| pm_sc (sm_cv dX7_go_51 mt_X7_addUpSlips mw_404 lv_X7_61) <| pm_sc (sm_aload_n dX7_go_54 rfl) <| pm_sc (sm_gr dX7_go_55 fl_X7_30) <| pm_sc (sm_iload dX7_go_58) <| pm_sc (sm_aload_n dX7_go_60 rfl) <| pm_sc (sm_gr dX7_go_61 fl_X7_43) <| pm_sc (sm_iconst dX7_go_64 rfl) <| pm_sc (sm_iload dX7_go_65) <| pm_sc (sm_cv dX7_go_67 mt_X6_at mw_373 lv_X7_65) <| pm_sc (sm_aload_n dX7_go_70 rfl) <| pm_sc (sm_gr dX7_go_71 fl_X7_24) <| pm_sc (sm_iload dX7_go_74) <| pm_sc (sm_ia dX7_go_76) <| pm_sc (sm_iadd dX7_go_77) <| pm_sc (sm_aload_n dX7_go_78 rfl) <| pm_sc (sm_gr dX7_go_79 fl_X7_43) <| pm_sc (sm_iconst dX7_go_82 rfl) <| pm_sc (sm_iload dX7_go_83) <| pm_sc (sm_cv dX7_go_85 mt_X6_at mw_373 lv_X7_65) <| pm_sc (sm_iadd dX7_go_88) <| pm_sc (sm_ias dX7_go_89) <| pm_sc (sm_aload_n dX7_go_90 rfl) <| pm_sc (sm_gr dX7_go_91 fl_X7_43) <| pm_sc (sm_iconst dX7_go_94 rfl) <| pm_sc (sm_iload dX7_go_95) <| pm_sc (sm_cv dX7_go_97 mt_X6_at mw_373 lv_X7_65) <| pm_sc (sm_iconst dX7_go_100 rfl) <| pm_sc (sm_icmp_ne dX7_go_101 rfl) <| pm_sc (sm_iconst dX7_go_104 rfl) <| pm_sc (sm_istore_n dX7_go_105 rfl) <| pm_sc (sm_fall rfl) <| pm_sn
  | 2 => pm_sc (sm_iload_n dX7_go_106 rfl) <| pm_sc (sm_aload_n dX7_go_107 rfl) <| pm_sc (sm_gr dX7_go_108 fl_X7_21) <| pm_sc (sm_iload dX7_go_111) <| pm_sc (sm_ia dX7_go_113) <| pm_sc (sm_iadd dX7_go_114) <| pm_sc (sm_istore_n dX7_go_115 rfl) <| pm_sc (sm_aload_n dX7_go_116 rfl) <| pm_sc (sm_gr dX7_go_117 fl_X7_18) <| pm_sc (sm_iload dX7_go_120) <| pm_sc (sm_iload_n dX7_go_122 rfl) <| pm_sc (sm_ias dX7_go_123) <| pm_sc (sm_aload_n dX7_go_124 rfl) <| pm_sc (sm_gr dX7_go_125 fl_X7_9) <| pm_sc (sm_iload dX7_go_128) <| pm_sc (sm_iconst dX7_go_130 rfl) <| pm_sc (sm_iadd dX7_go_131) <| pm_sc (sm_aload_n dX7_go_132 rfl) <| pm_sc (sm_gr dX7_go_133 fl_X7_9) <| pm_sc (sm_iload dX7_go_136) <| pm_sc (sm_ia dX7_go_138) <| pm_sc (sm_iload_n dX7_go_139 rfl) <| pm_sc (sm_iadd dX7_go_140) <| pm_sc (sm_aload_n dX7_go_141 rfl) <| pm_sc (sm_gr dX7_go_142 fl_X7_30) <| pm_sc (sm_iload dX7_go_145) <| pm_sc (sm_ia dX7_go_147) <| pm_sc (sm_iadd dX7_go_148) <| pm_sc (sm_ias dX7_go_149) <| pm_sc (sm_aload_n dX7_go_150 rfl) <| pm_sc (sm_gr dX7_go_151 fl_X7_15) <| pm_sc (sm_iload dX7_go_154) <| pm_sc (sm_iconst dX7_go_156 rfl) <| pm_sc (sm_iadd dX7_go_157) <| pm_sc (sm_aload_n dX7_go_158 rfl) <| pm_sc (sm_gr dX7_go_159 fl_X7_15) <| pm_sc (sm_iload dX7_go_162) <| pm_sc (sm_ia dX7_go_164) <| pm_sc (sm_sipush dX7_go_165 (by decide)) <| pm_sc (sm_iadd dX7_go_168) <| pm_sc (sm_iconst dX7_go_169 rfl) <| pm_sc (sm_aload_n dX7_go_170 rfl) <| pm_sc (sm_gr dX7_go_171 fl_X7_43) <| pm_sc (sm_iconst dX7_go_174 rfl) <| pm_sc (sm_iload dX7_go_175) <| pm_sc (sm_cv dX7_go_177 mt_X6_at mw_373 lv_X7_65) <| pm_sc (sm_imul dX7_go_180) <| pm_sc (sm_isub dX7_go_181) <| pm_sc (sm_aload_n dX7_go_182 rfl) <| pm_sc (sm_gr dX7_go_183 fl_X7_27) <| pm_sc (sm_iload dX7_go_186) <| pm_sc (sm_ia dX7_go_188) <| pm_sc (sm_isub dX7_go_189) <| pm_sc (sm_ias dX7_go_190) <| pm_sc (sm_iinc dX7_go_191 rfl) <| pm_sc (sm_goto dX7_go_194 rfl) <| pm_sn
  | 3 => pm_sc (sm_return (pc' := 0) dX7_go_197 rfl) <| pm_sn
  | n + 4 => trivial
theorem ok_X7_go (K : pm_K) (l : Launch) (fb : Bool) (hfb : fb = K.2.2.2.2.2) : pm_MOk K l (pm_pg fb) pm_mt n_X7_go := ⟨by decide +kernel, by decide, pc_X7_go, rfl, sb_X7_go K l fb hfb⟩
def pc_X7_addUpSlips (b : Nat) : Nat := ([0, 46, 139, 145] : List Nat).getD b 0
set_option maxRecDepth 20000 in
theorem sb_X7_addUpSlips (K : pm_K) (l : Launch) (fb : Bool) (hfb : fb = K.2.2.2.2.2) : ∀ b, pm_SimB K l pm_mt "NeedleLine$Walk" cX7_addUpSlips 7 ((.none : Option FieldType)) pc_X7_addUpSlips (pc_X7_addUpSlips b) (P_X7_addUpSlips b)
  | 0 => pm_sc (sm_aload_n dX7_addUpSlips_0 rfl) <| pm_sc (sm_gr dX7_addUpSlips_1 fl_X7_43) <| pm_sc (sm_iconst dX7_addUpSlips_4 rfl) <| pm_sc (sm_iload_n dX7_addUpSlips_5 rfl) <| pm_sc (sm_cv dX7_addUpSlips_6 mt_X6_at mw_373 lv_X7_65) <| pm_sc (sm_istore dX7_addUpSlips_9) <| pm_sc (sm_aload_n dX7_addUpSlips_11 rfl) <| pm_sc (sm_gr dX7_addUpSlips_12 fl_X7_43) <| pm_sc (sm_iconst dX7_addUpSlips_15 rfl) <| pm_sc (sm_iload_n dX7_addUpSlips_16 rfl) <| pm_sc (sm_cv dX7_addUpSlips_17 mt_X6_at mw_373 lv_X7_65) <| pm_sc (sm_istore dX7_addUpSlips_20) <| pm_sc (sm_aload_n dX7_addUpSlips_22 rfl) <| pm_sc (sm_gr dX7_addUpSlips_23 fl_X7_21) <| pm_sc (sm_iload_n dX7_addUpSlips_26 rfl) <| pm_sc (sm_iconst dX7_addUpSlips_27 rfl) <| pm_sc (sm_ias dX7_addUpSlips_28) <| pm_sc (sm_aload_n dX7_addUpSlips_29 rfl) <| pm_sc (sm_gr dX7_addUpSlips_30 fl_X7_24) <| pm_sc (sm_iload_n dX7_addUpSlips_33 rfl) <| pm_sc (sm_iconst dX7_addUpSlips_34 rfl) <| pm_sc (sm_ias dX7_addUpSlips_35) <| pm_sc (sm_aload_n dX7_addUpSlips_36 rfl) <| pm_sc (sm_gr dX7_addUpSlips_37 fl_X7_27) <| pm_sc (sm_iload_n dX7_addUpSlips_40 rfl) <| pm_sc (sm_iconst dX7_addUpSlips_41 rfl) <| pm_sc (sm_ias dX7_addUpSlips_42) <| pm_sc (sm_iconst dX7_addUpSlips_43 rfl) <| pm_sc (sm_istore dX7_addUpSlips_44) <| pm_sc (sm_fall rfl) <| pm_sn
  | 1 => pm_sc (sm_iload dX7_addUpSlips_46) <| pm_sc (sm_aload_n dX7_addUpSlips_48 rfl) <| pm_sc (sm_gr dX7_addUpSlips_49 fl_X7_68) <| pm_sc (sm_cv dX7_addUpSlips_52 mt_X6_used mw_358 lv_X7_72) <| pm_sc (sm_icmp_ge dX7_addUpSlips_55 rfl) <| pm_sc (sm_iload dX7_addUpSlips_58) <| pm_sc (sm_iload_n dX7_addUpSlips_60 rfl) <| pm_sc (sm_icmp_eq dX7_addUpSlips_61 rfl) <| pm_sc (sm_aload_n dX7_addUpSlips_64 rfl) <| pm_sc (sm_gr dX7_addUpSlips_65 fl_X7_68) <| pm_sc (sm_iconst dX7_addUpSlips_68 rfl) <| pm_sc (sm_iload dX7_addUpSlips_69) <| pm_sc (sm_cv dX7_addUpSlips_71 mt_X6_at mw_373 lv_X7_75) <| pm_sc (sm_iconst dX7_addUpSlips_74 rfl) <| pm_sc (sm_icmp_ne dX7_addUpSlips_75 rfl) <| pm_sc (sm_aload_n dX7_addUpSlips_78 rfl) <| pm_sc (sm_gr dX7_addUpSlips_79 fl_X7_21) <| pm_sc (sm_iload_n dX7_addUpSlips_82 rfl) <| pm_sc (sm_dup2 dX7_addUpSlips_83) <| pm_sc (sm_ia dX7_addUpSlips_84) <| pm_sc (sm_aload_n dX7_addUpSlips_85 rfl) <| pm_sc (sm_gr dX7_addUpSlips_86 fl_X7_68) <| pm_sc (sm_iload dX7_addUpSlips_89) <| pm_sc (sm_iload_n dX7_addUpSlips_91 rfl) <| pm_sc (sm_cv dX7_addUpSlips_92 mt_X3_leansAt mw_417 lv_X7_76) <| pm_sc (sm_iadd dX7_addUpSlips_95) <| pm_sc (sm_ias dX7_addUpSlips_96) <| pm_sc (sm_aload_n dX7_addUpSlips_97 rfl) <| pm_sc (sm_gr dX7_addUpSlips_98 fl_X7_24) <| pm_sc (sm_iload_n dX7_addUpSlips_101 rfl) <| pm_sc (sm_dup2 dX7_addUpSlips_102) <| pm_sc (sm_ia dX7_addUpSlips_103) <| pm_sc (sm_aload_n dX7_addUpSlips_104 rfl) <| pm_sc (sm_gr dX7_addUpSlips_105 fl_X7_68) <| pm_sc (sm_iload dX7_addUpSlips_108) <| pm_sc (sm_iload_n dX7_addUpSlips_110 rfl) <| pm_sc (sm_iload dX7_addUpSlips_111) <| pm_sc (sm_cv dX7_addUpSlips_113 mt_X3_pushesAt mw_431 lv_X7_79) <| pm_sc (sm_iadd dX7_addUpSlips_116) <| pm_sc (sm_ias dX7_addUpSlips_117) <| pm_sc (sm_aload_n dX7_addUpSlips_118 rfl) <| pm_sc (sm_gr dX7_addUpSlips_119 fl_X7_27) <| pm_sc (sm_iload_n dX7_addUpSlips_122 rfl) <| pm_sc (sm_dup2 dX7_addUpSlips_123) <| pm_sc (sm_ia dX7_addUpSlips_124) <| pm_sc (sm_aload_n dX7_addUpSlips_125 rfl) <| pm_sc (sm_gr dX7_addUpSlips_126 fl_X7_68) <| pm_sc (sm_iload dX7_addUpSlips_129) <| pm_sc (sm_iload_n dX7_addUpSlips_131 rfl) <| pm_sc (sm_iload dX7_addUpSlips_132) <| pm_sc (sm_cv dX7_addUpSlips_134 mt_X3_shortensAt mw_435 lv_X7_83) <| pm_sc (sm_iadd dX7_addUpSlips_137) <| pm_sc (sm_ias dX7_addUpSlips_138) <| pm_sc (sm_fall rfl) <| pm_sn
  | 2 => pm_sc (sm_iinc dX7_addUpSlips_139 rfl) <| pm_sc (sm_goto dX7_addUpSlips_142 rfl) <| pm_sn
  | 3 => pm_sc (sm_return (pc' := 0) dX7_addUpSlips_145 rfl) <| pm_sn
  | n + 4 => trivial
theorem ok_X7_addUpSlips (K : pm_K) (l : Launch) (fb : Bool) (hfb : fb = K.2.2.2.2.2) : pm_MOk K l (pm_pg fb) pm_mt n_X7_addUpSlips := ⟨by decide +kernel, by decide, pc_X7_addUpSlips, rfl, sb_X7_addUpSlips K l fb hfb⟩
def pc_X7_sideOf (b : Nat) : Nat := ([0, 21, 22] : List Nat).getD b 0
set_option maxRecDepth 20000 in
theorem sb_X7_sideOf (K : pm_K) (l : Launch) (fb : Bool) (hfb : fb = K.2.2.2.2.2) : ∀ b, pm_SimB K l pm_mt "NeedleLine$Walk" cX7_sideOf 2 ((.some FieldType.int)) pc_X7_sideOf (pc_X7_sideOf b) (P_X7_sideOf b)
  | 0 => pm_sc (sm_iload_n dX7_sideOf_0 rfl) <| pm_sc (sm_iconst dX7_sideOf_1 rfl) <| pm_sc (sm_aload_n dX7_sideOf_2 rfl) <| pm_sc (sm_gi dX7_sideOf_3 fl_X7_33) <| pm_sc (sm_cs dX7_sideOf_6 mt_X8_isIn mw_347 ls_X7_86) <| pm_sc (sm_if_eq dX7_sideOf_9 rfl) <| pm_sc (sm_aload_n dX7_sideOf_12 rfl) <| pm_sc (sm_gr dX7_sideOf_13 fl_X7_9) <| pm_sc (sm_iload_n dX7_sideOf_16 rfl) <| pm_sc (sm_ia dX7_sideOf_17) <| pm_sc (sm_goto dX7_sideOf_18 rfl) <| pm_sn
  | 1 => pm_sc (sm_iconst dX7_sideOf_21 rfl) <| pm_sc (sm_fall rfl) <| pm_sn
  | 2 => pm_sc (sm_ireturn (pc' := 0) dX7_sideOf_22 rfl) <| pm_sn
  | n + 3 => trivial
theorem ok_X7_sideOf (K : pm_K) (l : Launch) (fb : Bool) (hfb : fb = K.2.2.2.2.2) : pm_MOk K l (pm_pg fb) pm_mt n_X7_sideOf := ⟨by decide +kernel, by decide, pc_X7_sideOf, rfl, sb_X7_sideOf K l fb hfb⟩
def pc_X7_alongOf (b : Nat) : Nat := ([0, 21, 22] : List Nat).getD b 0
set_option maxRecDepth 20000 in
theorem sb_X7_alongOf (K : pm_K) (l : Launch) (fb : Bool) (hfb : fb = K.2.2.2.2.2) : ∀ b, pm_SimB K l pm_mt "NeedleLine$Walk" cX7_alongOf 2 ((.some FieldType.int)) pc_X7_alongOf (pc_X7_alongOf b) (P_X7_alongOf b)
  | 0 => pm_sc (sm_iload_n dX7_alongOf_0 rfl) <| pm_sc (sm_iconst dX7_alongOf_1 rfl) <| pm_sc (sm_aload_n dX7_alongOf_2 rfl) <| pm_sc (sm_gi dX7_alongOf_3 fl_X7_33) <| pm_sc (sm_cs dX7_alongOf_6 mt_X8_isIn mw_347 ls_X7_86) <| pm_sc (sm_if_eq dX7_alongOf_9 rfl) <| pm_sc (sm_aload_n dX7_alongOf_12 rfl) <| pm_sc (sm_gr dX7_alongOf_13 fl_X7_15) <| pm_sc (sm_iload_n dX7_alongOf_16 rfl) <| pm_sc (sm_ia dX7_alongOf_17) <| pm_sc (sm_goto dX7_alongOf_18 rfl) <| pm_sn
  | 1 => pm_sc (sm_iconst dX7_alongOf_21 rfl) <| pm_sc (sm_fall rfl) <| pm_sn
  | 2 => pm_sc (sm_ireturn (pc' := 0) dX7_alongOf_22 rfl) <| pm_sn
  | n + 3 => trivial
theorem ok_X7_alongOf (K : pm_K) (l : Launch) (fb : Bool) (hfb : fb = K.2.2.2.2.2) : pm_MOk K l (pm_pg fb) pm_mt n_X7_alongOf := ⟨by decide +kernel, by decide, pc_X7_alongOf, rfl, sb_X7_alongOf K l fb hfb⟩
def pc_X7_headingIn (b : Nat) : Nat := ([0, 23, 24] : List Nat).getD b 0
set_option maxRecDepth 20000 in
theorem sb_X7_headingIn (K : pm_K) (l : Launch) (fb : Bool) (hfb : fb = K.2.2.2.2.2) : ∀ b, pm_SimB K l pm_mt "NeedleLine$Walk" cX7_headingIn 2 ((.some FieldType.int)) pc_X7_headingIn (pc_X7_headingIn b) (P_X7_headingIn b)
  | 0 => pm_sc (sm_iload_n dX7_headingIn_0 rfl) <| pm_sc (sm_iconst dX7_headingIn_1 rfl) <| pm_sc (sm_aload_n dX7_headingIn_2 rfl) <| pm_sc (sm_gi dX7_headingIn_3 fl_X7_33) <| pm_sc (sm_iconst dX7_headingIn_6 rfl) <| pm_sc (sm_isub dX7_headingIn_7) <| pm_sc (sm_cs dX7_headingIn_8 mt_X8_isIn mw_347 ls_X7_86) <| pm_sc (sm_if_eq dX7_headingIn_11 rfl) <| pm_sc (sm_aload_n dX7_headingIn_14 rfl) <| pm_sc (sm_gr dX7_headingIn_15 fl_X7_18) <| pm_sc (sm_iload_n dX7_headingIn_18 rfl) <| pm_sc (sm_ia dX7_headingIn_19) <| pm_sc (sm_goto dX7_headingIn_20 rfl) <| pm_sn
  | 1 => pm_sc (sm_iconst dX7_headingIn_23 rfl) <| pm_sc (sm_fall rfl) <| pm_sn
  | 2 => pm_sc (sm_ireturn (pc' := 0) dX7_headingIn_24 rfl) <| pm_sn
  | n + 3 => trivial
theorem ok_X7_headingIn (K : pm_K) (l : Launch) (fb : Bool) (hfb : fb = K.2.2.2.2.2) : pm_MOk K l (pm_pg fb) pm_mt n_X7_headingIn := ⟨by decide +kernel, by decide, pc_X7_headingIn, rfl, sb_X7_headingIn K l fb hfb⟩
def pc_X7_pushesIn (b : Nat) : Nat := ([0, 23, 24] : List Nat).getD b 0
set_option maxRecDepth 20000 in
theorem sb_X7_pushesIn (K : pm_K) (l : Launch) (fb : Bool) (hfb : fb = K.2.2.2.2.2) : ∀ b, pm_SimB K l pm_mt "NeedleLine$Walk" cX7_pushesIn 2 ((.some FieldType.int)) pc_X7_pushesIn (pc_X7_pushesIn b) (P_X7_pushesIn b)
  | 0 => pm_sc (sm_iload_n dX7_pushesIn_0 rfl) <| pm_sc (sm_iconst dX7_pushesIn_1 rfl) <| pm_sc (sm_aload_n dX7_pushesIn_2 rfl) <| pm_sc (sm_gi dX7_pushesIn_3 fl_X7_33) <| pm_sc (sm_iconst dX7_pushesIn_6 rfl) <| pm_sc (sm_isub dX7_pushesIn_7) <| pm_sc (sm_cs dX7_pushesIn_8 mt_X8_isIn mw_347 ls_X7_86) <| pm_sc (sm_if_eq dX7_pushesIn_11 rfl) <| pm_sc (sm_aload_n dX7_pushesIn_14 rfl) <| pm_sc (sm_gr dX7_pushesIn_15 fl_X7_24) <| pm_sc (sm_iload_n dX7_pushesIn_18 rfl) <| pm_sc (sm_ia dX7_pushesIn_19) <| pm_sc (sm_goto dX7_pushesIn_20 rfl) <| pm_sn
  | 1 => pm_sc (sm_iconst dX7_pushesIn_23 rfl) <| pm_sc (sm_fall rfl) <| pm_sn
  | 2 => pm_sc (sm_ireturn (pc' := 0) dX7_pushesIn_24 rfl) <| pm_sn
  | n + 3 => trivial
theorem ok_X7_pushesIn (K : pm_K) (l : Launch) (fb : Bool) (hfb : fb = K.2.2.2.2.2) : pm_MOk K l (pm_pg fb) pm_mt n_X7_pushesIn := ⟨by decide +kernel, by decide, pc_X7_pushesIn, rfl, sb_X7_pushesIn K l fb hfb⟩
def pc_X7_shortensIn (b : Nat) : Nat := ([0, 23, 24] : List Nat).getD b 0
set_option maxRecDepth 20000 in
theorem sb_X7_shortensIn (K : pm_K) (l : Launch) (fb : Bool) (hfb : fb = K.2.2.2.2.2) : ∀ b, pm_SimB K l pm_mt "NeedleLine$Walk" cX7_shortensIn 2 ((.some FieldType.int)) pc_X7_shortensIn (pc_X7_shortensIn b) (P_X7_shortensIn b)
  | 0 => pm_sc (sm_iload_n dX7_shortensIn_0 rfl) <| pm_sc (sm_iconst dX7_shortensIn_1 rfl) <| pm_sc (sm_aload_n dX7_shortensIn_2 rfl) <| pm_sc (sm_gi dX7_shortensIn_3 fl_X7_33) <| pm_sc (sm_iconst dX7_shortensIn_6 rfl) <| pm_sc (sm_isub dX7_shortensIn_7) <| pm_sc (sm_cs dX7_shortensIn_8 mt_X8_isIn mw_347 ls_X7_86) <| pm_sc (sm_if_eq dX7_shortensIn_11 rfl) <| pm_sc (sm_aload_n dX7_shortensIn_14 rfl) <| pm_sc (sm_gr dX7_shortensIn_15 fl_X7_27) <| pm_sc (sm_iload_n dX7_shortensIn_18 rfl) <| pm_sc (sm_ia dX7_shortensIn_19) <| pm_sc (sm_goto dX7_shortensIn_20 rfl) <| pm_sn
  | 1 => pm_sc (sm_iconst dX7_shortensIn_23 rfl) <| pm_sc (sm_fall rfl) <| pm_sn
  | 2 => pm_sc (sm_ireturn (pc' := 0) dX7_shortensIn_24 rfl) <| pm_sn
  | n + 3 => trivial
theorem ok_X7_shortensIn (K : pm_K) (l : Launch) (fb : Bool) (hfb : fb = K.2.2.2.2.2) : pm_MOk K l (pm_pg fb) pm_mt n_X7_shortensIn := ⟨by decide +kernel, by decide, pc_X7_shortensIn, rfl, sb_X7_shortensIn K l fb hfb⟩
def pc_X7_missSide (b : Nat) : Nat := ([0] : List Nat).getD b 0
set_option maxRecDepth 20000 in
theorem sb_X7_missSide (K : pm_K) (l : Launch) (fb : Bool) (hfb : fb = K.2.2.2.2.2) : ∀ b, pm_SimB K l pm_mt "NeedleLine$Walk" cX7_missSide 1 ((.some FieldType.int)) pc_X7_missSide (pc_X7_missSide b) (P_X7_missSide b)
  | 0 => pm_sc (sm_aload_n dX7_missSide_0 rfl) <| pm_sc (sm_gr dX7_missSide_1 fl_X7_9) <| pm_sc (sm_aload_n dX7_missSide_4 rfl) <| pm_sc (sm_gi dX7_missSide_5 fl_X7_33) <| pm_sc (sm_ia dX7_missSide_8) <| pm_sc (sm_aload_n dX7_missSide_9 rfl) <| pm_sc (sm_gi dX7_missSide_10 fl_X7_37) <| pm_sc (sm_isub dX7_missSide_13) <| pm_sc (sm_ireturn (pc' := 0) dX7_missSide_14 rfl) <| pm_sn
  | n + 1 => trivial
theorem ok_X7_missSide (K : pm_K) (l : Launch) (fb : Bool) (hfb : fb = K.2.2.2.2.2) : pm_MOk K l (pm_pg fb) pm_mt n_X7_missSide := ⟨by decide +kernel, by decide, pc_X7_missSide, rfl, sb_X7_missSide K l fb hfb⟩
def pc_X7_missAlong (b : Nat) : Nat := ([0] : List Nat).getD b 0
set_option maxRecDepth 20000 in
theorem sb_X7_missAlong (K : pm_K) (l : Launch) (fb : Bool) (hfb : fb = K.2.2.2.2.2) : ∀ b, pm_SimB K l pm_mt "NeedleLine$Walk" cX7_missAlong 1 ((.some FieldType.int)) pc_X7_missAlong (pc_X7_missAlong b) (P_X7_missAlong b)
  | 0 => pm_sc (sm_aload_n dX7_missAlong_0 rfl) <| pm_sc (sm_gr dX7_missAlong_1 fl_X7_15) <| pm_sc (sm_aload_n dX7_missAlong_4 rfl) <| pm_sc (sm_gi dX7_missAlong_5 fl_X7_33) <| pm_sc (sm_ia dX7_missAlong_8) <| pm_sc (sm_aload_n dX7_missAlong_9 rfl) <| pm_sc (sm_gi dX7_missAlong_10 fl_X7_40) <| pm_sc (sm_isub dX7_missAlong_13) <| pm_sc (sm_ireturn (pc' := 0) dX7_missAlong_14 rfl) <| pm_sn
  | n + 1 => trivial
theorem ok_X7_missAlong (K : pm_K) (l : Launch) (fb : Bool) (hfb : fb = K.2.2.2.2.2) : pm_MOk K l (pm_pg fb) pm_mt n_X7_missAlong := ⟨by decide +kernel, by decide, pc_X7_missAlong, rfl, sb_X7_missAlong K l fb hfb⟩
def pc_X7_wholeMiss (b : Nat) : Nat := ([0] : List Nat).getD b 0
set_option maxRecDepth 20000 in
theorem sb_X7_wholeMiss (K : pm_K) (l : Launch) (fb : Bool) (hfb : fb = K.2.2.2.2.2) : ∀ b, pm_SimB K l pm_mt "NeedleLine$Walk" cX7_wholeMiss 1 ((.some FieldType.int)) pc_X7_wholeMiss (pc_X7_wholeMiss b) (P_X7_wholeMiss b)
  | 0 => pm_sc (sm_aload_n dX7_wholeMiss_0 rfl) <| pm_sc (sm_cv dX7_wholeMiss_1 mt_X7_missSide mw_722 lv_X7_90) <| pm_sc (sm_mabs dX7_wholeMiss_4 mw_751 mw_752 mw_64 mw_753) <| pm_sc (sm_aload_n dX7_wholeMiss_7 rfl) <| pm_sc (sm_cv dX7_wholeMiss_8 mt_X7_missAlong mw_734 lv_X7_99) <| pm_sc (sm_mabs dX7_wholeMiss_11 mw_751 mw_752 mw_64 mw_753) <| pm_sc (sm_iadd dX7_wholeMiss_14) <| pm_sc (sm_ireturn (pc' := 0) dX7_wholeMiss_15 rfl) <| pm_sn
  | n + 1 => trivial
theorem ok_X7_wholeMiss (K : pm_K) (l : Launch) (fb : Bool) (hfb : fb = K.2.2.2.2.2) : pm_MOk K l (pm_pg fb) pm_mt n_X7_wholeMiss := ⟨by decide +kernel, by decide, pc_X7_wholeMiss, rfl, sb_X7_wholeMiss K l fb hfb⟩
def pc_X7_distanceOf (b : Nat) : Nat := ([0] : List Nat).getD b 0
set_option maxRecDepth 20000 in
theorem sb_X7_distanceOf (K : pm_K) (l : Launch) (fb : Bool) (hfb : fb = K.2.2.2.2.2) : ∀ b, pm_SimB K l pm_mt "NeedleLine$Walk" cX7_distanceOf 4 ((.some FieldType.int)) pc_X7_distanceOf (pc_X7_distanceOf b) (P_X7_distanceOf b)
  | 0 => pm_sc (sm_aload_n dX7_distanceOf_0 rfl) <| pm_sc (sm_iload_n dX7_distanceOf_1 rfl) <| pm_sc (sm_cv dX7_distanceOf_2 mt_X7_sideOf mw_714 lv_X7_102) <| pm_sc (sm_iload_n dX7_distanceOf_5 rfl) <| pm_sc (sm_isub dX7_distanceOf_6) <| pm_sc (sm_mabs dX7_distanceOf_7 mw_751 mw_752 mw_64 mw_753) <| pm_sc (sm_aload_n dX7_distanceOf_10 rfl) <| pm_sc (sm_iload_n dX7_distanceOf_11 rfl) <| pm_sc (sm_cv dX7_distanceOf_12 mt_X7_alongOf mw_718 lv_X7_105) <| pm_sc (sm_iload_n dX7_distanceOf_15 rfl) <| pm_sc (sm_isub dX7_distanceOf_16) <| pm_sc (sm_mabs dX7_distanceOf_17 mw_751 mw_752 mw_64 mw_753) <| pm_sc (sm_iadd dX7_distanceOf_20) <| pm_sc (sm_ireturn (pc' := 0) dX7_distanceOf_21 rfl) <| pm_sn
  | n + 1 => trivial
theorem ok_X7_distanceOf (K : pm_K) (l : Launch) (fb : Bool) (hfb : fb = K.2.2.2.2.2) : pm_MOk K l (pm_pg fb) pm_mt n_X7_distanceOf := ⟨by decide +kernel, by decide, pc_X7_distanceOf, rfl, sb_X7_distanceOf K l fb hfb⟩
def pc_X7_offWithChecks (b : Nat) : Nat := ([0, 7, 28, 56] : List Nat).getD b 0
set_option maxRecDepth 20000 in
theorem sb_X7_offWithChecks (K : pm_K) (l : Launch) (fb : Bool) (hfb : fb = K.2.2.2.2.2) : ∀ b, pm_SimB K l pm_mt "NeedleLine$Walk" cX7_offWithChecks 5 ((.some FieldType.int)) pc_X7_offWithChecks (pc_X7_offWithChecks b) (P_X7_offWithChecks b)
  | 0 => pm_sc (sm_iconst dX7_offWithChecks_0 rfl) <| pm_sc (sm_istore_n dX7_offWithChecks_1 rfl) <| pm_sc (sm_iconst dX7_offWithChecks_2 rfl) <| pm_sc (sm_istore_n dX7_offWithChecks_3 rfl) <| pm_sc (sm_iconst dX7_offWithChecks_4 rfl) <| pm_sc (sm_istore dX7_offWithChecks_5) <| pm_sc (sm_fall rfl) <| pm_sn
  | 1 => pm_sc (sm_iload dX7_offWithChecks_7) <| pm_sc (sm_aload_n dX7_offWithChecks_9 rfl) <| pm_sc (sm_gi dX7_offWithChecks_10 fl_X7_33) <| pm_sc (sm_icmp_ge dX7_offWithChecks_13 rfl) <| pm_sc (sm_iload_n dX7_offWithChecks_16 rfl) <| pm_sc (sm_iload dX7_offWithChecks_17) <| pm_sc (sm_iushr dX7_offWithChecks_19) <| pm_sc (sm_iconst dX7_offWithChecks_20 rfl) <| pm_sc (sm_iand dX7_offWithChecks_21) <| pm_sc (sm_iconst dX7_offWithChecks_22 rfl) <| pm_sc (sm_icmp_ne dX7_offWithChecks_23 rfl) <| pm_sc (sm_iconst dX7_offWithChecks_26 rfl) <| pm_sc (sm_istore_n dX7_offWithChecks_27 rfl) <| pm_sc (sm_fall rfl) <| pm_sn
  | 2 => pm_sc (sm_iload_n dX7_offWithChecks_28 rfl) <| pm_sc (sm_aload_n dX7_offWithChecks_29 rfl) <| pm_sc (sm_gr dX7_offWithChecks_30 fl_X7_21) <| pm_sc (sm_iload dX7_offWithChecks_33) <| pm_sc (sm_ia dX7_offWithChecks_35) <| pm_sc (sm_iadd dX7_offWithChecks_36) <| pm_sc (sm_istore_n dX7_offWithChecks_37 rfl) <| pm_sc (sm_iload_n dX7_offWithChecks_38 rfl) <| pm_sc (sm_iload_n dX7_offWithChecks_39 rfl) <| pm_sc (sm_aload_n dX7_offWithChecks_40 rfl) <| pm_sc (sm_gr dX7_offWithChecks_41 fl_X7_30) <| pm_sc (sm_iload dX7_offWithChecks_44) <| pm_sc (sm_ia dX7_offWithChecks_46) <| pm_sc (sm_iadd dX7_offWithChecks_47) <| pm_sc (sm_iadd dX7_offWithChecks_48) <| pm_sc (sm_istore_n dX7_offWithChecks_49 rfl) <| pm_sc (sm_iinc dX7_offWithChecks_50 rfl) <| pm_sc (sm_goto dX7_offWithChecks_53 rfl) <| pm_sn
  | 3 => pm_sc (sm_iload_n dX7_offWithChecks_56 rfl) <| pm_sc (sm_aload_n dX7_offWithChecks_57 rfl) <| pm_sc (sm_gi dX7_offWithChecks_58 fl_X7_37) <| pm_sc (sm_isub dX7_offWithChecks_61) <| pm_sc (sm_mabs dX7_offWithChecks_62 mw_751 mw_752 mw_64 mw_753) <| pm_sc (sm_ireturn (pc' := 0) dX7_offWithChecks_65 rfl) <| pm_sn
  | n + 4 => trivial
theorem ok_X7_offWithChecks (K : pm_K) (l : Launch) (fb : Bool) (hfb : fb = K.2.2.2.2.2) : pm_MOk K l (pm_pg fb) pm_mt n_X7_offWithChecks := ⟨by decide +kernel, by decide, pc_X7_offWithChecks, rfl, sb_X7_offWithChecks K l fb hfb⟩
def pc_X7_bestCheck (b : Nat) : Nat := ([0, 10, 40, 46] : List Nat).getD b 0
set_option maxRecDepth 20000 in
theorem sb_X7_bestCheck (K : pm_K) (l : Launch) (fb : Bool) (hfb : fb = K.2.2.2.2.2) : ∀ b, pm_SimB K l pm_mt "NeedleLine$Walk" cX7_bestCheck 5 ((.some FieldType.int)) pc_X7_bestCheck (pc_X7_bestCheck b) (P_X7_bestCheck b)
  | 0 => pm_sc (sm_iconst dX7_bestCheck_0 rfl) <| pm_sc (sm_istore_n dX7_bestCheck_1 rfl) <| pm_sc (sm_aload_n dX7_bestCheck_2 rfl) <| pm_sc (sm_iload_n dX7_bestCheck_3 rfl) <| pm_sc (sm_cv dX7_bestCheck_4 mt_X7_offWithChecks mw_780 lv_X7_108) <| pm_sc (sm_istore_n dX7_bestCheck_7 rfl) <| pm_sc (sm_iconst dX7_bestCheck_8 rfl) <| pm_sc (sm_istore_n dX7_bestCheck_9 rfl) <| pm_sc (sm_fall rfl) <| pm_sn
  | 1 => pm_sc (sm_iload_n dX7_bestCheck_10 rfl) <| pm_sc (sm_aload_n dX7_bestCheck_11 rfl) <| pm_sc (sm_gi dX7_bestCheck_12 fl_X7_33) <| pm_sc (sm_icmp_ge dX7_bestCheck_15 rfl) <| pm_sc (sm_aload_n dX7_bestCheck_18 rfl) <| pm_sc (sm_iconst dX7_bestCheck_19 rfl) <| pm_sc (sm_iload_n dX7_bestCheck_20 rfl) <| pm_sc (sm_ishl dX7_bestCheck_21) <| pm_sc (sm_cv dX7_bestCheck_22 mt_X7_offWithChecks mw_780 lv_X7_108) <| pm_sc (sm_istore dX7_bestCheck_25) <| pm_sc (sm_iload dX7_bestCheck_27) <| pm_sc (sm_iload_n dX7_bestCheck_29 rfl) <| pm_sc (sm_icmp_ge dX7_bestCheck_30 rfl) <| pm_sc (sm_iconst dX7_bestCheck_33 rfl) <| pm_sc (sm_iload_n dX7_bestCheck_34 rfl) <| pm_sc (sm_ishl dX7_bestCheck_35) <| pm_sc (sm_istore_n dX7_bestCheck_36 rfl) <| pm_sc (sm_iload dX7_bestCheck_37) <| pm_sc (sm_istore_n dX7_bestCheck_39 rfl) <| pm_sc (sm_fall rfl) <| pm_sn
  | 2 => pm_sc (sm_iinc dX7_bestCheck_40 rfl) <| pm_sc (sm_goto dX7_bestCheck_43 rfl) <| pm_sn
  | 3 => pm_sc (sm_iload_n dX7_bestCheck_46 rfl) <| pm_sc (sm_ireturn (pc' := 0) dX7_bestCheck_47 rfl) <| pm_sn
  | n + 4 => trivial
theorem ok_X7_bestCheck (K : pm_K) (l : Launch) (fb : Bool) (hfb : fb = K.2.2.2.2.2) : pm_MOk K l (pm_pg fb) pm_mt n_X7_bestCheck := ⟨by decide +kernel, by decide, pc_X7_bestCheck, rfl, sb_X7_bestCheck K l fb hfb⟩
