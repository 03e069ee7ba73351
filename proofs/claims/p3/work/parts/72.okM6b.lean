theorem kQ_SqlReaderModel_checkNode {x1 : Int32} {u : St} (I : IQ u) (h0 : 0 ≤ x1.toInt) (h1 : x1.toInt < (u.1 4).toInt) : okM (mM_SqlReaderModel_checkNode x1 u) (fun r v => IQ v ∧ Fr [] [11, 12, 13, 33] u v ∧ 0 ≤ r.toInt ∧ r.toInt ≤ 8) := by
  have l0 : (0 : Int32).toInt = 0 := by decide
  have l1 : (1 : Int32).toInt = 1 := by decide
  have l2 : (2 : Int32).toInt = 2 := by decide
  have l3 : (3 : Int32).toInt = 3 := by decide
  have l4 : (4 : Int32).toInt = 4 := by decide
  have l8 : (8 : Int32).toInt = 8 := by decide
  have l9 : (9 : Int32).toInt = 9 := by decide
  have l10 : (10 : Int32).toInt = 10 := by decide
  have l11 : (11 : Int32).toInt = 11 := by decide
  have l12 : (12 : Int32).toInt = 12 := by decide
  have l16 : (16 : Int32).toInt = 16 := by decide
  have l28 : (28 : Int32).toInt = 28 := by decide
  rw [mM_SqlReaderModel_checkNode]
  have N_x1 := IK_nd (IQ_IK I) x1
  refine okM_gd (inb_of (by have B_1 := IQ_b I; omega) (by have B_2 := IQ_b I; omega)) ?_
  refine okM_seq (fun y_4 h_3 => ?_)
  have h_3' : y_4.toInt = ((ga u 10 x1) : Int32).toInt := by rw [h_3]
  refine okM_gd (inb_of (by have B_5 := IQ_b I; omega) (by have B_6 := IQ_b I; omega)) ?_
  refine okM_seq (fun y_8 h_7 => ?_)
  have h_7' : y_8.toInt = ((ga u 11 x1) : Int32).toInt := by rw [h_7]
  refine okM_gd (inb_of (by have B_9 := IQ_b I; omega) (by have B_10 := IQ_b I; omega)) ?_
  refine okM_seq (fun y_12 h_11 => ?_)
  have h_11' : y_12.toInt = ((ga u 12 x1) : Int32).toInt := by rw [h_11]
  refine okM_eq (fun c_13 c_13' => ?_) (fun c_13 => ?_)
  · refine okM_mono (kQ_SqlReaderModel_checkNode_J96 I (by have FUe : FU = 100000 := rfl; have B_14 := IQ_b I; omega) (by have FUe : FU = 100000 := rfl; have B_15 := IQ_b I; omega) (by have FUe : FU = 100000 := rfl; have B_16 := IQ_b I; omega) (by have FUe : FU = 100000 := rfl; have B_17 := IQ_b I; omega) (by have FUe : FU = 100000 := rfl; have B_18 := IQ_b I; omega) rfl) (fun r_20 u_21 z_19 => ?_)
    obtain ⟨I_u_21, G_u_21, p_22, p_23⟩ := z_19
    have F_u_21 : Fr [] [11, 12, 13, 33] u u_21 := Fr_tr (Fr_rfl u) G_u_21 rfl rfl
    have g_24 : (u_21.1 1).toInt = (u.1 1).toInt := by rw [G_u_21.1 1 rfl]
    have g_25 : (u_21.1 4).toInt = (u.1 4).toInt := by rw [G_u_21.1 4 rfl]
    have g_26 : (u_21.1 9).toInt = (u.1 9).toInt := by rw [G_u_21.1 9 rfl]
    have g_27 : (u_21.1 19).toInt = (u.1 19).toInt := by rw [G_u_21.1 19 rfl]
    exact ⟨I_u_21, F_u_21, (by omega), (by omega)⟩
  · refine okM_le (fun c_28 => ?_) (fun c_28 => ?_)
    · rw [mM_SqlReaderModel_checkNode_J43]
      refine okM_le (fun c_29 => ?_) (fun c_29 => ?_)
      · rw [mM_SqlReaderModel_checkNode_J59]
        refine okM_eq (fun c_30 c_30' => ?_) (fun c_30 => ?_)
        · refine okM_mono (kQ_SqlReaderModel_checkNode_J96 I (by have FUe : FU = 100000 := rfl; have B_31 := IQ_b I; omega) (by have FUe : FU = 100000 := rfl; have B_32 := IQ_b I; omega) (by have FUe : FU = 100000 := rfl; have B_33 := IQ_b I; omega) (by have FUe : FU = 100000 := rfl; have B_34 := IQ_b I; omega) (by have FUe : FU = 100000 := rfl; have B_35 := IQ_b I; omega) rfl) (fun r_37 u_38 z_36 => ?_)
          obtain ⟨I_u_38, G_u_38, p_39, p_40⟩ := z_36
          have F_u_38 : Fr [] [11, 12, 13, 33] u u_38 := Fr_tr (Fr_rfl u) G_u_38 rfl rfl
          have g_41 : (u_38.1 1).toInt = (u.1 1).toInt := by rw [G_u_38.1 1 rfl]
          have g_42 : (u_38.1 4).toInt = (u.1 4).toInt := by rw [G_u_38.1 4 rfl]
          have g_43 : (u_38.1 9).toInt = (u.1 9).toInt := by rw [G_u_38.1 9 rfl]
          have g_44 : (u_38.1 19).toInt = (u.1 19).toInt := by rw [G_u_38.1 19 rfl]
          exact ⟨I_u_38, F_u_38, (by omega), (by omega)⟩
        · refine okM_eq (fun c_45 c_45' => ?_) (fun c_45 => ?_)
          · refine okM_mono (kQ_SqlReaderModel_checkNode_J96 I (by have FUe : FU = 100000 := rfl; have B_46 := IQ_b I; omega) (by have FUe : FU = 100000 := rfl; have B_47 := IQ_b I; omega) (by have FUe : FU = 100000 := rfl; have B_48 := IQ_b I; omega) (by have FUe : FU = 100000 := rfl; have B_49 := IQ_b I; omega) (by have FUe : FU = 100000 := rfl; have B_50 := IQ_b I; omega) rfl) (fun r_52 u_53 z_51 => ?_)
            obtain ⟨I_u_53, G_u_53, p_54, p_55⟩ := z_51
            have F_u_53 : Fr [] [11, 12, 13, 33] u u_53 := Fr_tr (Fr_rfl u) G_u_53 rfl rfl
            have g_56 : (u_53.1 1).toInt = (u.1 1).toInt := by rw [G_u_53.1 1 rfl]
            have g_57 : (u_53.1 4).toInt = (u.1 4).toInt := by rw [G_u_53.1 4 rfl]
            have g_58 : (u_53.1 9).toInt = (u.1 9).toInt := by rw [G_u_53.1 9 rfl]
            have g_59 : (u_53.1 19).toInt = (u.1 19).toInt := by rw [G_u_53.1 19 rfl]
            exact ⟨I_u_53, F_u_53, (by omega), (by omega)⟩
          · refine okM_eq (fun c_60 c_60' => ?_) (fun c_60 => ?_)
            · refine okM_mono (kQ_SqlReaderModel_checkNode_J96 I (by have FUe : FU = 100000 := rfl; have B_61 := IQ_b I; omega) (by have FUe : FU = 100000 := rfl; have B_62 := IQ_b I; omega) (by have FUe : FU = 100000 := rfl; have B_63 := IQ_b I; omega) (by have FUe : FU = 100000 := rfl; have B_64 := IQ_b I; omega) (by have FUe : FU = 100000 := rfl; have B_65 := IQ_b I; omega) rfl) (fun r_67 u_68 z_66 => ?_)
              obtain ⟨I_u_68, G_u_68, p_69, p_70⟩ := z_66
              have F_u_68 : Fr [] [11, 12, 13, 33] u u_68 := Fr_tr (Fr_rfl u) G_u_68 rfl rfl
              have g_71 : (u_68.1 1).toInt = (u.1 1).toInt := by rw [G_u_68.1 1 rfl]
              have g_72 : (u_68.1 4).toInt = (u.1 4).toInt := by rw [G_u_68.1 4 rfl]
              have g_73 : (u_68.1 9).toInt = (u.1 9).toInt := by rw [G_u_68.1 9 rfl]
              have g_74 : (u_68.1 19).toInt = (u.1 19).toInt := by rw [G_u_68.1 19 rfl]
              exact ⟨I_u_68, F_u_68, (by omega), (by omega)⟩
            · refine okM_le (fun c_75 => ?_) (fun c_75 => ?_)
              · refine okM_mono (kQ_SqlReaderModel_checkNode_J96 I (by have FUe : FU = 100000 := rfl; have B_76 := IQ_b I; omega) (by have FUe : FU = 100000 := rfl; have B_77 := IQ_b I; omega) (by have FUe : FU = 100000 := rfl; have B_78 := IQ_b I; omega) (by have FUe : FU = 100000 := rfl; have B_79 := IQ_b I; omega) (by have FUe : FU = 100000 := rfl; have B_80 := IQ_b I; omega) rfl) (fun r_82 u_83 z_81 => ?_)
                obtain ⟨I_u_83, G_u_83, p_84, p_85⟩ := z_81
                have F_u_83 : Fr [] [11, 12, 13, 33] u u_83 := Fr_tr (Fr_rfl u) G_u_83 rfl rfl
                have g_86 : (u_83.1 1).toInt = (u.1 1).toInt := by rw [G_u_83.1 1 rfl]
                have g_87 : (u_83.1 4).toInt = (u.1 4).toInt := by rw [G_u_83.1 4 rfl]
                have g_88 : (u_83.1 9).toInt = (u.1 9).toInt := by rw [G_u_83.1 9 rfl]
                have g_89 : (u_83.1 19).toInt = (u.1 19).toInt := by rw [G_u_83.1 19 rfl]
                exact ⟨I_u_83, F_u_83, (by omega), (by omega)⟩
              · refine okM_le (fun c_90 => ?_) (fun c_90 => ?_)
                · refine okM_mono (kQ_SqlReaderModel_checkNode_J96 I (by have FUe : FU = 100000 := rfl; have B_91 := IQ_b I; omega) (by have FUe : FU = 100000 := rfl; have B_92 := IQ_b I; omega) (by have FUe : FU = 100000 := rfl; have B_93 := IQ_b I; omega) (by have FUe : FU = 100000 := rfl; have B_94 := IQ_b I; omega) (by have FUe : FU = 100000 := rfl; have B_95 := IQ_b I; omega) rfl) (fun r_97 u_98 z_96 => ?_)
                  obtain ⟨I_u_98, G_u_98, p_99, p_100⟩ := z_96
                  have F_u_98 : Fr [] [11, 12, 13, 33] u u_98 := Fr_tr (Fr_rfl u) G_u_98 rfl rfl
                  have g_101 : (u_98.1 1).toInt = (u.1 1).toInt := by rw [G_u_98.1 1 rfl]
                  have g_102 : (u_98.1 4).toInt = (u.1 4).toInt := by rw [G_u_98.1 4 rfl]
                  have g_103 : (u_98.1 9).toInt = (u.1 9).toInt := by rw [G_u_98.1 9 rfl]
                  have g_104 : (u_98.1 19).toInt = (u.1 19).toInt := by rw [G_u_98.1 19 rfl]
                  exact ⟨I_u_98, F_u_98, (by omega), (by omega)⟩
                · refine okM_mono (kQ_SqlReaderModel_checkNode_J96 I (by have FUe : FU = 100000 := rfl; have B_105 := IQ_b I; omega) (by have FUe : FU = 100000 := rfl; have B_106 := IQ_b I; omega) (by have FUe : FU = 100000 := rfl; have B_107 := IQ_b I; omega) (by have FUe : FU = 100000 := rfl; have B_108 := IQ_b I; omega) (by have FUe : FU = 100000 := rfl; have B_109 := IQ_b I; omega) rfl) (fun r_111 u_112 z_110 => ?_)
                  obtain ⟨I_u_112, G_u_112, p_113, p_114⟩ := z_110
                  have F_u_112 : Fr [] [11, 12, 13, 33] u u_112 := Fr_tr (Fr_rfl u) G_u_112 rfl rfl
                  have g_115 : (u_112.1 1).toInt = (u.1 1).toInt := by rw [G_u_112.1 1 rfl]
                  have g_116 : (u_112.1 4).toInt = (u.1 4).toInt := by rw [G_u_112.1 4 rfl]
                  have g_117 : (u_112.1 9).toInt = (u.1 9).toInt := by rw [G_u_112.1 9 rfl]
                  have g_118 : (u_112.1 19).toInt = (u.1 19).toInt := by rw [G_u_112.1 19 rfl]
                  exact ⟨I_u_112, F_u_112, (by omega), (by omega)⟩
      · refine okM_le (fun c_119 => ?_) (fun c_119 => ?_)
        · rw [mM_SqlReaderModel_checkNode_J59]
          refine okM_eq (fun c_120 c_120' => ?_) (fun c_120 => ?_)
          · refine okM_mono (kQ_SqlReaderModel_checkNode_J96 I (by have FUe : FU = 100000 := rfl; have B_121 := IQ_b I; omega) (by have FUe : FU = 100000 := rfl; have B_122 := IQ_b I; omega) (by have FUe : FU = 100000 := rfl; have B_123 := IQ_b I; omega) (by have FUe : FU = 100000 := rfl; have B_124 := IQ_b I; omega) (by have FUe : FU = 100000 := rfl; have B_125 := IQ_b I; omega) rfl) (fun r_127 u_128 z_126 => ?_)
            obtain ⟨I_u_128, G_u_128, p_129, p_130⟩ := z_126
            have F_u_128 : Fr [] [11, 12, 13, 33] u u_128 := Fr_tr (Fr_rfl u) G_u_128 rfl rfl
            have g_131 : (u_128.1 1).toInt = (u.1 1).toInt := by rw [G_u_128.1 1 rfl]
            have g_132 : (u_128.1 4).toInt = (u.1 4).toInt := by rw [G_u_128.1 4 rfl]
            have g_133 : (u_128.1 9).toInt = (u.1 9).toInt := by rw [G_u_128.1 9 rfl]
            have g_134 : (u_128.1 19).toInt = (u.1 19).toInt := by rw [G_u_128.1 19 rfl]
            exact ⟨I_u_128, F_u_128, (by omega), (by omega)⟩
          · refine okM_eq (fun c_135 c_135' => ?_) (fun c_135 => ?_)
            · refine okM_mono (kQ_SqlReaderModel_checkNode_J96 I (by have FUe : FU = 100000 := rfl; have B_136 := IQ_b I; omega) (by have FUe : FU = 100000 := rfl; have B_137 := IQ_b I; omega) (by have FUe : FU = 100000 := rfl; have B_138 := IQ_b I; omega) (by have FUe : FU = 100000 := rfl; have B_139 := IQ_b I; omega) (by have FUe : FU = 100000 := rfl; have B_140 := IQ_b I; omega) rfl) (fun r_142 u_143 z_141 => ?_)
              obtain ⟨I_u_143, G_u_143, p_144, p_145⟩ := z_141
              have F_u_143 : Fr [] [11, 12, 13, 33] u u_143 := Fr_tr (Fr_rfl u) G_u_143 rfl rfl
              have g_146 : (u_143.1 1).toInt = (u.1 1).toInt := by rw [G_u_143.1 1 rfl]
              have g_147 : (u_143.1 4).toInt = (u.1 4).toInt := by rw [G_u_143.1 4 rfl]
              have g_148 : (u_143.1 9).toInt = (u.1 9).toInt := by rw [G_u_143.1 9 rfl]
              have g_149 : (u_143.1 19).toInt = (u.1 19).toInt := by rw [G_u_143.1 19 rfl]
              exact ⟨I_u_143, F_u_143, (by omega), (by omega)⟩
            · refine okM_eq (fun c_150 c_150' => ?_) (fun c_150 => ?_)
              · refine okM_mono (kQ_SqlReaderModel_checkNode_J96 I (by have FUe : FU = 100000 := rfl; have B_151 := IQ_b I; omega) (by have FUe : FU = 100000 := rfl; have B_152 := IQ_b I; omega) (by have FUe : FU = 100000 := rfl; have B_153 := IQ_b I; omega) (by have FUe : FU = 100000 := rfl; have B_154 := IQ_b I; omega) (by have FUe : FU = 100000 := rfl; have B_155 := IQ_b I; omega) rfl) (fun r_157 u_158 z_156 => ?_)
                obtain ⟨I_u_158, G_u_158, p_159, p_160⟩ := z_156
                have F_u_158 : Fr [] [11, 12, 13, 33] u u_158 := Fr_tr (Fr_rfl u) G_u_158 rfl rfl
                have g_161 : (u_158.1 1).toInt = (u.1 1).toInt := by rw [G_u_158.1 1 rfl]
                have g_162 : (u_158.1 4).toInt = (u.1 4).toInt := by rw [G_u_158.1 4 rfl]
                have g_163 : (u_158.1 9).toInt = (u.1 9).toInt := by rw [G_u_158.1 9 rfl]
                have g_164 : (u_158.1 19).toInt = (u.1 19).toInt := by rw [G_u_158.1 19 rfl]
                exact ⟨I_u_158, F_u_158, (by omega), (by omega)⟩
              · refine okM_le (fun c_165 => ?_) (fun c_165 => ?_)
                · refine okM_mono (kQ_SqlReaderModel_checkNode_J96 I (by have FUe : FU = 100000 := rfl; have B_166 := IQ_b I; omega) (by have FUe : FU = 100000 := rfl; have B_167 := IQ_b I; omega) (by have FUe : FU = 100000 := rfl; have B_168 := IQ_b I; omega) (by have FUe : FU = 100000 := rfl; have B_169 := IQ_b I; omega) (by have FUe : FU = 100000 := rfl; have B_170 := IQ_b I; omega) rfl) (fun r_172 u_173 z_171 => ?_)
                  obtain ⟨I_u_173, G_u_173, p_174, p_175⟩ := z_171
                  have F_u_173 : Fr [] [11, 12, 13, 33] u u_173 := Fr_tr (Fr_rfl u) G_u_173 rfl rfl
                  have g_176 : (u_173.1 1).toInt = (u.1 1).toInt := by rw [G_u_173.1 1 rfl]
                  have g_177 : (u_173.1 4).toInt = (u.1 4).toInt := by rw [G_u_173.1 4 rfl]
                  have g_178 : (u_173.1 9).toInt = (u.1 9).toInt := by rw [G_u_173.1 9 rfl]
                  have g_179 : (u_173.1 19).toInt = (u.1 19).toInt := by rw [G_u_173.1 19 rfl]
                  exact ⟨I_u_173, F_u_173, (by omega), (by omega)⟩
                · refine okM_le (fun c_180 => ?_) (fun c_180 => ?_)
                  · refine okM_mono (kQ_SqlReaderModel_checkNode_J96 I (by have FUe : FU = 100000 := rfl; have B_181 := IQ_b I; omega) (by have FUe : FU = 100000 := rfl; have B_182 := IQ_b I; omega) (by have FUe : FU = 100000 := rfl; have B_183 := IQ_b I; omega) (by have FUe : FU = 100000 := rfl; have B_184 := IQ_b I; omega) (by have FUe : FU = 100000 := rfl; have B_185 := IQ_b I; omega) rfl) (fun r_187 u_188 z_186 => ?_)
                    obtain ⟨I_u_188, G_u_188, p_189, p_190⟩ := z_186
                    have F_u_188 : Fr [] [11, 12, 13, 33] u u_188 := Fr_tr (Fr_rfl u) G_u_188 rfl rfl
                    have g_191 : (u_188.1 1).toInt = (u.1 1).toInt := by rw [G_u_188.1 1 rfl]
                    have g_192 : (u_188.1 4).toInt = (u.1 4).toInt := by rw [G_u_188.1 4 rfl]
                    have g_193 : (u_188.1 9).toInt = (u.1 9).toInt := by rw [G_u_188.1 9 rfl]
                    have g_194 : (u_188.1 19).toInt = (u.1 19).toInt := by rw [G_u_188.1 19 rfl]
                    exact ⟨I_u_188, F_u_188, (by omega), (by omega)⟩
                  · refine okM_mono (kQ_SqlReaderModel_checkNode_J96 I (by have FUe : FU = 100000 := rfl; have B_195 := IQ_b I; omega) (by have FUe : FU = 100000 := rfl; have B_196 := IQ_b I; omega) (by have FUe : FU = 100000 := rfl; have B_197 := IQ_b I; omega) (by have FUe : FU = 100000 := rfl; have B_198 := IQ_b I; omega) (by have FUe : FU = 100000 := rfl; have B_199 := IQ_b I; omega) rfl) (fun r_201 u_202 z_200 => ?_)
                    obtain ⟨I_u_202, G_u_202, p_203, p_204⟩ := z_200
                    have F_u_202 : Fr [] [11, 12, 13, 33] u u_202 := Fr_tr (Fr_rfl u) G_u_202 rfl rfl
                    have g_205 : (u_202.1 1).toInt = (u.1 1).toInt := by rw [G_u_202.1 1 rfl]
                    have g_206 : (u_202.1 4).toInt = (u.1 4).toInt := by rw [G_u_202.1 4 rfl]
                    have g_207 : (u_202.1 9).toInt = (u.1 9).toInt := by rw [G_u_202.1 9 rfl]
                    have g_208 : (u_202.1 19).toInt = (u.1 19).toInt := by rw [G_u_202.1 19 rfl]
                    exact ⟨I_u_202, F_u_202, (by omega), (by omega)⟩
        · refine okM_mono (kQ_SqlReaderModel_checkNode_J96 I (by have FUe : FU = 100000 := rfl; have B_209 := IQ_b I; omega) (by have FUe : FU = 100000 := rfl; have B_210 := IQ_b I; omega) (by have FUe : FU = 100000 := rfl; have B_211 := IQ_b I; omega) (by have FUe : FU = 100000 := rfl; have B_212 := IQ_b I; omega) (by have FUe : FU = 100000 := rfl; have B_213 := IQ_b I; omega) rfl) (fun r_215 u_216 z_214 => ?_)
          obtain ⟨I_u_216, G_u_216, p_217, p_218⟩ := z_214
          have F_u_216 : Fr [] [11, 12, 13, 33] u u_216 := Fr_tr (Fr_rfl u) G_u_216 rfl rfl
          have g_219 : (u_216.1 1).toInt = (u.1 1).toInt := by rw [G_u_216.1 1 rfl]
          have g_220 : (u_216.1 4).toInt = (u.1 4).toInt := by rw [G_u_216.1 4 rfl]
          have g_221 : (u_216.1 9).toInt = (u.1 9).toInt := by rw [G_u_216.1 9 rfl]
          have g_222 : (u_216.1 19).toInt = (u.1 19).toInt := by rw [G_u_216.1 19 rfl]
          exact ⟨I_u_216, F_u_216, (by omega), (by omega)⟩
    · refine okM_lt (fun c_223 => ?_) (fun c_223 => ?_)
      · refine okM_mono (kQ_SqlReaderModel_checkNode_J96 I (by have FUe : FU = 100000 := rfl; have B_224 := IQ_b I; omega) (by have FUe : FU = 100000 := rfl; have B_225 := IQ_b I; omega) (by have FUe : FU = 100000 := rfl; have B_226 := IQ_b I; omega) (by have FUe : FU = 100000 := rfl; have B_227 := IQ_b I; omega) (by have FUe : FU = 100000 := rfl; have B_228 := IQ_b I; omega) rfl) (fun r_230 u_231 z_229 => ?_)
        obtain ⟨I_u_231, G_u_231, p_232, p_233⟩ := z_229
        have F_u_231 : Fr [] [11, 12, 13, 33] u u_231 := Fr_tr (Fr_rfl u) G_u_231 rfl rfl
        have g_234 : (u_231.1 1).toInt = (u.1 1).toInt := by rw [G_u_231.1 1 rfl]
        have g_235 : (u_231.1 4).toInt = (u.1 4).toInt := by rw [G_u_231.1 4 rfl]
        have g_236 : (u_231.1 9).toInt = (u.1 9).toInt := by rw [G_u_231.1 9 rfl]
        have g_237 : (u_231.1 19).toInt = (u.1 19).toInt := by rw [G_u_231.1 19 rfl]
        exact ⟨I_u_231, F_u_231, (by omega), (by omega)⟩
      · rw [mM_SqlReaderModel_checkNode_J43]
        refine okM_le (fun c_238 => ?_) (fun c_238 => ?_)
        · rw [mM_SqlReaderModel_checkNode_J59]
          refine okM_eq (fun c_239 c_239' => ?_) (fun c_239 => ?_)
          · refine okM_mono (kQ_SqlReaderModel_checkNode_J96 I (by have FUe : FU = 100000 := rfl; have B_240 := IQ_b I; omega) (by have FUe : FU = 100000 := rfl; have B_241 := IQ_b I; omega) (by have FUe : FU = 100000 := rfl; have B_242 := IQ_b I; omega) (by have FUe : FU = 100000 := rfl; have B_243 := IQ_b I; omega) (by have FUe : FU = 100000 := rfl; have B_244 := IQ_b I; omega) rfl) (fun r_246 u_247 z_245 => ?_)
            obtain ⟨I_u_247, G_u_247, p_248, p_249⟩ := z_245
            have F_u_247 : Fr [] [11, 12, 13, 33] u u_247 := Fr_tr (Fr_rfl u) G_u_247 rfl rfl
            have g_250 : (u_247.1 1).toInt = (u.1 1).toInt := by rw [G_u_247.1 1 rfl]
            have g_251 : (u_247.1 4).toInt = (u.1 4).toInt := by rw [G_u_247.1 4 rfl]
            have g_252 : (u_247.1 9).toInt = (u.1 9).toInt := by rw [G_u_247.1 9 rfl]
            have g_253 : (u_247.1 19).toInt = (u.1 19).toInt := by rw [G_u_247.1 19 rfl]
            exact ⟨I_u_247, F_u_247, (by omega), (by omega)⟩
          · refine okM_eq (fun c_254 c_254' => ?_) (fun c_254 => ?_)
            · refine okM_mono (kQ_SqlReaderModel_checkNode_J96 I (by have FUe : FU = 100000 := rfl; have B_255 := IQ_b I; omega) (by have FUe : FU = 100000 := rfl; have B_256 := IQ_b I; omega) (by have FUe : FU = 100000 := rfl; have B_257 := IQ_b I; omega) (by have FUe : FU = 100000 := rfl; have B_258 := IQ_b I; omega) (by have FUe : FU = 100000 := rfl; have B_259 := IQ_b I; omega) rfl) (fun r_261 u_262 z_260 => ?_)
              obtain ⟨I_u_262, G_u_262, p_263, p_264⟩ := z_260
              have F_u_262 : Fr [] [11, 12, 13, 33] u u_262 := Fr_tr (Fr_rfl u) G_u_262 rfl rfl
              have g_265 : (u_262.1 1).toInt = (u.1 1).toInt := by rw [G_u_262.1 1 rfl]
              have g_266 : (u_262.1 4).toInt = (u.1 4).toInt := by rw [G_u_262.1 4 rfl]
              have g_267 : (u_262.1 9).toInt = (u.1 9).toInt := by rw [G_u_262.1 9 rfl]
              have g_268 : (u_262.1 19).toInt = (u.1 19).toInt := by rw [G_u_262.1 19 rfl]
              exact ⟨I_u_262, F_u_262, (by omega), (by omega)⟩
            · refine okM_eq (fun c_269 c_269' => ?_) (fun c_269 => ?_)
              · refine okM_mono (kQ_SqlReaderModel_checkNode_J96 I (by have FUe : FU = 100000 := rfl; have B_270 := IQ_b I; omega) (by have FUe : FU = 100000 := rfl; have B_271 := IQ_b I; omega) (by have FUe : FU = 100000 := rfl; have B_272 := IQ_b I; omega) (by have FUe : FU = 100000 := rfl; have B_273 := IQ_b I; omega) (by have FUe : FU = 100000 := rfl; have B_274 := IQ_b I; omega) rfl) (fun r_276 u_277 z_275 => ?_)
                obtain ⟨I_u_277, G_u_277, p_278, p_279⟩ := z_275
                have F_u_277 : Fr [] [11, 12, 13, 33] u u_277 := Fr_tr (Fr_rfl u) G_u_277 rfl rfl
                have g_280 : (u_277.1 1).toInt = (u.1 1).toInt := by rw [G_u_277.1 1 rfl]
                have g_281 : (u_277.1 4).toInt = (u.1 4).toInt := by rw [G_u_277.1 4 rfl]
                have g_282 : (u_277.1 9).toInt = (u.1 9).toInt := by rw [G_u_277.1 9 rfl]
                have g_283 : (u_277.1 19).toInt = (u.1 19).toInt := by rw [G_u_277.1 19 rfl]
                exact ⟨I_u_277, F_u_277, (by omega), (by omega)⟩
              · refine okM_le (fun c_284 => ?_) (fun c_284 => ?_)
                · refine okM_mono (kQ_SqlReaderModel_checkNode_J96 I (by have FUe : FU = 100000 := rfl; have B_285 := IQ_b I; omega) (by have FUe : FU = 100000 := rfl; have B_286 := IQ_b I; omega) (by have FUe : FU = 100000 := rfl; have B_287 := IQ_b I; omega) (by have FUe : FU = 100000 := rfl; have B_288 := IQ_b I; omega) (by have FUe : FU = 100000 := rfl; have B_289 := IQ_b I; omega) rfl) (fun r_291 u_292 z_290 => ?_)
                  obtain ⟨I_u_292, G_u_292, p_293, p_294⟩ := z_290
                  have F_u_292 : Fr [] [11, 12, 13, 33] u u_292 := Fr_tr (Fr_rfl u) G_u_292 rfl rfl
                  have g_295 : (u_292.1 1).toInt = (u.1 1).toInt := by rw [G_u_292.1 1 rfl]
                  have g_296 : (u_292.1 4).toInt = (u.1 4).toInt := by rw [G_u_292.1 4 rfl]
                  have g_297 : (u_292.1 9).toInt = (u.1 9).toInt := by rw [G_u_292.1 9 rfl]
                  have g_298 : (u_292.1 19).toInt = (u.1 19).toInt := by rw [G_u_292.1 19 rfl]
                  exact ⟨I_u_292, F_u_292, (by omega), (by omega)⟩
                · refine okM_le (fun c_299 => ?_) (fun c_299 => ?_)
                  · refine okM_mono (kQ_SqlReaderModel_checkNode_J96 I (by have FUe : FU = 100000 := rfl; have B_300 := IQ_b I; omega) (by have FUe : FU = 100000 := rfl; have B_301 := IQ_b I; omega) (by have FUe : FU = 100000 := rfl; have B_302 := IQ_b I; omega) (by have FUe : FU = 100000 := rfl; have B_303 := IQ_b I; omega) (by have FUe : FU = 100000 := rfl; have B_304 := IQ_b I; omega) rfl) (fun r_306 u_307 z_305 => ?_)
                    obtain ⟨I_u_307, G_u_307, p_308, p_309⟩ := z_305
                    have F_u_307 : Fr [] [11, 12, 13, 33] u u_307 := Fr_tr (Fr_rfl u) G_u_307 rfl rfl
                    have g_310 : (u_307.1 1).toInt = (u.1 1).toInt := by rw [G_u_307.1 1 rfl]
                    have g_311 : (u_307.1 4).toInt = (u.1 4).toInt := by rw [G_u_307.1 4 rfl]
                    have g_312 : (u_307.1 9).toInt = (u.1 9).toInt := by rw [G_u_307.1 9 rfl]
                    have g_313 : (u_307.1 19).toInt = (u.1 19).toInt := by rw [G_u_307.1 19 rfl]
                    exact ⟨I_u_307, F_u_307, (by omega), (by omega)⟩
                  · refine okM_mono (kQ_SqlReaderModel_checkNode_J96 I (by have FUe : FU = 100000 := rfl; have B_314 := IQ_b I; omega) (by have FUe : FU = 100000 := rfl; have B_315 := IQ_b I; omega) (by have FUe : FU = 100000 := rfl; have B_316 := IQ_b I; omega) (by have FUe : FU = 100000 := rfl; have B_317 := IQ_b I; omega) (by have FUe : FU = 100000 := rfl; have B_318 := IQ_b I; omega) rfl) (fun r_320 u_321 z_319 => ?_)
                    obtain ⟨I_u_321, G_u_321, p_322, p_323⟩ := z_319
                    have F_u_321 : Fr [] [11, 12, 13, 33] u u_321 := Fr_tr (Fr_rfl u) G_u_321 rfl rfl
                    have g_324 : (u_321.1 1).toInt = (u.1 1).toInt := by rw [G_u_321.1 1 rfl]
                    have g_325 : (u_321.1 4).toInt = (u.1 4).toInt := by rw [G_u_321.1 4 rfl]
                    have g_326 : (u_321.1 9).toInt = (u.1 9).toInt := by rw [G_u_321.1 9 rfl]
                    have g_327 : (u_321.1 19).toInt = (u.1 19).toInt := by rw [G_u_321.1 19 rfl]
                    exact ⟨I_u_321, F_u_321, (by omega), (by omega)⟩
        · refine okM_le (fun c_328 => ?_) (fun c_328 => ?_)
          · rw [mM_SqlReaderModel_checkNode_J59]
            refine okM_eq (fun c_329 c_329' => ?_) (fun c_329 => ?_)
            · refine okM_mono (kQ_SqlReaderModel_checkNode_J96 I (by have FUe : FU = 100000 := rfl; have B_330 := IQ_b I; omega) (by have FUe : FU = 100000 := rfl; have B_331 := IQ_b I; omega) (by have FUe : FU = 100000 := rfl; have B_332 := IQ_b I; omega) (by have FUe : FU = 100000 := rfl; have B_333 := IQ_b I; omega) (by have FUe : FU = 100000 := rfl; have B_334 := IQ_b I; omega) rfl) (fun r_336 u_337 z_335 => ?_)
              obtain ⟨I_u_337, G_u_337, p_338, p_339⟩ := z_335
              have F_u_337 : Fr [] [11, 12, 13, 33] u u_337 := Fr_tr (Fr_rfl u) G_u_337 rfl rfl
              have g_340 : (u_337.1 1).toInt = (u.1 1).toInt := by rw [G_u_337.1 1 rfl]
              have g_341 : (u_337.1 4).toInt = (u.1 4).toInt := by rw [G_u_337.1 4 rfl]
              have g_342 : (u_337.1 9).toInt = (u.1 9).toInt := by rw [G_u_337.1 9 rfl]
              have g_343 : (u_337.1 19).toInt = (u.1 19).toInt := by rw [G_u_337.1 19 rfl]
              exact ⟨I_u_337, F_u_337, (by omega), (by omega)⟩
            · refine okM_eq (fun c_344 c_344' => ?_) (fun c_344 => ?_)
              · refine okM_mono (kQ_SqlReaderModel_checkNode_J96 I (by have FUe : FU = 100000 := rfl; have B_345 := IQ_b I; omega) (by have FUe : FU = 100000 := rfl; have B_346 := IQ_b I; omega) (by have FUe : FU = 100000 := rfl; have B_347 := IQ_b I; omega) (by have FUe : FU = 100000 := rfl; have B_348 := IQ_b I; omega) (by have FUe : FU = 100000 := rfl; have B_349 := IQ_b I; omega) rfl) (fun r_351 u_352 z_350 => ?_)
                obtain ⟨I_u_352, G_u_352, p_353, p_354⟩ := z_350
                have F_u_352 : Fr [] [11, 12, 13, 33] u u_352 := Fr_tr (Fr_rfl u) G_u_352 rfl rfl
                have g_355 : (u_352.1 1).toInt = (u.1 1).toInt := by rw [G_u_352.1 1 rfl]
                have g_356 : (u_352.1 4).toInt = (u.1 4).toInt := by rw [G_u_352.1 4 rfl]
                have g_357 : (u_352.1 9).toInt = (u.1 9).toInt := by rw [G_u_352.1 9 rfl]
                have g_358 : (u_352.1 19).toInt = (u.1 19).toInt := by rw [G_u_352.1 19 rfl]
                exact ⟨I_u_352, F_u_352, (by omega), (by omega)⟩
              · refine okM_eq (fun c_359 c_359' => ?_) (fun c_359 => ?_)
                · refine okM_mono (kQ_SqlReaderModel_checkNode_J96 I (by have FUe : FU = 100000 := rfl; have B_360 := IQ_b I; omega) (by have FUe : FU = 100000 := rfl; have B_361 := IQ_b I; omega) (by have FUe : FU = 100000 := rfl; have B_362 := IQ_b I; omega) (by have FUe : FU = 100000 := rfl; have B_363 := IQ_b I; omega) (by have FUe : FU = 100000 := rfl; have B_364 := IQ_b I; omega) rfl) (fun r_366 u_367 z_365 => ?_)
                  obtain ⟨I_u_367, G_u_367, p_368, p_369⟩ := z_365
                  have F_u_367 : Fr [] [11, 12, 13, 33] u u_367 := Fr_tr (Fr_rfl u) G_u_367 rfl rfl
                  have g_370 : (u_367.1 1).toInt = (u.1 1).toInt := by rw [G_u_367.1 1 rfl]
                  have g_371 : (u_367.1 4).toInt = (u.1 4).toInt := by rw [G_u_367.1 4 rfl]
                  have g_372 : (u_367.1 9).toInt = (u.1 9).toInt := by rw [G_u_367.1 9 rfl]
                  have g_373 : (u_367.1 19).toInt = (u.1 19).toInt := by rw [G_u_367.1 19 rfl]
                  exact ⟨I_u_367, F_u_367, (by omega), (by omega)⟩
                · refine okM_le (fun c_374 => ?_) (fun c_374 => ?_)
                  · refine okM_mono (kQ_SqlReaderModel_checkNode_J96 I (by have FUe : FU = 100000 := rfl; have B_375 := IQ_b I; omega) (by have FUe : FU = 100000 := rfl; have B_376 := IQ_b I; omega) (by have FUe : FU = 100000 := rfl; have B_377 := IQ_b I; omega) (by have FUe : FU = 100000 := rfl; have B_378 := IQ_b I; omega) (by have FUe : FU = 100000 := rfl; have B_379 := IQ_b I; omega) rfl) (fun r_381 u_382 z_380 => ?_)
                    obtain ⟨I_u_382, G_u_382, p_383, p_384⟩ := z_380
                    have F_u_382 : Fr [] [11, 12, 13, 33] u u_382 := Fr_tr (Fr_rfl u) G_u_382 rfl rfl
                    have g_385 : (u_382.1 1).toInt = (u.1 1).toInt := by rw [G_u_382.1 1 rfl]
                    have g_386 : (u_382.1 4).toInt = (u.1 4).toInt := by rw [G_u_382.1 4 rfl]
                    have g_387 : (u_382.1 9).toInt = (u.1 9).toInt := by rw [G_u_382.1 9 rfl]
                    have g_388 : (u_382.1 19).toInt = (u.1 19).toInt := by rw [G_u_382.1 19 rfl]
                    exact ⟨I_u_382, F_u_382, (by omega), (by omega)⟩
                  · refine okM_le (fun c_389 => ?_) (fun c_389 => ?_)
                    · refine okM_mono (kQ_SqlReaderModel_checkNode_J96 I (by have FUe : FU = 100000 := rfl; have B_390 := IQ_b I; omega) (by have FUe : FU = 100000 := rfl; have B_391 := IQ_b I; omega) (by have FUe : FU = 100000 := rfl; have B_392 := IQ_b I; omega) (by have FUe : FU = 100000 := rfl; have B_393 := IQ_b I; omega) (by have FUe : FU = 100000 := rfl; have B_394 := IQ_b I; omega) rfl) (fun r_396 u_397 z_395 => ?_)
                      obtain ⟨I_u_397, G_u_397, p_398, p_399⟩ := z_395
                      have F_u_397 : Fr [] [11, 12, 13, 33] u u_397 := Fr_tr (Fr_rfl u) G_u_397 rfl rfl
                      have g_400 : (u_397.1 1).toInt = (u.1 1).toInt := by rw [G_u_397.1 1 rfl]
                      have g_401 : (u_397.1 4).toInt = (u.1 4).toInt := by rw [G_u_397.1 4 rfl]
                      have g_402 : (u_397.1 9).toInt = (u.1 9).toInt := by rw [G_u_397.1 9 rfl]
                      have g_403 : (u_397.1 19).toInt = (u.1 19).toInt := by rw [G_u_397.1 19 rfl]
                      exact ⟨I_u_397, F_u_397, (by omega), (by omega)⟩
                    · refine okM_mono (kQ_SqlReaderModel_checkNode_J96 I (by have FUe : FU = 100000 := rfl; have B_404 := IQ_b I; omega) (by have FUe : FU = 100000 := rfl; have B_405 := IQ_b I; omega) (by have FUe : FU = 100000 := rfl; have B_406 := IQ_b I; omega) (by have FUe : FU = 100000 := rfl; have B_407 := IQ_b I; omega) (by have FUe : FU = 100000 := rfl; have B_408 := IQ_b I; omega) rfl) (fun r_410 u_411 z_409 => ?_)
                      obtain ⟨I_u_411, G_u_411, p_412, p_413⟩ := z_409
                      have F_u_411 : Fr [] [11, 12, 13, 33] u u_411 := Fr_tr (Fr_rfl u) G_u_411 rfl rfl
                      have g_414 : (u_411.1 1).toInt = (u.1 1).toInt := by rw [G_u_411.1 1 rfl]
                      have g_415 : (u_411.1 4).toInt = (u.1 4).toInt := by rw [G_u_411.1 4 rfl]
                      have g_416 : (u_411.1 9).toInt = (u.1 9).toInt := by rw [G_u_411.1 9 rfl]
                      have g_417 : (u_411.1 19).toInt = (u.1 19).toInt := by rw [G_u_411.1 19 rfl]
                      exact ⟨I_u_411, F_u_411, (by omega), (by omega)⟩
          · refine okM_mono (kQ_SqlReaderModel_checkNode_J96 I (by have FUe : FU = 100000 := rfl; have B_418 := IQ_b I; omega) (by have FUe : FU = 100000 := rfl; have B_419 := IQ_b I; omega) (by have FUe : FU = 100000 := rfl; have B_420 := IQ_b I; omega) (by have FUe : FU = 100000 := rfl; have B_421 := IQ_b I; omega) (by have FUe : FU = 100000 := rfl; have B_422 := IQ_b I; omega) rfl) (fun r_424 u_425 z_423 => ?_)
            obtain ⟨I_u_425, G_u_425, p_426, p_427⟩ := z_423
            have F_u_425 : Fr [] [11, 12, 13, 33] u u_425 := Fr_tr (Fr_rfl u) G_u_425 rfl rfl
            have g_428 : (u_425.1 1).toInt = (u.1 1).toInt := by rw [G_u_425.1 1 rfl]
            have g_429 : (u_425.1 4).toInt = (u.1 4).toInt := by rw [G_u_425.1 4 rfl]
            have g_430 : (u_425.1 9).toInt = (u.1 9).toInt := by rw [G_u_425.1 9 rfl]
            have g_431 : (u_425.1 19).toInt = (u.1 19).toInt := by rw [G_u_425.1 19 rfl]
            exact ⟨I_u_425, F_u_425, (by omega), (by omega)⟩
theorem kQ_SqlReaderModel_targetType {x1 : Int32} {u : St} (I : IQ u) (h0 : 0 ≤ (u.1 9).toInt) (h1 : 0 ≤ x1.toInt) : ok (mM_SqlReaderModel_targetType x1 u) (fun r => True) := by
  have l0 : (0 : Int32).toInt = 0 := by decide
  have l6 : (6 : Int32).toInt = 6 := by decide
  have l8 : (8 : Int32).toInt = 8 := by decide
  have l9 : (9 : Int32).toInt = 9 := by decide
  rw [mM_SqlReaderModel_targetType]
  have W := IT_a6 (IQ_IT I) (u.1 9)
  refine ok_gd (inb_of (by have B_1 := IQ_b I; omega) (by have B_2 := IQ_b I; omega)) ?_
  refine ok_le (fun c_3 => ?_) (fun c_3 => ?_)
  · exact ok_some trivial
  · try have e_4 : (8 * (u.1 9) : Int32).toInt = 8 * ((u.1 9) : Int32).toInt := by have B_5 := IQ_b I; exact cmu_i l8 (by omega) (by omega)
    try have e_6 : ((8 * (u.1 9)) + x1 : Int32).toInt = ((8 * (u.1 9)) : Int32).toInt + (x1 : Int32).toInt := by have B_7 := IQ_b I; exact add_i (by omega) (by omega)
    refine ok_gd (inb_of (by have B_8 := IQ_b I; omega) (by have B_9 := IQ_b I; omega)) ?_
    exact ok_some trivial
theorem kQ_SqlReaderModel_checkValue {x1 : Int32} {x2 : Int32} {u : St} (I : IQ u) (h0 : 0 ≤ x1.toInt) (h1 : x1.toInt < (u.1 4).toInt) (h2 : 0 ≤ (u.1 9).toInt) (h3 : 0 ≤ x2.toInt) : okM (mM_SqlReaderModel_checkValue x1 x2 u) (fun r v => IQ v ∧ Fr [] [33] u v ∧ 0 ≤ r.toInt ∧ r.toInt ≤ 8) := by
  have l0 : (0 : Int32).toInt = 0 := by decide
  have l2 : (2 : Int32).toInt = 2 := by decide
  have l4 : (4 : Int32).toInt = 4 := by decide
  have l6 : (6 : Int32).toInt = 6 := by decide
  have l8 : (8 : Int32).toInt = 8 := by decide
  have l9 : (9 : Int32).toInt = 9 := by decide
  rw [mM_SqlReaderModel_checkValue]
  refine okM_gd (inb_of (by have B_1 := IQ_b I; omega) (by have B_2 := IQ_b I; omega)) ?_
  refine okM_lt (fun c_3 => ?_) (fun c_3 => ?_)
  · refine okM_bP (kQ_SqlReaderModel_targetType I (by have FUe : FU = 100000 := rfl; have B_5 := IQ_b I; omega) (by have FUe : FU = 100000 := rfl; have B_6 := IQ_b I; omega)) (fun r_7 z_4 => ?_)
    refine okM_bM (kQ_SqlReaderModel_fits I (by have FUe : FU = 100000 := rfl; have B_9 := IQ_b I; omega) (by have FUe : FU = 100000 := rfl; have B_10 := IQ_b I; omega)) (fun r_11 u_12 z_8 => ?_)
    obtain ⟨I_u_12, G_u_12, p_13, p_14⟩ := z_8
    have F_u_12 : Fr [] [33] u u_12 := Fr_tr (Fr_rfl u) G_u_12 rfl rfl
    have g_15 : (u_12.1 1).toInt = (u.1 1).toInt := by rw [G_u_12.1 1 rfl]
    have g_16 : (u_12.1 4).toInt = (u.1 4).toInt := by rw [G_u_12.1 4 rfl]
    have g_17 : (u_12.1 9).toInt = (u.1 9).toInt := by rw [G_u_12.1 9 rfl]
    have g_18 : (u_12.1 19).toInt = (u.1 19).toInt := by rw [G_u_12.1 19 rfl]
    refine okM_bP (kM_SqlReaderModel_error (IQ_IB I_u_12)) (fun r_20 z_19 => ?_)
    obtain ⟨p_21, p_22⟩ := z_19
    exact okM_some ⟨I_u_12, F_u_12, (by omega), (by omega)⟩
  · refine okM_bP (kQ_SqlReaderModel_gives I (by have FUe : FU = 100000 := rfl; have B_24 := IQ_b I; omega) (by have FUe : FU = 100000 := rfl; have B_25 := IQ_b I; omega)) (fun u_26 z_23 => ?_)
    obtain ⟨I_u_26, G_u_26⟩ := z_23
    have F_u_26 : Fr [] [33] u u_26 := Fr_tr (Fr_rfl u) G_u_26 rfl rfl
    have g_27 : (u_26.1 1).toInt = (u.1 1).toInt := by rw [G_u_26.1 1 rfl]
    have g_28 : (u_26.1 4).toInt = (u.1 4).toInt := by rw [G_u_26.1 4 rfl]
    have g_29 : (u_26.1 9).toInt = (u.1 9).toInt := by rw [G_u_26.1 9 rfl]
    have g_30 : (u_26.1 19).toInt = (u.1 19).toInt := by rw [G_u_26.1 19 rfl]
    exact okM_some ⟨I_u_26, F_u_26, (by omega), (by omega)⟩
theorem kM_SqlReaderModel_deed {u : St} (I : IB u) : ok (mM_SqlReaderModel_deed u) (fun r => r.toInt = (u.1 7).toInt ∨ r.toInt = (u.1 8).toInt) := by
  have l7 : (7 : Int32).toInt = 7 := by decide
  have l8 : (8 : Int32).toInt = 8 := by decide
  have l16 : (16 : Int32).toInt = 16 := by decide
  rw [mM_SqlReaderModel_deed]
  refine ok_eq (fun c_1 c_1' => ?_) (fun c_1 => ?_)
  · exact ok_some (by have B_2 := IB_b I; omega)
  · exact ok_some (by have B_3 := IB_b I; omega)
