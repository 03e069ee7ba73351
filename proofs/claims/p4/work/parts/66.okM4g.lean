theorem kP_SqlReaderModel_prefixed_o {rc : Nat → Int32 → Int32 → Int32 → Int32 → Int32 → Int32 → St → Option (Int32 × St)} {n : Nat} (R : RMn rc n) {B : Int} {x1 : Int32} {x2 : Int32} {x3 : Int32} {x4 : Int32} {u : St} (I : IP u) (h0 : 0 ≤ x2.toInt) (h1 : x2.toInt ≤ 4000) (h2 : x3.toInt ≤ (u.1 1).toInt) (h3 : 0 ≤ x4.toInt) (h4 : x4.toInt ≤ 4000) (h5 : (u.1 4).toInt ≤ B) (h6 : 100000 ≤ B) (h7 : B + 32 * (x3.toInt - x2.toInt) + 16 ≤ 190000) (h8 : B ≤ 189990) (h9 : x2.toInt < x3.toInt) (h10 : x4.toInt ≤ 20) (h11 : (u.1 2).toInt = 0) (h12 : x1.toInt = 2 ∨ x1.toInt = 7) (h13 : 18 * (21 - x4.toInt) - 2 * x1.toInt ≤ (n : Int) + 1) : okM (mM_SqlReaderModel_prefixed_o rc x1 x2 x3 x4 u) (fun r v => IP v ∧ Fr [2, 4, 5, 28] [10, 11, 12, 13, 14, 15, 16, 17, 18, 19, 20] u v ∧ (u.1 2).toInt ≤ (v.1 2).toInt ∧ ((u.1 4).toInt ≤ (v.1 4).toInt ∨ 200 < (v.1 4).toInt) ∧ r.toInt ≤ (v.1 4).toInt - 1 + 300000 * (v.1 2).toInt ∧ (v.1 4).toInt - 1 ≤ r.toInt + 300000 * (v.1 2).toInt ∧ 0 ≤ r.toInt ∧ (v.1 4).toInt ≤ B + 32 * ((x3.toInt - x2.toInt).toNat : Int) + 8 ∧ x2.toInt + 1 ≤ x3.toInt + 300000 * (v.1 2).toInt ∧ (v.1 4).toInt ≤ (u.1 4).toInt + 300000 * (1 - (u.1 2).toInt) ∧ (u.1 4).toInt ≤ (v.1 4).toInt + 300000 * (1 - (u.1 2).toInt)) := by
  have l0 : (0 : Int32).toInt = 0 := by decide
  have l1 : (1 : Int32).toInt = 1 := by decide
  have l2 : (2 : Int32).toInt = 2 := by decide
  have l4 : (4 : Int32).toInt = 4 := by decide
  have l7 : (7 : Int32).toInt = 7 := by decide
  have l8 : (8 : Int32).toInt = 8 := by decide
  have l16 : (16 : Int32).toInt = 16 := by decide
  have l18 : (18 : Int32).toInt = 18 := by decide
  have l20 : (20 : Int32).toInt = 20 := by decide
  have l21 : (21 : Int32).toInt = 21 := by decide
  have l32 : (32 : Int32).toInt = 32 := by decide
  have l200 : (200 : Int32).toInt = 200 := by decide
  have l2003 : (2003 : Int32).toInt = 2003 := by decide
  have l4000 : (4000 : Int32).toInt = 4000 := by decide
  have l100000 : (100000 : Int32).toInt = 100000 := by decide
  have l189990 : (189990 : Int32).toInt = 189990 := by decide
  have l190000 : (190000 : Int32).toInt = 190000 := by decide
  have l300000 : (300000 : Int32).toInt = 300000 := by decide
  rw [mM_SqlReaderModel_prefixed_o]
  refine okM_mono (kP_SqlReaderModel_prefixed_L3 (B := B) R _ I (by have FUe : FU = 100000 := rfl; have B_1 := IP_p I; omega) (by have FUe : FU = 100000 := rfl; have B_2 := IP_p I; omega) (by have FUe : FU = 100000 := rfl; have B_3 := IP_p I; omega) (by have FUe : FU = 100000 := rfl; have B_4 := IP_p I; omega) (by have FUe : FU = 100000 := rfl; have B_5 := IP_p I; omega) (by have FUe : FU = 100000 := rfl; have B_6 := IP_p I; omega) (by have FUe : FU = 100000 := rfl; have B_7 := IP_p I; omega) (by have FUe : FU = 100000 := rfl; have B_8 := IP_p I; omega) (by have FUe : FU = 100000 := rfl; have B_9 := IP_p I; omega) (by have FUe : FU = 100000 := rfl; have B_10 := IP_p I; omega) (by have FUe : FU = 100000 := rfl; have B_11 := IP_p I; omega) (by have FUe : FU = 100000 := rfl; have B_12 := IP_p I; omega) (by have FUe : FU = 100000 := rfl; have B_13 := IP_p I; omega) (by have FUe : FU = 100000 := rfl; have B_14 := IP_p I; omega) (by have FUe : FU = 100000 := rfl; have B_15 := IP_p I; omega) (by have FUe : FU = 100000 := rfl; have B_16 := IP_p I; omega) (by have FUe : FU = 100000 := rfl; have B_17 := IP_p I; omega)) (fun r_19 u_20 z_18 => ?_)
  obtain ⟨I_u_20, G_u_20, p_21, p_22, p_23, p_24, p_25, p_26, p_27, p_28, p_29⟩ := z_18
  have F_u_20 : Fr [2, 4, 5, 28] [10, 11, 12, 13, 14, 15, 16, 17, 18, 19, 20] u u_20 := Fr_tr (Fr_rfl u) G_u_20 rfl rfl
  have g_30 : (u_20.1 1).toInt = (u.1 1).toInt := by rw [G_u_20.1 1 rfl]
  exact ⟨I_u_20, F_u_20, (by have B_31 := IP_p I; have B_32 := IP_p I_u_20; omega), (by have B_33 := IP_p I; have B_34 := IP_p I_u_20; omega), (by have B_35 := IP_p I_u_20; omega), (by have B_36 := IP_p I_u_20; omega), (by omega), (by have B_37 := IP_p I_u_20; omega), (by have B_38 := IP_p I_u_20; omega), (by have B_39 := IP_p I_u_20; have B_40 := IP_p I; omega), (by have B_41 := IP_p I; have B_42 := IP_p I_u_20; omega)⟩
theorem kP_SqlReaderModel_part_o {rc : Nat → Int32 → Int32 → Int32 → Int32 → Int32 → Int32 → St → Option (Int32 × St)} {n : Nat} (R : RMn rc n) {B : Int} {x1 : Int32} {x2 : Int32} {x3 : Int32} {x4 : Int32} {u : St} (I : IP u) (h0 : 0 ≤ x2.toInt) (h1 : x2.toInt ≤ 4000) (h2 : x3.toInt ≤ (u.1 1).toInt) (h3 : 0 ≤ x4.toInt) (h4 : x4.toInt ≤ 4000) (h5 : (u.1 4).toInt ≤ B) (h6 : 100000 ≤ B) (h7 : B + 32 * (x3.toInt - x2.toInt) + 16 ≤ 190000) (h8 : B ≤ 189990) (h9 : 0 ≤ x1.toInt) (h10 : x1.toInt ≤ 8) (h11 : 1 ≤ (n : Int) + 1) (h12 : 21 ≤ x4.toInt ∨ 18 * (21 - x4.toInt) + 1 - 2 * x1.toInt ≤ (n : Int) + 1) (h13 : -1 ≤ x3.toInt) : okM (mM_SqlReaderModel_part_o rc x1 x2 x3 x4 u) (fun r v => IP v ∧ Fr [2, 4, 5, 28] [10, 11, 12, 13, 14, 15, 16, 17, 18, 19, 20] u v ∧ (u.1 2).toInt ≤ (v.1 2).toInt ∧ ((u.1 4).toInt ≤ (v.1 4).toInt ∨ 200 < (v.1 4).toInt) ∧ r.toInt ≤ (v.1 4).toInt - 1 + 300000 * (v.1 2).toInt ∧ (v.1 4).toInt - 1 ≤ r.toInt + 300000 * (v.1 2).toInt ∧ 0 ≤ r.toInt ∧ (v.1 4).toInt ≤ B + 32 * ((x3.toInt - x2.toInt).toNat : Int) + 8 ∧ x2.toInt + 1 ≤ x3.toInt + 300000 * (v.1 2).toInt ∧ (v.1 4).toInt ≤ (u.1 4).toInt + 300000 * (1 - (u.1 2).toInt) ∧ (u.1 4).toInt ≤ (v.1 4).toInt + 300000 * (1 - (u.1 2).toInt)) := by
  have l0 : (0 : Int32).toInt = 0 := by decide
  have l1 : (1 : Int32).toInt = 1 := by decide
  have l2 : (2 : Int32).toInt = 2 := by decide
  have l3 : (3 : Int32).toInt = 3 := by decide
  have l4 : (4 : Int32).toInt = 4 := by decide
  have l6 : (6 : Int32).toInt = 6 := by decide
  have l7 : (7 : Int32).toInt = 7 := by decide
  have l8 : (8 : Int32).toInt = 8 := by decide
  have l16 : (16 : Int32).toInt = 16 := by decide
  have l18 : (18 : Int32).toInt = 18 := by decide
  have l20 : (20 : Int32).toInt = 20 := by decide
  have l21 : (21 : Int32).toInt = 21 := by decide
  have l32 : (32 : Int32).toInt = 32 := by decide
  have l200 : (200 : Int32).toInt = 200 := by decide
  have l4000 : (4000 : Int32).toInt = 4000 := by decide
  have l100000 : (100000 : Int32).toInt = 100000 := by decide
  have l189990 : (189990 : Int32).toInt = 189990 := by decide
  have l190000 : (190000 : Int32).toInt = 190000 := by decide
  have l300000 : (300000 : Int32).toInt = 300000 := by decide
  rw [mM_SqlReaderModel_part_o]
  refine okM_eq (fun c_1 c_1' => ?_) (fun c_1 => ?_)
  · refine okM_le (fun c_2 => ?_) (fun c_2 => ?_)
    · refine okM_seq (fun u_4 h_3 => ?_)
      have I_u_4 : IP u_4 := by rw [h_3]; exact IP_bad I (by have B_5 := IP_b I; omega) (by have B_6 := IP_b I; omega) (by have B_7 := IP_b I; omega)
      have F_u_4 : Fr [2, 4, 5, 28] [10, 11, 12, 13, 14, 15, 16, 17, 18, 19, 20] u u_4 := by rw [h_3]; exact Fr_ss (Fr_rfl u) rfl rfl
      have g_8 : (u_4.1 2).toInt = (1 : Int32).toInt := by rw [h_3]; rfl
      have g_9 : (u_4.1 1).toInt = (u.1 1).toInt := by rw [h_3]; rfl
      have g_10 : (u_4.1 4).toInt = (u.1 4).toInt := by rw [h_3]; rfl
      exact okM_some ⟨I_u_4, F_u_4, (by have B_11 := IP_p I; have B_12 := IP_p I_u_4; omega), (by have B_13 := IP_p I; have B_14 := IP_p I_u_4; omega), (by have B_15 := IP_p I_u_4; omega), (by have B_16 := IP_p I_u_4; omega), (by omega), (by have B_17 := IP_p I_u_4; omega), (by have B_18 := IP_p I_u_4; omega), (by have B_19 := IP_p I_u_4; have B_20 := IP_p I; omega), (by have B_21 := IP_p I; have B_22 := IP_p I_u_4; omega)⟩
    · refine okM_le (fun c_23 => ?_) (fun c_23 => ?_)
      · refine okM_eq (fun c_24 c_24' => ?_) (fun c_24 => ?_)
        · refine okM_bM (R.2.2.2.2.1 (B := B) I (by have B_26 := IP_p I; omega) (by have B_27 := IP_p I; omega) (by have B_28 := IP_p I; omega) (by have B_29 := IP_p I; omega) (by have B_30 := IP_p I; omega) (by have B_31 := IP_p I; omega) (by have B_32 := IP_p I; omega) (by have B_33 := IP_p I; omega) (by have B_34 := IP_p I; omega) (by have B_35 := IP_p I; omega) (by have B_36 := IP_p I; omega) (by have B_37 := IP_p I; omega) (by have B_38 := IP_p I; omega) (by have B_39 := IP_p I; omega)) (fun r_40 u_41 z_25 => ?_)
          obtain ⟨I_u_41, G_u_41, p_42, p_43, p_44, p_45, p_46, p_47, p_48, p_49, p_50⟩ := z_25
          have F_u_41 : Fr [2, 4, 5, 28] [10, 11, 12, 13, 14, 15, 16, 17, 18, 19, 20] u u_41 := Fr_tr (Fr_rfl u) G_u_41 rfl rfl
          have g_51 : (u_41.1 1).toInt = (u.1 1).toInt := by rw [G_u_41.1 1 rfl]
          exact okM_some ⟨I_u_41, F_u_41, (by have B_52 := IP_p I; have B_53 := IP_p I_u_41; omega), (by have B_54 := IP_p I; have B_55 := IP_p I_u_41; omega), (by have B_56 := IP_p I_u_41; omega), (by have B_57 := IP_p I_u_41; omega), (by omega), (by have B_58 := IP_p I_u_41; omega), (by have B_59 := IP_p I_u_41; omega), (by have B_60 := IP_p I_u_41; have B_61 := IP_p I; omega), (by have B_62 := IP_p I; have B_63 := IP_p I_u_41; omega)⟩
        · refine okM_eq (fun c_64 c_64' => ?_) (fun c_64 => ?_)
          · refine okM_bM (R.2.2.2.2.1 (B := B) I (by have B_66 := IP_p I; omega) (by have B_67 := IP_p I; omega) (by have B_68 := IP_p I; omega) (by have B_69 := IP_p I; omega) (by have B_70 := IP_p I; omega) (by have B_71 := IP_p I; omega) (by have B_72 := IP_p I; omega) (by have B_73 := IP_p I; omega) (by have B_74 := IP_p I; omega) (by have B_75 := IP_p I; omega) (by have B_76 := IP_p I; omega) (by have B_77 := IP_p I; omega) (by have B_78 := IP_p I; omega) (by have B_79 := IP_p I; omega)) (fun r_80 u_81 z_65 => ?_)
            obtain ⟨I_u_81, G_u_81, p_82, p_83, p_84, p_85, p_86, p_87, p_88, p_89, p_90⟩ := z_65
            have F_u_81 : Fr [2, 4, 5, 28] [10, 11, 12, 13, 14, 15, 16, 17, 18, 19, 20] u u_81 := Fr_tr (Fr_rfl u) G_u_81 rfl rfl
            have g_91 : (u_81.1 1).toInt = (u.1 1).toInt := by rw [G_u_81.1 1 rfl]
            exact okM_some ⟨I_u_81, F_u_81, (by have B_92 := IP_p I; have B_93 := IP_p I_u_81; omega), (by have B_94 := IP_p I; have B_95 := IP_p I_u_81; omega), (by have B_96 := IP_p I_u_81; omega), (by have B_97 := IP_p I_u_81; omega), (by omega), (by have B_98 := IP_p I_u_81; omega), (by have B_99 := IP_p I_u_81; omega), (by have B_100 := IP_p I_u_81; have B_101 := IP_p I; omega), (by have B_102 := IP_p I; have B_103 := IP_p I_u_81; omega)⟩
          · refine okM_eq (fun c_104 c_104' => ?_) (fun c_104 => ?_)
            · refine okM_bM (R.2.2.2.1 (B := B) I (by have B_106 := IP_p I; omega) (by have B_107 := IP_p I; omega) (by have B_108 := IP_p I; omega) (by have B_109 := IP_p I; omega) (by have B_110 := IP_p I; omega) (by have B_111 := IP_p I; omega) (by have B_112 := IP_p I; omega) (by have B_113 := IP_p I; omega) (by have B_114 := IP_p I; omega) (by have B_115 := IP_p I; omega) (by have B_116 := IP_p I; omega) (by have B_117 := IP_p I; omega) (by have B_118 := IP_p I; omega)) (fun r_119 u_120 z_105 => ?_)
              obtain ⟨I_u_120, G_u_120, p_121, p_122, p_123, p_124, p_125, p_126, p_127, p_128, p_129⟩ := z_105
              have F_u_120 : Fr [2, 4, 5, 28] [10, 11, 12, 13, 14, 15, 16, 17, 18, 19, 20] u u_120 := Fr_tr (Fr_rfl u) G_u_120 rfl rfl
              have g_130 : (u_120.1 1).toInt = (u.1 1).toInt := by rw [G_u_120.1 1 rfl]
              exact okM_some ⟨I_u_120, F_u_120, (by have B_131 := IP_p I; have B_132 := IP_p I_u_120; omega), (by have B_133 := IP_p I; have B_134 := IP_p I_u_120; omega), (by have B_135 := IP_p I_u_120; omega), (by have B_136 := IP_p I_u_120; omega), (by omega), (by have B_137 := IP_p I_u_120; omega), (by have B_138 := IP_p I_u_120; omega), (by have B_139 := IP_p I_u_120; have B_140 := IP_p I; omega), (by have B_141 := IP_p I; have B_142 := IP_p I_u_120; omega)⟩
            · refine okM_eq (fun c_143 c_143' => ?_) (fun c_143 => ?_)
              · refine okM_bM (R.2.1 (B := B) I (by have B_145 := IP_p I; omega) (by have B_146 := IP_p I; omega) (by have B_147 := IP_p I; omega) (by have B_148 := IP_p I; omega) (by have B_149 := IP_p I; omega) (by have B_150 := IP_p I; omega) (by have B_151 := IP_p I; omega) (by have B_152 := IP_p I; omega) (by have B_153 := IP_p I; omega) (by have B_154 := IP_p I; omega) (by have B_155 := IP_p I; omega) (by have B_156 := IP_p I; omega) (by have B_157 := IP_p I; omega)) (fun r_158 u_159 z_144 => ?_)
                obtain ⟨I_u_159, G_u_159, p_160, p_161, p_162, p_163, p_164, p_165, p_166, p_167, p_168⟩ := z_144
                have F_u_159 : Fr [2, 4, 5, 28] [10, 11, 12, 13, 14, 15, 16, 17, 18, 19, 20] u u_159 := Fr_tr (Fr_rfl u) G_u_159 rfl rfl
                have g_169 : (u_159.1 1).toInt = (u.1 1).toInt := by rw [G_u_159.1 1 rfl]
                exact okM_some ⟨I_u_159, F_u_159, (by have B_170 := IP_p I; have B_171 := IP_p I_u_159; omega), (by have B_172 := IP_p I; have B_173 := IP_p I_u_159; omega), (by have B_174 := IP_p I_u_159; omega), (by have B_175 := IP_p I_u_159; omega), (by omega), (by have B_176 := IP_p I_u_159; omega), (by have B_177 := IP_p I_u_159; omega), (by have B_178 := IP_p I_u_159; have B_179 := IP_p I; omega), (by have B_180 := IP_p I; have B_181 := IP_p I_u_159; omega)⟩
              · refine okM_bM (R.1 (B := B) I (by have B_183 := IP_p I; omega) (by have B_184 := IP_p I; omega) (by have B_185 := IP_p I; omega) (by have B_186 := IP_p I; omega) (by have B_187 := IP_p I; omega) (by have B_188 := IP_p I; omega) (by have B_189 := IP_p I; omega) (by have B_190 := IP_p I; omega) (by have B_191 := IP_p I; omega) (by have B_192 := IP_p I; omega) (by have B_193 := IP_p I; omega) (by have B_194 := IP_p I; omega) (by have B_195 := IP_p I; omega) (by have B_196 := IP_p I; omega)) (fun r_197 u_198 z_182 => ?_)
                obtain ⟨I_u_198, G_u_198, p_199, p_200, p_201, p_202, p_203, p_204, p_205, p_206, p_207⟩ := z_182
                have F_u_198 : Fr [2, 4, 5, 28] [10, 11, 12, 13, 14, 15, 16, 17, 18, 19, 20] u u_198 := Fr_tr (Fr_rfl u) G_u_198 rfl rfl
                have g_208 : (u_198.1 1).toInt = (u.1 1).toInt := by rw [G_u_198.1 1 rfl]
                exact okM_some ⟨I_u_198, F_u_198, (by have B_209 := IP_p I; have B_210 := IP_p I_u_198; omega), (by have B_211 := IP_p I; have B_212 := IP_p I_u_198; omega), (by have B_213 := IP_p I_u_198; omega), (by have B_214 := IP_p I_u_198; omega), (by omega), (by have B_215 := IP_p I_u_198; omega), (by have B_216 := IP_p I_u_198; omega), (by have B_217 := IP_p I_u_198; have B_218 := IP_p I; omega), (by have B_219 := IP_p I; have B_220 := IP_p I_u_198; omega)⟩
      · refine okM_seq (fun u_222 h_221 => ?_)
        have I_u_222 : IP u_222 := by rw [h_221]; exact IP_bad I (by have B_223 := IP_b I; omega) (by have B_224 := IP_b I; omega) (by have B_225 := IP_b I; omega)
        have F_u_222 : Fr [2, 4, 5, 28] [10, 11, 12, 13, 14, 15, 16, 17, 18, 19, 20] u u_222 := by rw [h_221]; exact Fr_ss (Fr_rfl u) rfl rfl
        have g_226 : (u_222.1 2).toInt = (1 : Int32).toInt := by rw [h_221]; rfl
        have g_227 : (u_222.1 1).toInt = (u.1 1).toInt := by rw [h_221]; rfl
        have g_228 : (u_222.1 4).toInt = (u.1 4).toInt := by rw [h_221]; rfl
        exact okM_some ⟨I_u_222, F_u_222, (by have B_229 := IP_p I; have B_230 := IP_p I_u_222; omega), (by have B_231 := IP_p I; have B_232 := IP_p I_u_222; omega), (by have B_233 := IP_p I_u_222; omega), (by have B_234 := IP_p I_u_222; omega), (by omega), (by have B_235 := IP_p I_u_222; omega), (by have B_236 := IP_p I_u_222; omega), (by have B_237 := IP_p I_u_222; have B_238 := IP_p I; omega), (by have B_239 := IP_p I; have B_240 := IP_p I_u_222; omega)⟩
  · refine okM_seq (fun u_242 h_241 => ?_)
    have I_u_242 : IP u_242 := by rw [h_241]; exact IP_bad I (by have B_243 := IP_b I; omega) (by have B_244 := IP_b I; omega) (by have B_245 := IP_b I; omega)
    have F_u_242 : Fr [2, 4, 5, 28] [10, 11, 12, 13, 14, 15, 16, 17, 18, 19, 20] u u_242 := by rw [h_241]; exact Fr_ss (Fr_rfl u) rfl rfl
    have g_246 : (u_242.1 2).toInt = (1 : Int32).toInt := by rw [h_241]; rfl
    have g_247 : (u_242.1 1).toInt = (u.1 1).toInt := by rw [h_241]; rfl
    have g_248 : (u_242.1 4).toInt = (u.1 4).toInt := by rw [h_241]; rfl
    exact okM_some ⟨I_u_242, F_u_242, (by have B_249 := IP_p I; have B_250 := IP_p I_u_242; omega), (by have B_251 := IP_p I; have B_252 := IP_p I_u_242; omega), (by have B_253 := IP_p I_u_242; omega), (by have B_254 := IP_p I_u_242; omega), (by omega), (by have B_255 := IP_p I_u_242; omega), (by have B_256 := IP_p I_u_242; omega), (by have B_257 := IP_p I_u_242; have B_258 := IP_p I; omega), (by have B_259 := IP_p I; have B_260 := IP_p I_u_242; omega)⟩
theorem grpM_ok : ∀ n : Nat, RMn (grpM n) n := by
  intro n
  induction n with
  | zero =>
    refine ⟨?_, ?_, ?_, ?_, ?_, ?_⟩
    · intro B a b c d u I h0 h1 h2 h3 h4 h5 h6 h7 h8 h9 h10 h11 h12 h13
      exfalso; omega
    · intro B a b c u I h0 h1 h2 h3 h4 h5 h6 h7 h8 h9 h10 h11 h12
      exfalso; omega
    · intro B a b c d e f u I h0 h1 h2 h3 h4 h5 h6 h7 h8 h9 h10 h11 h12 h13 h14 h15 h16 h17 h18 h19 h20
      exfalso; omega
    · intro B a b c u I h0 h1 h2 h3 h4 h5 h6 h7 h8 h9 h10 h11 h12
      exfalso; omega
    · intro B a b c d u I h0 h1 h2 h3 h4 h5 h6 h7 h8 h9 h10 h11 h12 h13
      exfalso; omega
    · intro B a b c d u I h0 h1 h2 h3 h4 h5 h6 h7 h8 h9 h10 h11 h12 h13
      exfalso; omega
  | succ n R =>
    have c : ((n + 1 : Nat) : Int) = (n : Int) + 1 := by omega
    refine ⟨?_, ?_, ?_, ?_, ?_, ?_⟩
    · intro B a b c d u I h0 h1 h2 h3 h4 h5 h6 h7 h8 h9 h10 h11 h12 h13
      rw [grpM]
      exact okM_mono (kP_SqlReaderModel_chain_o (B := B) R I (by omega) (by omega) (by omega) (by omega) (by omega) (by omega) (by omega) (by omega) (by omega) (by omega) (by omega) (by omega) (by omega) (by omega)) (fun r v hv => ⟨hv.1, Fr_tr (Fr_rfl u) hv.2.1 rfl rfl, hv.2.2⟩)
    · intro B a b c u I h0 h1 h2 h3 h4 h5 h6 h7 h8 h9 h10 h11 h12
      rw [grpM]
      exact okM_mono (kP_SqlReaderModel_primary_o (B := B) R I (by omega) (by omega) (by omega) (by omega) (by omega) (by omega) (by omega) (by omega) (by omega) (by omega) (by omega) (by omega) (by omega)) (fun r v hv => ⟨hv.1, Fr_tr (Fr_rfl u) hv.2.1 rfl rfl, hv.2.2⟩)
    · intro B a b c d e f u I h0 h1 h2 h3 h4 h5 h6 h7 h8 h9 h10 h11 h12 h13 h14 h15 h16 h17 h18 h19 h20
      rw [grpM]
      exact okM_mono (kP_SqlReaderModel_in_o (B := B) R I (by omega) (by omega) (by omega) (by omega) (by omega) (by omega) (by omega) (by omega) (by omega) (by omega) (by omega) (by omega) (by omega) (by omega) (by omega) (by omega) (by omega) (by omega) (by omega) (by omega) (by omega)) (fun r v hv => ⟨hv.1, Fr_tr (Fr_rfl u) hv.2.1 rfl rfl, hv.2.2⟩)
    · intro B a b c u I h0 h1 h2 h3 h4 h5 h6 h7 h8 h9 h10 h11 h12
      rw [grpM]
      exact okM_mono (kP_SqlReaderModel_comparison_o (B := B) R I (by omega) (by omega) (by omega) (by omega) (by omega) (by omega) (by omega) (by omega) (by omega) (by omega) (by omega) (by omega) (by omega)) (fun r v hv => ⟨hv.1, Fr_tr (Fr_rfl u) hv.2.1 rfl rfl, hv.2.2⟩)
    · intro B a b c d u I h0 h1 h2 h3 h4 h5 h6 h7 h8 h9 h10 h11 h12 h13
      rw [grpM]
      exact okM_mono (kP_SqlReaderModel_prefixed_o (B := B) R I (by omega) (by omega) (by omega) (by omega) (by omega) (by omega) (by omega) (by omega) (by omega) (by omega) (by omega) (by omega) (by omega) (by omega)) (fun r v hv => ⟨hv.1, Fr_tr (Fr_rfl u) hv.2.1 rfl rfl, hv.2.2⟩)
    · intro B a b c d u I h0 h1 h2 h3 h4 h5 h6 h7 h8 h9 h10 h11 h12 h13
      rw [grpM]
      exact okM_mono (kP_SqlReaderModel_part_o (B := B) R I (by omega) (by omega) (by omega) (by omega) (by omega) (by omega) (by omega) (by omega) (by omega) (by omega) (by omega) (by omega) (by omega) (by omega)) (fun r v hv => ⟨hv.1, Fr_tr (Fr_rfl u) hv.2.1 rfl rfl, hv.2.2⟩)
