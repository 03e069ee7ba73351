set_option maxHeartbeats 20000000 in
theorem kP_SqlReaderModel_primary_o {rc : Nat → Int32 → Int32 → Int32 → Int32 → Int32 → Int32 → St → Option (Int32 × St)} {n : Nat} (R : RMn rc n) {B : Int} {x1 : Int32} {x2 : Int32} {x3 : Int32} {u : St} (I : IP u) (h0 : 0 ≤ x1.toInt) (h1 : x1.toInt ≤ 4000) (h2 : x2.toInt ≤ (u.1 1).toInt) (h3 : 0 ≤ x3.toInt) (h4 : x3.toInt ≤ 4000) (h5 : (u.1 4).toInt ≤ B) (h6 : 100000 ≤ B) (h7 : B + 32 * (x2.toInt - x1.toInt) + 16 ≤ 190000) (h8 : B ≤ 189990) (h9 : x1.toInt < x2.toInt) (h10 : x3.toInt ≤ 20) (h11 : (u.1 2).toInt = 0) (h12 : 18 * (21 - x3.toInt) - 16 ≤ (n : Int) + 1) : okM (mM_SqlReaderModel_primary_o rc x1 x2 x3 u) (fun r v => IP v ∧ Fr [2, 4, 5, 28] [10, 11, 12, 13, 14, 15, 16, 17, 18, 19, 20] u v ∧ (u.1 2).toInt ≤ (v.1 2).toInt ∧ ((u.1 4).toInt ≤ (v.1 4).toInt ∨ 200 < (v.1 4).toInt) ∧ r.toInt ≤ (v.1 4).toInt - 1 + 300000 * (v.1 2).toInt ∧ (v.1 4).toInt - 1 ≤ r.toInt + 300000 * (v.1 2).toInt ∧ 0 ≤ r.toInt ∧ (v.1 4).toInt ≤ B + 32 * ((x2.toInt - x1.toInt).toNat : Int) + 8 ∧ x1.toInt + 1 ≤ x2.toInt + 300000 * (v.1 2).toInt ∧ (v.1 4).toInt ≤ (u.1 4).toInt + 300000 * (1 - (u.1 2).toInt) ∧ (u.1 4).toInt ≤ (v.1 4).toInt + 300000 * (1 - (u.1 2).toInt)) := by
  have l0 : (0 : Int32).toInt = 0 := by decide
  have l1 : (1 : Int32).toInt = 1 := by decide
  have l2 : (2 : Int32).toInt = 2 := by decide
  have l3 : (3 : Int32).toInt = 3 := by decide
  have l4 : (4 : Int32).toInt = 4 := by decide
  have l5 : (5 : Int32).toInt = 5 := by decide
  have l6 : (6 : Int32).toInt = 6 := by decide
  have l8 : (8 : Int32).toInt = 8 := by decide
  have l9 : (9 : Int32).toInt = 9 := by decide
  have l16 : (16 : Int32).toInt = 16 := by decide
  have l18 : (18 : Int32).toInt = 18 := by decide
  have l20 : (20 : Int32).toInt = 20 := by decide
  have l21 : (21 : Int32).toInt = 21 := by decide
  have l32 : (32 : Int32).toInt = 32 := by decide
  have l79 : (79 : Int32).toInt = 79 := by decide
  have l88 : (88 : Int32).toInt = 88 := by decide
  have l106 : (106 : Int32).toInt = 106 := by decide
  have l107 : (107 : Int32).toInt = 107 := by decide
  have l200 : (200 : Int32).toInt = 200 := by decide
  have l2000 : (2000 : Int32).toInt = 2000 := by decide
  have l4000 : (4000 : Int32).toInt = 4000 := by decide
  have l100000 : (100000 : Int32).toInt = 100000 := by decide
  have l189990 : (189990 : Int32).toInt = 189990 := by decide
  have l190000 : (190000 : Int32).toInt = 190000 := by decide
  have l198000 : (198000 : Int32).toInt = 198000 := by decide
  have l300000 : (300000 : Int32).toInt = 300000 := by decide
  rw [mM_SqlReaderModel_primary_o]
  refine okM_bP (kM_SqlReaderModel_gathers (IP_IW I) (by have FUe : FU = 100000 := rfl; have B_2 := IP_p I; omega)) (fun r_3 z_1 => ?_)
  obtain ⟨p_4, p_5, p_6⟩ := z_1
  refine okM_le (fun c_7 => ?_) (fun c_7 => ?_)
  · refine okM_bP (kM_SqlReaderModel_is (IP_IW I) (by decide) (by have FUe : FU = 100000 := rfl; have B_9 := IP_p I; omega)) (fun r_10 z_8 => ?_)
    obtain ⟨p_11, p_12, p_13⟩ := z_8
    refine okM_eq (fun c_14 c_14' => ?_) (fun c_14 => ?_)
    · refine okM_bP (kM_SqlReaderModel_isKind (IP_IB I) (by have FUe : FU = 100000 := rfl; have B_16 := IP_p I; omega)) (fun r_17 z_15 => ?_)
      obtain ⟨p_18, p_19, p_20⟩ := z_15
      refine okM_eq (fun c_21 c_21' => ?_) (fun c_21 => ?_)
      · refine okM_eq (fun c_22 c_22' => ?_) (fun c_22 => ?_)
        · try have e_23 : (x1 + 1 : Int32).toInt = (x1 : Int32).toInt + (1 : Int32).toInt := by have B_24 := IP_p I; exact add_i (by omega) (by omega)
          refine okM_eq (fun c_25 c_25' => ?_) (fun c_25 => ?_)
          · refine okM_seq (fun u_27 h_26 => ?_)
            have I_u_27 : IP u_27 := by rw [h_26]; exact IP_bad I (by have B_28 := IP_b I; omega) (by have B_29 := IP_b I; omega) (by have B_30 := IP_b I; omega)
            have F_u_27 : Fr [2, 4, 5, 28] [10, 11, 12, 13, 14, 15, 16, 17, 18, 19, 20] u u_27 := by rw [h_26]; exact Fr_ss (Fr_rfl u) rfl rfl
            have g_31 : (u_27.1 2).toInt = (0 : Int32).toInt := by rw [h_26]; rfl
            have g_32 : (u_27.1 1).toInt = (u.1 1).toInt := by rw [h_26]; rfl
            have g_33 : (u_27.1 4).toInt = (u.1 4).toInt := by rw [h_26]; rfl
            refine okM_bM (kP_SqlReaderModel_constant I_u_27 (by have FUe : FU = 100000 := rfl; have B_35 := IP_p I_u_27; have B_36 := IP_p I; omega) (by have FUe : FU = 100000 := rfl; have B_37 := IP_p I_u_27; have B_38 := IP_p I; omega) (by have FUe : FU = 100000 := rfl; have B_39 := IP_p I_u_27; have B_40 := IP_p I; omega)) (fun r_41 u_42 z_34 => ?_)
            obtain ⟨I_u_42, G_u_42, p_43, p_44, p_45, p_46⟩ := z_34
            have F_u_42 : Fr [2, 4, 5, 28] [10, 11, 12, 13, 14, 15, 16, 17, 18, 19, 20] u u_42 := Fr_tr F_u_27 G_u_42 rfl rfl
            have g_47 : (u_42.1 1).toInt = (u_27.1 1).toInt := by rw [G_u_42.1 1 rfl]
            exact okM_some ⟨I_u_42, F_u_42, (by have B_48 := IP_p I; have B_49 := IP_p I_u_42; omega), (by have B_50 := IP_p I; have B_51 := IP_p I_u_42; omega), (by have B_52 := IP_p I_u_42; omega), (by have B_53 := IP_p I_u_42; omega), (by omega), (by have B_54 := IP_p I_u_42; omega), (by have B_55 := IP_p I_u_42; omega), (by have B_56 := IP_p I_u_42; have B_57 := IP_p I; omega), (by have B_58 := IP_p I; have B_59 := IP_p I_u_42; omega)⟩
          · refine okM_seq (fun u_61 h_60 => ?_)
            have I_u_61 : IP u_61 := by rw [h_60]; exact IP_bad I (by have B_62 := IP_b I; omega) (by have B_63 := IP_b I; omega) (by have B_64 := IP_b I; omega)
            have F_u_61 : Fr [2, 4, 5, 28] [10, 11, 12, 13, 14, 15, 16, 17, 18, 19, 20] u u_61 := by rw [h_60]; exact Fr_ss (Fr_rfl u) rfl rfl
            have g_65 : (u_61.1 2).toInt = (1 : Int32).toInt := by rw [h_60]; rfl
            have g_66 : (u_61.1 1).toInt = (u.1 1).toInt := by rw [h_60]; rfl
            have g_67 : (u_61.1 4).toInt = (u.1 4).toInt := by rw [h_60]; rfl
            refine okM_bM (kP_SqlReaderModel_constant I_u_61 (by have FUe : FU = 100000 := rfl; have B_69 := IP_p I_u_61; have B_70 := IP_p I; omega) (by have FUe : FU = 100000 := rfl; have B_71 := IP_p I_u_61; have B_72 := IP_p I; omega) (by have FUe : FU = 100000 := rfl; have B_73 := IP_p I_u_61; have B_74 := IP_p I; omega)) (fun r_75 u_76 z_68 => ?_)
            obtain ⟨I_u_76, G_u_76, p_77, p_78, p_79, p_80⟩ := z_68
            have F_u_76 : Fr [2, 4, 5, 28] [10, 11, 12, 13, 14, 15, 16, 17, 18, 19, 20] u u_76 := Fr_tr F_u_61 G_u_76 rfl rfl
            have g_81 : (u_76.1 1).toInt = (u_61.1 1).toInt := by rw [G_u_76.1 1 rfl]
            exact okM_some ⟨I_u_76, F_u_76, (by have B_82 := IP_p I; have B_83 := IP_p I_u_76; omega), (by have B_84 := IP_p I; have B_85 := IP_p I_u_76; omega), (by have B_86 := IP_p I_u_76; omega), (by have B_87 := IP_p I_u_76; omega), (by omega), (by have B_88 := IP_p I_u_76; omega), (by have B_89 := IP_p I_u_76; omega), (by have B_90 := IP_p I_u_76; have B_91 := IP_p I; omega), (by have B_92 := IP_p I; have B_93 := IP_p I_u_76; omega)⟩
        · refine okM_seq (fun u_95 h_94 => ?_)
          have I_u_95 : IP u_95 := by rw [h_94]; exact IP_bad I (by have B_96 := IP_b I; omega) (by have B_97 := IP_b I; omega) (by have B_98 := IP_b I; omega)
          have F_u_95 : Fr [2, 4, 5, 28] [10, 11, 12, 13, 14, 15, 16, 17, 18, 19, 20] u u_95 := by rw [h_94]; exact Fr_ss (Fr_rfl u) rfl rfl
          have g_99 : (u_95.1 2).toInt = (1 : Int32).toInt := by rw [h_94]; rfl
          have g_100 : (u_95.1 1).toInt = (u.1 1).toInt := by rw [h_94]; rfl
          have g_101 : (u_95.1 4).toInt = (u.1 4).toInt := by rw [h_94]; rfl
          refine okM_bM (kP_SqlReaderModel_constant I_u_95 (by have FUe : FU = 100000 := rfl; have B_103 := IP_p I_u_95; have B_104 := IP_p I; omega) (by have FUe : FU = 100000 := rfl; have B_105 := IP_p I_u_95; have B_106 := IP_p I; omega) (by have FUe : FU = 100000 := rfl; have B_107 := IP_p I_u_95; have B_108 := IP_p I; omega)) (fun r_109 u_110 z_102 => ?_)
          obtain ⟨I_u_110, G_u_110, p_111, p_112, p_113, p_114⟩ := z_102
          have F_u_110 : Fr [2, 4, 5, 28] [10, 11, 12, 13, 14, 15, 16, 17, 18, 19, 20] u u_110 := Fr_tr F_u_95 G_u_110 rfl rfl
          have g_115 : (u_110.1 1).toInt = (u_95.1 1).toInt := by rw [G_u_110.1 1 rfl]
          exact okM_some ⟨I_u_110, F_u_110, (by have B_116 := IP_p I; have B_117 := IP_p I_u_110; omega), (by have B_118 := IP_p I; have B_119 := IP_p I_u_110; omega), (by have B_120 := IP_p I_u_110; omega), (by have B_121 := IP_p I_u_110; omega), (by omega), (by have B_122 := IP_p I_u_110; omega), (by have B_123 := IP_p I_u_110; omega), (by have B_124 := IP_p I_u_110; have B_125 := IP_p I; omega), (by have B_126 := IP_p I; have B_127 := IP_p I_u_110; omega)⟩
      · try have e_128 : (x1 + 3 : Int32).toInt = (x1 : Int32).toInt + (3 : Int32).toInt := by have B_129 := IP_p I; exact add_i (by omega) (by omega)
        refine okM_eq (fun c_130 c_130' => ?_) (fun c_130 => ?_)
        · try have e_131 : (x1 + 1 : Int32).toInt = (x1 : Int32).toInt + (1 : Int32).toInt := by have B_132 := IP_p I; exact add_i (by omega) (by omega)
          refine okM_bP (kM_SqlReaderModel_is (IP_IW I) (by decide) (by have FUe : FU = 100000 := rfl; have B_134 := IP_p I; omega)) (fun r_135 z_133 => ?_)
          obtain ⟨p_136, p_137, p_138⟩ := z_133
          refine okM_eq (fun c_139 c_139' => ?_) (fun c_139 => ?_)
          · refine okM_mono (kP_SqlReaderModel_primary_J263 (B := B) I (by have FUe : FU = 100000 := rfl; have B_140 := IP_p I; omega) (by have FUe : FU = 100000 := rfl; have B_141 := IP_p I; omega) (by have FUe : FU = 100000 := rfl; have B_142 := IP_p I; omega) (by have FUe : FU = 100000 := rfl; have B_143 := IP_p I; omega) (by have FUe : FU = 100000 := rfl; have B_144 := IP_p I; omega) (by have FUe : FU = 100000 := rfl; have B_145 := IP_p I; omega) (by have FUe : FU = 100000 := rfl; have B_146 := IP_p I; omega) (by have FUe : FU = 100000 := rfl; have B_147 := IP_p I; omega) (by have FUe : FU = 100000 := rfl; have B_148 := IP_p I; omega)) (fun r_150 u_151 z_149 => ?_)
            obtain ⟨I_u_151, G_u_151, p_152, p_153, p_154, p_155, p_156, p_157, p_158, p_159, p_160⟩ := z_149
            have F_u_151 : Fr [2, 4, 5, 28] [10, 11, 12, 13, 14, 15, 16, 17, 18, 19, 20] u u_151 := Fr_tr (Fr_rfl u) G_u_151 rfl rfl
            have g_161 : (u_151.1 1).toInt = (u.1 1).toInt := by rw [G_u_151.1 1 rfl]
            exact ⟨I_u_151, F_u_151, (by have B_162 := IP_p I; have B_163 := IP_p I_u_151; omega), (by have B_164 := IP_p I; have B_165 := IP_p I_u_151; omega), (by have B_166 := IP_p I_u_151; omega), (by have B_167 := IP_p I_u_151; omega), (by omega), (by have B_168 := IP_p I_u_151; omega), (by have B_169 := IP_p I_u_151; omega), (by have B_170 := IP_p I_u_151; have B_171 := IP_p I; omega), (by have B_172 := IP_p I; have B_173 := IP_p I_u_151; omega)⟩
          · try have e_174 : (x1 + 2 : Int32).toInt = (x1 : Int32).toInt + (2 : Int32).toInt := by have B_175 := IP_p I; exact add_i (by omega) (by omega)
            refine okM_bP (kM_SqlReaderModel_isKind (IP_IB I) (by have FUe : FU = 100000 := rfl; have B_177 := IP_p I; omega)) (fun r_178 z_176 => ?_)
            obtain ⟨p_179, p_180, p_181⟩ := z_176
            refine okM_eq (fun c_182 c_182' => ?_) (fun c_182 => ?_)
            · refine okM_mono (kP_SqlReaderModel_primary_J263 (B := B) I (by have FUe : FU = 100000 := rfl; have B_183 := IP_p I; omega) (by have FUe : FU = 100000 := rfl; have B_184 := IP_p I; omega) (by have FUe : FU = 100000 := rfl; have B_185 := IP_p I; omega) (by have FUe : FU = 100000 := rfl; have B_186 := IP_p I; omega) (by have FUe : FU = 100000 := rfl; have B_187 := IP_p I; omega) (by have FUe : FU = 100000 := rfl; have B_188 := IP_p I; omega) (by have FUe : FU = 100000 := rfl; have B_189 := IP_p I; omega) (by have FUe : FU = 100000 := rfl; have B_190 := IP_p I; omega) (by have FUe : FU = 100000 := rfl; have B_191 := IP_p I; omega)) (fun r_193 u_194 z_192 => ?_)
              obtain ⟨I_u_194, G_u_194, p_195, p_196, p_197, p_198, p_199, p_200, p_201, p_202, p_203⟩ := z_192
              have F_u_194 : Fr [2, 4, 5, 28] [10, 11, 12, 13, 14, 15, 16, 17, 18, 19, 20] u u_194 := Fr_tr (Fr_rfl u) G_u_194 rfl rfl
              have g_204 : (u_194.1 1).toInt = (u.1 1).toInt := by rw [G_u_194.1 1 rfl]
              exact ⟨I_u_194, F_u_194, (by have B_205 := IP_p I; have B_206 := IP_p I_u_194; omega), (by have B_207 := IP_p I; have B_208 := IP_p I_u_194; omega), (by have B_209 := IP_p I_u_194; omega), (by have B_210 := IP_p I_u_194; omega), (by omega), (by have B_211 := IP_p I_u_194; omega), (by have B_212 := IP_p I_u_194; omega), (by have B_213 := IP_p I_u_194; have B_214 := IP_p I; omega), (by have B_215 := IP_p I; have B_216 := IP_p I_u_194; omega)⟩
            · refine okM_mono (kP_SqlReaderModel_primary_J263 (B := B) I (by have FUe : FU = 100000 := rfl; have B_217 := IP_p I; omega) (by have FUe : FU = 100000 := rfl; have B_218 := IP_p I; omega) (by have FUe : FU = 100000 := rfl; have B_219 := IP_p I; omega) (by have FUe : FU = 100000 := rfl; have B_220 := IP_p I; omega) (by have FUe : FU = 100000 := rfl; have B_221 := IP_p I; omega) (by have FUe : FU = 100000 := rfl; have B_222 := IP_p I; omega) (by have FUe : FU = 100000 := rfl; have B_223 := IP_p I; omega) (by have FUe : FU = 100000 := rfl; have B_224 := IP_p I; omega) (by have FUe : FU = 100000 := rfl; have B_225 := IP_p I; omega)) (fun r_227 u_228 z_226 => ?_)
              obtain ⟨I_u_228, G_u_228, p_229, p_230, p_231, p_232, p_233, p_234, p_235, p_236, p_237⟩ := z_226
              have F_u_228 : Fr [2, 4, 5, 28] [10, 11, 12, 13, 14, 15, 16, 17, 18, 19, 20] u u_228 := Fr_tr (Fr_rfl u) G_u_228 rfl rfl
              have g_238 : (u_228.1 1).toInt = (u.1 1).toInt := by rw [G_u_228.1 1 rfl]
              exact ⟨I_u_228, F_u_228, (by have B_239 := IP_p I; have B_240 := IP_p I_u_228; omega), (by have B_241 := IP_p I; have B_242 := IP_p I_u_228; omega), (by have B_243 := IP_p I_u_228; omega), (by have B_244 := IP_p I_u_228; omega), (by omega), (by have B_245 := IP_p I_u_228; omega), (by have B_246 := IP_p I_u_228; omega), (by have B_247 := IP_p I_u_228; have B_248 := IP_p I; omega), (by have B_249 := IP_p I; have B_250 := IP_p I_u_228; omega)⟩
        · refine okM_mono (kP_SqlReaderModel_primary_J263 (B := B) I (by have FUe : FU = 100000 := rfl; have B_251 := IP_p I; omega) (by have FUe : FU = 100000 := rfl; have B_252 := IP_p I; omega) (by have FUe : FU = 100000 := rfl; have B_253 := IP_p I; omega) (by have FUe : FU = 100000 := rfl; have B_254 := IP_p I; omega) (by have FUe : FU = 100000 := rfl; have B_255 := IP_p I; omega) (by have FUe : FU = 100000 := rfl; have B_256 := IP_p I; omega) (by have FUe : FU = 100000 := rfl; have B_257 := IP_p I; omega) (by have FUe : FU = 100000 := rfl; have B_258 := IP_p I; omega) (by have FUe : FU = 100000 := rfl; have B_259 := IP_p I; omega)) (fun r_261 u_262 z_260 => ?_)
          obtain ⟨I_u_262, G_u_262, p_263, p_264, p_265, p_266, p_267, p_268, p_269, p_270, p_271⟩ := z_260
          have F_u_262 : Fr [2, 4, 5, 28] [10, 11, 12, 13, 14, 15, 16, 17, 18, 19, 20] u u_262 := Fr_tr (Fr_rfl u) G_u_262 rfl rfl
          have g_272 : (u_262.1 1).toInt = (u.1 1).toInt := by rw [G_u_262.1 1 rfl]
          exact ⟨I_u_262, F_u_262, (by have B_273 := IP_p I; have B_274 := IP_p I_u_262; omega), (by have B_275 := IP_p I; have B_276 := IP_p I_u_262; omega), (by have B_277 := IP_p I_u_262; omega), (by have B_278 := IP_p I_u_262; omega), (by omega), (by have B_279 := IP_p I_u_262; omega), (by have B_280 := IP_p I_u_262; omega), (by have B_281 := IP_p I_u_262; have B_282 := IP_p I; omega), (by have B_283 := IP_p I; have B_284 := IP_p I_u_262; omega)⟩
    · refine okM_eq (fun c_285 c_285' => ?_) (fun c_285 => ?_)
      · refine okM_bP (kM_SqlReaderModel_closing (IP_IW I) (by have FUe : FU = 100000 := rfl; have B_287 := IP_p I; omega) (by have FUe : FU = 100000 := rfl; have B_288 := IP_p I; omega) (by have FUe : FU = 100000 := rfl; have B_289 := IP_p I; omega)) (fun r_290 z_286 => ?_)
        have p_291 := z_286
        try have e_292 : (x2 - 1 : Int32).toInt = (x2 : Int32).toInt - (1 : Int32).toInt := by have B_293 := IP_p I; exact sub_i (by omega) (by omega)
        refine okM_eq (fun c_294 c_294' => ?_) (fun c_294 => ?_)
        · rw [mM_SqlReaderModel_primary_J200]
          refine okM_gd (by decide) ?_
          refine okM_seq (fun u_296 h_295 => ?_)
          have I_u_296 : IP u_296 := by rw [h_295]; exact IP_bad I (by have B_297 := IP_b I; omega) (by have B_298 := IP_b I; omega) (by have B_299 := IP_b I; omega)
          have F_u_296 : Fr [2, 4, 5, 28] [10, 11, 12, 13, 14, 15, 16, 17, 18, 19, 20] u u_296 := by rw [h_295]; exact Fr_ss (Fr_rfl u) rfl rfl
          have g_300 : (u_296.1 2).toInt = (0 : Int32).toInt := by rw [h_295]; rfl
          have g_301 : (u_296.1 1).toInt = (u.1 1).toInt := by rw [h_295]; rfl
          have g_302 : (u_296.1 4).toInt = (u.1 4).toInt := by rw [h_295]; rfl
          try have e_303 : (x1 + 1 : Int32).toInt = (x1 : Int32).toInt + (1 : Int32).toInt := by have B_304 := IP_p I; exact add_i (by omega) (by omega)
          try have e_305 : (x2 - 1 : Int32).toInt = (x2 : Int32).toInt - (1 : Int32).toInt := by have B_306 := IP_p I; exact sub_i (by omega) (by omega)
          try have e_307 : (x3 + 1 : Int32).toInt = (x3 : Int32).toInt + (1 : Int32).toInt := by have B_308 := IP_p I; exact add_i (by omega) (by omega)
          refine okM_bM (R.2.2.2.2.2 (B := B) I_u_296 (by have B_310 := IP_p I_u_296; omega) (by have B_311 := IP_p I_u_296; omega) (by have B_312 := IP_p I_u_296; omega) (by have B_313 := IP_p I_u_296; omega) (by have B_314 := IP_p I_u_296; omega) (by have B_315 := IP_p I_u_296; omega) (by have B_316 := IP_p I_u_296; omega) (by have B_317 := IP_p I_u_296; omega) (by have B_318 := IP_p I_u_296; omega) (by have B_319 := IP_p I_u_296; omega) (by have B_320 := IP_p I_u_296; omega) (by have B_321 := IP_p I_u_296; omega) (by have B_322 := IP_p I_u_296; omega) (by have B_323 := IP_p I_u_296; omega)) (fun r_324 u_325 z_309 => ?_)
          obtain ⟨I_u_325, G_u_325, p_326, p_327, p_328, p_329, p_330, p_331, p_332, p_333, p_334⟩ := z_309
          have F_u_325 : Fr [2, 4, 5, 28] [10, 11, 12, 13, 14, 15, 16, 17, 18, 19, 20] u u_325 := Fr_tr F_u_296 G_u_325 rfl rfl
          have g_335 : (u_325.1 1).toInt = (u_296.1 1).toInt := by rw [G_u_325.1 1 rfl]
          exact okM_some ⟨I_u_325, F_u_325, (by have B_336 := IP_p I; have B_337 := IP_p I_u_325; omega), (by have B_338 := IP_p I; have B_339 := IP_p I_u_325; omega), (by have B_340 := IP_p I_u_325; omega), (by have B_341 := IP_p I_u_325; omega), (by omega), (by have B_342 := IP_p I_u_325; omega), (by have B_343 := IP_p I_u_325; omega), (by have B_344 := IP_p I_u_325; have B_345 := IP_p I; omega), (by have B_346 := IP_p I; have B_347 := IP_p I_u_325; omega)⟩
        · rw [mM_SqlReaderModel_primary_J200]
          refine okM_gd (by decide) ?_
          refine okM_seq (fun u_349 h_348 => ?_)
          have I_u_349 : IP u_349 := by rw [h_348]; exact IP_bad I (by have B_350 := IP_b I; omega) (by have B_351 := IP_b I; omega) (by have B_352 := IP_b I; omega)
          have F_u_349 : Fr [2, 4, 5, 28] [10, 11, 12, 13, 14, 15, 16, 17, 18, 19, 20] u u_349 := by rw [h_348]; exact Fr_ss (Fr_rfl u) rfl rfl
          have g_353 : (u_349.1 2).toInt = (1 : Int32).toInt := by rw [h_348]; rfl
          have g_354 : (u_349.1 1).toInt = (u.1 1).toInt := by rw [h_348]; rfl
          have g_355 : (u_349.1 4).toInt = (u.1 4).toInt := by rw [h_348]; rfl
          try have e_356 : (x1 + 1 : Int32).toInt = (x1 : Int32).toInt + (1 : Int32).toInt := by have B_357 := IP_p I; exact add_i (by omega) (by omega)
          try have e_358 : (x2 - 1 : Int32).toInt = (x2 : Int32).toInt - (1 : Int32).toInt := by have B_359 := IP_p I; exact sub_i (by omega) (by omega)
          try have e_360 : (x3 + 1 : Int32).toInt = (x3 : Int32).toInt + (1 : Int32).toInt := by have B_361 := IP_p I; exact add_i (by omega) (by omega)
          refine okM_bM (R.2.2.2.2.2 (B := B) I_u_349 (by have B_363 := IP_p I_u_349; omega) (by have B_364 := IP_p I_u_349; omega) (by have B_365 := IP_p I_u_349; omega) (by have B_366 := IP_p I_u_349; omega) (by have B_367 := IP_p I_u_349; omega) (by have B_368 := IP_p I_u_349; omega) (by have B_369 := IP_p I_u_349; omega) (by have B_370 := IP_p I_u_349; omega) (by have B_371 := IP_p I_u_349; omega) (by have B_372 := IP_p I_u_349; omega) (by have B_373 := IP_p I_u_349; omega) (by have B_374 := IP_p I_u_349; omega) (by have B_375 := IP_p I_u_349; omega) (by have B_376 := IP_p I_u_349; omega)) (fun r_377 u_378 z_362 => ?_)
          obtain ⟨I_u_378, G_u_378, p_379, p_380, p_381, p_382, p_383, p_384, p_385, p_386, p_387⟩ := z_362
          have F_u_378 : Fr [2, 4, 5, 28] [10, 11, 12, 13, 14, 15, 16, 17, 18, 19, 20] u u_378 := Fr_tr F_u_349 G_u_378 rfl rfl
          have g_388 : (u_378.1 1).toInt = (u_349.1 1).toInt := by rw [G_u_378.1 1 rfl]
          exact okM_some ⟨I_u_378, F_u_378, (by have B_389 := IP_p I; have B_390 := IP_p I_u_378; omega), (by have B_391 := IP_p I; have B_392 := IP_p I_u_378; omega), (by have B_393 := IP_p I_u_378; omega), (by have B_394 := IP_p I_u_378; omega), (by omega), (by have B_395 := IP_p I_u_378; omega), (by have B_396 := IP_p I_u_378; omega), (by have B_397 := IP_p I_u_378; have B_398 := IP_p I; omega), (by have B_399 := IP_p I; have B_400 := IP_p I_u_378; omega)⟩
      · rw [mM_SqlReaderModel_primary_J200]
        refine okM_gd (by decide) ?_
        refine okM_seq (fun u_402 h_401 => ?_)
        have I_u_402 : IP u_402 := by rw [h_401]; exact IP_bad I (by have B_403 := IP_b I; omega) (by have B_404 := IP_b I; omega) (by have B_405 := IP_b I; omega)
        have F_u_402 : Fr [2, 4, 5, 28] [10, 11, 12, 13, 14, 15, 16, 17, 18, 19, 20] u u_402 := by rw [h_401]; exact Fr_ss (Fr_rfl u) rfl rfl
        have g_406 : (u_402.1 2).toInt = (1 : Int32).toInt := by rw [h_401]; rfl
        have g_407 : (u_402.1 1).toInt = (u.1 1).toInt := by rw [h_401]; rfl
        have g_408 : (u_402.1 4).toInt = (u.1 4).toInt := by rw [h_401]; rfl
        try have e_409 : (x1 + 1 : Int32).toInt = (x1 : Int32).toInt + (1 : Int32).toInt := by have B_410 := IP_p I; exact add_i (by omega) (by omega)
        try have e_411 : (x2 - 1 : Int32).toInt = (x2 : Int32).toInt - (1 : Int32).toInt := by have B_412 := IP_p I; exact sub_i (by omega) (by omega)
        try have e_413 : (x3 + 1 : Int32).toInt = (x3 : Int32).toInt + (1 : Int32).toInt := by have B_414 := IP_p I; exact add_i (by omega) (by omega)
        refine okM_bM (R.2.2.2.2.2 (B := B) I_u_402 (by have B_416 := IP_p I_u_402; omega) (by have B_417 := IP_p I_u_402; omega) (by have B_418 := IP_p I_u_402; omega) (by have B_419 := IP_p I_u_402; omega) (by have B_420 := IP_p I_u_402; omega) (by have B_421 := IP_p I_u_402; omega) (by have B_422 := IP_p I_u_402; omega) (by have B_423 := IP_p I_u_402; omega) (by have B_424 := IP_p I_u_402; omega) (by have B_425 := IP_p I_u_402; omega) (by have B_426 := IP_p I_u_402; omega) (by have B_427 := IP_p I_u_402; omega) (by have B_428 := IP_p I_u_402; omega) (by have B_429 := IP_p I_u_402; omega)) (fun r_430 u_431 z_415 => ?_)
        obtain ⟨I_u_431, G_u_431, p_432, p_433, p_434, p_435, p_436, p_437, p_438, p_439, p_440⟩ := z_415
        have F_u_431 : Fr [2, 4, 5, 28] [10, 11, 12, 13, 14, 15, 16, 17, 18, 19, 20] u u_431 := Fr_tr F_u_402 G_u_431 rfl rfl
        have g_441 : (u_431.1 1).toInt = (u_402.1 1).toInt := by rw [G_u_431.1 1 rfl]
        exact okM_some ⟨I_u_431, F_u_431, (by have B_442 := IP_p I; have B_443 := IP_p I_u_431; omega), (by have B_444 := IP_p I; have B_445 := IP_p I_u_431; omega), (by have B_446 := IP_p I_u_431; omega), (by have B_447 := IP_p I_u_431; omega), (by omega), (by have B_448 := IP_p I_u_431; omega), (by have B_449 := IP_p I_u_431; omega), (by have B_450 := IP_p I_u_431; have B_451 := IP_p I; omega), (by have B_452 := IP_p I; have B_453 := IP_p I_u_431; omega)⟩
  · refine okM_eq (fun c_454 c_454' => ?_) (fun c_454 => ?_)
    · try have e_455 : (x1 + 4 : Int32).toInt = (x1 : Int32).toInt + (4 : Int32).toInt := by have B_456 := IP_p I; exact add_i (by omega) (by omega)
      refine okM_eq (fun c_457 c_457' => ?_) (fun c_457 => ?_)
      · try have e_458 : (x1 + 1 : Int32).toInt = (x1 : Int32).toInt + (1 : Int32).toInt := by have B_459 := IP_p I; exact add_i (by omega) (by omega)
        refine okM_bP (kM_SqlReaderModel_is (IP_IW I) (by decide) (by have FUe : FU = 100000 := rfl; have B_461 := IP_p I; omega)) (fun r_462 z_460 => ?_)
        obtain ⟨p_463, p_464, p_465⟩ := z_460
        refine okM_eq (fun c_466 c_466' => ?_) (fun c_466 => ?_)
        · refine okM_mono (kP_SqlReaderModel_primary_J70 (B := B) R I (by have FUe : FU = 100000 := rfl; have B_467 := IP_p I; omega) (by have FUe : FU = 100000 := rfl; have B_468 := IP_p I; omega) (by have FUe : FU = 100000 := rfl; have B_469 := IP_p I; omega) (by have FUe : FU = 100000 := rfl; have B_470 := IP_p I; omega) (by have FUe : FU = 100000 := rfl; have B_471 := IP_p I; omega) (by have FUe : FU = 100000 := rfl; have B_472 := IP_p I; omega) (by have FUe : FU = 100000 := rfl; have B_473 := IP_p I; omega) (by have FUe : FU = 100000 := rfl; have B_474 := IP_p I; omega) (by have FUe : FU = 100000 := rfl; have B_475 := IP_p I; omega) (by have FUe : FU = 100000 := rfl; have B_476 := IP_p I; omega) (by have FUe : FU = 100000 := rfl; have B_477 := IP_p I; omega) (by have FUe : FU = 100000 := rfl; have B_478 := IP_p I; omega) (by have FUe : FU = 100000 := rfl; have B_479 := IP_p I; omega) (by have FUe : FU = 100000 := rfl; have B_480 := IP_p I; omega) (by have FUe : FU = 100000 := rfl; have B_481 := IP_p I; omega)) (fun r_483 u_484 z_482 => ?_)
          obtain ⟨I_u_484, G_u_484, p_485, p_486, p_487, p_488, p_489, p_490, p_491, p_492, p_493⟩ := z_482
          have F_u_484 : Fr [2, 4, 5, 28] [10, 11, 12, 13, 14, 15, 16, 17, 18, 19, 20] u u_484 := Fr_tr (Fr_rfl u) G_u_484 rfl rfl
          have g_494 : (u_484.1 1).toInt = (u.1 1).toInt := by rw [G_u_484.1 1 rfl]
          exact ⟨I_u_484, F_u_484, (by have B_495 := IP_p I; have B_496 := IP_p I_u_484; omega), (by have B_497 := IP_p I; have B_498 := IP_p I_u_484; omega), (by have B_499 := IP_p I_u_484; omega), (by have B_500 := IP_p I_u_484; omega), (by omega), (by have B_501 := IP_p I_u_484; omega), (by have B_502 := IP_p I_u_484; omega), (by have B_503 := IP_p I_u_484; have B_504 := IP_p I; omega), (by have B_505 := IP_p I; have B_506 := IP_p I_u_484; omega)⟩
        · try have e_507 : (x1 + 2 : Int32).toInt = (x1 : Int32).toInt + (2 : Int32).toInt := by have B_508 := IP_p I; exact add_i (by omega) (by omega)
          refine okM_bP (kM_SqlReaderModel_is (IP_IW I) (by decide) (by have FUe : FU = 100000 := rfl; have B_510 := IP_p I; omega)) (fun r_511 z_509 => ?_)
          obtain ⟨p_512, p_513, p_514⟩ := z_509
          refine okM_eq (fun c_515 c_515' => ?_) (fun c_515 => ?_)
          · refine okM_mono (kP_SqlReaderModel_primary_J70 (B := B) R I (by have FUe : FU = 100000 := rfl; have B_516 := IP_p I; omega) (by have FUe : FU = 100000 := rfl; have B_517 := IP_p I; omega) (by have FUe : FU = 100000 := rfl; have B_518 := IP_p I; omega) (by have FUe : FU = 100000 := rfl; have B_519 := IP_p I; omega) (by have FUe : FU = 100000 := rfl; have B_520 := IP_p I; omega) (by have FUe : FU = 100000 := rfl; have B_521 := IP_p I; omega) (by have FUe : FU = 100000 := rfl; have B_522 := IP_p I; omega) (by have FUe : FU = 100000 := rfl; have B_523 := IP_p I; omega) (by have FUe : FU = 100000 := rfl; have B_524 := IP_p I; omega) (by have FUe : FU = 100000 := rfl; have B_525 := IP_p I; omega) (by have FUe : FU = 100000 := rfl; have B_526 := IP_p I; omega) (by have FUe : FU = 100000 := rfl; have B_527 := IP_p I; omega) (by have FUe : FU = 100000 := rfl; have B_528 := IP_p I; omega) (by have FUe : FU = 100000 := rfl; have B_529 := IP_p I; omega) (by have FUe : FU = 100000 := rfl; have B_530 := IP_p I; omega)) (fun r_532 u_533 z_531 => ?_)
            obtain ⟨I_u_533, G_u_533, p_534, p_535, p_536, p_537, p_538, p_539, p_540, p_541, p_542⟩ := z_531
            have F_u_533 : Fr [2, 4, 5, 28] [10, 11, 12, 13, 14, 15, 16, 17, 18, 19, 20] u u_533 := Fr_tr (Fr_rfl u) G_u_533 rfl rfl
            have g_543 : (u_533.1 1).toInt = (u.1 1).toInt := by rw [G_u_533.1 1 rfl]
            exact ⟨I_u_533, F_u_533, (by have B_544 := IP_p I; have B_545 := IP_p I_u_533; omega), (by have B_546 := IP_p I; have B_547 := IP_p I_u_533; omega), (by have B_548 := IP_p I_u_533; omega), (by have B_549 := IP_p I_u_533; omega), (by omega), (by have B_550 := IP_p I_u_533; omega), (by have B_551 := IP_p I_u_533; omega), (by have B_552 := IP_p I_u_533; have B_553 := IP_p I; omega), (by have B_554 := IP_p I; have B_555 := IP_p I_u_533; omega)⟩
          · try have e_556 : (x1 + 3 : Int32).toInt = (x1 : Int32).toInt + (3 : Int32).toInt := by have B_557 := IP_p I; exact add_i (by omega) (by omega)
            refine okM_bP (kM_SqlReaderModel_is (IP_IW I) (by decide) (by have FUe : FU = 100000 := rfl; have B_559 := IP_p I; omega)) (fun r_560 z_558 => ?_)
            obtain ⟨p_561, p_562, p_563⟩ := z_558
            refine okM_eq (fun c_564 c_564' => ?_) (fun c_564 => ?_)
            · refine okM_mono (kP_SqlReaderModel_primary_J70 (B := B) R I (by have FUe : FU = 100000 := rfl; have B_565 := IP_p I; omega) (by have FUe : FU = 100000 := rfl; have B_566 := IP_p I; omega) (by have FUe : FU = 100000 := rfl; have B_567 := IP_p I; omega) (by have FUe : FU = 100000 := rfl; have B_568 := IP_p I; omega) (by have FUe : FU = 100000 := rfl; have B_569 := IP_p I; omega) (by have FUe : FU = 100000 := rfl; have B_570 := IP_p I; omega) (by have FUe : FU = 100000 := rfl; have B_571 := IP_p I; omega) (by have FUe : FU = 100000 := rfl; have B_572 := IP_p I; omega) (by have FUe : FU = 100000 := rfl; have B_573 := IP_p I; omega) (by have FUe : FU = 100000 := rfl; have B_574 := IP_p I; omega) (by have FUe : FU = 100000 := rfl; have B_575 := IP_p I; omega) (by have FUe : FU = 100000 := rfl; have B_576 := IP_p I; omega) (by have FUe : FU = 100000 := rfl; have B_577 := IP_p I; omega) (by have FUe : FU = 100000 := rfl; have B_578 := IP_p I; omega) (by have FUe : FU = 100000 := rfl; have B_579 := IP_p I; omega)) (fun r_581 u_582 z_580 => ?_)
              obtain ⟨I_u_582, G_u_582, p_583, p_584, p_585, p_586, p_587, p_588, p_589, p_590, p_591⟩ := z_580
              have F_u_582 : Fr [2, 4, 5, 28] [10, 11, 12, 13, 14, 15, 16, 17, 18, 19, 20] u u_582 := Fr_tr (Fr_rfl u) G_u_582 rfl rfl
              have g_592 : (u_582.1 1).toInt = (u.1 1).toInt := by rw [G_u_582.1 1 rfl]
              exact ⟨I_u_582, F_u_582, (by have B_593 := IP_p I; have B_594 := IP_p I_u_582; omega), (by have B_595 := IP_p I; have B_596 := IP_p I_u_582; omega), (by have B_597 := IP_p I_u_582; omega), (by have B_598 := IP_p I_u_582; omega), (by omega), (by have B_599 := IP_p I_u_582; omega), (by have B_600 := IP_p I_u_582; omega), (by have B_601 := IP_p I_u_582; have B_602 := IP_p I; omega), (by have B_603 := IP_p I; have B_604 := IP_p I_u_582; omega)⟩
            · refine okM_mono (kP_SqlReaderModel_primary_J70 (B := B) R I (by have FUe : FU = 100000 := rfl; have B_605 := IP_p I; omega) (by have FUe : FU = 100000 := rfl; have B_606 := IP_p I; omega) (by have FUe : FU = 100000 := rfl; have B_607 := IP_p I; omega) (by have FUe : FU = 100000 := rfl; have B_608 := IP_p I; omega) (by have FUe : FU = 100000 := rfl; have B_609 := IP_p I; omega) (by have FUe : FU = 100000 := rfl; have B_610 := IP_p I; omega) (by have FUe : FU = 100000 := rfl; have B_611 := IP_p I; omega) (by have FUe : FU = 100000 := rfl; have B_612 := IP_p I; omega) (by have FUe : FU = 100000 := rfl; have B_613 := IP_p I; omega) (by have FUe : FU = 100000 := rfl; have B_614 := IP_p I; omega) (by have FUe : FU = 100000 := rfl; have B_615 := IP_p I; omega) (by have FUe : FU = 100000 := rfl; have B_616 := IP_p I; omega) (by have FUe : FU = 100000 := rfl; have B_617 := IP_p I; omega) (by have FUe : FU = 100000 := rfl; have B_618 := IP_p I; omega) (by have FUe : FU = 100000 := rfl; have B_619 := IP_p I; omega)) (fun r_621 u_622 z_620 => ?_)
              obtain ⟨I_u_622, G_u_622, p_623, p_624, p_625, p_626, p_627, p_628, p_629, p_630, p_631⟩ := z_620
              have F_u_622 : Fr [2, 4, 5, 28] [10, 11, 12, 13, 14, 15, 16, 17, 18, 19, 20] u u_622 := Fr_tr (Fr_rfl u) G_u_622 rfl rfl
              have g_632 : (u_622.1 1).toInt = (u.1 1).toInt := by rw [G_u_622.1 1 rfl]
              exact ⟨I_u_622, F_u_622, (by have B_633 := IP_p I; have B_634 := IP_p I_u_622; omega), (by have B_635 := IP_p I; have B_636 := IP_p I_u_622; omega), (by have B_637 := IP_p I_u_622; omega), (by have B_638 := IP_p I_u_622; omega), (by omega), (by have B_639 := IP_p I_u_622; omega), (by have B_640 := IP_p I_u_622; omega), (by have B_641 := IP_p I_u_622; have B_642 := IP_p I; omega), (by have B_643 := IP_p I; have B_644 := IP_p I_u_622; omega)⟩
      · refine okM_mono (kP_SqlReaderModel_primary_J70 (B := B) R I (by have FUe : FU = 100000 := rfl; have B_645 := IP_p I; omega) (by have FUe : FU = 100000 := rfl; have B_646 := IP_p I; omega) (by have FUe : FU = 100000 := rfl; have B_647 := IP_p I; omega) (by have FUe : FU = 100000 := rfl; have B_648 := IP_p I; omega) (by have FUe : FU = 100000 := rfl; have B_649 := IP_p I; omega) (by have FUe : FU = 100000 := rfl; have B_650 := IP_p I; omega) (by have FUe : FU = 100000 := rfl; have B_651 := IP_p I; omega) (by have FUe : FU = 100000 := rfl; have B_652 := IP_p I; omega) (by have FUe : FU = 100000 := rfl; have B_653 := IP_p I; omega) (by have FUe : FU = 100000 := rfl; have B_654 := IP_p I; omega) (by have FUe : FU = 100000 := rfl; have B_655 := IP_p I; omega) (by have FUe : FU = 100000 := rfl; have B_656 := IP_p I; omega) (by have FUe : FU = 100000 := rfl; have B_657 := IP_p I; omega) (by have FUe : FU = 100000 := rfl; have B_658 := IP_p I; omega) (by have FUe : FU = 100000 := rfl; have B_659 := IP_p I; omega)) (fun r_661 u_662 z_660 => ?_)
        obtain ⟨I_u_662, G_u_662, p_663, p_664, p_665, p_666, p_667, p_668, p_669, p_670, p_671⟩ := z_660
        have F_u_662 : Fr [2, 4, 5, 28] [10, 11, 12, 13, 14, 15, 16, 17, 18, 19, 20] u u_662 := Fr_tr (Fr_rfl u) G_u_662 rfl rfl
        have g_672 : (u_662.1 1).toInt = (u.1 1).toInt := by rw [G_u_662.1 1 rfl]
        exact ⟨I_u_662, F_u_662, (by have B_673 := IP_p I; have B_674 := IP_p I_u_662; omega), (by have B_675 := IP_p I; have B_676 := IP_p I_u_662; omega), (by have B_677 := IP_p I_u_662; omega), (by have B_678 := IP_p I_u_662; omega), (by omega), (by have B_679 := IP_p I_u_662; omega), (by have B_680 := IP_p I_u_662; omega), (by have B_681 := IP_p I_u_662; have B_682 := IP_p I; omega), (by have B_683 := IP_p I; have B_684 := IP_p I_u_662; omega)⟩
    · refine okM_mono (kP_SqlReaderModel_primary_J70 (B := B) R I (by have FUe : FU = 100000 := rfl; have B_685 := IP_p I; omega) (by have FUe : FU = 100000 := rfl; have B_686 := IP_p I; omega) (by have FUe : FU = 100000 := rfl; have B_687 := IP_p I; omega) (by have FUe : FU = 100000 := rfl; have B_688 := IP_p I; omega) (by have FUe : FU = 100000 := rfl; have B_689 := IP_p I; omega) (by have FUe : FU = 100000 := rfl; have B_690 := IP_p I; omega) (by have FUe : FU = 100000 := rfl; have B_691 := IP_p I; omega) (by have FUe : FU = 100000 := rfl; have B_692 := IP_p I; omega) (by have FUe : FU = 100000 := rfl; have B_693 := IP_p I; omega) (by have FUe : FU = 100000 := rfl; have B_694 := IP_p I; omega) (by have FUe : FU = 100000 := rfl; have B_695 := IP_p I; omega) (by have FUe : FU = 100000 := rfl; have B_696 := IP_p I; omega) (by have FUe : FU = 100000 := rfl; have B_697 := IP_p I; omega) (by have FUe : FU = 100000 := rfl; have B_698 := IP_p I; omega) (by have FUe : FU = 100000 := rfl; have B_699 := IP_p I; omega)) (fun r_701 u_702 z_700 => ?_)
      obtain ⟨I_u_702, G_u_702, p_703, p_704, p_705, p_706, p_707, p_708, p_709, p_710, p_711⟩ := z_700
      have F_u_702 : Fr [2, 4, 5, 28] [10, 11, 12, 13, 14, 15, 16, 17, 18, 19, 20] u u_702 := Fr_tr (Fr_rfl u) G_u_702 rfl rfl
      have g_712 : (u_702.1 1).toInt = (u.1 1).toInt := by rw [G_u_702.1 1 rfl]
      exact ⟨I_u_702, F_u_702, (by have B_713 := IP_p I; have B_714 := IP_p I_u_702; omega), (by have B_715 := IP_p I; have B_716 := IP_p I_u_702; omega), (by have B_717 := IP_p I_u_702; omega), (by have B_718 := IP_p I_u_702; omega), (by omega), (by have B_719 := IP_p I_u_702; omega), (by have B_720 := IP_p I_u_702; omega), (by have B_721 := IP_p I_u_702; have B_722 := IP_p I; omega), (by have B_723 := IP_p I; have B_724 := IP_p I_u_702; omega)⟩
set_option maxHeartbeats 20000000 in
theorem kP_SqlReaderModel_in_L61 {rc : Nat → Int32 → Int32 → Int32 → Int32 → Int32 → Int32 → St → Option (Int32 × St)} {m : Nat} (R : RMn rc m) : ∀ (n : Nat) {B : Int} {x2 : Int32} {x3 : Int32} {x4 : Int32} {x5 : Int32} {x6 : Int32} {x7 : Int32} {x8 : Int32} {x9 : Int32} {u : St} (I : IP u) (h0 : x2.toInt ≤ (u.1 1).toInt) (h1 : 0 ≤ x3.toInt) (h2 : x3.toInt ≤ 20) (h3 : (u.1 2).toInt = 1 ∨ 200 < (u.1 4).toInt ∨ x4.toInt < (u.1 4).toInt) (h4 : 0 ≤ x4.toInt) (h5 : 0 ≤ x5.toInt) (h6 : x5.toInt ≤ x6.toInt ∨ 200 < x6.toInt) (h7 : x6.toInt ≤ (u.1 4).toInt ∨ 200 < (u.1 4).toInt) (h8 : x5.toInt ≤ 199000) (h9 : x6.toInt ≤ 199000) (h10 : 0 ≤ x6.toInt) (h11 : (u.1 4).toInt ≤ B) (h12 : 100000 ≤ B) (h13 : 18 * (21 - x3.toInt) - 7 ≤ (m : Int) + 1) (h14 : 0 ≤ x8.toInt) (h15 : x8.toInt ≤ 2001) (h16 : 0 ≤ x9.toInt) (h17 : x9.toInt ≤ 1) (h18 : x9.toInt = 0 ∨ x8.toInt ≤ x2.toInt) (h19 : -1 ≤ x7.toInt) (h20 : x7.toInt < 0 ∨ (u.1 2).toInt = 1 ∨ 200 < (u.1 4).toInt ∨ x7.toInt < (u.1 4).toInt) (h21 : x9.toInt = 0 ∨ B + 32 * (x2.toInt - x8.toInt) ≤ 189960) (h22 : B ≤ 189995) (h23 : x7.toInt ≤ (u.1 4).toInt - 1 + 300000 * (u.1 2).toInt) (h24 : x7.toInt < 0 ∨ (u.1 4).toInt - 1 ≤ x7.toInt + 300000 * (u.1 2).toInt) (h25 : x8.toInt ≤ x2.toInt + 1) (h26 : (u.1 2).toInt = 1 ∨ x9.toInt = 1 ∨ 0 ≤ x7.toInt) (h27 : x8.toInt ≤ x2.toInt ∨ (u.1 2).toInt = 1) (hm : (2 * (2003 - x8.toInt) + x9.toInt).toNat < n), okM (mM_SqlReaderModel_in_L61 rc n x2 x3 x4 x5 x6 x7 x8 x9 u) (fun r v => IP v ∧ Fr [2, 4, 5, 28] [10, 11, 12, 13, 14, 15, 16, 17, 18, 19, 20] u v ∧ (u.1 2).toInt ≤ (v.1 2).toInt ∧ ((u.1 4).toInt ≤ (v.1 4).toInt ∨ 200 < (v.1 4).toInt) ∧ r.toInt ≤ (v.1 4).toInt - 1 + 300000 * (v.1 2).toInt ∧ (v.1 4).toInt - 1 ≤ r.toInt + 300000 * (v.1 2).toInt ∧ 0 ≤ r.toInt ∧ ((x9.toInt ≠ 0 ∧ (v.1 4).toInt ≤ B + 32 * (x2.toInt - x8.toInt) + 10) ∨ (x9.toInt = 0 ∧ (v.1 4).toInt ≤ B))) := by
  intro n
  induction n with
  | zero => intro B x2 x3 x4 x5 x6 x7 x8 x9 u I h0 h1 h2 h3 h4 h5 h6 h7 h8 h9 h10 h11 h12 h13 h14 h15 h16 h17 h18 h19 h20 h21 h22 h23 h24 h25 h26 h27 hm; exact absurd hm (Nat.not_lt_zero _)
  | succ n ih =>
    intro B x2 x3 x4 x5 x6 x7 x8 x9 u I h0 h1 h2 h3 h4 h5 h6 h7 h8 h9 h10 h11 h12 h13 h14 h15 h16 h17 h18 h19 h20 h21 h22 h23 h24 h25 h26 h27 hm
    have l0 : (0 : Int32).toInt = 0 := by decide
    have l1 : (1 : Int32).toInt = 1 := by decide
    have l2 : (2 : Int32).toInt = 2 := by decide
    have l4 : (4 : Int32).toInt = 4 := by decide
    have l5 : (5 : Int32).toInt = 5 := by decide
    have l6 : (6 : Int32).toInt = 6 := by decide
    have l7 : (7 : Int32).toInt = 7 := by decide
    have l8 : (8 : Int32).toInt = 8 := by decide
    have l9 : (9 : Int32).toInt = 9 := by decide
    have l10 : (10 : Int32).toInt = 10 := by decide
    have l16 : (16 : Int32).toInt = 16 := by decide
    have l17 : (17 : Int32).toInt = 17 := by decide
    have l18 : (18 : Int32).toInt = 18 := by decide
    have l20 : (20 : Int32).toInt = 20 := by decide
    have l21 : (21 : Int32).toInt = 21 := by decide
    have l22 : (22 : Int32).toInt = 22 := by decide
    have l27 : (27 : Int32).toInt = 27 := by decide
    have l28 : (28 : Int32).toInt = 28 := by decide
    have l32 : (32 : Int32).toInt = 32 := by decide
    have l80 : (80 : Int32).toInt = 80 := by decide
    have l200 : (200 : Int32).toInt = 200 := by decide
    have l2000 : (2000 : Int32).toInt = 2000 := by decide
    have l2001 : (2001 : Int32).toInt = 2001 := by decide
    have l2003 : (2003 : Int32).toInt = 2003 := by decide
    have l4000 : (4000 : Int32).toInt = 4000 := by decide
    have l100000 : (100000 : Int32).toInt = 100000 := by decide
    have l189960 : (189960 : Int32).toInt = 189960 := by decide
    have l189990 : (189990 : Int32).toInt = 189990 := by decide
    have l189995 : (189995 : Int32).toInt = 189995 := by decide
    have l190000 : (190000 : Int32).toInt = 190000 := by decide
    have l199000 : (199000 : Int32).toInt = 199000 := by decide
    have l300000 : (300000 : Int32).toInt = 300000 := by decide
    rw [mM_SqlReaderModel_in_L61]
    refine okM_eq (fun c_1 c_1' => ?_) (fun c_1 => ?_)
    · refine okM_le (fun c_2 => ?_) (fun c_2 => ?_)
      · exact okM_some ⟨I, (Fr_rfl u), (by have B_3 := IP_p I; omega), (by have B_4 := IP_p I; omega), (by have B_5 := IP_p I; omega), (by have B_6 := IP_p I; omega), (by omega), (by have B_7 := IP_p I; omega)⟩
      · exact okM_some ⟨I, (Fr_rfl u), (by have B_8 := IP_p I; omega), (by have B_9 := IP_p I; omega), (by have B_10 := IP_p I; omega), (by have B_11 := IP_p I; omega), (by omega), (by have B_12 := IP_p I; omega)⟩
    · refine okM_eq (fun c_13 c_13' => ?_) (fun c_13 => ?_)
      · try have e_14 : (x2 - 1 : Int32).toInt = (x2 : Int32).toInt - (1 : Int32).toInt := by have B_15 := IP_p I; exact sub_i (by omega) (by omega)
        refine okM_bP (kM_SqlReaderModel_find (IP_IW I) (by decide) (by have FUe : FU = 100000 := rfl; have B_17 := IP_p I; omega) (by have FUe : FU = 100000 := rfl; have B_18 := IP_p I; omega) (by have FUe : FU = 100000 := rfl; have B_19 := IP_p I; omega)) (fun r_20 z_16 => ?_)
        have p_21 := z_16
        refine okM_le (fun c_22 => ?_) (fun c_22 => ?_)
        · refine okM_bM (kP_SqlReaderModel_again (B := B) I (by have FUe : FU = 100000 := rfl; have B_24 := IP_p I; omega) (by have FUe : FU = 100000 := rfl; have B_25 := IP_p I; omega) (by have FUe : FU = 100000 := rfl; have B_26 := IP_p I; omega) (by have FUe : FU = 100000 := rfl; have B_27 := IP_p I; omega) (by have FUe : FU = 100000 := rfl; have B_28 := IP_p I; omega) (by have FUe : FU = 100000 := rfl; have B_29 := IP_p I; omega) (by have FUe : FU = 100000 := rfl; have B_30 := IP_p I; omega) (by have FUe : FU = 100000 := rfl; have B_31 := IP_p I; omega) (by have FUe : FU = 100000 := rfl; have B_32 := IP_p I; omega) (by have FUe : FU = 100000 := rfl; have B_33 := IP_p I; omega)) (fun r_34 u_35 z_23 => ?_)
          obtain ⟨I_u_35, G_u_35, p_36, p_37, p_38⟩ := z_23
          have F_u_35 : Fr [2, 4, 5, 28] [10, 11, 12, 13, 14, 15, 16, 17, 18, 19, 20] u u_35 := Fr_tr (Fr_rfl u) G_u_35 rfl rfl
          have g_39 : (u_35.1 1).toInt = (u.1 1).toInt := by rw [G_u_35.1 1 rfl]
          have g_40 : (u_35.1 2).toInt = (u.1 2).toInt := by rw [G_u_35.1 2 rfl]
          rw [mM_SqlReaderModel_in_J105]
          try have e_41 : (x3 + 1 : Int32).toInt = (x3 : Int32).toInt + (1 : Int32).toInt := by have B_42 := IP_p I; exact add_i (by omega) (by omega)
          refine okM_bM (R.2.2.2.2.2 (B := B) I_u_35 (by have B_44 := IP_p I_u_35; omega) (by have B_45 := IP_p I_u_35; omega) (by have B_46 := IP_p I_u_35; omega) (by have B_47 := IP_p I_u_35; omega) (by have B_48 := IP_p I_u_35; omega) (by have B_49 := IP_p I_u_35; omega) (by have B_50 := IP_p I_u_35; omega) (by have B_51 := IP_p I_u_35; omega) (by have B_52 := IP_p I_u_35; omega) (by have B_53 := IP_p I_u_35; omega) (by have B_54 := IP_p I_u_35; omega) (by have B_55 := IP_p I_u_35; omega) (by have B_56 := IP_p I_u_35; omega) (by have B_57 := IP_p I_u_35; omega)) (fun r_58 u_59 z_43 => ?_)
          obtain ⟨I_u_59, G_u_59, p_60, p_61, p_62, p_63, p_64, p_65, p_66, p_67, p_68⟩ := z_43
          have F_u_59 : Fr [2, 4, 5, 28] [10, 11, 12, 13, 14, 15, 16, 17, 18, 19, 20] u u_59 := Fr_tr F_u_35 G_u_59 rfl rfl
          have g_69 : (u_59.1 1).toInt = (u_35.1 1).toInt := by rw [G_u_59.1 1 rfl]
          refine okM_bM (kP_SqlReaderModel_add I_u_59 (by have FUe : FU = 100000 := rfl; have B_71 := IP_p I_u_59; have B_72 := IP_p I; omega) (by have FUe : FU = 100000 := rfl; have B_73 := IP_p I_u_59; have B_74 := IP_p I; omega) (by have FUe : FU = 100000 := rfl; have B_75 := IP_p I_u_59; have B_76 := IP_p I; omega) (by have FUe : FU = 100000 := rfl; have B_77 := IP_p I_u_59; have B_78 := IP_p I; omega) (by have FUe : FU = 100000 := rfl; have B_79 := IP_p I_u_59; have B_80 := IP_p I; omega) (by have FUe : FU = 100000 := rfl; have B_81 := IP_p I_u_59; have B_82 := IP_p I; omega) (by have FUe : FU = 100000 := rfl; have B_83 := IP_p I_u_59; have B_84 := IP_p I; omega)) (fun r_85 u_86 z_70 => ?_)
          obtain ⟨I_u_86, G_u_86, p_87, p_88, p_89⟩ := z_70
          have F_u_86 : Fr [2, 4, 5, 28] [10, 11, 12, 13, 14, 15, 16, 17, 18, 19, 20] u u_86 := Fr_tr F_u_59 G_u_86 rfl rfl
          have g_90 : (u_86.1 1).toInt = (u_59.1 1).toInt := by rw [G_u_86.1 1 rfl]
          have g_91 : (u_86.1 2).toInt = (u_59.1 2).toInt := by rw [G_u_86.1 2 rfl]
          refine okM_le (fun c_92 => ?_) (fun c_92 => ?_)
          · refine okM_bM (kP_SqlReaderModel_add I_u_86 (by have FUe : FU = 100000 := rfl; have B_94 := IP_p I_u_86; have B_95 := IP_p I; omega) (by have FUe : FU = 100000 := rfl; have B_96 := IP_p I_u_86; have B_97 := IP_p I; omega) (by have FUe : FU = 100000 := rfl; have B_98 := IP_p I_u_86; have B_99 := IP_p I; omega) (by have FUe : FU = 100000 := rfl; have B_100 := IP_p I_u_86; have B_101 := IP_p I; omega) (by have FUe : FU = 100000 := rfl; have B_102 := IP_p I_u_86; have B_103 := IP_p I; omega) (by have FUe : FU = 100000 := rfl; have B_104 := IP_p I_u_86; have B_105 := IP_p I; omega) (by have FUe : FU = 100000 := rfl; have B_106 := IP_p I_u_86; have B_107 := IP_p I; omega)) (fun r_108 u_109 z_93 => ?_)
            obtain ⟨I_u_109, G_u_109, p_110, p_111, p_112⟩ := z_93
            have F_u_109 : Fr [2, 4, 5, 28] [10, 11, 12, 13, 14, 15, 16, 17, 18, 19, 20] u u_109 := Fr_tr F_u_86 G_u_109 rfl rfl
            have g_113 : (u_109.1 1).toInt = (u_86.1 1).toInt := by rw [G_u_109.1 1 rfl]
            have g_114 : (u_109.1 2).toInt = (u_86.1 2).toInt := by rw [G_u_109.1 2 rfl]
            rw [mM_SqlReaderModel_in_J149]
            try have e_115 : (x2 - 1 : Int32).toInt = (x2 : Int32).toInt - (1 : Int32).toInt := by have B_116 := IP_p I; exact sub_i (by omega) (by omega)
            refine okM_le (fun c_117 => ?_) (fun c_117 => ?_)
            · try have e_120 : (r_20 + 1 : Int32).toInt = (r_20 : Int32).toInt + (1 : Int32).toInt := by have B_121 := IP_p I; exact add_i (by omega) (by omega)
              refine okM_seq (fun y_119 h_118 => ?_)
              have h_118' : y_119.toInt = ((r_20 + 1) : Int32).toInt := by rw [h_118]
              refine okM_mono (ih (B := (((B + 32 * (((r_20).toInt - (x8).toInt).toNat : Int) + 8) + 1) + 1)) I_u_109 (by have B_122 := IP_p I_u_109; omega) (by have B_123 := IP_p I_u_109; omega) (by have B_124 := IP_p I_u_109; omega) (by have B_125 := IP_p I_u_109; omega) (by have B_126 := IP_p I_u_109; omega) (by have B_127 := IP_p I_u_109; omega) (by have B_128 := IP_p I_u_109; omega) (by have B_129 := IP_p I_u_109; omega) (by have B_130 := IP_p I_u_109; omega) (by have B_131 := IP_p I_u_109; omega) (by have B_132 := IP_p I_u_109; omega) (by have B_133 := IP_p I_u_109; omega) (by have B_134 := IP_p I_u_109; omega) (by have B_135 := IP_p I_u_109; omega) (by have B_136 := IP_p I_u_109; omega) (by have B_137 := IP_p I_u_109; omega) (by have B_138 := IP_p I_u_109; omega) (by have B_139 := IP_p I_u_109; omega) (by have B_140 := IP_p I_u_109; omega) (by have B_141 := IP_p I_u_109; omega) (by have B_142 := IP_p I_u_109; omega) (by have B_143 := IP_p I_u_109; omega) (by have B_144 := IP_p I_u_109; omega) (by have B_145 := IP_p I_u_109; omega) (by have B_146 := IP_p I_u_109; omega) (by have B_147 := IP_p I_u_109; omega) (by have B_148 := IP_p I_u_109; omega) (by have B_149 := IP_p I_u_109; omega) (by have B_150 := IP_p I_u_109; omega)) (fun r_152 u_153 z_151 => ?_)
              obtain ⟨I_u_153, G_u_153, p_154, p_155, p_156, p_157, p_158, p_159⟩ := z_151
              have F_u_153 : Fr [2, 4, 5, 28] [10, 11, 12, 13, 14, 15, 16, 17, 18, 19, 20] u u_153 := Fr_tr F_u_109 G_u_153 rfl rfl
              have g_160 : (u_153.1 1).toInt = (u_109.1 1).toInt := by rw [G_u_153.1 1 rfl]
              exact ⟨I_u_153, F_u_153, (by have B_161 := IP_p I; have B_162 := IP_p I_u_153; omega), (by have B_163 := IP_p I; have B_164 := IP_p I_u_153; omega), (by have B_165 := IP_p I_u_153; omega), (by have B_166 := IP_p I_u_153; omega), (by omega), (by have B_167 := IP_p I_u_153; omega)⟩
            · try have e_170 : (r_20 + 1 : Int32).toInt = (r_20 : Int32).toInt + (1 : Int32).toInt := by have B_171 := IP_p I; exact add_i (by omega) (by omega)
              refine okM_seq (fun y_169 h_168 => ?_)
              have h_168' : y_169.toInt = ((r_20 + 1) : Int32).toInt := by rw [h_168]
              refine okM_mono (ih (B := (((B + 32 * (((r_20).toInt - (x8).toInt).toNat : Int) + 8) + 1) + 1)) I_u_109 (by have B_172 := IP_p I_u_109; omega) (by have B_173 := IP_p I_u_109; omega) (by have B_174 := IP_p I_u_109; omega) (by have B_175 := IP_p I_u_109; omega) (by have B_176 := IP_p I_u_109; omega) (by have B_177 := IP_p I_u_109; omega) (by have B_178 := IP_p I_u_109; omega) (by have B_179 := IP_p I_u_109; omega) (by have B_180 := IP_p I_u_109; omega) (by have B_181 := IP_p I_u_109; omega) (by have B_182 := IP_p I_u_109; omega) (by have B_183 := IP_p I_u_109; omega) (by have B_184 := IP_p I_u_109; omega) (by have B_185 := IP_p I_u_109; omega) (by have B_186 := IP_p I_u_109; omega) (by have B_187 := IP_p I_u_109; omega) (by have B_188 := IP_p I_u_109; omega) (by have B_189 := IP_p I_u_109; omega) (by have B_190 := IP_p I_u_109; omega) (by have B_191 := IP_p I_u_109; omega) (by have B_192 := IP_p I_u_109; omega) (by have B_193 := IP_p I_u_109; omega) (by have B_194 := IP_p I_u_109; omega) (by have B_195 := IP_p I_u_109; omega) (by have B_196 := IP_p I_u_109; omega) (by have B_197 := IP_p I_u_109; omega) (by have B_198 := IP_p I_u_109; omega) (by have B_199 := IP_p I_u_109; omega) (by have B_200 := IP_p I_u_109; omega)) (fun r_202 u_203 z_201 => ?_)
              obtain ⟨I_u_203, G_u_203, p_204, p_205, p_206, p_207, p_208, p_209⟩ := z_201
              have F_u_203 : Fr [2, 4, 5, 28] [10, 11, 12, 13, 14, 15, 16, 17, 18, 19, 20] u u_203 := Fr_tr F_u_109 G_u_203 rfl rfl
              have g_210 : (u_203.1 1).toInt = (u_109.1 1).toInt := by rw [G_u_203.1 1 rfl]
              exact ⟨I_u_203, F_u_203, (by have B_211 := IP_p I; have B_212 := IP_p I_u_203; omega), (by have B_213 := IP_p I; have B_214 := IP_p I_u_203; omega), (by have B_215 := IP_p I_u_203; omega), (by have B_216 := IP_p I_u_203; omega), (by omega), (by have B_217 := IP_p I_u_203; omega)⟩
          · rw [mM_SqlReaderModel_in_J149]
            try have e_218 : (x2 - 1 : Int32).toInt = (x2 : Int32).toInt - (1 : Int32).toInt := by have B_219 := IP_p I; exact sub_i (by omega) (by omega)
            refine okM_le (fun c_220 => ?_) (fun c_220 => ?_)
            · try have e_223 : (r_20 + 1 : Int32).toInt = (r_20 : Int32).toInt + (1 : Int32).toInt := by have B_224 := IP_p I; exact add_i (by omega) (by omega)
              refine okM_seq (fun y_222 h_221 => ?_)
              have h_221' : y_222.toInt = ((r_20 + 1) : Int32).toInt := by rw [h_221]
              refine okM_mono (ih (B := ((B + 32 * (((r_20).toInt - (x8).toInt).toNat : Int) + 8) + 1)) I_u_86 (by have B_225 := IP_p I_u_86; omega) (by have B_226 := IP_p I_u_86; omega) (by have B_227 := IP_p I_u_86; omega) (by have B_228 := IP_p I_u_86; omega) (by have B_229 := IP_p I_u_86; omega) (by have B_230 := IP_p I_u_86; omega) (by have B_231 := IP_p I_u_86; omega) (by have B_232 := IP_p I_u_86; omega) (by have B_233 := IP_p I_u_86; omega) (by have B_234 := IP_p I_u_86; omega) (by have B_235 := IP_p I_u_86; omega) (by have B_236 := IP_p I_u_86; omega) (by have B_237 := IP_p I_u_86; omega) (by have B_238 := IP_p I_u_86; omega) (by have B_239 := IP_p I_u_86; omega) (by have B_240 := IP_p I_u_86; omega) (by have B_241 := IP_p I_u_86; omega) (by have B_242 := IP_p I_u_86; omega) (by have B_243 := IP_p I_u_86; omega) (by have B_244 := IP_p I_u_86; omega) (by have B_245 := IP_p I_u_86; omega) (by have B_246 := IP_p I_u_86; omega) (by have B_247 := IP_p I_u_86; omega) (by have B_248 := IP_p I_u_86; omega) (by have B_249 := IP_p I_u_86; omega) (by have B_250 := IP_p I_u_86; omega) (by have B_251 := IP_p I_u_86; omega) (by have B_252 := IP_p I_u_86; omega) (by have B_253 := IP_p I_u_86; omega)) (fun r_255 u_256 z_254 => ?_)
              obtain ⟨I_u_256, G_u_256, p_257, p_258, p_259, p_260, p_261, p_262⟩ := z_254
              have F_u_256 : Fr [2, 4, 5, 28] [10, 11, 12, 13, 14, 15, 16, 17, 18, 19, 20] u u_256 := Fr_tr F_u_86 G_u_256 rfl rfl
              have g_263 : (u_256.1 1).toInt = (u_86.1 1).toInt := by rw [G_u_256.1 1 rfl]
              exact ⟨I_u_256, F_u_256, (by have B_264 := IP_p I; have B_265 := IP_p I_u_256; omega), (by have B_266 := IP_p I; have B_267 := IP_p I_u_256; omega), (by have B_268 := IP_p I_u_256; omega), (by have B_269 := IP_p I_u_256; omega), (by omega), (by have B_270 := IP_p I_u_256; omega)⟩
            · try have e_273 : (r_20 + 1 : Int32).toInt = (r_20 : Int32).toInt + (1 : Int32).toInt := by have B_274 := IP_p I; exact add_i (by omega) (by omega)
              refine okM_seq (fun y_272 h_271 => ?_)
              have h_271' : y_272.toInt = ((r_20 + 1) : Int32).toInt := by rw [h_271]
              refine okM_mono (ih (B := ((B + 32 * (((r_20).toInt - (x8).toInt).toNat : Int) + 8) + 1)) I_u_86 (by have B_275 := IP_p I_u_86; omega) (by have B_276 := IP_p I_u_86; omega) (by have B_277 := IP_p I_u_86; omega) (by have B_278 := IP_p I_u_86; omega) (by have B_279 := IP_p I_u_86; omega) (by have B_280 := IP_p I_u_86; omega) (by have B_281 := IP_p I_u_86; omega) (by have B_282 := IP_p I_u_86; omega) (by have B_283 := IP_p I_u_86; omega) (by have B_284 := IP_p I_u_86; omega) (by have B_285 := IP_p I_u_86; omega) (by have B_286 := IP_p I_u_86; omega) (by have B_287 := IP_p I_u_86; omega) (by have B_288 := IP_p I_u_86; omega) (by have B_289 := IP_p I_u_86; omega) (by have B_290 := IP_p I_u_86; omega) (by have B_291 := IP_p I_u_86; omega) (by have B_292 := IP_p I_u_86; omega) (by have B_293 := IP_p I_u_86; omega) (by have B_294 := IP_p I_u_86; omega) (by have B_295 := IP_p I_u_86; omega) (by have B_296 := IP_p I_u_86; omega) (by have B_297 := IP_p I_u_86; omega) (by have B_298 := IP_p I_u_86; omega) (by have B_299 := IP_p I_u_86; omega) (by have B_300 := IP_p I_u_86; omega) (by have B_301 := IP_p I_u_86; omega) (by have B_302 := IP_p I_u_86; omega) (by have B_303 := IP_p I_u_86; omega)) (fun r_305 u_306 z_304 => ?_)
              obtain ⟨I_u_306, G_u_306, p_307, p_308, p_309, p_310, p_311, p_312⟩ := z_304
              have F_u_306 : Fr [2, 4, 5, 28] [10, 11, 12, 13, 14, 15, 16, 17, 18, 19, 20] u u_306 := Fr_tr F_u_86 G_u_306 rfl rfl
              have g_313 : (u_306.1 1).toInt = (u_86.1 1).toInt := by rw [G_u_306.1 1 rfl]
              exact ⟨I_u_306, F_u_306, (by have B_314 := IP_p I; have B_315 := IP_p I_u_306; omega), (by have B_316 := IP_p I; have B_317 := IP_p I_u_306; omega), (by have B_318 := IP_p I_u_306; omega), (by have B_319 := IP_p I_u_306; omega), (by omega), (by have B_320 := IP_p I_u_306; omega)⟩
        · rw [mM_SqlReaderModel_in_J105]
          try have e_321 : (x3 + 1 : Int32).toInt = (x3 : Int32).toInt + (1 : Int32).toInt := by have B_322 := IP_p I; exact add_i (by omega) (by omega)
          refine okM_bM (R.2.2.2.2.2 (B := B) I (by have B_324 := IP_p I; omega) (by have B_325 := IP_p I; omega) (by have B_326 := IP_p I; omega) (by have B_327 := IP_p I; omega) (by have B_328 := IP_p I; omega) (by have B_329 := IP_p I; omega) (by have B_330 := IP_p I; omega) (by have B_331 := IP_p I; omega) (by have B_332 := IP_p I; omega) (by have B_333 := IP_p I; omega) (by have B_334 := IP_p I; omega) (by have B_335 := IP_p I; omega) (by have B_336 := IP_p I; omega) (by have B_337 := IP_p I; omega)) (fun r_338 u_339 z_323 => ?_)
          obtain ⟨I_u_339, G_u_339, p_340, p_341, p_342, p_343, p_344, p_345, p_346, p_347, p_348⟩ := z_323
          have F_u_339 : Fr [2, 4, 5, 28] [10, 11, 12, 13, 14, 15, 16, 17, 18, 19, 20] u u_339 := Fr_tr (Fr_rfl u) G_u_339 rfl rfl
          have g_349 : (u_339.1 1).toInt = (u.1 1).toInt := by rw [G_u_339.1 1 rfl]
          refine okM_bM (kP_SqlReaderModel_add I_u_339 (by have FUe : FU = 100000 := rfl; have B_351 := IP_p I_u_339; have B_352 := IP_p I; omega) (by have FUe : FU = 100000 := rfl; have B_353 := IP_p I_u_339; have B_354 := IP_p I; omega) (by have FUe : FU = 100000 := rfl; have B_355 := IP_p I_u_339; have B_356 := IP_p I; omega) (by have FUe : FU = 100000 := rfl; have B_357 := IP_p I_u_339; have B_358 := IP_p I; omega) (by have FUe : FU = 100000 := rfl; have B_359 := IP_p I_u_339; have B_360 := IP_p I; omega) (by have FUe : FU = 100000 := rfl; have B_361 := IP_p I_u_339; have B_362 := IP_p I; omega) (by have FUe : FU = 100000 := rfl; have B_363 := IP_p I_u_339; have B_364 := IP_p I; omega)) (fun r_365 u_366 z_350 => ?_)
          obtain ⟨I_u_366, G_u_366, p_367, p_368, p_369⟩ := z_350
          have F_u_366 : Fr [2, 4, 5, 28] [10, 11, 12, 13, 14, 15, 16, 17, 18, 19, 20] u u_366 := Fr_tr F_u_339 G_u_366 rfl rfl
          have g_370 : (u_366.1 1).toInt = (u_339.1 1).toInt := by rw [G_u_366.1 1 rfl]
          have g_371 : (u_366.1 2).toInt = (u_339.1 2).toInt := by rw [G_u_366.1 2 rfl]
          refine okM_le (fun c_372 => ?_) (fun c_372 => ?_)
          · refine okM_bM (kP_SqlReaderModel_add I_u_366 (by have FUe : FU = 100000 := rfl; have B_374 := IP_p I_u_366; have B_375 := IP_p I; omega) (by have FUe : FU = 100000 := rfl; have B_376 := IP_p I_u_366; have B_377 := IP_p I; omega) (by have FUe : FU = 100000 := rfl; have B_378 := IP_p I_u_366; have B_379 := IP_p I; omega) (by have FUe : FU = 100000 := rfl; have B_380 := IP_p I_u_366; have B_381 := IP_p I; omega) (by have FUe : FU = 100000 := rfl; have B_382 := IP_p I_u_366; have B_383 := IP_p I; omega) (by have FUe : FU = 100000 := rfl; have B_384 := IP_p I_u_366; have B_385 := IP_p I; omega) (by have FUe : FU = 100000 := rfl; have B_386 := IP_p I_u_366; have B_387 := IP_p I; omega)) (fun r_388 u_389 z_373 => ?_)
            obtain ⟨I_u_389, G_u_389, p_390, p_391, p_392⟩ := z_373
            have F_u_389 : Fr [2, 4, 5, 28] [10, 11, 12, 13, 14, 15, 16, 17, 18, 19, 20] u u_389 := Fr_tr F_u_366 G_u_389 rfl rfl
            have g_393 : (u_389.1 1).toInt = (u_366.1 1).toInt := by rw [G_u_389.1 1 rfl]
            have g_394 : (u_389.1 2).toInt = (u_366.1 2).toInt := by rw [G_u_389.1 2 rfl]
            rw [mM_SqlReaderModel_in_J149]
            try have e_395 : (x2 - 1 : Int32).toInt = (x2 : Int32).toInt - (1 : Int32).toInt := by have B_396 := IP_p I; exact sub_i (by omega) (by omega)
            refine okM_le (fun c_397 => ?_) (fun c_397 => ?_)
            · try have e_400 : (r_20 + 1 : Int32).toInt = (r_20 : Int32).toInt + (1 : Int32).toInt := by have B_401 := IP_p I; exact add_i (by omega) (by omega)
              refine okM_seq (fun y_399 h_398 => ?_)
              have h_398' : y_399.toInt = ((r_20 + 1) : Int32).toInt := by rw [h_398]
              refine okM_mono (ih (B := (((B + 32 * (((r_20).toInt - (x8).toInt).toNat : Int) + 8) + 1) + 1)) I_u_389 (by have B_402 := IP_p I_u_389; omega) (by have B_403 := IP_p I_u_389; omega) (by have B_404 := IP_p I_u_389; omega) (by have B_405 := IP_p I_u_389; omega) (by have B_406 := IP_p I_u_389; omega) (by have B_407 := IP_p I_u_389; omega) (by have B_408 := IP_p I_u_389; omega) (by have B_409 := IP_p I_u_389; omega) (by have B_410 := IP_p I_u_389; omega) (by have B_411 := IP_p I_u_389; omega) (by have B_412 := IP_p I_u_389; omega) (by have B_413 := IP_p I_u_389; omega) (by have B_414 := IP_p I_u_389; omega) (by have B_415 := IP_p I_u_389; omega) (by have B_416 := IP_p I_u_389; omega) (by have B_417 := IP_p I_u_389; omega) (by have B_418 := IP_p I_u_389; omega) (by have B_419 := IP_p I_u_389; omega) (by have B_420 := IP_p I_u_389; omega) (by have B_421 := IP_p I_u_389; omega) (by have B_422 := IP_p I_u_389; omega) (by have B_423 := IP_p I_u_389; omega) (by have B_424 := IP_p I_u_389; omega) (by have B_425 := IP_p I_u_389; omega) (by have B_426 := IP_p I_u_389; omega) (by have B_427 := IP_p I_u_389; omega) (by have B_428 := IP_p I_u_389; omega) (by have B_429 := IP_p I_u_389; omega) (by have B_430 := IP_p I_u_389; omega)) (fun r_432 u_433 z_431 => ?_)
              obtain ⟨I_u_433, G_u_433, p_434, p_435, p_436, p_437, p_438, p_439⟩ := z_431
              have F_u_433 : Fr [2, 4, 5, 28] [10, 11, 12, 13, 14, 15, 16, 17, 18, 19, 20] u u_433 := Fr_tr F_u_389 G_u_433 rfl rfl
              have g_440 : (u_433.1 1).toInt = (u_389.1 1).toInt := by rw [G_u_433.1 1 rfl]
              exact ⟨I_u_433, F_u_433, (by have B_441 := IP_p I; have B_442 := IP_p I_u_433; omega), (by have B_443 := IP_p I; have B_444 := IP_p I_u_433; omega), (by have B_445 := IP_p I_u_433; omega), (by have B_446 := IP_p I_u_433; omega), (by omega), (by have B_447 := IP_p I_u_433; omega)⟩
            · try have e_450 : (r_20 + 1 : Int32).toInt = (r_20 : Int32).toInt + (1 : Int32).toInt := by have B_451 := IP_p I; exact add_i (by omega) (by omega)
              refine okM_seq (fun y_449 h_448 => ?_)
              have h_448' : y_449.toInt = ((r_20 + 1) : Int32).toInt := by rw [h_448]
              refine okM_mono (ih (B := (((B + 32 * (((r_20).toInt - (x8).toInt).toNat : Int) + 8) + 1) + 1)) I_u_389 (by have B_452 := IP_p I_u_389; omega) (by have B_453 := IP_p I_u_389; omega) (by have B_454 := IP_p I_u_389; omega) (by have B_455 := IP_p I_u_389; omega) (by have B_456 := IP_p I_u_389; omega) (by have B_457 := IP_p I_u_389; omega) (by have B_458 := IP_p I_u_389; omega) (by have B_459 := IP_p I_u_389; omega) (by have B_460 := IP_p I_u_389; omega) (by have B_461 := IP_p I_u_389; omega) (by have B_462 := IP_p I_u_389; omega) (by have B_463 := IP_p I_u_389; omega) (by have B_464 := IP_p I_u_389; omega) (by have B_465 := IP_p I_u_389; omega) (by have B_466 := IP_p I_u_389; omega) (by have B_467 := IP_p I_u_389; omega) (by have B_468 := IP_p I_u_389; omega) (by have B_469 := IP_p I_u_389; omega) (by have B_470 := IP_p I_u_389; omega) (by have B_471 := IP_p I_u_389; omega) (by have B_472 := IP_p I_u_389; omega) (by have B_473 := IP_p I_u_389; omega) (by have B_474 := IP_p I_u_389; omega) (by have B_475 := IP_p I_u_389; omega) (by have B_476 := IP_p I_u_389; omega) (by have B_477 := IP_p I_u_389; omega) (by have B_478 := IP_p I_u_389; omega) (by have B_479 := IP_p I_u_389; omega) (by have B_480 := IP_p I_u_389; omega)) (fun r_482 u_483 z_481 => ?_)
              obtain ⟨I_u_483, G_u_483, p_484, p_485, p_486, p_487, p_488, p_489⟩ := z_481
              have F_u_483 : Fr [2, 4, 5, 28] [10, 11, 12, 13, 14, 15, 16, 17, 18, 19, 20] u u_483 := Fr_tr F_u_389 G_u_483 rfl rfl
              have g_490 : (u_483.1 1).toInt = (u_389.1 1).toInt := by rw [G_u_483.1 1 rfl]
              exact ⟨I_u_483, F_u_483, (by have B_491 := IP_p I; have B_492 := IP_p I_u_483; omega), (by have B_493 := IP_p I; have B_494 := IP_p I_u_483; omega), (by have B_495 := IP_p I_u_483; omega), (by have B_496 := IP_p I_u_483; omega), (by omega), (by have B_497 := IP_p I_u_483; omega)⟩
          · rw [mM_SqlReaderModel_in_J149]
            try have e_498 : (x2 - 1 : Int32).toInt = (x2 : Int32).toInt - (1 : Int32).toInt := by have B_499 := IP_p I; exact sub_i (by omega) (by omega)
            refine okM_le (fun c_500 => ?_) (fun c_500 => ?_)
            · try have e_503 : (r_20 + 1 : Int32).toInt = (r_20 : Int32).toInt + (1 : Int32).toInt := by have B_504 := IP_p I; exact add_i (by omega) (by omega)
              refine okM_seq (fun y_502 h_501 => ?_)
              have h_501' : y_502.toInt = ((r_20 + 1) : Int32).toInt := by rw [h_501]
              refine okM_mono (ih (B := ((B + 32 * (((r_20).toInt - (x8).toInt).toNat : Int) + 8) + 1)) I_u_366 (by have B_505 := IP_p I_u_366; omega) (by have B_506 := IP_p I_u_366; omega) (by have B_507 := IP_p I_u_366; omega) (by have B_508 := IP_p I_u_366; omega) (by have B_509 := IP_p I_u_366; omega) (by have B_510 := IP_p I_u_366; omega) (by have B_511 := IP_p I_u_366; omega) (by have B_512 := IP_p I_u_366; omega) (by have B_513 := IP_p I_u_366; omega) (by have B_514 := IP_p I_u_366; omega) (by have B_515 := IP_p I_u_366; omega) (by have B_516 := IP_p I_u_366; omega) (by have B_517 := IP_p I_u_366; omega) (by have B_518 := IP_p I_u_366; omega) (by have B_519 := IP_p I_u_366; omega) (by have B_520 := IP_p I_u_366; omega) (by have B_521 := IP_p I_u_366; omega) (by have B_522 := IP_p I_u_366; omega) (by have B_523 := IP_p I_u_366; omega) (by have B_524 := IP_p I_u_366; omega) (by have B_525 := IP_p I_u_366; omega) (by have B_526 := IP_p I_u_366; omega) (by have B_527 := IP_p I_u_366; omega) (by have B_528 := IP_p I_u_366; omega) (by have B_529 := IP_p I_u_366; omega) (by have B_530 := IP_p I_u_366; omega) (by have B_531 := IP_p I_u_366; omega) (by have B_532 := IP_p I_u_366; omega) (by have B_533 := IP_p I_u_366; omega)) (fun r_535 u_536 z_534 => ?_)
              obtain ⟨I_u_536, G_u_536, p_537, p_538, p_539, p_540, p_541, p_542⟩ := z_534
              have F_u_536 : Fr [2, 4, 5, 28] [10, 11, 12, 13, 14, 15, 16, 17, 18, 19, 20] u u_536 := Fr_tr F_u_366 G_u_536 rfl rfl
              have g_543 : (u_536.1 1).toInt = (u_366.1 1).toInt := by rw [G_u_536.1 1 rfl]
              exact ⟨I_u_536, F_u_536, (by have B_544 := IP_p I; have B_545 := IP_p I_u_536; omega), (by have B_546 := IP_p I; have B_547 := IP_p I_u_536; omega), (by have B_548 := IP_p I_u_536; omega), (by have B_549 := IP_p I_u_536; omega), (by omega), (by have B_550 := IP_p I_u_536; omega)⟩
            · try have e_553 : (r_20 + 1 : Int32).toInt = (r_20 : Int32).toInt + (1 : Int32).toInt := by have B_554 := IP_p I; exact add_i (by omega) (by omega)
              refine okM_seq (fun y_552 h_551 => ?_)
              have h_551' : y_552.toInt = ((r_20 + 1) : Int32).toInt := by rw [h_551]
              refine okM_mono (ih (B := ((B + 32 * (((r_20).toInt - (x8).toInt).toNat : Int) + 8) + 1)) I_u_366 (by have B_555 := IP_p I_u_366; omega) (by have B_556 := IP_p I_u_366; omega) (by have B_557 := IP_p I_u_366; omega) (by have B_558 := IP_p I_u_366; omega) (by have B_559 := IP_p I_u_366; omega) (by have B_560 := IP_p I_u_366; omega) (by have B_561 := IP_p I_u_366; omega) (by have B_562 := IP_p I_u_366; omega) (by have B_563 := IP_p I_u_366; omega) (by have B_564 := IP_p I_u_366; omega) (by have B_565 := IP_p I_u_366; omega) (by have B_566 := IP_p I_u_366; omega) (by have B_567 := IP_p I_u_366; omega) (by have B_568 := IP_p I_u_366; omega) (by have B_569 := IP_p I_u_366; omega) (by have B_570 := IP_p I_u_366; omega) (by have B_571 := IP_p I_u_366; omega) (by have B_572 := IP_p I_u_366; omega) (by have B_573 := IP_p I_u_366; omega) (by have B_574 := IP_p I_u_366; omega) (by have B_575 := IP_p I_u_366; omega) (by have B_576 := IP_p I_u_366; omega) (by have B_577 := IP_p I_u_366; omega) (by have B_578 := IP_p I_u_366; omega) (by have B_579 := IP_p I_u_366; omega) (by have B_580 := IP_p I_u_366; omega) (by have B_581 := IP_p I_u_366; omega) (by have B_582 := IP_p I_u_366; omega) (by have B_583 := IP_p I_u_366; omega)) (fun r_585 u_586 z_584 => ?_)
              obtain ⟨I_u_586, G_u_586, p_587, p_588, p_589, p_590, p_591, p_592⟩ := z_584
              have F_u_586 : Fr [2, 4, 5, 28] [10, 11, 12, 13, 14, 15, 16, 17, 18, 19, 20] u u_586 := Fr_tr F_u_366 G_u_586 rfl rfl
              have g_593 : (u_586.1 1).toInt = (u_366.1 1).toInt := by rw [G_u_586.1 1 rfl]
              exact ⟨I_u_586, F_u_586, (by have B_594 := IP_p I; have B_595 := IP_p I_u_586; omega), (by have B_596 := IP_p I; have B_597 := IP_p I_u_586; omega), (by have B_598 := IP_p I_u_586; omega), (by have B_599 := IP_p I_u_586; omega), (by omega), (by have B_600 := IP_p I_u_586; omega)⟩
      · refine okM_le (fun c_601 => ?_) (fun c_601 => ?_)
        · exact okM_some ⟨I, (Fr_rfl u), (by have B_602 := IP_p I; omega), (by have B_603 := IP_p I; omega), (by have B_604 := IP_p I; omega), (by have B_605 := IP_p I; omega), (by omega), (by have B_606 := IP_p I; omega)⟩
        · exact okM_some ⟨I, (Fr_rfl u), (by have B_607 := IP_p I; omega), (by have B_608 := IP_p I; omega), (by have B_609 := IP_p I; omega), (by have B_610 := IP_p I; omega), (by omega), (by have B_611 := IP_p I; omega)⟩
