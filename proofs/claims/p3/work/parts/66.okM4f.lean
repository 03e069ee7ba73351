set_option maxHeartbeats 20000000 in
theorem kP_SqlReaderModel_comparison_o {rc : Nat → Int32 → Int32 → Int32 → Int32 → Int32 → Int32 → St → Option (Int32 × St)} {n : Nat} (R : RMn rc n) {B : Int} {x1 : Int32} {x2 : Int32} {x3 : Int32} {u : St} (I : IP u) (h0 : 0 ≤ x1.toInt) (h1 : x1.toInt ≤ 4000) (h2 : x2.toInt ≤ (u.1 1).toInt) (h3 : 0 ≤ x3.toInt) (h4 : x3.toInt ≤ 4000) (h5 : (u.1 4).toInt ≤ B) (h6 : 100000 ≤ B) (h7 : B + 32 * (x2.toInt - x1.toInt) + 16 ≤ 190000) (h8 : B ≤ 189990) (h9 : x1.toInt < x2.toInt) (h10 : x3.toInt ≤ 20) (h11 : (u.1 2).toInt = 0) (h12 : 18 * (21 - x3.toInt) - 6 ≤ (n : Int) + 1) : okM (mM_SqlReaderModel_comparison_o rc x1 x2 x3 u) (fun r v => IP v ∧ Fr [2, 4, 5, 28] [10, 11, 12, 13, 14, 15, 16, 17, 18, 19, 20] u v ∧ (u.1 2).toInt ≤ (v.1 2).toInt ∧ ((u.1 4).toInt ≤ (v.1 4).toInt ∨ 200 < (v.1 4).toInt) ∧ r.toInt ≤ (v.1 4).toInt - 1 + 300000 * (v.1 2).toInt ∧ (v.1 4).toInt - 1 ≤ r.toInt + 300000 * (v.1 2).toInt ∧ 0 ≤ r.toInt ∧ (v.1 4).toInt ≤ B + 32 * ((x2.toInt - x1.toInt).toNat : Int) + 8 ∧ x1.toInt + 1 ≤ x2.toInt + 300000 * (v.1 2).toInt ∧ (v.1 4).toInt ≤ (u.1 4).toInt + 300000 * (1 - (u.1 2).toInt) ∧ (u.1 4).toInt ≤ (v.1 4).toInt + 300000 * (1 - (u.1 2).toInt)) := by
  have lm1 : (-1 : Int32).toInt = -1 := by decide
  have l0 : (0 : Int32).toInt = 0 := by decide
  have l1 : (1 : Int32).toInt = 1 := by decide
  have l2 : (2 : Int32).toInt = 2 := by decide
  have l4 : (4 : Int32).toInt = 4 := by decide
  have l5 : (5 : Int32).toInt = 5 := by decide
  have l6 : (6 : Int32).toInt = 6 := by decide
  have l8 : (8 : Int32).toInt = 8 := by decide
  have l9 : (9 : Int32).toInt = 9 := by decide
  have l16 : (16 : Int32).toInt = 16 := by decide
  have l17 : (17 : Int32).toInt = 17 := by decide
  have l18 : (18 : Int32).toInt = 18 := by decide
  have l20 : (20 : Int32).toInt = 20 := by decide
  have l21 : (21 : Int32).toInt = 21 := by decide
  have l22 : (22 : Int32).toInt = 22 := by decide
  have l23 : (23 : Int32).toInt = 23 := by decide
  have l24 : (24 : Int32).toInt = 24 := by decide
  have l28 : (28 : Int32).toInt = 28 := by decide
  have l32 : (32 : Int32).toInt = 32 := by decide
  have l89 : (89 : Int32).toInt = 89 := by decide
  have l97 : (97 : Int32).toInt = 97 := by decide
  have l100 : (100 : Int32).toInt = 100 := by decide
  have l200 : (200 : Int32).toInt = 200 := by decide
  have l2000 : (2000 : Int32).toInt = 2000 := by decide
  have l4000 : (4000 : Int32).toInt = 4000 := by decide
  have l100000 : (100000 : Int32).toInt = 100000 := by decide
  have l189990 : (189990 : Int32).toInt = 189990 := by decide
  have l189992 : (189992 : Int32).toInt = 189992 := by decide
  have l190000 : (190000 : Int32).toInt = 190000 := by decide
  have l199000 : (199000 : Int32).toInt = 199000 := by decide
  have l300000 : (300000 : Int32).toInt = 300000 := by decide
  rw [mM_SqlReaderModel_comparison_o]
  refine okM_bP (kM_SqlReaderModel_firstComparison (IP_IW I) (by have FUe : FU = 100000 := rfl; have B_2 := IP_p I; omega) (by have FUe : FU = 100000 := rfl; have B_3 := IP_p I; omega) (by have FUe : FU = 100000 := rfl; have B_4 := IP_p I; omega)) (fun r_5 z_1 => ?_)
  have p_6 := z_1
  refine okM_eq (fun c_7 c_7' => ?_) (fun c_7 => ?_)
  · refine okM_bM (R.2.2.2.2.2 (B := B) I (by have B_9 := IP_p I; omega) (by have B_10 := IP_p I; omega) (by have B_11 := IP_p I; omega) (by have B_12 := IP_p I; omega) (by have B_13 := IP_p I; omega) (by have B_14 := IP_p I; omega) (by have B_15 := IP_p I; omega) (by have B_16 := IP_p I; omega) (by have B_17 := IP_p I; omega) (by have B_18 := IP_p I; omega) (by have B_19 := IP_p I; omega) (by have B_20 := IP_p I; omega) (by have B_21 := IP_p I; omega) (by have B_22 := IP_p I; omega)) (fun r_23 u_24 z_8 => ?_)
    obtain ⟨I_u_24, G_u_24, p_25, p_26, p_27, p_28, p_29, p_30, p_31, p_32, p_33⟩ := z_8
    have F_u_24 : Fr [2, 4, 5, 28] [10, 11, 12, 13, 14, 15, 16, 17, 18, 19, 20] u u_24 := Fr_tr (Fr_rfl u) G_u_24 rfl rfl
    have g_34 : (u_24.1 1).toInt = (u.1 1).toInt := by rw [G_u_24.1 1 rfl]
    exact okM_some ⟨I_u_24, F_u_24, (by have B_35 := IP_p I; have B_36 := IP_p I_u_24; omega), (by have B_37 := IP_p I; have B_38 := IP_p I_u_24; omega), (by have B_39 := IP_p I_u_24; omega), (by have B_40 := IP_p I_u_24; omega), (by omega), (by have B_41 := IP_p I_u_24; omega), (by have B_42 := IP_p I_u_24; omega), (by have B_43 := IP_p I_u_24; have B_44 := IP_p I; omega), (by have B_45 := IP_p I; have B_46 := IP_p I_u_24; omega)⟩
  · refine okM_seq (fun y_48 h_47 => ?_)
    have h_47' : y_48.toInt = ((u.1 4) : Int32).toInt := by rw [h_47]
    refine okM_bM (R.2.2.2.2.2 (B := B) I (by have B_50 := IP_p I; omega) (by have B_51 := IP_p I; omega) (by have B_52 := IP_p I; omega) (by have B_53 := IP_p I; omega) (by have B_54 := IP_p I; omega) (by have B_55 := IP_p I; omega) (by have B_56 := IP_p I; omega) (by have B_57 := IP_p I; omega) (by have B_58 := IP_p I; omega) (by have B_59 := IP_p I; omega) (by have B_60 := IP_p I; omega) (by have B_61 := IP_p I; omega) (by have B_62 := IP_p I; omega) (by have B_63 := IP_p I; omega)) (fun r_64 u_65 z_49 => ?_)
    obtain ⟨I_u_65, G_u_65, p_66, p_67, p_68, p_69, p_70, p_71, p_72, p_73, p_74⟩ := z_49
    have F_u_65 : Fr [2, 4, 5, 28] [10, 11, 12, 13, 14, 15, 16, 17, 18, 19, 20] u u_65 := Fr_tr (Fr_rfl u) G_u_65 rfl rfl
    have g_75 : (u_65.1 1).toInt = (u.1 1).toInt := by rw [G_u_65.1 1 rfl]
    refine okM_seq (fun y_77 h_76 => ?_)
    have h_76' : y_77.toInt = ((u_65.1 4) : Int32).toInt := by rw [h_76]
    refine okM_bP (kM_SqlReaderModel_compares (IP_IW I_u_65) (by have FUe : FU = 100000 := rfl; have B_79 := IP_p I_u_65; have B_80 := IP_p I; omega)) (fun r_81 z_78 => ?_)
    obtain ⟨p_82, p_83, p_84⟩ := z_78
    refine okM_le (fun c_85 => ?_) (fun c_85 => ?_)
    · refine okM_bP (kM_SqlReaderModel_is (IP_IW I_u_65) (by decide) (by have FUe : FU = 100000 := rfl; have B_87 := IP_p I_u_65; have B_88 := IP_p I; omega)) (fun r_89 z_86 => ?_)
      obtain ⟨p_90, p_91, p_92⟩ := z_86
      refine okM_eq (fun c_93 c_93' => ?_) (fun c_93 => ?_)
      · refine okM_bP (kM_SqlReaderModel_is (IP_IW I_u_65) (by decide) (by have FUe : FU = 100000 := rfl; have B_95 := IP_p I_u_65; have B_96 := IP_p I; omega)) (fun r_97 z_94 => ?_)
        obtain ⟨p_98, p_99, p_100⟩ := z_94
        refine okM_eq (fun c_101 c_101' => ?_) (fun c_101 => ?_)
        · refine okM_mono (kP_SqlReaderModel_comparison_J203 (B := (B + 32 * (((r_5).toInt - (x1).toInt).toNat : Int) + 8)) R I_u_65 (by have FUe : FU = 100000 := rfl; have B_102 := IP_p I_u_65; have B_103 := IP_p I; omega) (by have FUe : FU = 100000 := rfl; have B_104 := IP_p I_u_65; have B_105 := IP_p I; omega) (by have FUe : FU = 100000 := rfl; have B_106 := IP_p I_u_65; have B_107 := IP_p I; omega) (by have FUe : FU = 100000 := rfl; have B_108 := IP_p I_u_65; have B_109 := IP_p I; omega) (by have FUe : FU = 100000 := rfl; have B_110 := IP_p I_u_65; have B_111 := IP_p I; omega) (by have FUe : FU = 100000 := rfl; have B_112 := IP_p I_u_65; have B_113 := IP_p I; omega) (by have FUe : FU = 100000 := rfl; have B_114 := IP_p I_u_65; have B_115 := IP_p I; omega) (by have FUe : FU = 100000 := rfl; have B_116 := IP_p I_u_65; have B_117 := IP_p I; omega) (by have FUe : FU = 100000 := rfl; have B_118 := IP_p I_u_65; have B_119 := IP_p I; omega) (by have FUe : FU = 100000 := rfl; have B_120 := IP_p I_u_65; have B_121 := IP_p I; omega) (by have FUe : FU = 100000 := rfl; have B_122 := IP_p I_u_65; have B_123 := IP_p I; omega) (by have FUe : FU = 100000 := rfl; have B_124 := IP_p I_u_65; have B_125 := IP_p I; omega) (by have FUe : FU = 100000 := rfl; have B_126 := IP_p I_u_65; have B_127 := IP_p I; omega) (by have FUe : FU = 100000 := rfl; have B_128 := IP_p I_u_65; have B_129 := IP_p I; omega) (by have FUe : FU = 100000 := rfl; have B_130 := IP_p I_u_65; have B_131 := IP_p I; omega) (by have FUe : FU = 100000 := rfl; have B_132 := IP_p I_u_65; have B_133 := IP_p I; omega) (by have FUe : FU = 100000 := rfl; have B_134 := IP_p I_u_65; have B_135 := IP_p I; omega)) (fun r_137 u_138 z_136 => ?_)
          obtain ⟨I_u_138, G_u_138, p_139, p_140, p_141, p_142, p_143, p_144⟩ := z_136
          have F_u_138 : Fr [2, 4, 5, 28] [10, 11, 12, 13, 14, 15, 16, 17, 18, 19, 20] u u_138 := Fr_tr F_u_65 G_u_138 rfl rfl
          have g_145 : (u_138.1 1).toInt = (u_65.1 1).toInt := by rw [G_u_138.1 1 rfl]
          exact ⟨I_u_138, F_u_138, (by have B_146 := IP_p I; have B_147 := IP_p I_u_138; omega), (by have B_148 := IP_p I; have B_149 := IP_p I_u_138; omega), (by have B_150 := IP_p I_u_138; omega), (by have B_151 := IP_p I_u_138; omega), (by omega), (by have B_152 := IP_p I_u_138; omega), (by have B_153 := IP_p I_u_138; omega), (by have B_154 := IP_p I_u_138; have B_155 := IP_p I; omega), (by have B_156 := IP_p I; have B_157 := IP_p I_u_138; omega)⟩
        · try have e_158 : (r_5 + 1 : Int32).toInt = (r_5 : Int32).toInt + (1 : Int32).toInt := by have B_159 := IP_p I; exact add_i (by omega) (by omega)
          refine okM_mono (kP_SqlReaderModel_comparison_J203 (B := (B + 32 * (((r_5).toInt - (x1).toInt).toNat : Int) + 8)) R I_u_65 (by have FUe : FU = 100000 := rfl; have B_160 := IP_p I_u_65; have B_161 := IP_p I; omega) (by have FUe : FU = 100000 := rfl; have B_162 := IP_p I_u_65; have B_163 := IP_p I; omega) (by have FUe : FU = 100000 := rfl; have B_164 := IP_p I_u_65; have B_165 := IP_p I; omega) (by have FUe : FU = 100000 := rfl; have B_166 := IP_p I_u_65; have B_167 := IP_p I; omega) (by have FUe : FU = 100000 := rfl; have B_168 := IP_p I_u_65; have B_169 := IP_p I; omega) (by have FUe : FU = 100000 := rfl; have B_170 := IP_p I_u_65; have B_171 := IP_p I; omega) (by have FUe : FU = 100000 := rfl; have B_172 := IP_p I_u_65; have B_173 := IP_p I; omega) (by have FUe : FU = 100000 := rfl; have B_174 := IP_p I_u_65; have B_175 := IP_p I; omega) (by have FUe : FU = 100000 := rfl; have B_176 := IP_p I_u_65; have B_177 := IP_p I; omega) (by have FUe : FU = 100000 := rfl; have B_178 := IP_p I_u_65; have B_179 := IP_p I; omega) (by have FUe : FU = 100000 := rfl; have B_180 := IP_p I_u_65; have B_181 := IP_p I; omega) (by have FUe : FU = 100000 := rfl; have B_182 := IP_p I_u_65; have B_183 := IP_p I; omega) (by have FUe : FU = 100000 := rfl; have B_184 := IP_p I_u_65; have B_185 := IP_p I; omega) (by have FUe : FU = 100000 := rfl; have B_186 := IP_p I_u_65; have B_187 := IP_p I; omega) (by have FUe : FU = 100000 := rfl; have B_188 := IP_p I_u_65; have B_189 := IP_p I; omega) (by have FUe : FU = 100000 := rfl; have B_190 := IP_p I_u_65; have B_191 := IP_p I; omega) (by have FUe : FU = 100000 := rfl; have B_192 := IP_p I_u_65; have B_193 := IP_p I; omega)) (fun r_195 u_196 z_194 => ?_)
          obtain ⟨I_u_196, G_u_196, p_197, p_198, p_199, p_200, p_201, p_202⟩ := z_194
          have F_u_196 : Fr [2, 4, 5, 28] [10, 11, 12, 13, 14, 15, 16, 17, 18, 19, 20] u u_196 := Fr_tr F_u_65 G_u_196 rfl rfl
          have g_203 : (u_196.1 1).toInt = (u_65.1 1).toInt := by rw [G_u_196.1 1 rfl]
          exact ⟨I_u_196, F_u_196, (by have B_204 := IP_p I; have B_205 := IP_p I_u_196; omega), (by have B_206 := IP_p I; have B_207 := IP_p I_u_196; omega), (by have B_208 := IP_p I_u_196; omega), (by have B_209 := IP_p I_u_196; omega), (by omega), (by have B_210 := IP_p I_u_196; omega), (by have B_211 := IP_p I_u_196; omega), (by have B_212 := IP_p I_u_196; have B_213 := IP_p I; omega), (by have B_214 := IP_p I; have B_215 := IP_p I_u_196; omega)⟩
      · try have e_216 : (r_5 + 1 : Int32).toInt = (r_5 : Int32).toInt + (1 : Int32).toInt := by have B_217 := IP_p I; exact add_i (by omega) (by omega)
        refine okM_bP (kM_SqlReaderModel_is (IP_IW I_u_65) (by decide) (by have FUe : FU = 100000 := rfl; have B_219 := IP_p I_u_65; have B_220 := IP_p I; omega)) (fun r_221 z_218 => ?_)
        obtain ⟨p_222, p_223, p_224⟩ := z_218
        refine okM_eq (fun c_225 c_225' => ?_) (fun c_225 => ?_)
        · try have e_226 : (r_5 + 1 : Int32).toInt = (r_5 : Int32).toInt + (1 : Int32).toInt := by have B_227 := IP_p I; exact add_i (by omega) (by omega)
          rw [mM_SqlReaderModel_comparison_J120]
          refine okM_eq (fun c_228 c_228' => ?_) (fun c_228 => ?_)
          · try have e_229 : (r_5 + 1 : Int32).toInt = (r_5 : Int32).toInt + (1 : Int32).toInt := by have B_230 := IP_p I; exact add_i (by omega) (by omega)
            try have e_231 : (x2 - 1 : Int32).toInt = (x2 : Int32).toInt - (1 : Int32).toInt := by have B_232 := IP_p I; exact sub_i (by omega) (by omega)
            refine okM_eq (fun c_233 c_233' => ?_) (fun c_233 => ?_)
            · try have e_234 : (r_5 + 1 : Int32).toInt = (r_5 : Int32).toInt + (1 : Int32).toInt := by have B_235 := IP_p I; exact add_i (by omega) (by omega)
              refine okM_bP (kM_SqlReaderModel_is (IP_IW I_u_65) (by decide) (by have FUe : FU = 100000 := rfl; have B_237 := IP_p I_u_65; have B_238 := IP_p I; omega)) (fun r_239 z_236 => ?_)
              obtain ⟨p_240, p_241, p_242⟩ := z_236
              refine okM_eq (fun c_243 c_243' => ?_) (fun c_243 => ?_)
              · rw [mM_SqlReaderModel_comparison_J155]
                refine okM_gd (by decide) ?_
                refine okM_seq (fun u_245 h_244 => ?_)
                have I_u_245 : IP u_245 := by rw [h_244]; exact IP_bad I_u_65 (by have B_246 := IP_b I_u_65; omega) (by have B_247 := IP_b I_u_65; omega) (by have B_248 := IP_b I_u_65; omega)
                have F_u_245 : Fr [2, 4, 5, 28] [10, 11, 12, 13, 14, 15, 16, 17, 18, 19, 20] u u_245 := by rw [h_244]; exact Fr_ss F_u_65 rfl rfl
                have g_249 : (u_245.1 2).toInt = (1 : Int32).toInt := by rw [h_244]; rfl
                have g_250 : (u_245.1 1).toInt = (u_65.1 1).toInt := by rw [h_244]; rfl
                have g_251 : (u_245.1 4).toInt = (u_65.1 4).toInt := by rw [h_244]; rfl
                refine okM_eq (fun c_252 c_252' => ?_) (fun c_252 => ?_)
                · refine okM_bM (kP_SqlReaderModel_add I_u_245 (by have FUe : FU = 100000 := rfl; have B_254 := IP_p I_u_245; have B_255 := IP_p I; omega) (by have FUe : FU = 100000 := rfl; have B_256 := IP_p I_u_245; have B_257 := IP_p I; omega) (by have FUe : FU = 100000 := rfl; have B_258 := IP_p I_u_245; have B_259 := IP_p I; omega) (by have FUe : FU = 100000 := rfl; have B_260 := IP_p I_u_245; have B_261 := IP_p I; omega) (by have FUe : FU = 100000 := rfl; have B_262 := IP_p I_u_245; have B_263 := IP_p I; omega) (by have FUe : FU = 100000 := rfl; have B_264 := IP_p I_u_245; have B_265 := IP_p I; omega) (by have FUe : FU = 100000 := rfl; have B_266 := IP_p I_u_245; have B_267 := IP_p I; omega)) (fun r_268 u_269 z_253 => ?_)
                  obtain ⟨I_u_269, G_u_269, p_270, p_271, p_272⟩ := z_253
                  have F_u_269 : Fr [2, 4, 5, 28] [10, 11, 12, 13, 14, 15, 16, 17, 18, 19, 20] u u_269 := Fr_tr F_u_245 G_u_269 rfl rfl
                  have g_273 : (u_269.1 1).toInt = (u_245.1 1).toInt := by rw [G_u_269.1 1 rfl]
                  have g_274 : (u_269.1 2).toInt = (u_245.1 2).toInt := by rw [G_u_269.1 2 rfl]
                  exact okM_some ⟨I_u_269, F_u_269, (by have B_275 := IP_p I; have B_276 := IP_p I_u_269; omega), (by have B_277 := IP_p I; have B_278 := IP_p I_u_269; omega), (by have B_279 := IP_p I_u_269; omega), (by have B_280 := IP_p I_u_269; omega), (by omega), (by have B_281 := IP_p I_u_269; omega), (by have B_282 := IP_p I_u_269; omega), (by have B_283 := IP_p I_u_269; have B_284 := IP_p I; omega), (by have B_285 := IP_p I; have B_286 := IP_p I_u_269; omega)⟩
                · refine okM_bM (kP_SqlReaderModel_add I_u_245 (by have FUe : FU = 100000 := rfl; have B_288 := IP_p I_u_245; have B_289 := IP_p I; omega) (by have FUe : FU = 100000 := rfl; have B_290 := IP_p I_u_245; have B_291 := IP_p I; omega) (by have FUe : FU = 100000 := rfl; have B_292 := IP_p I_u_245; have B_293 := IP_p I; omega) (by have FUe : FU = 100000 := rfl; have B_294 := IP_p I_u_245; have B_295 := IP_p I; omega) (by have FUe : FU = 100000 := rfl; have B_296 := IP_p I_u_245; have B_297 := IP_p I; omega) (by have FUe : FU = 100000 := rfl; have B_298 := IP_p I_u_245; have B_299 := IP_p I; omega) (by have FUe : FU = 100000 := rfl; have B_300 := IP_p I_u_245; have B_301 := IP_p I; omega)) (fun r_302 u_303 z_287 => ?_)
                  obtain ⟨I_u_303, G_u_303, p_304, p_305, p_306⟩ := z_287
                  have F_u_303 : Fr [2, 4, 5, 28] [10, 11, 12, 13, 14, 15, 16, 17, 18, 19, 20] u u_303 := Fr_tr F_u_245 G_u_303 rfl rfl
                  have g_307 : (u_303.1 1).toInt = (u_245.1 1).toInt := by rw [G_u_303.1 1 rfl]
                  have g_308 : (u_303.1 2).toInt = (u_245.1 2).toInt := by rw [G_u_303.1 2 rfl]
                  exact okM_some ⟨I_u_303, F_u_303, (by have B_309 := IP_p I; have B_310 := IP_p I_u_303; omega), (by have B_311 := IP_p I; have B_312 := IP_p I_u_303; omega), (by have B_313 := IP_p I_u_303; omega), (by have B_314 := IP_p I_u_303; omega), (by omega), (by have B_315 := IP_p I_u_303; omega), (by have B_316 := IP_p I_u_303; omega), (by have B_317 := IP_p I_u_303; have B_318 := IP_p I; omega), (by have B_319 := IP_p I; have B_320 := IP_p I_u_303; omega)⟩
              · rw [mM_SqlReaderModel_comparison_J155]
                refine okM_gd (by decide) ?_
                refine okM_seq (fun u_322 h_321 => ?_)
                have I_u_322 : IP u_322 := by rw [h_321]; exact IP_bad I_u_65 (by have B_323 := IP_b I_u_65; omega) (by have B_324 := IP_b I_u_65; omega) (by have B_325 := IP_b I_u_65; omega)
                have F_u_322 : Fr [2, 4, 5, 28] [10, 11, 12, 13, 14, 15, 16, 17, 18, 19, 20] u u_322 := by rw [h_321]; exact Fr_ss F_u_65 rfl rfl
                have g_326 : (u_322.1 2).toInt = (0 : Int32).toInt := by rw [h_321]; rfl
                have g_327 : (u_322.1 1).toInt = (u_65.1 1).toInt := by rw [h_321]; rfl
                have g_328 : (u_322.1 4).toInt = (u_65.1 4).toInt := by rw [h_321]; rfl
                refine okM_eq (fun c_329 c_329' => ?_) (fun c_329 => ?_)
                · refine okM_bM (kP_SqlReaderModel_add I_u_322 (by have FUe : FU = 100000 := rfl; have B_331 := IP_p I_u_322; have B_332 := IP_p I; omega) (by have FUe : FU = 100000 := rfl; have B_333 := IP_p I_u_322; have B_334 := IP_p I; omega) (by have FUe : FU = 100000 := rfl; have B_335 := IP_p I_u_322; have B_336 := IP_p I; omega) (by have FUe : FU = 100000 := rfl; have B_337 := IP_p I_u_322; have B_338 := IP_p I; omega) (by have FUe : FU = 100000 := rfl; have B_339 := IP_p I_u_322; have B_340 := IP_p I; omega) (by have FUe : FU = 100000 := rfl; have B_341 := IP_p I_u_322; have B_342 := IP_p I; omega) (by have FUe : FU = 100000 := rfl; have B_343 := IP_p I_u_322; have B_344 := IP_p I; omega)) (fun r_345 u_346 z_330 => ?_)
                  obtain ⟨I_u_346, G_u_346, p_347, p_348, p_349⟩ := z_330
                  have F_u_346 : Fr [2, 4, 5, 28] [10, 11, 12, 13, 14, 15, 16, 17, 18, 19, 20] u u_346 := Fr_tr F_u_322 G_u_346 rfl rfl
                  have g_350 : (u_346.1 1).toInt = (u_322.1 1).toInt := by rw [G_u_346.1 1 rfl]
                  have g_351 : (u_346.1 2).toInt = (u_322.1 2).toInt := by rw [G_u_346.1 2 rfl]
                  exact okM_some ⟨I_u_346, F_u_346, (by have B_352 := IP_p I; have B_353 := IP_p I_u_346; omega), (by have B_354 := IP_p I; have B_355 := IP_p I_u_346; omega), (by have B_356 := IP_p I_u_346; omega), (by have B_357 := IP_p I_u_346; omega), (by omega), (by have B_358 := IP_p I_u_346; omega), (by have B_359 := IP_p I_u_346; omega), (by have B_360 := IP_p I_u_346; have B_361 := IP_p I; omega), (by have B_362 := IP_p I; have B_363 := IP_p I_u_346; omega)⟩
                · refine okM_bM (kP_SqlReaderModel_add I_u_322 (by have FUe : FU = 100000 := rfl; have B_365 := IP_p I_u_322; have B_366 := IP_p I; omega) (by have FUe : FU = 100000 := rfl; have B_367 := IP_p I_u_322; have B_368 := IP_p I; omega) (by have FUe : FU = 100000 := rfl; have B_369 := IP_p I_u_322; have B_370 := IP_p I; omega) (by have FUe : FU = 100000 := rfl; have B_371 := IP_p I_u_322; have B_372 := IP_p I; omega) (by have FUe : FU = 100000 := rfl; have B_373 := IP_p I_u_322; have B_374 := IP_p I; omega) (by have FUe : FU = 100000 := rfl; have B_375 := IP_p I_u_322; have B_376 := IP_p I; omega) (by have FUe : FU = 100000 := rfl; have B_377 := IP_p I_u_322; have B_378 := IP_p I; omega)) (fun r_379 u_380 z_364 => ?_)
                  obtain ⟨I_u_380, G_u_380, p_381, p_382, p_383⟩ := z_364
                  have F_u_380 : Fr [2, 4, 5, 28] [10, 11, 12, 13, 14, 15, 16, 17, 18, 19, 20] u u_380 := Fr_tr F_u_322 G_u_380 rfl rfl
                  have g_384 : (u_380.1 1).toInt = (u_322.1 1).toInt := by rw [G_u_380.1 1 rfl]
                  have g_385 : (u_380.1 2).toInt = (u_322.1 2).toInt := by rw [G_u_380.1 2 rfl]
                  exact okM_some ⟨I_u_380, F_u_380, (by have B_386 := IP_p I; have B_387 := IP_p I_u_380; omega), (by have B_388 := IP_p I; have B_389 := IP_p I_u_380; omega), (by have B_390 := IP_p I_u_380; omega), (by have B_391 := IP_p I_u_380; omega), (by omega), (by have B_392 := IP_p I_u_380; omega), (by have B_393 := IP_p I_u_380; omega), (by have B_394 := IP_p I_u_380; have B_395 := IP_p I; omega), (by have B_396 := IP_p I; have B_397 := IP_p I_u_380; omega)⟩
            · rw [mM_SqlReaderModel_comparison_J155]
              refine okM_gd (by decide) ?_
              refine okM_seq (fun u_399 h_398 => ?_)
              have I_u_399 : IP u_399 := by rw [h_398]; exact IP_bad I_u_65 (by have B_400 := IP_b I_u_65; omega) (by have B_401 := IP_b I_u_65; omega) (by have B_402 := IP_b I_u_65; omega)
              have F_u_399 : Fr [2, 4, 5, 28] [10, 11, 12, 13, 14, 15, 16, 17, 18, 19, 20] u u_399 := by rw [h_398]; exact Fr_ss F_u_65 rfl rfl
              have g_403 : (u_399.1 2).toInt = (1 : Int32).toInt := by rw [h_398]; rfl
              have g_404 : (u_399.1 1).toInt = (u_65.1 1).toInt := by rw [h_398]; rfl
              have g_405 : (u_399.1 4).toInt = (u_65.1 4).toInt := by rw [h_398]; rfl
              refine okM_eq (fun c_406 c_406' => ?_) (fun c_406 => ?_)
              · refine okM_bM (kP_SqlReaderModel_add I_u_399 (by have FUe : FU = 100000 := rfl; have B_408 := IP_p I_u_399; have B_409 := IP_p I; omega) (by have FUe : FU = 100000 := rfl; have B_410 := IP_p I_u_399; have B_411 := IP_p I; omega) (by have FUe : FU = 100000 := rfl; have B_412 := IP_p I_u_399; have B_413 := IP_p I; omega) (by have FUe : FU = 100000 := rfl; have B_414 := IP_p I_u_399; have B_415 := IP_p I; omega) (by have FUe : FU = 100000 := rfl; have B_416 := IP_p I_u_399; have B_417 := IP_p I; omega) (by have FUe : FU = 100000 := rfl; have B_418 := IP_p I_u_399; have B_419 := IP_p I; omega) (by have FUe : FU = 100000 := rfl; have B_420 := IP_p I_u_399; have B_421 := IP_p I; omega)) (fun r_422 u_423 z_407 => ?_)
                obtain ⟨I_u_423, G_u_423, p_424, p_425, p_426⟩ := z_407
                have F_u_423 : Fr [2, 4, 5, 28] [10, 11, 12, 13, 14, 15, 16, 17, 18, 19, 20] u u_423 := Fr_tr F_u_399 G_u_423 rfl rfl
                have g_427 : (u_423.1 1).toInt = (u_399.1 1).toInt := by rw [G_u_423.1 1 rfl]
                have g_428 : (u_423.1 2).toInt = (u_399.1 2).toInt := by rw [G_u_423.1 2 rfl]
                exact okM_some ⟨I_u_423, F_u_423, (by have B_429 := IP_p I; have B_430 := IP_p I_u_423; omega), (by have B_431 := IP_p I; have B_432 := IP_p I_u_423; omega), (by have B_433 := IP_p I_u_423; omega), (by have B_434 := IP_p I_u_423; omega), (by omega), (by have B_435 := IP_p I_u_423; omega), (by have B_436 := IP_p I_u_423; omega), (by have B_437 := IP_p I_u_423; have B_438 := IP_p I; omega), (by have B_439 := IP_p I; have B_440 := IP_p I_u_423; omega)⟩
              · refine okM_bM (kP_SqlReaderModel_add I_u_399 (by have FUe : FU = 100000 := rfl; have B_442 := IP_p I_u_399; have B_443 := IP_p I; omega) (by have FUe : FU = 100000 := rfl; have B_444 := IP_p I_u_399; have B_445 := IP_p I; omega) (by have FUe : FU = 100000 := rfl; have B_446 := IP_p I_u_399; have B_447 := IP_p I; omega) (by have FUe : FU = 100000 := rfl; have B_448 := IP_p I_u_399; have B_449 := IP_p I; omega) (by have FUe : FU = 100000 := rfl; have B_450 := IP_p I_u_399; have B_451 := IP_p I; omega) (by have FUe : FU = 100000 := rfl; have B_452 := IP_p I_u_399; have B_453 := IP_p I; omega) (by have FUe : FU = 100000 := rfl; have B_454 := IP_p I_u_399; have B_455 := IP_p I; omega)) (fun r_456 u_457 z_441 => ?_)
                obtain ⟨I_u_457, G_u_457, p_458, p_459, p_460⟩ := z_441
                have F_u_457 : Fr [2, 4, 5, 28] [10, 11, 12, 13, 14, 15, 16, 17, 18, 19, 20] u u_457 := Fr_tr F_u_399 G_u_457 rfl rfl
                have g_461 : (u_457.1 1).toInt = (u_399.1 1).toInt := by rw [G_u_457.1 1 rfl]
                have g_462 : (u_457.1 2).toInt = (u_399.1 2).toInt := by rw [G_u_457.1 2 rfl]
                exact okM_some ⟨I_u_457, F_u_457, (by have B_463 := IP_p I; have B_464 := IP_p I_u_457; omega), (by have B_465 := IP_p I; have B_466 := IP_p I_u_457; omega), (by have B_467 := IP_p I_u_457; omega), (by have B_468 := IP_p I_u_457; omega), (by omega), (by have B_469 := IP_p I_u_457; omega), (by have B_470 := IP_p I_u_457; omega), (by have B_471 := IP_p I_u_457; have B_472 := IP_p I; omega), (by have B_473 := IP_p I; have B_474 := IP_p I_u_457; omega)⟩
          · rw [mM_SqlReaderModel_comparison_J155]
            refine okM_gd (by decide) ?_
            refine okM_seq (fun u_476 h_475 => ?_)
            have I_u_476 : IP u_476 := by rw [h_475]; exact IP_bad I_u_65 (by have B_477 := IP_b I_u_65; omega) (by have B_478 := IP_b I_u_65; omega) (by have B_479 := IP_b I_u_65; omega)
            have F_u_476 : Fr [2, 4, 5, 28] [10, 11, 12, 13, 14, 15, 16, 17, 18, 19, 20] u u_476 := by rw [h_475]; exact Fr_ss F_u_65 rfl rfl
            have g_480 : (u_476.1 2).toInt = (1 : Int32).toInt := by rw [h_475]; rfl
            have g_481 : (u_476.1 1).toInt = (u_65.1 1).toInt := by rw [h_475]; rfl
            have g_482 : (u_476.1 4).toInt = (u_65.1 4).toInt := by rw [h_475]; rfl
            refine okM_eq (fun c_483 c_483' => ?_) (fun c_483 => ?_)
            · refine okM_bM (kP_SqlReaderModel_add I_u_476 (by have FUe : FU = 100000 := rfl; have B_485 := IP_p I_u_476; have B_486 := IP_p I; omega) (by have FUe : FU = 100000 := rfl; have B_487 := IP_p I_u_476; have B_488 := IP_p I; omega) (by have FUe : FU = 100000 := rfl; have B_489 := IP_p I_u_476; have B_490 := IP_p I; omega) (by have FUe : FU = 100000 := rfl; have B_491 := IP_p I_u_476; have B_492 := IP_p I; omega) (by have FUe : FU = 100000 := rfl; have B_493 := IP_p I_u_476; have B_494 := IP_p I; omega) (by have FUe : FU = 100000 := rfl; have B_495 := IP_p I_u_476; have B_496 := IP_p I; omega) (by have FUe : FU = 100000 := rfl; have B_497 := IP_p I_u_476; have B_498 := IP_p I; omega)) (fun r_499 u_500 z_484 => ?_)
              obtain ⟨I_u_500, G_u_500, p_501, p_502, p_503⟩ := z_484
              have F_u_500 : Fr [2, 4, 5, 28] [10, 11, 12, 13, 14, 15, 16, 17, 18, 19, 20] u u_500 := Fr_tr F_u_476 G_u_500 rfl rfl
              have g_504 : (u_500.1 1).toInt = (u_476.1 1).toInt := by rw [G_u_500.1 1 rfl]
              have g_505 : (u_500.1 2).toInt = (u_476.1 2).toInt := by rw [G_u_500.1 2 rfl]
              exact okM_some ⟨I_u_500, F_u_500, (by have B_506 := IP_p I; have B_507 := IP_p I_u_500; omega), (by have B_508 := IP_p I; have B_509 := IP_p I_u_500; omega), (by have B_510 := IP_p I_u_500; omega), (by have B_511 := IP_p I_u_500; omega), (by omega), (by have B_512 := IP_p I_u_500; omega), (by have B_513 := IP_p I_u_500; omega), (by have B_514 := IP_p I_u_500; have B_515 := IP_p I; omega), (by have B_516 := IP_p I; have B_517 := IP_p I_u_500; omega)⟩
            · refine okM_bM (kP_SqlReaderModel_add I_u_476 (by have FUe : FU = 100000 := rfl; have B_519 := IP_p I_u_476; have B_520 := IP_p I; omega) (by have FUe : FU = 100000 := rfl; have B_521 := IP_p I_u_476; have B_522 := IP_p I; omega) (by have FUe : FU = 100000 := rfl; have B_523 := IP_p I_u_476; have B_524 := IP_p I; omega) (by have FUe : FU = 100000 := rfl; have B_525 := IP_p I_u_476; have B_526 := IP_p I; omega) (by have FUe : FU = 100000 := rfl; have B_527 := IP_p I_u_476; have B_528 := IP_p I; omega) (by have FUe : FU = 100000 := rfl; have B_529 := IP_p I_u_476; have B_530 := IP_p I; omega) (by have FUe : FU = 100000 := rfl; have B_531 := IP_p I_u_476; have B_532 := IP_p I; omega)) (fun r_533 u_534 z_518 => ?_)
              obtain ⟨I_u_534, G_u_534, p_535, p_536, p_537⟩ := z_518
              have F_u_534 : Fr [2, 4, 5, 28] [10, 11, 12, 13, 14, 15, 16, 17, 18, 19, 20] u u_534 := Fr_tr F_u_476 G_u_534 rfl rfl
              have g_538 : (u_534.1 1).toInt = (u_476.1 1).toInt := by rw [G_u_534.1 1 rfl]
              have g_539 : (u_534.1 2).toInt = (u_476.1 2).toInt := by rw [G_u_534.1 2 rfl]
              exact okM_some ⟨I_u_534, F_u_534, (by have B_540 := IP_p I; have B_541 := IP_p I_u_534; omega), (by have B_542 := IP_p I; have B_543 := IP_p I_u_534; omega), (by have B_544 := IP_p I_u_534; omega), (by have B_545 := IP_p I_u_534; omega), (by omega), (by have B_546 := IP_p I_u_534; omega), (by have B_547 := IP_p I_u_534; omega), (by have B_548 := IP_p I_u_534; have B_549 := IP_p I; omega), (by have B_550 := IP_p I; have B_551 := IP_p I_u_534; omega)⟩
        · try have e_552 : (r_5 + 2 : Int32).toInt = (r_5 : Int32).toInt + (2 : Int32).toInt := by have B_553 := IP_p I; exact add_i (by omega) (by omega)
          rw [mM_SqlReaderModel_comparison_J120]
          refine okM_eq (fun c_554 c_554' => ?_) (fun c_554 => ?_)
          · try have e_555 : (r_5 + 2 : Int32).toInt = (r_5 : Int32).toInt + (2 : Int32).toInt := by have B_556 := IP_p I; exact add_i (by omega) (by omega)
            try have e_557 : (x2 - 1 : Int32).toInt = (x2 : Int32).toInt - (1 : Int32).toInt := by have B_558 := IP_p I; exact sub_i (by omega) (by omega)
            refine okM_eq (fun c_559 c_559' => ?_) (fun c_559 => ?_)
            · try have e_560 : (r_5 + 2 : Int32).toInt = (r_5 : Int32).toInt + (2 : Int32).toInt := by have B_561 := IP_p I; exact add_i (by omega) (by omega)
              refine okM_bP (kM_SqlReaderModel_is (IP_IW I_u_65) (by decide) (by have FUe : FU = 100000 := rfl; have B_563 := IP_p I_u_65; have B_564 := IP_p I; omega)) (fun r_565 z_562 => ?_)
              obtain ⟨p_566, p_567, p_568⟩ := z_562
              refine okM_eq (fun c_569 c_569' => ?_) (fun c_569 => ?_)
              · rw [mM_SqlReaderModel_comparison_J155]
                refine okM_gd (by decide) ?_
                refine okM_seq (fun u_571 h_570 => ?_)
                have I_u_571 : IP u_571 := by rw [h_570]; exact IP_bad I_u_65 (by have B_572 := IP_b I_u_65; omega) (by have B_573 := IP_b I_u_65; omega) (by have B_574 := IP_b I_u_65; omega)
                have F_u_571 : Fr [2, 4, 5, 28] [10, 11, 12, 13, 14, 15, 16, 17, 18, 19, 20] u u_571 := by rw [h_570]; exact Fr_ss F_u_65 rfl rfl
                have g_575 : (u_571.1 2).toInt = (1 : Int32).toInt := by rw [h_570]; rfl
                have g_576 : (u_571.1 1).toInt = (u_65.1 1).toInt := by rw [h_570]; rfl
                have g_577 : (u_571.1 4).toInt = (u_65.1 4).toInt := by rw [h_570]; rfl
                refine okM_eq (fun c_578 c_578' => ?_) (fun c_578 => ?_)
                · refine okM_bM (kP_SqlReaderModel_add I_u_571 (by have FUe : FU = 100000 := rfl; have B_580 := IP_p I_u_571; have B_581 := IP_p I; omega) (by have FUe : FU = 100000 := rfl; have B_582 := IP_p I_u_571; have B_583 := IP_p I; omega) (by have FUe : FU = 100000 := rfl; have B_584 := IP_p I_u_571; have B_585 := IP_p I; omega) (by have FUe : FU = 100000 := rfl; have B_586 := IP_p I_u_571; have B_587 := IP_p I; omega) (by have FUe : FU = 100000 := rfl; have B_588 := IP_p I_u_571; have B_589 := IP_p I; omega) (by have FUe : FU = 100000 := rfl; have B_590 := IP_p I_u_571; have B_591 := IP_p I; omega) (by have FUe : FU = 100000 := rfl; have B_592 := IP_p I_u_571; have B_593 := IP_p I; omega)) (fun r_594 u_595 z_579 => ?_)
                  obtain ⟨I_u_595, G_u_595, p_596, p_597, p_598⟩ := z_579
                  have F_u_595 : Fr [2, 4, 5, 28] [10, 11, 12, 13, 14, 15, 16, 17, 18, 19, 20] u u_595 := Fr_tr F_u_571 G_u_595 rfl rfl
                  have g_599 : (u_595.1 1).toInt = (u_571.1 1).toInt := by rw [G_u_595.1 1 rfl]
                  have g_600 : (u_595.1 2).toInt = (u_571.1 2).toInt := by rw [G_u_595.1 2 rfl]
                  exact okM_some ⟨I_u_595, F_u_595, (by have B_601 := IP_p I; have B_602 := IP_p I_u_595; omega), (by have B_603 := IP_p I; have B_604 := IP_p I_u_595; omega), (by have B_605 := IP_p I_u_595; omega), (by have B_606 := IP_p I_u_595; omega), (by omega), (by have B_607 := IP_p I_u_595; omega), (by have B_608 := IP_p I_u_595; omega), (by have B_609 := IP_p I_u_595; have B_610 := IP_p I; omega), (by have B_611 := IP_p I; have B_612 := IP_p I_u_595; omega)⟩
                · refine okM_bM (kP_SqlReaderModel_add I_u_571 (by have FUe : FU = 100000 := rfl; have B_614 := IP_p I_u_571; have B_615 := IP_p I; omega) (by have FUe : FU = 100000 := rfl; have B_616 := IP_p I_u_571; have B_617 := IP_p I; omega) (by have FUe : FU = 100000 := rfl; have B_618 := IP_p I_u_571; have B_619 := IP_p I; omega) (by have FUe : FU = 100000 := rfl; have B_620 := IP_p I_u_571; have B_621 := IP_p I; omega) (by have FUe : FU = 100000 := rfl; have B_622 := IP_p I_u_571; have B_623 := IP_p I; omega) (by have FUe : FU = 100000 := rfl; have B_624 := IP_p I_u_571; have B_625 := IP_p I; omega) (by have FUe : FU = 100000 := rfl; have B_626 := IP_p I_u_571; have B_627 := IP_p I; omega)) (fun r_628 u_629 z_613 => ?_)
                  obtain ⟨I_u_629, G_u_629, p_630, p_631, p_632⟩ := z_613
                  have F_u_629 : Fr [2, 4, 5, 28] [10, 11, 12, 13, 14, 15, 16, 17, 18, 19, 20] u u_629 := Fr_tr F_u_571 G_u_629 rfl rfl
                  have g_633 : (u_629.1 1).toInt = (u_571.1 1).toInt := by rw [G_u_629.1 1 rfl]
                  have g_634 : (u_629.1 2).toInt = (u_571.1 2).toInt := by rw [G_u_629.1 2 rfl]
                  exact okM_some ⟨I_u_629, F_u_629, (by have B_635 := IP_p I; have B_636 := IP_p I_u_629; omega), (by have B_637 := IP_p I; have B_638 := IP_p I_u_629; omega), (by have B_639 := IP_p I_u_629; omega), (by have B_640 := IP_p I_u_629; omega), (by omega), (by have B_641 := IP_p I_u_629; omega), (by have B_642 := IP_p I_u_629; omega), (by have B_643 := IP_p I_u_629; have B_644 := IP_p I; omega), (by have B_645 := IP_p I; have B_646 := IP_p I_u_629; omega)⟩
              · rw [mM_SqlReaderModel_comparison_J155]
                refine okM_gd (by decide) ?_
                refine okM_seq (fun u_648 h_647 => ?_)
                have I_u_648 : IP u_648 := by rw [h_647]; exact IP_bad I_u_65 (by have B_649 := IP_b I_u_65; omega) (by have B_650 := IP_b I_u_65; omega) (by have B_651 := IP_b I_u_65; omega)
                have F_u_648 : Fr [2, 4, 5, 28] [10, 11, 12, 13, 14, 15, 16, 17, 18, 19, 20] u u_648 := by rw [h_647]; exact Fr_ss F_u_65 rfl rfl
                have g_652 : (u_648.1 2).toInt = (0 : Int32).toInt := by rw [h_647]; rfl
                have g_653 : (u_648.1 1).toInt = (u_65.1 1).toInt := by rw [h_647]; rfl
                have g_654 : (u_648.1 4).toInt = (u_65.1 4).toInt := by rw [h_647]; rfl
                refine okM_eq (fun c_655 c_655' => ?_) (fun c_655 => ?_)
                · refine okM_bM (kP_SqlReaderModel_add I_u_648 (by have FUe : FU = 100000 := rfl; have B_657 := IP_p I_u_648; have B_658 := IP_p I; omega) (by have FUe : FU = 100000 := rfl; have B_659 := IP_p I_u_648; have B_660 := IP_p I; omega) (by have FUe : FU = 100000 := rfl; have B_661 := IP_p I_u_648; have B_662 := IP_p I; omega) (by have FUe : FU = 100000 := rfl; have B_663 := IP_p I_u_648; have B_664 := IP_p I; omega) (by have FUe : FU = 100000 := rfl; have B_665 := IP_p I_u_648; have B_666 := IP_p I; omega) (by have FUe : FU = 100000 := rfl; have B_667 := IP_p I_u_648; have B_668 := IP_p I; omega) (by have FUe : FU = 100000 := rfl; have B_669 := IP_p I_u_648; have B_670 := IP_p I; omega)) (fun r_671 u_672 z_656 => ?_)
                  obtain ⟨I_u_672, G_u_672, p_673, p_674, p_675⟩ := z_656
                  have F_u_672 : Fr [2, 4, 5, 28] [10, 11, 12, 13, 14, 15, 16, 17, 18, 19, 20] u u_672 := Fr_tr F_u_648 G_u_672 rfl rfl
                  have g_676 : (u_672.1 1).toInt = (u_648.1 1).toInt := by rw [G_u_672.1 1 rfl]
                  have g_677 : (u_672.1 2).toInt = (u_648.1 2).toInt := by rw [G_u_672.1 2 rfl]
                  exact okM_some ⟨I_u_672, F_u_672, (by have B_678 := IP_p I; have B_679 := IP_p I_u_672; omega), (by have B_680 := IP_p I; have B_681 := IP_p I_u_672; omega), (by have B_682 := IP_p I_u_672; omega), (by have B_683 := IP_p I_u_672; omega), (by omega), (by have B_684 := IP_p I_u_672; omega), (by have B_685 := IP_p I_u_672; omega), (by have B_686 := IP_p I_u_672; have B_687 := IP_p I; omega), (by have B_688 := IP_p I; have B_689 := IP_p I_u_672; omega)⟩
                · refine okM_bM (kP_SqlReaderModel_add I_u_648 (by have FUe : FU = 100000 := rfl; have B_691 := IP_p I_u_648; have B_692 := IP_p I; omega) (by have FUe : FU = 100000 := rfl; have B_693 := IP_p I_u_648; have B_694 := IP_p I; omega) (by have FUe : FU = 100000 := rfl; have B_695 := IP_p I_u_648; have B_696 := IP_p I; omega) (by have FUe : FU = 100000 := rfl; have B_697 := IP_p I_u_648; have B_698 := IP_p I; omega) (by have FUe : FU = 100000 := rfl; have B_699 := IP_p I_u_648; have B_700 := IP_p I; omega) (by have FUe : FU = 100000 := rfl; have B_701 := IP_p I_u_648; have B_702 := IP_p I; omega) (by have FUe : FU = 100000 := rfl; have B_703 := IP_p I_u_648; have B_704 := IP_p I; omega)) (fun r_705 u_706 z_690 => ?_)
                  obtain ⟨I_u_706, G_u_706, p_707, p_708, p_709⟩ := z_690
                  have F_u_706 : Fr [2, 4, 5, 28] [10, 11, 12, 13, 14, 15, 16, 17, 18, 19, 20] u u_706 := Fr_tr F_u_648 G_u_706 rfl rfl
                  have g_710 : (u_706.1 1).toInt = (u_648.1 1).toInt := by rw [G_u_706.1 1 rfl]
                  have g_711 : (u_706.1 2).toInt = (u_648.1 2).toInt := by rw [G_u_706.1 2 rfl]
                  exact okM_some ⟨I_u_706, F_u_706, (by have B_712 := IP_p I; have B_713 := IP_p I_u_706; omega), (by have B_714 := IP_p I; have B_715 := IP_p I_u_706; omega), (by have B_716 := IP_p I_u_706; omega), (by have B_717 := IP_p I_u_706; omega), (by omega), (by have B_718 := IP_p I_u_706; omega), (by have B_719 := IP_p I_u_706; omega), (by have B_720 := IP_p I_u_706; have B_721 := IP_p I; omega), (by have B_722 := IP_p I; have B_723 := IP_p I_u_706; omega)⟩
            · rw [mM_SqlReaderModel_comparison_J155]
              refine okM_gd (by decide) ?_
              refine okM_seq (fun u_725 h_724 => ?_)
              have I_u_725 : IP u_725 := by rw [h_724]; exact IP_bad I_u_65 (by have B_726 := IP_b I_u_65; omega) (by have B_727 := IP_b I_u_65; omega) (by have B_728 := IP_b I_u_65; omega)
              have F_u_725 : Fr [2, 4, 5, 28] [10, 11, 12, 13, 14, 15, 16, 17, 18, 19, 20] u u_725 := by rw [h_724]; exact Fr_ss F_u_65 rfl rfl
              have g_729 : (u_725.1 2).toInt = (1 : Int32).toInt := by rw [h_724]; rfl
              have g_730 : (u_725.1 1).toInt = (u_65.1 1).toInt := by rw [h_724]; rfl
              have g_731 : (u_725.1 4).toInt = (u_65.1 4).toInt := by rw [h_724]; rfl
              refine okM_eq (fun c_732 c_732' => ?_) (fun c_732 => ?_)
              · refine okM_bM (kP_SqlReaderModel_add I_u_725 (by have FUe : FU = 100000 := rfl; have B_734 := IP_p I_u_725; have B_735 := IP_p I; omega) (by have FUe : FU = 100000 := rfl; have B_736 := IP_p I_u_725; have B_737 := IP_p I; omega) (by have FUe : FU = 100000 := rfl; have B_738 := IP_p I_u_725; have B_739 := IP_p I; omega) (by have FUe : FU = 100000 := rfl; have B_740 := IP_p I_u_725; have B_741 := IP_p I; omega) (by have FUe : FU = 100000 := rfl; have B_742 := IP_p I_u_725; have B_743 := IP_p I; omega) (by have FUe : FU = 100000 := rfl; have B_744 := IP_p I_u_725; have B_745 := IP_p I; omega) (by have FUe : FU = 100000 := rfl; have B_746 := IP_p I_u_725; have B_747 := IP_p I; omega)) (fun r_748 u_749 z_733 => ?_)
                obtain ⟨I_u_749, G_u_749, p_750, p_751, p_752⟩ := z_733
                have F_u_749 : Fr [2, 4, 5, 28] [10, 11, 12, 13, 14, 15, 16, 17, 18, 19, 20] u u_749 := Fr_tr F_u_725 G_u_749 rfl rfl
                have g_753 : (u_749.1 1).toInt = (u_725.1 1).toInt := by rw [G_u_749.1 1 rfl]
                have g_754 : (u_749.1 2).toInt = (u_725.1 2).toInt := by rw [G_u_749.1 2 rfl]
                exact okM_some ⟨I_u_749, F_u_749, (by have B_755 := IP_p I; have B_756 := IP_p I_u_749; omega), (by have B_757 := IP_p I; have B_758 := IP_p I_u_749; omega), (by have B_759 := IP_p I_u_749; omega), (by have B_760 := IP_p I_u_749; omega), (by omega), (by have B_761 := IP_p I_u_749; omega), (by have B_762 := IP_p I_u_749; omega), (by have B_763 := IP_p I_u_749; have B_764 := IP_p I; omega), (by have B_765 := IP_p I; have B_766 := IP_p I_u_749; omega)⟩
              · refine okM_bM (kP_SqlReaderModel_add I_u_725 (by have FUe : FU = 100000 := rfl; have B_768 := IP_p I_u_725; have B_769 := IP_p I; omega) (by have FUe : FU = 100000 := rfl; have B_770 := IP_p I_u_725; have B_771 := IP_p I; omega) (by have FUe : FU = 100000 := rfl; have B_772 := IP_p I_u_725; have B_773 := IP_p I; omega) (by have FUe : FU = 100000 := rfl; have B_774 := IP_p I_u_725; have B_775 := IP_p I; omega) (by have FUe : FU = 100000 := rfl; have B_776 := IP_p I_u_725; have B_777 := IP_p I; omega) (by have FUe : FU = 100000 := rfl; have B_778 := IP_p I_u_725; have B_779 := IP_p I; omega) (by have FUe : FU = 100000 := rfl; have B_780 := IP_p I_u_725; have B_781 := IP_p I; omega)) (fun r_782 u_783 z_767 => ?_)
                obtain ⟨I_u_783, G_u_783, p_784, p_785, p_786⟩ := z_767
                have F_u_783 : Fr [2, 4, 5, 28] [10, 11, 12, 13, 14, 15, 16, 17, 18, 19, 20] u u_783 := Fr_tr F_u_725 G_u_783 rfl rfl
                have g_787 : (u_783.1 1).toInt = (u_725.1 1).toInt := by rw [G_u_783.1 1 rfl]
                have g_788 : (u_783.1 2).toInt = (u_725.1 2).toInt := by rw [G_u_783.1 2 rfl]
                exact okM_some ⟨I_u_783, F_u_783, (by have B_789 := IP_p I; have B_790 := IP_p I_u_783; omega), (by have B_791 := IP_p I; have B_792 := IP_p I_u_783; omega), (by have B_793 := IP_p I_u_783; omega), (by have B_794 := IP_p I_u_783; omega), (by omega), (by have B_795 := IP_p I_u_783; omega), (by have B_796 := IP_p I_u_783; omega), (by have B_797 := IP_p I_u_783; have B_798 := IP_p I; omega), (by have B_799 := IP_p I; have B_800 := IP_p I_u_783; omega)⟩
          · rw [mM_SqlReaderModel_comparison_J155]
            refine okM_gd (by decide) ?_
            refine okM_seq (fun u_802 h_801 => ?_)
            have I_u_802 : IP u_802 := by rw [h_801]; exact IP_bad I_u_65 (by have B_803 := IP_b I_u_65; omega) (by have B_804 := IP_b I_u_65; omega) (by have B_805 := IP_b I_u_65; omega)
            have F_u_802 : Fr [2, 4, 5, 28] [10, 11, 12, 13, 14, 15, 16, 17, 18, 19, 20] u u_802 := by rw [h_801]; exact Fr_ss F_u_65 rfl rfl
            have g_806 : (u_802.1 2).toInt = (1 : Int32).toInt := by rw [h_801]; rfl
            have g_807 : (u_802.1 1).toInt = (u_65.1 1).toInt := by rw [h_801]; rfl
            have g_808 : (u_802.1 4).toInt = (u_65.1 4).toInt := by rw [h_801]; rfl
            refine okM_eq (fun c_809 c_809' => ?_) (fun c_809 => ?_)
            · refine okM_bM (kP_SqlReaderModel_add I_u_802 (by have FUe : FU = 100000 := rfl; have B_811 := IP_p I_u_802; have B_812 := IP_p I; omega) (by have FUe : FU = 100000 := rfl; have B_813 := IP_p I_u_802; have B_814 := IP_p I; omega) (by have FUe : FU = 100000 := rfl; have B_815 := IP_p I_u_802; have B_816 := IP_p I; omega) (by have FUe : FU = 100000 := rfl; have B_817 := IP_p I_u_802; have B_818 := IP_p I; omega) (by have FUe : FU = 100000 := rfl; have B_819 := IP_p I_u_802; have B_820 := IP_p I; omega) (by have FUe : FU = 100000 := rfl; have B_821 := IP_p I_u_802; have B_822 := IP_p I; omega) (by have FUe : FU = 100000 := rfl; have B_823 := IP_p I_u_802; have B_824 := IP_p I; omega)) (fun r_825 u_826 z_810 => ?_)
              obtain ⟨I_u_826, G_u_826, p_827, p_828, p_829⟩ := z_810
              have F_u_826 : Fr [2, 4, 5, 28] [10, 11, 12, 13, 14, 15, 16, 17, 18, 19, 20] u u_826 := Fr_tr F_u_802 G_u_826 rfl rfl
              have g_830 : (u_826.1 1).toInt = (u_802.1 1).toInt := by rw [G_u_826.1 1 rfl]
              have g_831 : (u_826.1 2).toInt = (u_802.1 2).toInt := by rw [G_u_826.1 2 rfl]
              exact okM_some ⟨I_u_826, F_u_826, (by have B_832 := IP_p I; have B_833 := IP_p I_u_826; omega), (by have B_834 := IP_p I; have B_835 := IP_p I_u_826; omega), (by have B_836 := IP_p I_u_826; omega), (by have B_837 := IP_p I_u_826; omega), (by omega), (by have B_838 := IP_p I_u_826; omega), (by have B_839 := IP_p I_u_826; omega), (by have B_840 := IP_p I_u_826; have B_841 := IP_p I; omega), (by have B_842 := IP_p I; have B_843 := IP_p I_u_826; omega)⟩
            · refine okM_bM (kP_SqlReaderModel_add I_u_802 (by have FUe : FU = 100000 := rfl; have B_845 := IP_p I_u_802; have B_846 := IP_p I; omega) (by have FUe : FU = 100000 := rfl; have B_847 := IP_p I_u_802; have B_848 := IP_p I; omega) (by have FUe : FU = 100000 := rfl; have B_849 := IP_p I_u_802; have B_850 := IP_p I; omega) (by have FUe : FU = 100000 := rfl; have B_851 := IP_p I_u_802; have B_852 := IP_p I; omega) (by have FUe : FU = 100000 := rfl; have B_853 := IP_p I_u_802; have B_854 := IP_p I; omega) (by have FUe : FU = 100000 := rfl; have B_855 := IP_p I_u_802; have B_856 := IP_p I; omega) (by have FUe : FU = 100000 := rfl; have B_857 := IP_p I_u_802; have B_858 := IP_p I; omega)) (fun r_859 u_860 z_844 => ?_)
              obtain ⟨I_u_860, G_u_860, p_861, p_862, p_863⟩ := z_844
              have F_u_860 : Fr [2, 4, 5, 28] [10, 11, 12, 13, 14, 15, 16, 17, 18, 19, 20] u u_860 := Fr_tr F_u_802 G_u_860 rfl rfl
              have g_864 : (u_860.1 1).toInt = (u_802.1 1).toInt := by rw [G_u_860.1 1 rfl]
              have g_865 : (u_860.1 2).toInt = (u_802.1 2).toInt := by rw [G_u_860.1 2 rfl]
              exact okM_some ⟨I_u_860, F_u_860, (by have B_866 := IP_p I; have B_867 := IP_p I_u_860; omega), (by have B_868 := IP_p I; have B_869 := IP_p I_u_860; omega), (by have B_870 := IP_p I_u_860; omega), (by have B_871 := IP_p I_u_860; omega), (by omega), (by have B_872 := IP_p I_u_860; omega), (by have B_873 := IP_p I_u_860; omega), (by have B_874 := IP_p I_u_860; have B_875 := IP_p I; omega), (by have B_876 := IP_p I; have B_877 := IP_p I_u_860; omega)⟩
    · try have e_878 : (r_5 + 1 : Int32).toInt = (r_5 : Int32).toInt + (1 : Int32).toInt := by have B_879 := IP_p I; exact add_i (by omega) (by omega)
      refine okM_bM (R.2.2.2.2.2 (B := (B + 32 * (((r_5).toInt - (x1).toInt).toNat : Int) + 8)) I_u_65 (by have B_881 := IP_p I_u_65; omega) (by have B_882 := IP_p I_u_65; omega) (by have B_883 := IP_p I_u_65; omega) (by have B_884 := IP_p I_u_65; omega) (by have B_885 := IP_p I_u_65; omega) (by have B_886 := IP_p I_u_65; omega) (by have B_887 := IP_p I_u_65; omega) (by have B_888 := IP_p I_u_65; omega) (by have B_889 := IP_p I_u_65; omega) (by have B_890 := IP_p I_u_65; omega) (by have B_891 := IP_p I_u_65; omega) (by have B_892 := IP_p I_u_65; omega) (by have B_893 := IP_p I_u_65; omega) (by have B_894 := IP_p I_u_65; omega)) (fun r_895 u_896 z_880 => ?_)
      obtain ⟨I_u_896, G_u_896, p_897, p_898, p_899, p_900, p_901, p_902, p_903, p_904, p_905⟩ := z_880
      have F_u_896 : Fr [2, 4, 5, 28] [10, 11, 12, 13, 14, 15, 16, 17, 18, 19, 20] u u_896 := Fr_tr F_u_65 G_u_896 rfl rfl
      have g_906 : (u_896.1 1).toInt = (u_65.1 1).toInt := by rw [G_u_896.1 1 rfl]
      refine okM_bM (kP_SqlReaderModel_add I_u_896 (by have FUe : FU = 100000 := rfl; have B_908 := IP_p I_u_896; have B_909 := IP_p I; omega) (by have FUe : FU = 100000 := rfl; have B_910 := IP_p I_u_896; have B_911 := IP_p I; omega) (by have FUe : FU = 100000 := rfl; have B_912 := IP_p I_u_896; have B_913 := IP_p I; omega) (by have FUe : FU = 100000 := rfl; have B_914 := IP_p I_u_896; have B_915 := IP_p I; omega) (by have FUe : FU = 100000 := rfl; have B_916 := IP_p I_u_896; have B_917 := IP_p I; omega) (by have FUe : FU = 100000 := rfl; have B_918 := IP_p I_u_896; have B_919 := IP_p I; omega) (by have FUe : FU = 100000 := rfl; have B_920 := IP_p I_u_896; have B_921 := IP_p I; omega)) (fun r_922 u_923 z_907 => ?_)
      obtain ⟨I_u_923, G_u_923, p_924, p_925, p_926⟩ := z_907
      have F_u_923 : Fr [2, 4, 5, 28] [10, 11, 12, 13, 14, 15, 16, 17, 18, 19, 20] u u_923 := Fr_tr F_u_896 G_u_923 rfl rfl
      have g_927 : (u_923.1 1).toInt = (u_896.1 1).toInt := by rw [G_u_923.1 1 rfl]
      have g_928 : (u_923.1 2).toInt = (u_896.1 2).toInt := by rw [G_u_923.1 2 rfl]
      exact okM_some ⟨I_u_923, F_u_923, (by have B_929 := IP_p I; have B_930 := IP_p I_u_923; omega), (by have B_931 := IP_p I; have B_932 := IP_p I_u_923; omega), (by have B_933 := IP_p I_u_923; omega), (by have B_934 := IP_p I_u_923; omega), (by omega), (by have B_935 := IP_p I_u_923; omega), (by have B_936 := IP_p I_u_923; omega), (by have B_937 := IP_p I_u_923; have B_938 := IP_p I; omega), (by have B_939 := IP_p I; have B_940 := IP_p I_u_923; omega)⟩
theorem kP_SqlReaderModel_prefixed_L64 {rc : Nat → Int32 → Int32 → Int32 → Int32 → Int32 → Int32 → St → Option (Int32 × St)} {m : Nat} (R : RMn rc m) : ∀ (n : Nat) {x1 : Int32} {x5 : Int32} {x6 : Int32} {x7 : Int32} {u : St} (I : IP u) (h0 : 0 ≤ x7.toInt) (h1 : x7.toInt ≤ x5.toInt) (h2 : x5.toInt ≤ 2000) (h3 : 0 ≤ x6.toInt) (h4 : x6.toInt ≤ (u.1 4).toInt - 1 + 300000 * (u.1 2).toInt) (h5 : (u.1 4).toInt - 1 ≤ x6.toInt + 300000 * (u.1 2).toInt) (h6 : (u.1 4).toInt + (x5.toInt - x7.toInt) ≤ 195000) (hm : (2003 - x7.toInt).toNat < n), okM (mM_SqlReaderModel_prefixed_L64 rc n x1 x5 x6 x7 u) (fun r v => IP v ∧ Fr [2, 4, 5, 28] [10, 11, 12, 13, 14, 15, 16, 17, 18, 19, 20] u v ∧ (v.1 4).toInt = (u.1 4).toInt + (x5.toInt - x7.toInt) ∧ r.toInt ≤ (v.1 4).toInt - 1 + 300000 * (v.1 2).toInt ∧ (v.1 4).toInt - 1 ≤ r.toInt + 300000 * (v.1 2).toInt ∧ 0 ≤ r.toInt) := by
  intro n
  induction n with
  | zero => intro x1 x5 x6 x7 u I h0 h1 h2 h3 h4 h5 h6 hm; exact absurd hm (Nat.not_lt_zero _)
  | succ n ih =>
    intro x1 x5 x6 x7 u I h0 h1 h2 h3 h4 h5 h6 hm
    have lm1 : (-1 : Int32).toInt = -1 := by decide
    have l0 : (0 : Int32).toInt = 0 := by decide
    have l1 : (1 : Int32).toInt = 1 := by decide
    have l2 : (2 : Int32).toInt = 2 := by decide
    have l4 : (4 : Int32).toInt = 4 := by decide
    have l6 : (6 : Int32).toInt = 6 := by decide
    have l9 : (9 : Int32).toInt = 9 := by decide
    have l10 : (10 : Int32).toInt = 10 := by decide
    have l17 : (17 : Int32).toInt = 17 := by decide
    have l22 : (22 : Int32).toInt = 22 := by decide
    have l25 : (25 : Int32).toInt = 25 := by decide
    have l28 : (28 : Int32).toInt = 28 := by decide
    have l200 : (200 : Int32).toInt = 200 := by decide
    have l2000 : (2000 : Int32).toInt = 2000 := by decide
    have l2003 : (2003 : Int32).toInt = 2003 := by decide
    have l195000 : (195000 : Int32).toInt = 195000 := by decide
    have l199000 : (199000 : Int32).toInt = 199000 := by decide
    have l300000 : (300000 : Int32).toInt = 300000 := by decide
    rw [mM_SqlReaderModel_prefixed_L64]
    refine okM_le (fun c_1 => ?_) (fun c_1 => ?_)
    · exact okM_some ⟨I, (Fr_rfl u), (by have B_2 := IP_p I; omega), (by have B_3 := IP_p I; omega), (by have B_4 := IP_p I; omega), (by omega)⟩
    · refine okM_eq (fun c_5 c_5' => ?_) (fun c_5 => ?_)
      · refine okM_bM (kP_SqlReaderModel_add I (by have FUe : FU = 100000 := rfl; have B_7 := IP_p I; omega) (by have FUe : FU = 100000 := rfl; have B_8 := IP_p I; omega) (by have FUe : FU = 100000 := rfl; have B_9 := IP_p I; omega) (by have FUe : FU = 100000 := rfl; have B_10 := IP_p I; omega) (by have FUe : FU = 100000 := rfl; have B_11 := IP_p I; omega) (by have FUe : FU = 100000 := rfl; have B_12 := IP_p I; omega) (by have FUe : FU = 100000 := rfl; have B_13 := IP_p I; omega)) (fun r_14 u_15 z_6 => ?_)
        obtain ⟨I_u_15, G_u_15, p_16, p_17, p_18⟩ := z_6
        have F_u_15 : Fr [2, 4, 5, 28] [10, 11, 12, 13, 14, 15, 16, 17, 18, 19, 20] u u_15 := Fr_tr (Fr_rfl u) G_u_15 rfl rfl
        have g_19 : (u_15.1 1).toInt = (u.1 1).toInt := by rw [G_u_15.1 1 rfl]
        have g_20 : (u_15.1 2).toInt = (u.1 2).toInt := by rw [G_u_15.1 2 rfl]
        try have e_23 : (x7 + 1 : Int32).toInt = (x7 : Int32).toInt + (1 : Int32).toInt := by have B_24 := IP_p I; exact add_i (by omega) (by omega)
        refine okM_seq (fun y_22 h_21 => ?_)
        have h_21' : y_22.toInt = (x7 + 1 : Int32).toInt := by rw [h_21]
        refine okM_mono (ih I_u_15 (by have B_25 := IP_p I_u_15; omega) (by have B_26 := IP_p I_u_15; omega) (by have B_27 := IP_p I_u_15; omega) (by have B_28 := IP_p I_u_15; omega) (by have B_29 := IP_p I_u_15; omega) (by have B_30 := IP_p I_u_15; omega) (by have B_31 := IP_p I_u_15; omega) (by have B_32 := IP_p I_u_15; omega)) (fun r_34 u_35 z_33 => ?_)
        obtain ⟨I_u_35, G_u_35, p_36, p_37, p_38, p_39⟩ := z_33
        have F_u_35 : Fr [2, 4, 5, 28] [10, 11, 12, 13, 14, 15, 16, 17, 18, 19, 20] u u_35 := Fr_tr F_u_15 G_u_35 rfl rfl
        have g_40 : (u_35.1 1).toInt = (u_15.1 1).toInt := by rw [G_u_35.1 1 rfl]
        exact ⟨I_u_35, F_u_35, (by have B_41 := IP_p I_u_35; have B_42 := IP_p I; omega), (by have B_43 := IP_p I_u_35; omega), (by have B_44 := IP_p I_u_35; omega), (by omega)⟩
      · refine okM_bM (kP_SqlReaderModel_add I (by have FUe : FU = 100000 := rfl; have B_46 := IP_p I; omega) (by have FUe : FU = 100000 := rfl; have B_47 := IP_p I; omega) (by have FUe : FU = 100000 := rfl; have B_48 := IP_p I; omega) (by have FUe : FU = 100000 := rfl; have B_49 := IP_p I; omega) (by have FUe : FU = 100000 := rfl; have B_50 := IP_p I; omega) (by have FUe : FU = 100000 := rfl; have B_51 := IP_p I; omega) (by have FUe : FU = 100000 := rfl; have B_52 := IP_p I; omega)) (fun r_53 u_54 z_45 => ?_)
        obtain ⟨I_u_54, G_u_54, p_55, p_56, p_57⟩ := z_45
        have F_u_54 : Fr [2, 4, 5, 28] [10, 11, 12, 13, 14, 15, 16, 17, 18, 19, 20] u u_54 := Fr_tr (Fr_rfl u) G_u_54 rfl rfl
        have g_58 : (u_54.1 1).toInt = (u.1 1).toInt := by rw [G_u_54.1 1 rfl]
        have g_59 : (u_54.1 2).toInt = (u.1 2).toInt := by rw [G_u_54.1 2 rfl]
        try have e_62 : (x7 + 1 : Int32).toInt = (x7 : Int32).toInt + (1 : Int32).toInt := by have B_63 := IP_p I; exact add_i (by omega) (by omega)
        refine okM_seq (fun y_61 h_60 => ?_)
        have h_60' : y_61.toInt = (x7 + 1 : Int32).toInt := by rw [h_60]
        refine okM_mono (ih I_u_54 (by have B_64 := IP_p I_u_54; omega) (by have B_65 := IP_p I_u_54; omega) (by have B_66 := IP_p I_u_54; omega) (by have B_67 := IP_p I_u_54; omega) (by have B_68 := IP_p I_u_54; omega) (by have B_69 := IP_p I_u_54; omega) (by have B_70 := IP_p I_u_54; omega) (by have B_71 := IP_p I_u_54; omega)) (fun r_73 u_74 z_72 => ?_)
        obtain ⟨I_u_74, G_u_74, p_75, p_76, p_77, p_78⟩ := z_72
        have F_u_74 : Fr [2, 4, 5, 28] [10, 11, 12, 13, 14, 15, 16, 17, 18, 19, 20] u u_74 := Fr_tr F_u_54 G_u_74 rfl rfl
        have g_79 : (u_74.1 1).toInt = (u_54.1 1).toInt := by rw [G_u_74.1 1 rfl]
        exact ⟨I_u_74, F_u_74, (by have B_80 := IP_p I_u_74; have B_81 := IP_p I; omega), (by have B_82 := IP_p I_u_74; omega), (by have B_83 := IP_p I_u_74; omega), (by omega)⟩
set_option maxHeartbeats 20000000 in
theorem kP_SqlReaderModel_prefixed_L3 {rc : Nat → Int32 → Int32 → Int32 → Int32 → Int32 → Int32 → St → Option (Int32 × St)} {m : Nat} (R : RMn rc m) : ∀ (n : Nat) {B : Int} {x1 : Int32} {x2 : Int32} {x3 : Int32} {x4 : Int32} {x5 : Int32} {u : St} (I : IP u) (h0 : 0 ≤ x2.toInt) (h1 : x2.toInt ≤ 4000) (h2 : x3.toInt ≤ (u.1 1).toInt) (h3 : 0 ≤ x4.toInt) (h4 : x4.toInt ≤ 4000) (h5 : (u.1 4).toInt ≤ B) (h6 : 100000 ≤ B) (h7 : B + 32 * (x3.toInt - x2.toInt) + 16 ≤ 190000) (h8 : B ≤ 189990) (h9 : x2.toInt < x3.toInt) (h10 : x4.toInt ≤ 20) (h11 : (u.1 2).toInt = 0) (h12 : x1.toInt = 2 ∨ x1.toInt = 7) (h13 : 18 * (21 - x4.toInt) - 2 * x1.toInt ≤ (m : Int) + 1) (h14 : 0 ≤ x5.toInt) (h15 : x2.toInt + x5.toInt ≤ x3.toInt) (hm : (2003 - x5.toInt).toNat < n), okM (mM_SqlReaderModel_prefixed_L3 rc n x1 x2 x3 x4 x5 u) (fun r v => IP v ∧ Fr [2, 4, 5, 28] [10, 11, 12, 13, 14, 15, 16, 17, 18, 19, 20] u v ∧ (u.1 2).toInt ≤ (v.1 2).toInt ∧ ((u.1 4).toInt ≤ (v.1 4).toInt ∨ 200 < (v.1 4).toInt) ∧ r.toInt ≤ (v.1 4).toInt - 1 + 300000 * (v.1 2).toInt ∧ (v.1 4).toInt - 1 ≤ r.toInt + 300000 * (v.1 2).toInt ∧ 0 ≤ r.toInt ∧ (v.1 4).toInt ≤ B + 32 * ((x3.toInt - x2.toInt).toNat : Int) + 8 ∧ x2.toInt + 1 ≤ x3.toInt + 300000 * (v.1 2).toInt ∧ (v.1 4).toInt ≤ (u.1 4).toInt + 300000 * (1 - (u.1 2).toInt) ∧ (u.1 4).toInt ≤ (v.1 4).toInt + 300000 * (1 - (u.1 2).toInt)) := by
  intro n
  induction n with
  | zero => intro B x1 x2 x3 x4 x5 u I h0 h1 h2 h3 h4 h5 h6 h7 h8 h9 h10 h11 h12 h13 h14 h15 hm; exact absurd hm (Nat.not_lt_zero _)
  | succ n ih =>
    intro B x1 x2 x3 x4 x5 u I h0 h1 h2 h3 h4 h5 h6 h7 h8 h9 h10 h11 h12 h13 h14 h15 hm
    have l0 : (0 : Int32).toInt = 0 := by decide
    have l1 : (1 : Int32).toInt = 1 := by decide
    have l2 : (2 : Int32).toInt = 2 := by decide
    have l4 : (4 : Int32).toInt = 4 := by decide
    have l5 : (5 : Int32).toInt = 5 := by decide
    have l7 : (7 : Int32).toInt = 7 := by decide
    have l8 : (8 : Int32).toInt = 8 := by decide
    have l16 : (16 : Int32).toInt = 16 := by decide
    have l18 : (18 : Int32).toInt = 18 := by decide
    have l20 : (20 : Int32).toInt = 20 := by decide
    have l21 : (21 : Int32).toInt = 21 := by decide
    have l32 : (32 : Int32).toInt = 32 := by decide
    have l89 : (89 : Int32).toInt = 89 := by decide
    have l90 : (90 : Int32).toInt = 90 := by decide
    have l200 : (200 : Int32).toInt = 200 := by decide
    have l2000 : (2000 : Int32).toInt = 2000 := by decide
    have l2003 : (2003 : Int32).toInt = 2003 := by decide
    have l4000 : (4000 : Int32).toInt = 4000 := by decide
    have l100000 : (100000 : Int32).toInt = 100000 := by decide
    have l189990 : (189990 : Int32).toInt = 189990 := by decide
    have l190000 : (190000 : Int32).toInt = 190000 := by decide
    have l195000 : (195000 : Int32).toInt = 195000 := by decide
    have l300000 : (300000 : Int32).toInt = 300000 := by decide
    rw [mM_SqlReaderModel_prefixed_L3]
    try have e_1 : (x2 + x5 : Int32).toInt = (x2 : Int32).toInt + (x5 : Int32).toInt := by have B_2 := IP_p I; exact add_i (by omega) (by omega)
    refine okM_le (fun c_3 => ?_) (fun c_3 => ?_)
    · rw [mM_SqlReaderModel_prefixed_J42]
      try have e_4 : (x1 + 1 : Int32).toInt = (x1 : Int32).toInt + (1 : Int32).toInt := by have B_5 := IP_p I; exact add_i (by omega) (by omega)
      try have e_6 : (x2 + x5 : Int32).toInt = (x2 : Int32).toInt + (x5 : Int32).toInt := by have B_7 := IP_p I; exact add_i (by omega) (by omega)
      try have e_8 : (x4 + x5 : Int32).toInt = (x4 : Int32).toInt + (x5 : Int32).toInt := by have B_9 := IP_p I; exact add_i (by omega) (by omega)
      refine okM_bM (R.2.2.2.2.2 (B := B) I (by have B_11 := IP_p I; omega) (by have B_12 := IP_p I; omega) (by have B_13 := IP_p I; omega) (by have B_14 := IP_p I; omega) (by have B_15 := IP_p I; omega) (by have B_16 := IP_p I; omega) (by have B_17 := IP_p I; omega) (by have B_18 := IP_p I; omega) (by have B_19 := IP_p I; omega) (by have B_20 := IP_p I; omega) (by have B_21 := IP_p I; omega) (by have B_22 := IP_p I; omega) (by have B_23 := IP_p I; omega) (by have B_24 := IP_p I; omega)) (fun r_25 u_26 z_10 => ?_)
      obtain ⟨I_u_26, G_u_26, p_27, p_28, p_29, p_30, p_31, p_32, p_33, p_34, p_35⟩ := z_10
      have F_u_26 : Fr [2, 4, 5, 28] [10, 11, 12, 13, 14, 15, 16, 17, 18, 19, 20] u u_26 := Fr_tr (Fr_rfl u) G_u_26 rfl rfl
      have g_36 : (u_26.1 1).toInt = (u.1 1).toInt := by rw [G_u_26.1 1 rfl]
      refine okM_mono (kP_SqlReaderModel_prefixed_L64 R _ I_u_26 (by have FUe : FU = 100000 := rfl; have B_37 := IP_p I_u_26; have B_38 := IP_p I; omega) (by have FUe : FU = 100000 := rfl; have B_39 := IP_p I_u_26; have B_40 := IP_p I; omega) (by have FUe : FU = 100000 := rfl; have B_41 := IP_p I_u_26; have B_42 := IP_p I; omega) (by have FUe : FU = 100000 := rfl; have B_43 := IP_p I_u_26; have B_44 := IP_p I; omega) (by have FUe : FU = 100000 := rfl; have B_45 := IP_p I_u_26; have B_46 := IP_p I; omega) (by have FUe : FU = 100000 := rfl; have B_47 := IP_p I_u_26; have B_48 := IP_p I; omega) (by have FUe : FU = 100000 := rfl; have B_49 := IP_p I_u_26; have B_50 := IP_p I; omega) (by have FUe : FU = 100000 := rfl; have B_51 := IP_p I_u_26; have B_52 := IP_p I; omega)) (fun r_54 u_55 z_53 => ?_)
      obtain ⟨I_u_55, G_u_55, p_56, p_57, p_58, p_59⟩ := z_53
      have F_u_55 : Fr [2, 4, 5, 28] [10, 11, 12, 13, 14, 15, 16, 17, 18, 19, 20] u u_55 := Fr_tr F_u_26 G_u_55 rfl rfl
      have g_60 : (u_55.1 1).toInt = (u_26.1 1).toInt := by rw [G_u_55.1 1 rfl]
      exact ⟨I_u_55, F_u_55, (by have B_61 := IP_p I; have B_62 := IP_p I_u_55; omega), (by have B_63 := IP_p I; have B_64 := IP_p I_u_55; omega), (by have B_65 := IP_p I_u_55; omega), (by have B_66 := IP_p I_u_55; omega), (by omega), (by have B_67 := IP_p I_u_55; omega), (by have B_68 := IP_p I_u_55; omega), (by have B_69 := IP_p I_u_55; have B_70 := IP_p I; omega), (by have B_71 := IP_p I; have B_72 := IP_p I_u_55; omega)⟩
    · refine okM_eq (fun c_73 c_73' => ?_) (fun c_73 => ?_)
      · try have e_74 : (x2 + x5 : Int32).toInt = (x2 : Int32).toInt + (x5 : Int32).toInt := by have B_75 := IP_p I; exact add_i (by omega) (by omega)
        refine okM_bP (kM_SqlReaderModel_is (IP_IW I) (by decide) (by have FUe : FU = 100000 := rfl; have B_77 := IP_p I; omega)) (fun r_78 z_76 => ?_)
        obtain ⟨p_79, p_80, p_81⟩ := z_76
        refine okM_eq (fun c_82 c_82' => ?_) (fun c_82 => ?_)
        · rw [mM_SqlReaderModel_prefixed_J42]
          try have e_83 : (x1 + 1 : Int32).toInt = (x1 : Int32).toInt + (1 : Int32).toInt := by have B_84 := IP_p I; exact add_i (by omega) (by omega)
          try have e_85 : (x2 + x5 : Int32).toInt = (x2 : Int32).toInt + (x5 : Int32).toInt := by have B_86 := IP_p I; exact add_i (by omega) (by omega)
          try have e_87 : (x4 + x5 : Int32).toInt = (x4 : Int32).toInt + (x5 : Int32).toInt := by have B_88 := IP_p I; exact add_i (by omega) (by omega)
          refine okM_bM (R.2.2.2.2.2 (B := B) I (by have B_90 := IP_p I; omega) (by have B_91 := IP_p I; omega) (by have B_92 := IP_p I; omega) (by have B_93 := IP_p I; omega) (by have B_94 := IP_p I; omega) (by have B_95 := IP_p I; omega) (by have B_96 := IP_p I; omega) (by have B_97 := IP_p I; omega) (by have B_98 := IP_p I; omega) (by have B_99 := IP_p I; omega) (by have B_100 := IP_p I; omega) (by have B_101 := IP_p I; omega) (by have B_102 := IP_p I; omega) (by have B_103 := IP_p I; omega)) (fun r_104 u_105 z_89 => ?_)
          obtain ⟨I_u_105, G_u_105, p_106, p_107, p_108, p_109, p_110, p_111, p_112, p_113, p_114⟩ := z_89
          have F_u_105 : Fr [2, 4, 5, 28] [10, 11, 12, 13, 14, 15, 16, 17, 18, 19, 20] u u_105 := Fr_tr (Fr_rfl u) G_u_105 rfl rfl
          have g_115 : (u_105.1 1).toInt = (u.1 1).toInt := by rw [G_u_105.1 1 rfl]
          refine okM_mono (kP_SqlReaderModel_prefixed_L64 R _ I_u_105 (by have FUe : FU = 100000 := rfl; have B_116 := IP_p I_u_105; have B_117 := IP_p I; omega) (by have FUe : FU = 100000 := rfl; have B_118 := IP_p I_u_105; have B_119 := IP_p I; omega) (by have FUe : FU = 100000 := rfl; have B_120 := IP_p I_u_105; have B_121 := IP_p I; omega) (by have FUe : FU = 100000 := rfl; have B_122 := IP_p I_u_105; have B_123 := IP_p I; omega) (by have FUe : FU = 100000 := rfl; have B_124 := IP_p I_u_105; have B_125 := IP_p I; omega) (by have FUe : FU = 100000 := rfl; have B_126 := IP_p I_u_105; have B_127 := IP_p I; omega) (by have FUe : FU = 100000 := rfl; have B_128 := IP_p I_u_105; have B_129 := IP_p I; omega) (by have FUe : FU = 100000 := rfl; have B_130 := IP_p I_u_105; have B_131 := IP_p I; omega)) (fun r_133 u_134 z_132 => ?_)
          obtain ⟨I_u_134, G_u_134, p_135, p_136, p_137, p_138⟩ := z_132
          have F_u_134 : Fr [2, 4, 5, 28] [10, 11, 12, 13, 14, 15, 16, 17, 18, 19, 20] u u_134 := Fr_tr F_u_105 G_u_134 rfl rfl
          have g_139 : (u_134.1 1).toInt = (u_105.1 1).toInt := by rw [G_u_134.1 1 rfl]
          exact ⟨I_u_134, F_u_134, (by have B_140 := IP_p I; have B_141 := IP_p I_u_134; omega), (by have B_142 := IP_p I; have B_143 := IP_p I_u_134; omega), (by have B_144 := IP_p I_u_134; omega), (by have B_145 := IP_p I_u_134; omega), (by omega), (by have B_146 := IP_p I_u_134; omega), (by have B_147 := IP_p I_u_134; omega), (by have B_148 := IP_p I_u_134; have B_149 := IP_p I; omega), (by have B_150 := IP_p I; have B_151 := IP_p I_u_134; omega)⟩
        · try have e_154 : (x5 + 1 : Int32).toInt = (x5 : Int32).toInt + (1 : Int32).toInt := by have B_155 := IP_p I; exact add_i (by omega) (by omega)
          refine okM_seq (fun y_153 h_152 => ?_)
          have h_152' : y_153.toInt = (x5 + 1 : Int32).toInt := by rw [h_152]
          refine okM_mono (ih (B := B) I (by have B_156 := IP_p I; omega) (by have B_157 := IP_p I; omega) (by have B_158 := IP_p I; omega) (by have B_159 := IP_p I; omega) (by have B_160 := IP_p I; omega) (by have B_161 := IP_p I; omega) (by have B_162 := IP_p I; omega) (by have B_163 := IP_p I; omega) (by have B_164 := IP_p I; omega) (by have B_165 := IP_p I; omega) (by have B_166 := IP_p I; omega) (by have B_167 := IP_p I; omega) (by have B_168 := IP_p I; omega) (by have B_169 := IP_p I; omega) (by have B_170 := IP_p I; omega) (by have B_171 := IP_p I; omega) (by have B_172 := IP_p I; omega)) (fun r_174 u_175 z_173 => ?_)
          obtain ⟨I_u_175, G_u_175, p_176, p_177, p_178, p_179, p_180, p_181, p_182, p_183, p_184⟩ := z_173
          have F_u_175 : Fr [2, 4, 5, 28] [10, 11, 12, 13, 14, 15, 16, 17, 18, 19, 20] u u_175 := Fr_tr (Fr_rfl u) G_u_175 rfl rfl
          have g_185 : (u_175.1 1).toInt = (u.1 1).toInt := by rw [G_u_175.1 1 rfl]
          exact ⟨I_u_175, F_u_175, (by have B_186 := IP_p I; have B_187 := IP_p I_u_175; omega), (by have B_188 := IP_p I; have B_189 := IP_p I_u_175; omega), (by have B_190 := IP_p I_u_175; omega), (by have B_191 := IP_p I_u_175; omega), (by omega), (by have B_192 := IP_p I_u_175; omega), (by have B_193 := IP_p I_u_175; omega), (by have B_194 := IP_p I_u_175; have B_195 := IP_p I; omega), (by have B_196 := IP_p I; have B_197 := IP_p I_u_175; omega)⟩
      · try have e_198 : (x2 + x5 : Int32).toInt = (x2 : Int32).toInt + (x5 : Int32).toInt := by have B_199 := IP_p I; exact add_i (by omega) (by omega)
        refine okM_bP (kM_SqlReaderModel_is (IP_IW I) (by decide) (by have FUe : FU = 100000 := rfl; have B_201 := IP_p I; omega)) (fun r_202 z_200 => ?_)
        obtain ⟨p_203, p_204, p_205⟩ := z_200
        refine okM_eq (fun c_206 c_206' => ?_) (fun c_206 => ?_)
        · rw [mM_SqlReaderModel_prefixed_J42]
          try have e_207 : (x1 + 1 : Int32).toInt = (x1 : Int32).toInt + (1 : Int32).toInt := by have B_208 := IP_p I; exact add_i (by omega) (by omega)
          try have e_209 : (x2 + x5 : Int32).toInt = (x2 : Int32).toInt + (x5 : Int32).toInt := by have B_210 := IP_p I; exact add_i (by omega) (by omega)
          try have e_211 : (x4 + x5 : Int32).toInt = (x4 : Int32).toInt + (x5 : Int32).toInt := by have B_212 := IP_p I; exact add_i (by omega) (by omega)
          refine okM_bM (R.2.2.2.2.2 (B := B) I (by have B_214 := IP_p I; omega) (by have B_215 := IP_p I; omega) (by have B_216 := IP_p I; omega) (by have B_217 := IP_p I; omega) (by have B_218 := IP_p I; omega) (by have B_219 := IP_p I; omega) (by have B_220 := IP_p I; omega) (by have B_221 := IP_p I; omega) (by have B_222 := IP_p I; omega) (by have B_223 := IP_p I; omega) (by have B_224 := IP_p I; omega) (by have B_225 := IP_p I; omega) (by have B_226 := IP_p I; omega) (by have B_227 := IP_p I; omega)) (fun r_228 u_229 z_213 => ?_)
          obtain ⟨I_u_229, G_u_229, p_230, p_231, p_232, p_233, p_234, p_235, p_236, p_237, p_238⟩ := z_213
          have F_u_229 : Fr [2, 4, 5, 28] [10, 11, 12, 13, 14, 15, 16, 17, 18, 19, 20] u u_229 := Fr_tr (Fr_rfl u) G_u_229 rfl rfl
          have g_239 : (u_229.1 1).toInt = (u.1 1).toInt := by rw [G_u_229.1 1 rfl]
          refine okM_mono (kP_SqlReaderModel_prefixed_L64 R _ I_u_229 (by have FUe : FU = 100000 := rfl; have B_240 := IP_p I_u_229; have B_241 := IP_p I; omega) (by have FUe : FU = 100000 := rfl; have B_242 := IP_p I_u_229; have B_243 := IP_p I; omega) (by have FUe : FU = 100000 := rfl; have B_244 := IP_p I_u_229; have B_245 := IP_p I; omega) (by have FUe : FU = 100000 := rfl; have B_246 := IP_p I_u_229; have B_247 := IP_p I; omega) (by have FUe : FU = 100000 := rfl; have B_248 := IP_p I_u_229; have B_249 := IP_p I; omega) (by have FUe : FU = 100000 := rfl; have B_250 := IP_p I_u_229; have B_251 := IP_p I; omega) (by have FUe : FU = 100000 := rfl; have B_252 := IP_p I_u_229; have B_253 := IP_p I; omega) (by have FUe : FU = 100000 := rfl; have B_254 := IP_p I_u_229; have B_255 := IP_p I; omega)) (fun r_257 u_258 z_256 => ?_)
          obtain ⟨I_u_258, G_u_258, p_259, p_260, p_261, p_262⟩ := z_256
          have F_u_258 : Fr [2, 4, 5, 28] [10, 11, 12, 13, 14, 15, 16, 17, 18, 19, 20] u u_258 := Fr_tr F_u_229 G_u_258 rfl rfl
          have g_263 : (u_258.1 1).toInt = (u_229.1 1).toInt := by rw [G_u_258.1 1 rfl]
          exact ⟨I_u_258, F_u_258, (by have B_264 := IP_p I; have B_265 := IP_p I_u_258; omega), (by have B_266 := IP_p I; have B_267 := IP_p I_u_258; omega), (by have B_268 := IP_p I_u_258; omega), (by have B_269 := IP_p I_u_258; omega), (by omega), (by have B_270 := IP_p I_u_258; omega), (by have B_271 := IP_p I_u_258; omega), (by have B_272 := IP_p I_u_258; have B_273 := IP_p I; omega), (by have B_274 := IP_p I; have B_275 := IP_p I_u_258; omega)⟩
        · try have e_278 : (x5 + 1 : Int32).toInt = (x5 : Int32).toInt + (1 : Int32).toInt := by have B_279 := IP_p I; exact add_i (by omega) (by omega)
          refine okM_seq (fun y_277 h_276 => ?_)
          have h_276' : y_277.toInt = (x5 + 1 : Int32).toInt := by rw [h_276]
          refine okM_mono (ih (B := B) I (by have B_280 := IP_p I; omega) (by have B_281 := IP_p I; omega) (by have B_282 := IP_p I; omega) (by have B_283 := IP_p I; omega) (by have B_284 := IP_p I; omega) (by have B_285 := IP_p I; omega) (by have B_286 := IP_p I; omega) (by have B_287 := IP_p I; omega) (by have B_288 := IP_p I; omega) (by have B_289 := IP_p I; omega) (by have B_290 := IP_p I; omega) (by have B_291 := IP_p I; omega) (by have B_292 := IP_p I; omega) (by have B_293 := IP_p I; omega) (by have B_294 := IP_p I; omega) (by have B_295 := IP_p I; omega) (by have B_296 := IP_p I; omega)) (fun r_298 u_299 z_297 => ?_)
          obtain ⟨I_u_299, G_u_299, p_300, p_301, p_302, p_303, p_304, p_305, p_306, p_307, p_308⟩ := z_297
          have F_u_299 : Fr [2, 4, 5, 28] [10, 11, 12, 13, 14, 15, 16, 17, 18, 19, 20] u u_299 := Fr_tr (Fr_rfl u) G_u_299 rfl rfl
          have g_309 : (u_299.1 1).toInt = (u.1 1).toInt := by rw [G_u_299.1 1 rfl]
          exact ⟨I_u_299, F_u_299, (by have B_310 := IP_p I; have B_311 := IP_p I_u_299; omega), (by have B_312 := IP_p I; have B_313 := IP_p I_u_299; omega), (by have B_314 := IP_p I_u_299; omega), (by have B_315 := IP_p I_u_299; omega), (by omega), (by have B_316 := IP_p I_u_299; omega), (by have B_317 := IP_p I_u_299; omega), (by have B_318 := IP_p I_u_299; have B_319 := IP_p I; omega), (by have B_320 := IP_p I; have B_321 := IP_p I_u_299; omega)⟩
