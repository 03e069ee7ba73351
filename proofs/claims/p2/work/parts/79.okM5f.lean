set_option maxHeartbeats 20000000 in
theorem kP_SqlReaderModel_readCreate_L32 : ∀ (n : Nat) {x1 : Int32} {u : St} (I : IP u) (h0 : (u.1 4).toInt ≤ 185000) (h1 : (u.1 2).toInt = 1 ∨ ((u.1 4).toInt ≤ 100000 + 40 * (u.1 30).toInt ∧ (u.1 30).toInt ≤ (u.1 1).toInt)) (h2 : (u.1 30).toInt ≤ 3800) (h3 : 0 ≤ x1.toInt) (h4 : x1.toInt ≤ 1) (h5 : (u.1 24).toInt ≤ 1000) (h6 : (u.1 2).toInt = 1 ∨ x1.toInt = 0 ∨ 2 * (u.1 24).toInt + 2 ≤ (u.1 30).toInt) (hm : (2 * (2100 - (u.1 30).toInt) + x1.toInt).toNat < n), ok (mM_SqlReaderModel_readCreate_L32 n x1 u) (fun v => IP v ∧ Fr [2, 24, 30] [31, 32] u v ∧ (u.1 2).toInt ≤ (v.1 2).toInt ∧ (v.1 4).toInt ≤ 185000 ∧ ((v.1 2).toInt = 1 ∨ ((v.1 4).toInt ≤ 100000 + 40 * (v.1 30).toInt ∧ (v.1 30).toInt ≤ (u.1 1).toInt)) ∧ ((v.1 30).toInt ≤ (u.1 30).toInt + 1 ∨ (v.1 30).toInt ≤ (u.1 1).toInt + 1) ∧ ((v.1 2).toInt = 1 ∨ (u.1 30).toInt ≤ (v.1 30).toInt) ∧ ((u.1 2).toInt = 0 ∨ (v.1 30).toInt ≤ (u.1 30).toInt + 0 ∨ (v.1 30).toInt ≤ (u.1 1).toInt + 0)) := by
  intro n
  induction n with
  | zero => intro x1 u I h0 h1 h2 h3 h4 h5 h6 hm; exact absurd hm (Nat.not_lt_zero _)
  | succ n ih =>
    intro x1 u I h0 h1 h2 h3 h4 h5 h6 hm
    have l0 : (0 : Int32).toInt = 0 := by decide
    have l1 : (1 : Int32).toInt = 1 := by decide
    have l2 : (2 : Int32).toInt = 2 := by decide
    have l3 : (3 : Int32).toInt = 3 := by decide
    have l4 : (4 : Int32).toInt = 4 := by decide
    have l24 : (24 : Int32).toInt = 24 := by decide
    have l30 : (30 : Int32).toInt = 30 := by decide
    have l31 : (31 : Int32).toInt = 31 := by decide
    have l40 : (40 : Int32).toInt = 40 := by decide
    have l88 : (88 : Int32).toInt = 88 := by decide
    have l125 : (125 : Int32).toInt = 125 := by decide
    have l126 : (126 : Int32).toInt = 126 := by decide
    have l127 : (127 : Int32).toInt = 127 := by decide
    have l999 : (999 : Int32).toInt = 999 := by decide
    have l2100 : (2100 : Int32).toInt = 2100 := by decide
    have l3800 : (3800 : Int32).toInt = 3800 := by decide
    have l3900 : (3900 : Int32).toInt = 3900 := by decide
    have l100000 : (100000 : Int32).toInt = 100000 := by decide
    have l185000 : (185000 : Int32).toInt = 185000 := by decide
    rw [mM_SqlReaderModel_readCreate_L32]
    refine ok_eq (fun c_1 c_1' => ?_) (fun c_1 => ?_)
    · refine ok_bP (kP_SqlReaderModel_need I (by decide)) (fun u_3 z_2 => ?_)
      obtain ⟨I_u_3, G_u_3, p_4, p_5⟩ := z_2
      have F_u_3 : Fr [2, 24, 30] [31, 32] u u_3 := Fr_tr (Fr_rfl u) G_u_3 rfl rfl
      have g_6 : (u_3.1 1).toInt = (u.1 1).toInt := by rw [G_u_3.1 1 rfl]
      have g_7 : (u_3.1 4).toInt = (u.1 4).toInt := by rw [G_u_3.1 4 rfl]
      have g_8 : (u_3.1 24).toInt = (u.1 24).toInt := by rw [G_u_3.1 24 rfl]
      have Q_u_3_24 : u_3.1 24 = u.1 24 := G_u_3.1 24 rfl
      have g_9 : (ga u_3 31 (u_3.1 24)).toInt = (ga u 31 (u.1 24)).toInt := by show (u_3.2.1 31 (u_3.1 24).toNatClampNeg).toInt = _; rw [G_u_3.2.1 31 rfl, G_u_3.1 24 rfl]; rfl
      have g_10 : (ga u_3 1 (ga u_3 31 (u_3.1 24))).toInt = (ga u 1 (ga u 31 (u.1 24))).toInt := by show (u_3.2.1 1 (u_3.2.1 31 (u_3.1 24).toNatClampNeg).toNatClampNeg).toInt = _; rw [G_u_3.2.1 1 rfl, G_u_3.2.1 31 rfl, G_u_3.1 24 rfl]; rfl
      exact ok_some ⟨I_u_3, F_u_3, (by have B_11 := IP_b I; have B_12 := IP_b I_u_3; omega), (by have B_13 := IP_b I_u_3; omega), (by have B_14 := IP_b I_u_3; have B_15 := IP_b I; omega), (by have B_16 := IP_b I_u_3; have B_17 := IP_b I; omega), (by have B_18 := IP_b I_u_3; have B_19 := IP_b I; omega), (by have B_20 := IP_b I; have B_21 := IP_b I_u_3; omega)⟩
    · refine ok_eq (fun c_22 c_22' => ?_) (fun c_22 => ?_)
      · refine ok_bM (kP_SqlReaderModel_needName I (by have FUe : FU = 100000 := rfl; have B_24 := IP_b I; omega)) (fun r_25 u_26 z_23 => ?_)
        obtain ⟨I_u_26, G_u_26, p_27, p_28, p_29, p_30⟩ := z_23
        have F_u_26 : Fr [2, 24, 30] [31, 32] u u_26 := Fr_tr (Fr_rfl u) G_u_26 rfl rfl
        have g_31 : (u_26.1 1).toInt = (u.1 1).toInt := by rw [G_u_26.1 1 rfl]
        have g_32 : (u_26.1 4).toInt = (u.1 4).toInt := by rw [G_u_26.1 4 rfl]
        have g_33 : (u_26.1 24).toInt = (u.1 24).toInt := by rw [G_u_26.1 24 rfl]
        have Q_u_26_24 : u_26.1 24 = u.1 24 := G_u_26.1 24 rfl
        have g_34 : (ga u_26 31 (u_26.1 24)).toInt = (ga u 31 (u.1 24)).toInt := by show (u_26.2.1 31 (u_26.1 24).toNatClampNeg).toInt = _; rw [G_u_26.2.1 31 rfl, G_u_26.1 24 rfl]; rfl
        have g_35 : (ga u_26 1 (ga u_26 31 (u_26.1 24))).toInt = (ga u 1 (ga u 31 (u.1 24))).toInt := by show (u_26.2.1 1 (u_26.2.1 31 (u_26.1 24).toNatClampNeg).toNatClampNeg).toInt = _; rw [G_u_26.2.1 1 rfl, G_u_26.2.1 31 rfl, G_u_26.1 24 rfl]; rfl
        have n_36 : 0 ≤ r_25.toInt := by have B_37 := IP_b I; omega
        refine ok_gd (inb_of (by have B_38 := IP_b I; have B_39 := IP_b I_u_26; omega) (by have B_40 := IP_b I; have B_41 := IP_b I_u_26; omega)) ?_
        refine ok_seq (fun u_43 h_42 => ?_)
        have I_u_43 : IP u_43 := by rw [h_42]; exact IP_a31 I_u_26 (by have B_44 := IP_b I_u_26; omega)
        have F_u_43 : Fr [2, 24, 30] [31, 32] u u_43 := by rw [h_42]; exact Fr_sa F_u_26 rfl rfl rfl
        have Q_u_43_24 : u_43.1 24 = u_26.1 24 := by rw [h_42]; rfl
        have g_45 : (ga u_43 31 (u_43.1 24)).toInt = (r_25 : Int32).toInt := by rw [h_42]; show (upd (u_26.2.1 31) ((u.1 24)).toNatClampNeg r_25 (u_26.1 24).toNatClampNeg).toInt = _; rw [Q_u_26_24, pk_us]
        have g_46 : (ga u_43 1 (ga u_43 31 (u_43.1 24))).toInt = (ga u_26 1 (r_25)).toInt := by rw [show ga u_43 31 (u_43.1 24) = (r_25 : Int32) from by rw [h_42]; show upd (u_26.2.1 31) ((u.1 24)).toNatClampNeg r_25 (u_26.1 24).toNatClampNeg = _; rw [Q_u_26_24, pk_us], h_42]; rfl
        have g_47 : (u_43.1 1).toInt = (u_26.1 1).toInt := by rw [h_42]; rfl
        have g_48 : (u_43.1 2).toInt = (u_26.1 2).toInt := by rw [h_42]; rfl
        have g_49 : (u_43.1 4).toInt = (u_26.1 4).toInt := by rw [h_42]; rfl
        have g_50 : (u_43.1 30).toInt = (u_26.1 30).toInt := by rw [h_42]; rfl
        have g_51 : (u_43.1 24).toInt = (u_26.1 24).toInt := by rw [h_42]; rfl
        refine ok_bM (kP_SqlReaderModel_takes I_u_43 (by decide)) (fun r_53 u_54 z_52 => ?_)
        obtain ⟨I_u_54, G_u_54, p_55, p_56, p_57⟩ := z_52
        have F_u_54 : Fr [2, 24, 30] [31, 32] u u_54 := Fr_tr F_u_43 G_u_54 rfl rfl
        have g_58 : (u_54.1 1).toInt = (u_43.1 1).toInt := by rw [G_u_54.1 1 rfl]
        have g_59 : (u_54.1 2).toInt = (u_43.1 2).toInt := by rw [G_u_54.1 2 rfl]
        have g_60 : (u_54.1 4).toInt = (u_43.1 4).toInt := by rw [G_u_54.1 4 rfl]
        have g_61 : (u_54.1 24).toInt = (u_43.1 24).toInt := by rw [G_u_54.1 24 rfl]
        have Q_u_54_24 : u_54.1 24 = u_43.1 24 := G_u_54.1 24 rfl
        have g_62 : (ga u_54 31 (u_54.1 24)).toInt = (ga u_43 31 (u_43.1 24)).toInt := by show (u_54.2.1 31 (u_54.1 24).toNatClampNeg).toInt = _; rw [G_u_54.2.1 31 rfl, G_u_54.1 24 rfl]; rfl
        have g_63 : (ga u_54 1 (ga u_54 31 (u_54.1 24))).toInt = (ga u_43 1 (ga u_43 31 (u_43.1 24))).toInt := by show (u_54.2.1 1 (u_54.2.1 31 (u_54.1 24).toNatClampNeg).toNatClampNeg).toInt = _; rw [G_u_54.2.1 1 rfl, G_u_54.2.1 31 rfl, G_u_54.1 24 rfl]; rfl
        refine ok_eq (fun c_64 c_64' => ?_) (fun c_64 => ?_)
        · refine ok_bM (kP_SqlReaderModel_takes I_u_54 (by decide)) (fun r_66 u_67 z_65 => ?_)
          obtain ⟨I_u_67, G_u_67, p_68, p_69, p_70⟩ := z_65
          have F_u_67 : Fr [2, 24, 30] [31, 32] u u_67 := Fr_tr F_u_54 G_u_67 rfl rfl
          have g_71 : (u_67.1 1).toInt = (u_54.1 1).toInt := by rw [G_u_67.1 1 rfl]
          have g_72 : (u_67.1 2).toInt = (u_54.1 2).toInt := by rw [G_u_67.1 2 rfl]
          have g_73 : (u_67.1 4).toInt = (u_54.1 4).toInt := by rw [G_u_67.1 4 rfl]
          have g_74 : (u_67.1 24).toInt = (u_54.1 24).toInt := by rw [G_u_67.1 24 rfl]
          have Q_u_67_24 : u_67.1 24 = u_54.1 24 := G_u_67.1 24 rfl
          have g_75 : (ga u_67 31 (u_67.1 24)).toInt = (ga u_54 31 (u_54.1 24)).toInt := by show (u_67.2.1 31 (u_67.1 24).toNatClampNeg).toInt = _; rw [G_u_67.2.1 31 rfl, G_u_67.1 24 rfl]; rfl
          have g_76 : (ga u_67 1 (ga u_67 31 (u_67.1 24))).toInt = (ga u_54 1 (ga u_54 31 (u_54.1 24))).toInt := by show (u_67.2.1 1 (u_67.2.1 31 (u_67.1 24).toNatClampNeg).toNatClampNeg).toInt = _; rw [G_u_67.2.1 1 rfl, G_u_67.2.1 31 rfl, G_u_67.1 24 rfl]; rfl
          refine ok_eq (fun c_77 c_77' => ?_) (fun c_77 => ?_)
          · refine ok_bM (kP_SqlReaderModel_takes I_u_67 (by decide)) (fun r_79 u_80 z_78 => ?_)
            obtain ⟨I_u_80, G_u_80, p_81, p_82, p_83⟩ := z_78
            have F_u_80 : Fr [2, 24, 30] [31, 32] u u_80 := Fr_tr F_u_67 G_u_80 rfl rfl
            have g_84 : (u_80.1 1).toInt = (u_67.1 1).toInt := by rw [G_u_80.1 1 rfl]
            have g_85 : (u_80.1 2).toInt = (u_67.1 2).toInt := by rw [G_u_80.1 2 rfl]
            have g_86 : (u_80.1 4).toInt = (u_67.1 4).toInt := by rw [G_u_80.1 4 rfl]
            have g_87 : (u_80.1 24).toInt = (u_67.1 24).toInt := by rw [G_u_80.1 24 rfl]
            have Q_u_80_24 : u_80.1 24 = u_67.1 24 := G_u_80.1 24 rfl
            have g_88 : (ga u_80 31 (u_80.1 24)).toInt = (ga u_67 31 (u_67.1 24)).toInt := by show (u_80.2.1 31 (u_80.1 24).toNatClampNeg).toInt = _; rw [G_u_80.2.1 31 rfl, G_u_80.1 24 rfl]; rfl
            have g_89 : (ga u_80 1 (ga u_80 31 (u_80.1 24))).toInt = (ga u_67 1 (ga u_67 31 (u_67.1 24))).toInt := by show (u_80.2.1 1 (u_80.2.1 31 (u_80.1 24).toNatClampNeg).toNatClampNeg).toInt = _; rw [G_u_80.2.1 1 rfl, G_u_80.2.1 31 rfl, G_u_80.1 24 rfl]; rfl
            refine ok_eq (fun c_90 c_90' => ?_) (fun c_90 => ?_)
            · refine ok_mono (kP_SqlReaderModel_readCreate_J99 ih I_u_80 (by have FUe : FU = 100000 := rfl; have B_91 := IP_b I_u_80; have B_92 := IP_b I; omega) (by have FUe : FU = 100000 := rfl; have B_93 := IP_b I_u_80; have B_94 := IP_b I; omega) (by have FUe : FU = 100000 := rfl; have B_95 := IP_b I_u_80; have B_96 := IP_b I; omega) (by have FUe : FU = 100000 := rfl; have B_97 := IP_b I_u_80; have B_98 := IP_b I; omega) (by have FUe : FU = 100000 := rfl; have B_99 := IP_b I_u_80; have B_100 := IP_b I; omega) (by have FUe : FU = 100000 := rfl; have B_101 := IP_b I_u_80; have B_102 := IP_b I; omega) (by have FUe : FU = 100000 := rfl; have B_103 := IP_b I_u_80; have B_104 := IP_b I; omega) (by have FUe : FU = 100000 := rfl; have B_105 := IP_b I_u_80; have B_106 := IP_b I; omega) (by have FUe : FU = 100000 := rfl; have B_107 := IP_b I_u_80; have B_108 := IP_b I; omega)) (fun u_110 z_109 => ?_)
              obtain ⟨I_u_110, G_u_110, p_111, p_112, p_113, p_114, p_115, p_116⟩ := z_109
              have F_u_110 : Fr [2, 24, 30] [31, 32] u u_110 := Fr_tr F_u_80 G_u_110 rfl rfl
              have g_117 : (u_110.1 1).toInt = (u_80.1 1).toInt := by rw [G_u_110.1 1 rfl]
              have g_118 : (u_110.1 4).toInt = (u_80.1 4).toInt := by rw [G_u_110.1 4 rfl]
              exact ⟨I_u_110, F_u_110, (by have B_119 := IP_b I; have B_120 := IP_b I_u_110; omega), (by have B_121 := IP_b I_u_110; omega), (by have B_122 := IP_b I_u_110; have B_123 := IP_b I; omega), (by have B_124 := IP_b I_u_110; have B_125 := IP_b I; omega), (by have B_126 := IP_b I_u_110; have B_127 := IP_b I; omega), (by have B_128 := IP_b I; have B_129 := IP_b I_u_110; omega)⟩
            · refine ok_mono (kP_SqlReaderModel_readCreate_J99 ih I_u_80 (by have FUe : FU = 100000 := rfl; have B_130 := IP_b I_u_80; have B_131 := IP_b I; omega) (by have FUe : FU = 100000 := rfl; have B_132 := IP_b I_u_80; have B_133 := IP_b I; omega) (by have FUe : FU = 100000 := rfl; have B_134 := IP_b I_u_80; have B_135 := IP_b I; omega) (by have FUe : FU = 100000 := rfl; have B_136 := IP_b I_u_80; have B_137 := IP_b I; omega) (by have FUe : FU = 100000 := rfl; have B_138 := IP_b I_u_80; have B_139 := IP_b I; omega) (by have FUe : FU = 100000 := rfl; have B_140 := IP_b I_u_80; have B_141 := IP_b I; omega) (by have FUe : FU = 100000 := rfl; have B_142 := IP_b I_u_80; have B_143 := IP_b I; omega) (by have FUe : FU = 100000 := rfl; have B_144 := IP_b I_u_80; have B_145 := IP_b I; omega) (by have FUe : FU = 100000 := rfl; have B_146 := IP_b I_u_80; have B_147 := IP_b I; omega)) (fun u_149 z_148 => ?_)
              obtain ⟨I_u_149, G_u_149, p_150, p_151, p_152, p_153, p_154, p_155⟩ := z_148
              have F_u_149 : Fr [2, 24, 30] [31, 32] u u_149 := Fr_tr F_u_80 G_u_149 rfl rfl
              have g_156 : (u_149.1 1).toInt = (u_80.1 1).toInt := by rw [G_u_149.1 1 rfl]
              have g_157 : (u_149.1 4).toInt = (u_80.1 4).toInt := by rw [G_u_149.1 4 rfl]
              exact ⟨I_u_149, F_u_149, (by have B_158 := IP_b I; have B_159 := IP_b I_u_149; omega), (by have B_160 := IP_b I_u_149; omega), (by have B_161 := IP_b I_u_149; have B_162 := IP_b I; omega), (by have B_163 := IP_b I_u_149; have B_164 := IP_b I; omega), (by have B_165 := IP_b I_u_149; have B_166 := IP_b I; omega), (by have B_167 := IP_b I; have B_168 := IP_b I_u_149; omega)⟩
          · refine ok_mono (kP_SqlReaderModel_readCreate_J99 ih I_u_67 (by have FUe : FU = 100000 := rfl; have B_169 := IP_b I_u_67; have B_170 := IP_b I; omega) (by have FUe : FU = 100000 := rfl; have B_171 := IP_b I_u_67; have B_172 := IP_b I; omega) (by have FUe : FU = 100000 := rfl; have B_173 := IP_b I_u_67; have B_174 := IP_b I; omega) (by have FUe : FU = 100000 := rfl; have B_175 := IP_b I_u_67; have B_176 := IP_b I; omega) (by have FUe : FU = 100000 := rfl; have B_177 := IP_b I_u_67; have B_178 := IP_b I; omega) (by have FUe : FU = 100000 := rfl; have B_179 := IP_b I_u_67; have B_180 := IP_b I; omega) (by have FUe : FU = 100000 := rfl; have B_181 := IP_b I_u_67; have B_182 := IP_b I; omega) (by have FUe : FU = 100000 := rfl; have B_183 := IP_b I_u_67; have B_184 := IP_b I; omega) (by have FUe : FU = 100000 := rfl; have B_185 := IP_b I_u_67; have B_186 := IP_b I; omega)) (fun u_188 z_187 => ?_)
            obtain ⟨I_u_188, G_u_188, p_189, p_190, p_191, p_192, p_193, p_194⟩ := z_187
            have F_u_188 : Fr [2, 24, 30] [31, 32] u u_188 := Fr_tr F_u_67 G_u_188 rfl rfl
            have g_195 : (u_188.1 1).toInt = (u_67.1 1).toInt := by rw [G_u_188.1 1 rfl]
            have g_196 : (u_188.1 4).toInt = (u_67.1 4).toInt := by rw [G_u_188.1 4 rfl]
            exact ⟨I_u_188, F_u_188, (by have B_197 := IP_b I; have B_198 := IP_b I_u_188; omega), (by have B_199 := IP_b I_u_188; omega), (by have B_200 := IP_b I_u_188; have B_201 := IP_b I; omega), (by have B_202 := IP_b I_u_188; have B_203 := IP_b I; omega), (by have B_204 := IP_b I_u_188; have B_205 := IP_b I; omega), (by have B_206 := IP_b I; have B_207 := IP_b I_u_188; omega)⟩
        · refine ok_mono (kP_SqlReaderModel_readCreate_J99 ih I_u_54 (by have FUe : FU = 100000 := rfl; have B_208 := IP_b I_u_54; have B_209 := IP_b I; omega) (by have FUe : FU = 100000 := rfl; have B_210 := IP_b I_u_54; have B_211 := IP_b I; omega) (by have FUe : FU = 100000 := rfl; have B_212 := IP_b I_u_54; have B_213 := IP_b I; omega) (by have FUe : FU = 100000 := rfl; have B_214 := IP_b I_u_54; have B_215 := IP_b I; omega) (by have FUe : FU = 100000 := rfl; have B_216 := IP_b I_u_54; have B_217 := IP_b I; omega) (by have FUe : FU = 100000 := rfl; have B_218 := IP_b I_u_54; have B_219 := IP_b I; omega) (by have FUe : FU = 100000 := rfl; have B_220 := IP_b I_u_54; have B_221 := IP_b I; omega) (by have FUe : FU = 100000 := rfl; have B_222 := IP_b I_u_54; have B_223 := IP_b I; omega) (by have FUe : FU = 100000 := rfl; have B_224 := IP_b I_u_54; have B_225 := IP_b I; omega)) (fun u_227 z_226 => ?_)
          obtain ⟨I_u_227, G_u_227, p_228, p_229, p_230, p_231, p_232, p_233⟩ := z_226
          have F_u_227 : Fr [2, 24, 30] [31, 32] u u_227 := Fr_tr F_u_54 G_u_227 rfl rfl
          have g_234 : (u_227.1 1).toInt = (u_54.1 1).toInt := by rw [G_u_227.1 1 rfl]
          have g_235 : (u_227.1 4).toInt = (u_54.1 4).toInt := by rw [G_u_227.1 4 rfl]
          exact ⟨I_u_227, F_u_227, (by have B_236 := IP_b I; have B_237 := IP_b I_u_227; omega), (by have B_238 := IP_b I_u_227; omega), (by have B_239 := IP_b I_u_227; have B_240 := IP_b I; omega), (by have B_241 := IP_b I_u_227; have B_242 := IP_b I; omega), (by have B_243 := IP_b I_u_227; have B_244 := IP_b I; omega), (by have B_245 := IP_b I; have B_246 := IP_b I_u_227; omega)⟩
      · refine ok_bP (kP_SqlReaderModel_need I (by decide)) (fun u_248 z_247 => ?_)
        obtain ⟨I_u_248, G_u_248, p_249, p_250⟩ := z_247
        have F_u_248 : Fr [2, 24, 30] [31, 32] u u_248 := Fr_tr (Fr_rfl u) G_u_248 rfl rfl
        have g_251 : (u_248.1 1).toInt = (u.1 1).toInt := by rw [G_u_248.1 1 rfl]
        have g_252 : (u_248.1 4).toInt = (u.1 4).toInt := by rw [G_u_248.1 4 rfl]
        have g_253 : (u_248.1 24).toInt = (u.1 24).toInt := by rw [G_u_248.1 24 rfl]
        have Q_u_248_24 : u_248.1 24 = u.1 24 := G_u_248.1 24 rfl
        have g_254 : (ga u_248 31 (u_248.1 24)).toInt = (ga u 31 (u.1 24)).toInt := by show (u_248.2.1 31 (u_248.1 24).toNatClampNeg).toInt = _; rw [G_u_248.2.1 31 rfl, G_u_248.1 24 rfl]; rfl
        have g_255 : (ga u_248 1 (ga u_248 31 (u_248.1 24))).toInt = (ga u 1 (ga u 31 (u.1 24))).toInt := by show (u_248.2.1 1 (u_248.2.1 31 (u_248.1 24).toNatClampNeg).toNatClampNeg).toInt = _; rw [G_u_248.2.1 1 rfl, G_u_248.2.1 31 rfl, G_u_248.1 24 rfl]; rfl
        exact ok_some ⟨I_u_248, F_u_248, (by have B_256 := IP_b I; have B_257 := IP_b I_u_248; omega), (by have B_258 := IP_b I_u_248; omega), (by have B_259 := IP_b I_u_248; have B_260 := IP_b I; omega), (by have B_261 := IP_b I_u_248; have B_262 := IP_b I; omega), (by have B_263 := IP_b I_u_248; have B_264 := IP_b I; omega), (by have B_265 := IP_b I; have B_266 := IP_b I_u_248; omega)⟩
theorem kP_SqlReaderModel_readCreate {u : St} (I : IP u) (h0 : (u.1 4).toInt ≤ 185000) (h1 : (u.1 2).toInt = 1 ∨ ((u.1 4).toInt ≤ 100000 + 40 * (u.1 30).toInt ∧ (u.1 30).toInt ≤ (u.1 1).toInt)) (h2 : (u.1 30).toInt ≤ 3790) (h3 : (u.1 24).toInt = 0) (h4 : (u.1 2).toInt = 1 ∨ 1 ≤ (u.1 30).toInt) : ok (mM_SqlReaderModel_readCreate u) (fun v => IP v ∧ Fr [2, 5, 7, 10, 12, 24, 26, 27, 30] [18, 19, 20, 31, 32] u v ∧ (u.1 2).toInt ≤ (v.1 2).toInt ∧ (v.1 4).toInt ≤ 185000 ∧ ((v.1 2).toInt = 1 ∨ ((v.1 4).toInt ≤ 100000 + 40 * (v.1 30).toInt ∧ (v.1 30).toInt ≤ (u.1 1).toInt)) ∧ ((v.1 30).toInt ≤ (u.1 30).toInt + 2 ∨ (v.1 30).toInt ≤ (u.1 1).toInt + 2) ∧ ((v.1 2).toInt = 1 ∨ (u.1 30).toInt ≤ (v.1 30).toInt)) := by
  have l0 : (0 : Int32).toInt = 0 := by decide
  have l1 : (1 : Int32).toInt = 1 := by decide
  have l2 : (2 : Int32).toInt = 2 := by decide
  have l3 : (3 : Int32).toInt = 3 := by decide
  have l4 : (4 : Int32).toInt = 4 := by decide
  have l6 : (6 : Int32).toInt = 6 := by decide
  have l7 : (7 : Int32).toInt = 7 := by decide
  have l9 : (9 : Int32).toInt = 9 := by decide
  have l10 : (10 : Int32).toInt = 10 := by decide
  have l24 : (24 : Int32).toInt = 24 := by decide
  have l26 : (26 : Int32).toInt = 26 := by decide
  have l30 : (30 : Int32).toInt = 30 := by decide
  have l40 : (40 : Int32).toInt = 40 := by decide
  have l79 : (79 : Int32).toInt = 79 := by decide
  have l88 : (88 : Int32).toInt = 88 := by decide
  have l124 : (124 : Int32).toInt = 124 := by decide
  have l128 : (128 : Int32).toInt = 128 := by decide
  have l129 : (129 : Int32).toInt = 129 := by decide
  have l130 : (130 : Int32).toInt = 130 := by decide
  have l200 : (200 : Int32).toInt = 200 := by decide
  have l1000 : (1000 : Int32).toInt = 1000 := by decide
  have l2100 : (2100 : Int32).toInt = 2100 := by decide
  have l3800 : (3800 : Int32).toInt = 3800 := by decide
  have l3900 : (3900 : Int32).toInt = 3900 := by decide
  have l100000 : (100000 : Int32).toInt = 100000 := by decide
  have l185000 : (185000 : Int32).toInt = 185000 := by decide
  rw [mM_SqlReaderModel_readCreate]
  refine ok_bM (kP_SqlReaderModel_takes I (by decide)) (fun r_2 u_3 z_1 => ?_)
  obtain ⟨I_u_3, G_u_3, p_4, p_5, p_6⟩ := z_1
  have F_u_3 : Fr [2, 5, 7, 10, 12, 24, 26, 27, 30] [18, 19, 20, 31, 32] u u_3 := Fr_tr (Fr_rfl u) G_u_3 rfl rfl
  have g_7 : (u_3.1 1).toInt = (u.1 1).toInt := by rw [G_u_3.1 1 rfl]
  have g_8 : (u_3.1 2).toInt = (u.1 2).toInt := by rw [G_u_3.1 2 rfl]
  have g_9 : (u_3.1 4).toInt = (u.1 4).toInt := by rw [G_u_3.1 4 rfl]
  have g_10 : (u_3.1 10).toInt = (u.1 10).toInt := by rw [G_u_3.1 10 rfl]
  have g_11 : (u_3.1 24).toInt = (u.1 24).toInt := by rw [G_u_3.1 24 rfl]
  have g_12 : (u_3.1 26).toInt = (u.1 26).toInt := by rw [G_u_3.1 26 rfl]
  refine ok_eq (fun c_13 c_13' => ?_) (fun c_13 => ?_)
  · refine ok_seq (fun u_15 h_14 => ?_)
    have I_u_15 : IP u_15 := by rw [h_14]; exact IP_s7 I_u_3 (by have B_16 := IP_b I_u_3; omega)
    have F_u_15 : Fr [2, 5, 7, 10, 12, 24, 26, 27, 30] [18, 19, 20, 31, 32] u u_15 := by rw [h_14]; exact Fr_ss F_u_3 rfl rfl
    have g_17 : (u_15.1 7).toInt = (2 : Int32).toInt := by rw [h_14]; rfl
    have g_18 : (u_15.1 1).toInt = (u_3.1 1).toInt := by rw [h_14]; rfl
    have g_19 : (u_15.1 2).toInt = (u_3.1 2).toInt := by rw [h_14]; rfl
    have g_20 : (u_15.1 4).toInt = (u_3.1 4).toInt := by rw [h_14]; rfl
    have g_21 : (u_15.1 30).toInt = (u_3.1 30).toInt := by rw [h_14]; rfl
    have g_22 : (u_15.1 10).toInt = (u_3.1 10).toInt := by rw [h_14]; rfl
    have g_23 : (u_15.1 24).toInt = (u_3.1 24).toInt := by rw [h_14]; rfl
    have g_24 : (u_15.1 26).toInt = (u_3.1 26).toInt := by rw [h_14]; rfl
    refine ok_bM (kP_SqlReaderModel_takes I_u_15 (by decide)) (fun r_26 u_27 z_25 => ?_)
    obtain ⟨I_u_27, G_u_27, p_28, p_29, p_30⟩ := z_25
    have F_u_27 : Fr [2, 5, 7, 10, 12, 24, 26, 27, 30] [18, 19, 20, 31, 32] u u_27 := Fr_tr F_u_15 G_u_27 rfl rfl
    have g_31 : (u_27.1 1).toInt = (u_15.1 1).toInt := by rw [G_u_27.1 1 rfl]
    have g_32 : (u_27.1 2).toInt = (u_15.1 2).toInt := by rw [G_u_27.1 2 rfl]
    have g_33 : (u_27.1 4).toInt = (u_15.1 4).toInt := by rw [G_u_27.1 4 rfl]
    have g_34 : (u_27.1 10).toInt = (u_15.1 10).toInt := by rw [G_u_27.1 10 rfl]
    have g_35 : (u_27.1 24).toInt = (u_15.1 24).toInt := by rw [G_u_27.1 24 rfl]
    have g_36 : (u_27.1 26).toInt = (u_15.1 26).toInt := by rw [G_u_27.1 26 rfl]
    refine ok_gd (zb_of (by omega) (by omega)) ?_
    refine ok_seq (fun u_38 h_37 => ?_)
    have I_u_38 : IP u_38 := by rw [h_37]; exact IP_s27 I_u_27 (by have B_39 := IP_b I_u_27; omega) (by have B_40 := IP_b I_u_27; omega)
    have F_u_38 : Fr [2, 5, 7, 10, 12, 24, 26, 27, 30] [18, 19, 20, 31, 32] u u_38 := by rw [h_37]; exact Fr_ss F_u_27 rfl rfl
    have g_41 : (u_38.1 27).toInt = (r_26 : Int32).toInt := by rw [h_37]; rfl
    have g_42 : (u_38.1 1).toInt = (u_27.1 1).toInt := by rw [h_37]; rfl
    have g_43 : (u_38.1 2).toInt = (u_27.1 2).toInt := by rw [h_37]; rfl
    have g_44 : (u_38.1 4).toInt = (u_27.1 4).toInt := by rw [h_37]; rfl
    have g_45 : (u_38.1 30).toInt = (u_27.1 30).toInt := by rw [h_37]; rfl
    have g_46 : (u_38.1 10).toInt = (u_27.1 10).toInt := by rw [h_37]; rfl
    have g_47 : (u_38.1 24).toInt = (u_27.1 24).toInt := by rw [h_37]; rfl
    have g_48 : (u_38.1 26).toInt = (u_27.1 26).toInt := by rw [h_37]; rfl
    refine ok_bP (kP_SqlReaderModel_need I_u_38 (by decide)) (fun u_50 z_49 => ?_)
    obtain ⟨I_u_50, G_u_50, p_51, p_52⟩ := z_49
    have F_u_50 : Fr [2, 5, 7, 10, 12, 24, 26, 27, 30] [18, 19, 20, 31, 32] u u_50 := Fr_tr F_u_38 G_u_50 rfl rfl
    have g_53 : (u_50.1 1).toInt = (u_38.1 1).toInt := by rw [G_u_50.1 1 rfl]
    have g_54 : (u_50.1 4).toInt = (u_38.1 4).toInt := by rw [G_u_50.1 4 rfl]
    have g_55 : (u_50.1 10).toInt = (u_38.1 10).toInt := by rw [G_u_50.1 10 rfl]
    have g_56 : (u_50.1 24).toInt = (u_38.1 24).toInt := by rw [G_u_50.1 24 rfl]
    have g_57 : (u_50.1 26).toInt = (u_38.1 26).toInt := by rw [G_u_50.1 26 rfl]
    refine ok_bP (kP_SqlReaderModel_need I_u_50 (by decide)) (fun u_59 z_58 => ?_)
    obtain ⟨I_u_59, G_u_59, p_60, p_61⟩ := z_58
    have F_u_59 : Fr [2, 5, 7, 10, 12, 24, 26, 27, 30] [18, 19, 20, 31, 32] u u_59 := Fr_tr F_u_50 G_u_59 rfl rfl
    have g_62 : (u_59.1 1).toInt = (u_50.1 1).toInt := by rw [G_u_59.1 1 rfl]
    have g_63 : (u_59.1 4).toInt = (u_50.1 4).toInt := by rw [G_u_59.1 4 rfl]
    have g_64 : (u_59.1 10).toInt = (u_50.1 10).toInt := by rw [G_u_59.1 10 rfl]
    have g_65 : (u_59.1 24).toInt = (u_50.1 24).toInt := by rw [G_u_59.1 24 rfl]
    have g_66 : (u_59.1 26).toInt = (u_50.1 26).toInt := by rw [G_u_59.1 26 rfl]
    refine ok_bM (kP_SqlReaderModel_needName I_u_59 (by have FUe : FU = 100000 := rfl; have B_68 := IP_b I_u_59; have B_69 := IP_b I; omega)) (fun r_70 u_71 z_67 => ?_)
    obtain ⟨I_u_71, G_u_71, p_72, p_73, p_74, p_75⟩ := z_67
    have F_u_71 : Fr [2, 5, 7, 10, 12, 24, 26, 27, 30] [18, 19, 20, 31, 32] u u_71 := Fr_tr F_u_59 G_u_71 rfl rfl
    have g_76 : (u_71.1 1).toInt = (u_59.1 1).toInt := by rw [G_u_71.1 1 rfl]
    have g_77 : (u_71.1 4).toInt = (u_59.1 4).toInt := by rw [G_u_71.1 4 rfl]
    have g_78 : (u_71.1 10).toInt = (u_59.1 10).toInt := by rw [G_u_71.1 10 rfl]
    have g_79 : (u_71.1 24).toInt = (u_59.1 24).toInt := by rw [G_u_71.1 24 rfl]
    have g_80 : (u_71.1 26).toInt = (u_59.1 26).toInt := by rw [G_u_71.1 26 rfl]
    have n_81 : 0 ≤ r_70.toInt := by have B_82 := IP_b I_u_59; omega
    refine ok_seq (fun u_84 h_83 => ?_)
    have I_u_84 : IP u_84 := by rw [h_83]; exact IP_s10 I_u_71 (by have B_85 := IP_b I_u_71; omega) (by have B_86 := IP_b I_u_71; omega) (by have B_87 := IP_b I_u_71; omega)
    have F_u_84 : Fr [2, 5, 7, 10, 12, 24, 26, 27, 30] [18, 19, 20, 31, 32] u u_84 := by rw [h_83]; exact Fr_ss F_u_71 rfl rfl
    have g_88 : (u_84.1 10).toInt = (r_70 : Int32).toInt := by rw [h_83]; rfl
    have g_89 : (u_84.1 1).toInt = (u_71.1 1).toInt := by rw [h_83]; rfl
    have g_90 : (u_84.1 2).toInt = (u_71.1 2).toInt := by rw [h_83]; rfl
    have g_91 : (u_84.1 4).toInt = (u_71.1 4).toInt := by rw [h_83]; rfl
    have g_92 : (u_84.1 30).toInt = (u_71.1 30).toInt := by rw [h_83]; rfl
    have g_93 : (u_84.1 24).toInt = (u_71.1 24).toInt := by rw [h_83]; rfl
    have g_94 : (u_84.1 26).toInt = (u_71.1 26).toInt := by rw [h_83]; rfl
    refine ok_bP (kP_SqlReaderModel_need I_u_84 (by decide)) (fun u_96 z_95 => ?_)
    obtain ⟨I_u_96, G_u_96, p_97, p_98⟩ := z_95
    have F_u_96 : Fr [2, 5, 7, 10, 12, 24, 26, 27, 30] [18, 19, 20, 31, 32] u u_96 := Fr_tr F_u_84 G_u_96 rfl rfl
    have g_99 : (u_96.1 1).toInt = (u_84.1 1).toInt := by rw [G_u_96.1 1 rfl]
    have g_100 : (u_96.1 4).toInt = (u_84.1 4).toInt := by rw [G_u_96.1 4 rfl]
    have g_101 : (u_96.1 10).toInt = (u_84.1 10).toInt := by rw [G_u_96.1 10 rfl]
    have g_102 : (u_96.1 24).toInt = (u_84.1 24).toInt := by rw [G_u_96.1 24 rfl]
    have g_103 : (u_96.1 26).toInt = (u_84.1 26).toInt := by rw [G_u_96.1 26 rfl]
    refine ok_bM (kP_SqlReaderModel_needName I_u_96 (by have FUe : FU = 100000 := rfl; have B_105 := IP_b I_u_96; have B_106 := IP_b I; omega)) (fun r_107 u_108 z_104 => ?_)
    obtain ⟨I_u_108, G_u_108, p_109, p_110, p_111, p_112⟩ := z_104
    have F_u_108 : Fr [2, 5, 7, 10, 12, 24, 26, 27, 30] [18, 19, 20, 31, 32] u u_108 := Fr_tr F_u_96 G_u_108 rfl rfl
    have g_113 : (u_108.1 1).toInt = (u_96.1 1).toInt := by rw [G_u_108.1 1 rfl]
    have g_114 : (u_108.1 4).toInt = (u_96.1 4).toInt := by rw [G_u_108.1 4 rfl]
    have g_115 : (u_108.1 10).toInt = (u_96.1 10).toInt := by rw [G_u_108.1 10 rfl]
    have g_116 : (u_108.1 24).toInt = (u_96.1 24).toInt := by rw [G_u_108.1 24 rfl]
    have g_117 : (u_108.1 26).toInt = (u_96.1 26).toInt := by rw [G_u_108.1 26 rfl]
    have n_118 : 0 ≤ r_107.toInt := by have B_119 := IP_b I_u_96; omega
    refine ok_seq (fun u_121 h_120 => ?_)
    have I_u_121 : IP u_121 := by rw [h_120]; exact IP_s26 I_u_108 (by have B_122 := IP_b I_u_108; omega) (by have B_123 := IP_b I_u_108; omega) (by have B_124 := IP_b I_u_108; omega)
    have F_u_121 : Fr [2, 5, 7, 10, 12, 24, 26, 27, 30] [18, 19, 20, 31, 32] u u_121 := by rw [h_120]; exact Fr_ss F_u_108 rfl rfl
    have g_125 : (u_121.1 26).toInt = (r_107 : Int32).toInt := by rw [h_120]; rfl
    have g_126 : (u_121.1 1).toInt = (u_108.1 1).toInt := by rw [h_120]; rfl
    have g_127 : (u_121.1 2).toInt = (u_108.1 2).toInt := by rw [h_120]; rfl
    have g_128 : (u_121.1 4).toInt = (u_108.1 4).toInt := by rw [h_120]; rfl
    have g_129 : (u_121.1 30).toInt = (u_108.1 30).toInt := by rw [h_120]; rfl
    have g_130 : (u_121.1 10).toInt = (u_108.1 10).toInt := by rw [h_120]; rfl
    have g_131 : (u_121.1 24).toInt = (u_108.1 24).toInt := by rw [h_120]; rfl
    refine ok_bP (kP_SqlReaderModel_note I_u_121 (by have FUe : FU = 100000 := rfl; have B_133 := IP_b I_u_121; have B_134 := IP_b I; omega) (by have FUe : FU = 100000 := rfl; have B_135 := IP_b I_u_121; have B_136 := IP_b I; omega) (by have FUe : FU = 100000 := rfl; have B_137 := IP_b I_u_121; have B_138 := IP_b I; omega) (by have FUe : FU = 100000 := rfl; have B_139 := IP_b I_u_121; have B_140 := IP_b I; omega) (by have FUe : FU = 100000 := rfl; have B_141 := IP_b I_u_121; have B_142 := IP_b I; omega)) (fun u_143 z_132 => ?_)
    obtain ⟨I_u_143, G_u_143⟩ := z_132
    have F_u_143 : Fr [2, 5, 7, 10, 12, 24, 26, 27, 30] [18, 19, 20, 31, 32] u u_143 := Fr_tr F_u_121 G_u_143 rfl rfl
    have g_144 : (u_143.1 1).toInt = (u_121.1 1).toInt := by rw [G_u_143.1 1 rfl]
    have g_145 : (u_143.1 2).toInt = (u_121.1 2).toInt := by rw [G_u_143.1 2 rfl]
    have g_146 : (u_143.1 4).toInt = (u_121.1 4).toInt := by rw [G_u_143.1 4 rfl]
    have g_147 : (u_143.1 30).toInt = (u_121.1 30).toInt := by rw [G_u_143.1 30 rfl]
    have g_148 : (u_143.1 10).toInt = (u_121.1 10).toInt := by rw [G_u_143.1 10 rfl]
    have g_149 : (u_143.1 24).toInt = (u_121.1 24).toInt := by rw [G_u_143.1 24 rfl]
    have g_150 : (u_143.1 26).toInt = (u_121.1 26).toInt := by rw [G_u_143.1 26 rfl]
    refine ok_bP (kP_SqlReaderModel_need I_u_143 (by decide)) (fun u_152 z_151 => ?_)
    obtain ⟨I_u_152, G_u_152, p_153, p_154⟩ := z_151
    have F_u_152 : Fr [2, 5, 7, 10, 12, 24, 26, 27, 30] [18, 19, 20, 31, 32] u u_152 := Fr_tr F_u_143 G_u_152 rfl rfl
    have g_155 : (u_152.1 1).toInt = (u_143.1 1).toInt := by rw [G_u_152.1 1 rfl]
    have g_156 : (u_152.1 4).toInt = (u_143.1 4).toInt := by rw [G_u_152.1 4 rfl]
    have g_157 : (u_152.1 10).toInt = (u_143.1 10).toInt := by rw [G_u_152.1 10 rfl]
    have g_158 : (u_152.1 24).toInt = (u_143.1 24).toInt := by rw [G_u_152.1 24 rfl]
    have g_159 : (u_152.1 26).toInt = (u_143.1 26).toInt := by rw [G_u_152.1 26 rfl]
    exact ok_some ⟨I_u_152, F_u_152, (by have B_160 := IP_b I; have B_161 := IP_b I_u_152; omega), (by have B_162 := IP_b I_u_152; omega), (by have B_163 := IP_b I_u_152; have B_164 := IP_b I; omega), (by have B_165 := IP_b I_u_152; have B_166 := IP_b I; omega), (by have B_167 := IP_b I_u_152; have B_168 := IP_b I; omega)⟩
  · refine ok_seq (fun u_170 h_169 => ?_)
    have I_u_170 : IP u_170 := by rw [h_169]; exact IP_s7 I_u_3 (by have B_171 := IP_b I_u_3; omega)
    have F_u_170 : Fr [2, 5, 7, 10, 12, 24, 26, 27, 30] [18, 19, 20, 31, 32] u u_170 := by rw [h_169]; exact Fr_ss F_u_3 rfl rfl
    have g_172 : (u_170.1 7).toInt = (1 : Int32).toInt := by rw [h_169]; rfl
    have g_173 : (u_170.1 1).toInt = (u_3.1 1).toInt := by rw [h_169]; rfl
    have g_174 : (u_170.1 2).toInt = (u_3.1 2).toInt := by rw [h_169]; rfl
    have g_175 : (u_170.1 4).toInt = (u_3.1 4).toInt := by rw [h_169]; rfl
    have g_176 : (u_170.1 30).toInt = (u_3.1 30).toInt := by rw [h_169]; rfl
    have g_177 : (u_170.1 10).toInt = (u_3.1 10).toInt := by rw [h_169]; rfl
    have g_178 : (u_170.1 24).toInt = (u_3.1 24).toInt := by rw [h_169]; rfl
    have g_179 : (u_170.1 26).toInt = (u_3.1 26).toInt := by rw [h_169]; rfl
    refine ok_bM (kP_SqlReaderModel_needName I_u_170 (by have FUe : FU = 100000 := rfl; have B_181 := IP_b I_u_170; have B_182 := IP_b I; omega)) (fun r_183 u_184 z_180 => ?_)
    obtain ⟨I_u_184, G_u_184, p_185, p_186, p_187, p_188⟩ := z_180
    have F_u_184 : Fr [2, 5, 7, 10, 12, 24, 26, 27, 30] [18, 19, 20, 31, 32] u u_184 := Fr_tr F_u_170 G_u_184 rfl rfl
    have g_189 : (u_184.1 1).toInt = (u_170.1 1).toInt := by rw [G_u_184.1 1 rfl]
    have g_190 : (u_184.1 4).toInt = (u_170.1 4).toInt := by rw [G_u_184.1 4 rfl]
    have g_191 : (u_184.1 10).toInt = (u_170.1 10).toInt := by rw [G_u_184.1 10 rfl]
    have g_192 : (u_184.1 24).toInt = (u_170.1 24).toInt := by rw [G_u_184.1 24 rfl]
    have g_193 : (u_184.1 26).toInt = (u_170.1 26).toInt := by rw [G_u_184.1 26 rfl]
    have n_194 : 0 ≤ r_183.toInt := by have B_195 := IP_b I_u_170; omega
    refine ok_seq (fun u_197 h_196 => ?_)
    have I_u_197 : IP u_197 := by rw [h_196]; exact IP_s12 I_u_184 (by have B_198 := IP_b I_u_184; omega) (by have B_199 := IP_b I_u_184; omega) (by have B_200 := IP_b I_u_184; omega)
    have F_u_197 : Fr [2, 5, 7, 10, 12, 24, 26, 27, 30] [18, 19, 20, 31, 32] u u_197 := by rw [h_196]; exact Fr_ss F_u_184 rfl rfl
    have g_201 : (u_197.1 12).toInt = (r_183 : Int32).toInt := by rw [h_196]; rfl
    have g_202 : (u_197.1 1).toInt = (u_184.1 1).toInt := by rw [h_196]; rfl
    have g_203 : (u_197.1 2).toInt = (u_184.1 2).toInt := by rw [h_196]; rfl
    have g_204 : (u_197.1 4).toInt = (u_184.1 4).toInt := by rw [h_196]; rfl
    have g_205 : (u_197.1 30).toInt = (u_184.1 30).toInt := by rw [h_196]; rfl
    have g_206 : (u_197.1 10).toInt = (u_184.1 10).toInt := by rw [h_196]; rfl
    have g_207 : (u_197.1 24).toInt = (u_184.1 24).toInt := by rw [h_196]; rfl
    have g_208 : (u_197.1 26).toInt = (u_184.1 26).toInt := by rw [h_196]; rfl
    refine ok_bP (kP_SqlReaderModel_need I_u_197 (by decide)) (fun u_210 z_209 => ?_)
    obtain ⟨I_u_210, G_u_210, p_211, p_212⟩ := z_209
    have F_u_210 : Fr [2, 5, 7, 10, 12, 24, 26, 27, 30] [18, 19, 20, 31, 32] u u_210 := Fr_tr F_u_197 G_u_210 rfl rfl
    have g_213 : (u_210.1 1).toInt = (u_197.1 1).toInt := by rw [G_u_210.1 1 rfl]
    have g_214 : (u_210.1 4).toInt = (u_197.1 4).toInt := by rw [G_u_210.1 4 rfl]
    have g_215 : (u_210.1 10).toInt = (u_197.1 10).toInt := by rw [G_u_210.1 10 rfl]
    have g_216 : (u_210.1 24).toInt = (u_197.1 24).toInt := by rw [G_u_210.1 24 rfl]
    have g_217 : (u_210.1 26).toInt = (u_197.1 26).toInt := by rw [G_u_210.1 26 rfl]
    refine ok_mono (kP_SqlReaderModel_readCreate_L32 _ I_u_210 (by have FUe : FU = 100000 := rfl; have B_218 := IP_b I_u_210; have B_219 := IP_b I; omega) (by have FUe : FU = 100000 := rfl; have B_220 := IP_b I_u_210; have B_221 := IP_b I; omega) (by have FUe : FU = 100000 := rfl; have B_222 := IP_b I_u_210; have B_223 := IP_b I; omega) (by have FUe : FU = 100000 := rfl; have B_224 := IP_b I_u_210; have B_225 := IP_b I; omega) (by have FUe : FU = 100000 := rfl; have B_226 := IP_b I_u_210; have B_227 := IP_b I; omega) (by have FUe : FU = 100000 := rfl; have B_228 := IP_b I_u_210; have B_229 := IP_b I; omega) (by have FUe : FU = 100000 := rfl; have B_230 := IP_b I_u_210; have B_231 := IP_b I; omega) (by have FUe : FU = 100000 := rfl; have B_232 := IP_b I_u_210; have B_233 := IP_b I; omega)) (fun u_235 z_234 => ?_)
    obtain ⟨I_u_235, G_u_235, p_236, p_237, p_238, p_239, p_240, p_241⟩ := z_234
    have F_u_235 : Fr [2, 5, 7, 10, 12, 24, 26, 27, 30] [18, 19, 20, 31, 32] u u_235 := Fr_tr F_u_210 G_u_235 rfl rfl
    have g_242 : (u_235.1 1).toInt = (u_210.1 1).toInt := by rw [G_u_235.1 1 rfl]
    have g_243 : (u_235.1 4).toInt = (u_210.1 4).toInt := by rw [G_u_235.1 4 rfl]
    have g_244 : (u_235.1 10).toInt = (u_210.1 10).toInt := by rw [G_u_235.1 10 rfl]
    have g_245 : (u_235.1 26).toInt = (u_210.1 26).toInt := by rw [G_u_235.1 26 rfl]
    exact ⟨I_u_235, F_u_235, (by have B_246 := IP_b I; have B_247 := IP_b I_u_235; omega), (by have B_248 := IP_b I_u_235; omega), (by have B_249 := IP_b I_u_235; have B_250 := IP_b I; omega), (by have B_251 := IP_b I_u_235; have B_252 := IP_b I; omega), (by have B_253 := IP_b I_u_235; have B_254 := IP_b I; omega)⟩
theorem kP_SqlReaderModel_readOther_J232 {x1 : Int32} {s1 : Int32} {u : St} (I : IP u) (h0 : (u.1 4).toInt ≤ 185000) (h1 : (u.1 2).toInt = 1 ∨ ((u.1 4).toInt ≤ 100000 + 40 * (u.1 30).toInt ∧ (u.1 30).toInt ≤ (u.1 1).toInt)) (h2 : (u.1 30).toInt ≤ 3800) (h3 : 0 ≤ s1.toInt) (h4 : s1.toInt ≤ 1) (h5 : (u.1 2).toInt ≤ s1.toInt) (h6 : 0 ≤ x1.toInt) (h7 : x1.toInt ≤ 4000) (h8 : s1.toInt = 1 ∨ (x1.toInt < (u.1 1).toInt ∧ (ga u 1 x1).toInt = 2)) (h9 : (u.1 7).toInt ≠ 5 ∨ 0 ≤ (u.1 10).toInt) : ok (mM_SqlReaderModel_readOther_J232 x1 s1 u) (fun v => IP v ∧ Fr [2, 7, 8, 12] [] u v ∧ (u.1 2).toInt ≤ (v.1 2).toInt ∧ (v.1 4).toInt ≤ 185000 ∧ ((v.1 2).toInt = 1 ∨ ((v.1 4).toInt ≤ 100000 + 40 * (v.1 30).toInt ∧ (v.1 30).toInt ≤ (u.1 1).toInt)) ∧ ((v.1 30).toInt ≤ (u.1 30).toInt + 0 ∨ (v.1 30).toInt ≤ (u.1 1).toInt + 0) ∧ ((v.1 2).toInt = 1 ∨ (u.1 30).toInt ≤ (v.1 30).toInt)) := by
  have l0 : (0 : Int32).toInt = 0 := by decide
  have l1 : (1 : Int32).toInt = 1 := by decide
  have l2 : (2 : Int32).toInt = 2 := by decide
  have l4 : (4 : Int32).toInt = 4 := by decide
  have l7 : (7 : Int32).toInt = 7 := by decide
  have l16 : (16 : Int32).toInt = 16 := by decide
  have l30 : (30 : Int32).toInt = 30 := by decide
  have l40 : (40 : Int32).toInt = 40 := by decide
  have l100000 : (100000 : Int32).toInt = 100000 := by decide
  have l185000 : (185000 : Int32).toInt = 185000 := by decide
  rw [mM_SqlReaderModel_readOther_J232]
  refine ok_gd (zb_of (by omega) (by omega)) ?_
  refine ok_seq (fun u_2 h_1 => ?_)
  have I_u_2 : IP u_2 := by rw [h_1]; exact IP_bad I (by have B_3 := IP_b I; omega) (by have B_4 := IP_b I; omega) (by have B_5 := IP_b I; omega)
  have F_u_2 : Fr [2, 7, 8, 12] [] u u_2 := by rw [h_1]; exact Fr_ss (Fr_rfl u) rfl rfl
  have g_6 : (ga u_2 1 x1).toInt = (ga u 1 x1).toInt := by rw [h_1]; rfl
  have g_7 : (u_2.1 2).toInt = (s1 : Int32).toInt := by rw [h_1]; rfl
  have g_8 : (u_2.1 1).toInt = (u.1 1).toInt := by rw [h_1]; rfl
  have g_9 : (u_2.1 4).toInt = (u.1 4).toInt := by rw [h_1]; rfl
  have g_10 : (u_2.1 30).toInt = (u.1 30).toInt := by rw [h_1]; rfl
  have g_11 : (u_2.1 7).toInt = (u.1 7).toInt := by rw [h_1]; rfl
  have g_12 : (u_2.1 10).toInt = (u.1 10).toInt := by rw [h_1]; rfl
  refine ok_seq (fun u_14 h_13 => ?_)
  have I_u_14 : IP u_14 := by rw [h_13]; exact IP_s8 I_u_2 (by have B_15 := IP_b I_u_2; omega)
  have F_u_14 : Fr [2, 7, 8, 12] [] u u_14 := by rw [h_13]; exact Fr_ss F_u_2 rfl rfl
  have g_16 : (ga u_14 1 x1).toInt = (ga u_2 1 x1).toInt := by rw [h_13]; rfl
  have g_17 : (u_14.1 8).toInt = ((u_2.1 7) : Int32).toInt := by rw [h_13]; rfl
  have g_18 : (u_14.1 1).toInt = (u_2.1 1).toInt := by rw [h_13]; rfl
  have g_19 : (u_14.1 2).toInt = (u_2.1 2).toInt := by rw [h_13]; rfl
  have g_20 : (u_14.1 4).toInt = (u_2.1 4).toInt := by rw [h_13]; rfl
  have g_21 : (u_14.1 30).toInt = (u_2.1 30).toInt := by rw [h_13]; rfl
  have g_22 : (u_14.1 7).toInt = (u_2.1 7).toInt := by rw [h_13]; rfl
  have g_23 : (u_14.1 10).toInt = (u_2.1 10).toInt := by rw [h_13]; rfl
  refine ok_seq (fun u_25 h_24 => ?_)
  have I_u_25 : IP u_25 := by rw [h_24]; exact IP_s7 I_u_14 (by have B_26 := IP_b I_u_14; omega)
  have F_u_25 : Fr [2, 7, 8, 12] [] u u_25 := by rw [h_24]; exact Fr_ss F_u_14 rfl rfl
  have g_27 : (ga u_25 1 x1).toInt = (ga u_14 1 x1).toInt := by rw [h_24]; rfl
  have g_28 : (u_25.1 7).toInt = (16 : Int32).toInt := by rw [h_24]; rfl
  have g_29 : (u_25.1 1).toInt = (u_14.1 1).toInt := by rw [h_24]; rfl
  have g_30 : (u_25.1 2).toInt = (u_14.1 2).toInt := by rw [h_24]; rfl
  have g_31 : (u_25.1 4).toInt = (u_14.1 4).toInt := by rw [h_24]; rfl
  have g_32 : (u_25.1 30).toInt = (u_14.1 30).toInt := by rw [h_24]; rfl
  have g_33 : (u_25.1 10).toInt = (u_14.1 10).toInt := by rw [h_24]; rfl
  refine ok_seq (fun u_35 h_34 => ?_)
  have I_u_35 : IP u_35 := by rw [h_34]; exact IP_s12 I_u_25 (by have B_36 := IP_b I_u_25; omega) (by have B_37 := IP_b I_u_25; omega) (by have B_38 := IP_b I_u_25; omega)
  have F_u_35 : Fr [2, 7, 8, 12] [] u u_35 := by rw [h_34]; exact Fr_ss F_u_25 rfl rfl
  have g_39 : (ga u_35 1 x1).toInt = (ga u_25 1 x1).toInt := by rw [h_34]; rfl
  have g_40 : (u_35.1 12).toInt = (x1 : Int32).toInt := by rw [h_34]; rfl
  have g_41 : (u_35.1 1).toInt = (u_25.1 1).toInt := by rw [h_34]; rfl
  have g_42 : (u_35.1 2).toInt = (u_25.1 2).toInt := by rw [h_34]; rfl
  have g_43 : (u_35.1 4).toInt = (u_25.1 4).toInt := by rw [h_34]; rfl
  have g_44 : (u_35.1 30).toInt = (u_25.1 30).toInt := by rw [h_34]; rfl
  have g_45 : (u_35.1 7).toInt = (u_25.1 7).toInt := by rw [h_34]; rfl
  have g_46 : (u_35.1 10).toInt = (u_25.1 10).toInt := by rw [h_34]; rfl
  exact ok_some ⟨I_u_35, F_u_35, (by have B_47 := IP_b I; have B_48 := IP_b I_u_35; omega), (by have B_49 := IP_b I_u_35; omega), (by have B_50 := IP_b I_u_35; have B_51 := IP_b I; omega), (by have B_52 := IP_b I_u_35; have B_53 := IP_b I; omega), (by have B_54 := IP_b I_u_35; have B_55 := IP_b I; omega)⟩
set_option maxHeartbeats 20000000 in
theorem kP_SqlReaderModel_readOther {u : St} (I : IP u) (h0 : (u.1 4).toInt ≤ 185000) (h1 : (u.1 2).toInt = 1 ∨ ((u.1 4).toInt ≤ 100000 + 40 * (u.1 30).toInt ∧ (u.1 30).toInt ≤ (u.1 1).toInt)) (h2 : (u.1 30).toInt ≤ 3780) (h3 : (u.1 16).toInt = 0) (h4 : (u.1 17).toInt = 0) (h5 : (u.1 18).toInt = 0) (h6 : (u.1 19).toInt = 0) (h7 : (u.1 23).toInt = 0) (h8 : (u.1 20).toInt = 0) (h9 : (u.1 24).toInt = 0) (h10 : (u.1 7).toInt = 0) : ok (mM_SqlReaderModel_readOther u) (fun v => IP v ∧ Fr [2, 4, 5, 7, 8, 10, 11, 12, 13, 14, 15, 16, 17, 18, 19, 20, 21, 23, 24, 26, 27, 28, 29, 30] [10, 11, 12, 13, 14, 15, 16, 17, 18, 19, 20, 21, 22, 23, 25, 26, 27, 29, 30, 31, 32] u v ∧ (u.1 2).toInt ≤ (v.1 2).toInt ∧ (v.1 4).toInt ≤ 185000 ∧ ((v.1 2).toInt = 1 ∨ ((v.1 4).toInt ≤ 100000 + 40 * (v.1 30).toInt ∧ (v.1 30).toInt ≤ (u.1 1).toInt)) ∧ ((v.1 30).toInt ≤ (u.1 30).toInt + 7 ∨ (v.1 30).toInt ≤ (u.1 1).toInt + 7) ∧ ((v.1 2).toInt = 1 ∨ (u.1 30).toInt ≤ (v.1 30).toInt)) := by
  have l0 : (0 : Int32).toInt = 0 := by decide
  have l1 : (1 : Int32).toInt = 1 := by decide
  have l2 : (2 : Int32).toInt = 2 := by decide
  have l3 : (3 : Int32).toInt = 3 := by decide
  have l4 : (4 : Int32).toInt = 4 := by decide
  have l5 : (5 : Int32).toInt = 5 := by decide
  have l7 : (7 : Int32).toInt = 7 := by decide
  have l10 : (10 : Int32).toInt = 10 := by decide
  have l11 : (11 : Int32).toInt = 11 := by decide
  have l12 : (12 : Int32).toInt = 12 := by decide
  have l13 : (13 : Int32).toInt = 13 := by decide
  have l14 : (14 : Int32).toInt = 14 := by decide
  have l15 : (15 : Int32).toInt = 15 := by decide
  have l16 : (16 : Int32).toInt = 16 := by decide
  have l17 : (17 : Int32).toInt = 17 := by decide
  have l18 : (18 : Int32).toInt = 18 := by decide
  have l19 : (19 : Int32).toInt = 19 := by decide
  have l20 : (20 : Int32).toInt = 20 := by decide
  have l23 : (23 : Int32).toInt = 23 := by decide
  have l24 : (24 : Int32).toInt = 24 := by decide
  have l30 : (30 : Int32).toInt = 30 := by decide
  have l40 : (40 : Int32).toInt = 40 := by decide
  have l123 : (123 : Int32).toInt = 123 := by decide
  have l124 : (124 : Int32).toInt = 124 := by decide
  have l131 : (131 : Int32).toInt = 131 := by decide
  have l132 : (132 : Int32).toInt = 132 := by decide
  have l137 : (137 : Int32).toInt = 137 := by decide
  have l138 : (138 : Int32).toInt = 138 := by decide
  have l139 : (139 : Int32).toInt = 139 := by decide
  have l140 : (140 : Int32).toInt = 140 := by decide
  have l141 : (141 : Int32).toInt = 141 := by decide
  have l142 : (142 : Int32).toInt = 142 := by decide
  have l146 : (146 : Int32).toInt = 146 := by decide
  have l147 : (147 : Int32).toInt = 147 := by decide
  have l148 : (148 : Int32).toInt = 148 := by decide
  have l149 : (149 : Int32).toInt = 149 := by decide
  have l150 : (150 : Int32).toInt = 150 := by decide
  have l3790 : (3790 : Int32).toInt = 3790 := by decide
  have l3800 : (3800 : Int32).toInt = 3800 := by decide
  have l3900 : (3900 : Int32).toInt = 3900 := by decide
  have l4000 : (4000 : Int32).toInt = 4000 := by decide
  have l100000 : (100000 : Int32).toInt = 100000 := by decide
  have l185000 : (185000 : Int32).toInt = 185000 := by decide
  rw [mM_SqlReaderModel_readOther]
  refine ok_bM (kP_SqlReaderModel_takes I (by decide)) (fun r_2 u_3 z_1 => ?_)
  obtain ⟨I_u_3, G_u_3, p_4, p_5, p_6⟩ := z_1
  have F_u_3 : Fr [2, 4, 5, 7, 8, 10, 11, 12, 13, 14, 15, 16, 17, 18, 19, 20, 21, 23, 24, 26, 27, 28, 29, 30] [10, 11, 12, 13, 14, 15, 16, 17, 18, 19, 20, 21, 22, 23, 25, 26, 27, 29, 30, 31, 32] u u_3 := Fr_tr (Fr_rfl u) G_u_3 rfl rfl
  have g_7 : (u_3.1 1).toInt = (u.1 1).toInt := by rw [G_u_3.1 1 rfl]
  have g_8 : (u_3.1 2).toInt = (u.1 2).toInt := by rw [G_u_3.1 2 rfl]
  have g_9 : (u_3.1 4).toInt = (u.1 4).toInt := by rw [G_u_3.1 4 rfl]
  have g_10 : (u_3.1 7).toInt = (u.1 7).toInt := by rw [G_u_3.1 7 rfl]
  have g_11 : (u_3.1 8).toInt = (u.1 8).toInt := by rw [G_u_3.1 8 rfl]
  have g_12 : (u_3.1 10).toInt = (u.1 10).toInt := by rw [G_u_3.1 10 rfl]
  have g_13 : (u_3.1 16).toInt = (u.1 16).toInt := by rw [G_u_3.1 16 rfl]
  have g_14 : (u_3.1 17).toInt = (u.1 17).toInt := by rw [G_u_3.1 17 rfl]
  have g_15 : (u_3.1 18).toInt = (u.1 18).toInt := by rw [G_u_3.1 18 rfl]
  have g_16 : (u_3.1 19).toInt = (u.1 19).toInt := by rw [G_u_3.1 19 rfl]
  have g_17 : (u_3.1 20).toInt = (u.1 20).toInt := by rw [G_u_3.1 20 rfl]
  have g_18 : (u_3.1 23).toInt = (u.1 23).toInt := by rw [G_u_3.1 23 rfl]
  have g_19 : (u_3.1 24).toInt = (u.1 24).toInt := by rw [G_u_3.1 24 rfl]
  refine ok_eq (fun c_20 c_20' => ?_) (fun c_20 => ?_)
  · refine ok_bM (kP_SqlReaderModel_takes I_u_3 (by decide)) (fun r_22 u_23 z_21 => ?_)
    obtain ⟨I_u_23, G_u_23, p_24, p_25, p_26⟩ := z_21
    have F_u_23 : Fr [2, 4, 5, 7, 8, 10, 11, 12, 13, 14, 15, 16, 17, 18, 19, 20, 21, 23, 24, 26, 27, 28, 29, 30] [10, 11, 12, 13, 14, 15, 16, 17, 18, 19, 20, 21, 22, 23, 25, 26, 27, 29, 30, 31, 32] u u_23 := Fr_tr F_u_3 G_u_23 rfl rfl
    have g_27 : (u_23.1 1).toInt = (u_3.1 1).toInt := by rw [G_u_23.1 1 rfl]
    have g_28 : (u_23.1 2).toInt = (u_3.1 2).toInt := by rw [G_u_23.1 2 rfl]
    have g_29 : (u_23.1 4).toInt = (u_3.1 4).toInt := by rw [G_u_23.1 4 rfl]
    have g_30 : (u_23.1 7).toInt = (u_3.1 7).toInt := by rw [G_u_23.1 7 rfl]
    have g_31 : (u_23.1 8).toInt = (u_3.1 8).toInt := by rw [G_u_23.1 8 rfl]
    have g_32 : (u_23.1 10).toInt = (u_3.1 10).toInt := by rw [G_u_23.1 10 rfl]
    have g_33 : (u_23.1 16).toInt = (u_3.1 16).toInt := by rw [G_u_23.1 16 rfl]
    have g_34 : (u_23.1 17).toInt = (u_3.1 17).toInt := by rw [G_u_23.1 17 rfl]
    have g_35 : (u_23.1 18).toInt = (u_3.1 18).toInt := by rw [G_u_23.1 18 rfl]
    have g_36 : (u_23.1 19).toInt = (u_3.1 19).toInt := by rw [G_u_23.1 19 rfl]
    have g_37 : (u_23.1 20).toInt = (u_3.1 20).toInt := by rw [G_u_23.1 20 rfl]
    have g_38 : (u_23.1 23).toInt = (u_3.1 23).toInt := by rw [G_u_23.1 23 rfl]
    have g_39 : (u_23.1 24).toInt = (u_3.1 24).toInt := by rw [G_u_23.1 24 rfl]
    refine ok_eq (fun c_40 c_40' => ?_) (fun c_40 => ?_)
    · refine ok_bM (kP_SqlReaderModel_takes I_u_23 (by decide)) (fun r_42 u_43 z_41 => ?_)
      obtain ⟨I_u_43, G_u_43, p_44, p_45, p_46⟩ := z_41
      have F_u_43 : Fr [2, 4, 5, 7, 8, 10, 11, 12, 13, 14, 15, 16, 17, 18, 19, 20, 21, 23, 24, 26, 27, 28, 29, 30] [10, 11, 12, 13, 14, 15, 16, 17, 18, 19, 20, 21, 22, 23, 25, 26, 27, 29, 30, 31, 32] u u_43 := Fr_tr F_u_23 G_u_43 rfl rfl
      have g_47 : (u_43.1 1).toInt = (u_23.1 1).toInt := by rw [G_u_43.1 1 rfl]
      have g_48 : (u_43.1 2).toInt = (u_23.1 2).toInt := by rw [G_u_43.1 2 rfl]
      have g_49 : (u_43.1 4).toInt = (u_23.1 4).toInt := by rw [G_u_43.1 4 rfl]
      have g_50 : (u_43.1 7).toInt = (u_23.1 7).toInt := by rw [G_u_43.1 7 rfl]
      have g_51 : (u_43.1 8).toInt = (u_23.1 8).toInt := by rw [G_u_43.1 8 rfl]
      have g_52 : (u_43.1 10).toInt = (u_23.1 10).toInt := by rw [G_u_43.1 10 rfl]
      have g_53 : (u_43.1 16).toInt = (u_23.1 16).toInt := by rw [G_u_43.1 16 rfl]
      have g_54 : (u_43.1 17).toInt = (u_23.1 17).toInt := by rw [G_u_43.1 17 rfl]
      have g_55 : (u_43.1 18).toInt = (u_23.1 18).toInt := by rw [G_u_43.1 18 rfl]
      have g_56 : (u_43.1 19).toInt = (u_23.1 19).toInt := by rw [G_u_43.1 19 rfl]
      have g_57 : (u_43.1 20).toInt = (u_23.1 20).toInt := by rw [G_u_43.1 20 rfl]
      have g_58 : (u_43.1 23).toInt = (u_23.1 23).toInt := by rw [G_u_43.1 23 rfl]
      have g_59 : (u_43.1 24).toInt = (u_23.1 24).toInt := by rw [G_u_43.1 24 rfl]
      refine ok_eq (fun c_60 c_60' => ?_) (fun c_60 => ?_)
      · refine ok_bM (kP_SqlReaderModel_takes I_u_43 (by decide)) (fun r_62 u_63 z_61 => ?_)
        obtain ⟨I_u_63, G_u_63, p_64, p_65, p_66⟩ := z_61
        have F_u_63 : Fr [2, 4, 5, 7, 8, 10, 11, 12, 13, 14, 15, 16, 17, 18, 19, 20, 21, 23, 24, 26, 27, 28, 29, 30] [10, 11, 12, 13, 14, 15, 16, 17, 18, 19, 20, 21, 22, 23, 25, 26, 27, 29, 30, 31, 32] u u_63 := Fr_tr F_u_43 G_u_63 rfl rfl
        have g_67 : (u_63.1 1).toInt = (u_43.1 1).toInt := by rw [G_u_63.1 1 rfl]
        have g_68 : (u_63.1 2).toInt = (u_43.1 2).toInt := by rw [G_u_63.1 2 rfl]
        have g_69 : (u_63.1 4).toInt = (u_43.1 4).toInt := by rw [G_u_63.1 4 rfl]
        have g_70 : (u_63.1 7).toInt = (u_43.1 7).toInt := by rw [G_u_63.1 7 rfl]
        have g_71 : (u_63.1 8).toInt = (u_43.1 8).toInt := by rw [G_u_63.1 8 rfl]
        have g_72 : (u_63.1 10).toInt = (u_43.1 10).toInt := by rw [G_u_63.1 10 rfl]
        have g_73 : (u_63.1 16).toInt = (u_43.1 16).toInt := by rw [G_u_63.1 16 rfl]
        have g_74 : (u_63.1 17).toInt = (u_43.1 17).toInt := by rw [G_u_63.1 17 rfl]
        have g_75 : (u_63.1 18).toInt = (u_43.1 18).toInt := by rw [G_u_63.1 18 rfl]
        have g_76 : (u_63.1 19).toInt = (u_43.1 19).toInt := by rw [G_u_63.1 19 rfl]
        have g_77 : (u_63.1 20).toInt = (u_43.1 20).toInt := by rw [G_u_63.1 20 rfl]
        have g_78 : (u_63.1 23).toInt = (u_43.1 23).toInt := by rw [G_u_63.1 23 rfl]
        have g_79 : (u_63.1 24).toInt = (u_43.1 24).toInt := by rw [G_u_63.1 24 rfl]
        refine ok_eq (fun c_80 c_80' => ?_) (fun c_80 => ?_)
        · refine ok_bM (kP_SqlReaderModel_takes I_u_63 (by decide)) (fun r_82 u_83 z_81 => ?_)
          obtain ⟨I_u_83, G_u_83, p_84, p_85, p_86⟩ := z_81
          have F_u_83 : Fr [2, 4, 5, 7, 8, 10, 11, 12, 13, 14, 15, 16, 17, 18, 19, 20, 21, 23, 24, 26, 27, 28, 29, 30] [10, 11, 12, 13, 14, 15, 16, 17, 18, 19, 20, 21, 22, 23, 25, 26, 27, 29, 30, 31, 32] u u_83 := Fr_tr F_u_63 G_u_83 rfl rfl
          have g_87 : (u_83.1 1).toInt = (u_63.1 1).toInt := by rw [G_u_83.1 1 rfl]
          have g_88 : (u_83.1 2).toInt = (u_63.1 2).toInt := by rw [G_u_83.1 2 rfl]
          have g_89 : (u_83.1 4).toInt = (u_63.1 4).toInt := by rw [G_u_83.1 4 rfl]
          have g_90 : (u_83.1 7).toInt = (u_63.1 7).toInt := by rw [G_u_83.1 7 rfl]
          have g_91 : (u_83.1 8).toInt = (u_63.1 8).toInt := by rw [G_u_83.1 8 rfl]
          have g_92 : (u_83.1 10).toInt = (u_63.1 10).toInt := by rw [G_u_83.1 10 rfl]
          have g_93 : (u_83.1 16).toInt = (u_63.1 16).toInt := by rw [G_u_83.1 16 rfl]
          have g_94 : (u_83.1 17).toInt = (u_63.1 17).toInt := by rw [G_u_83.1 17 rfl]
          have g_95 : (u_83.1 18).toInt = (u_63.1 18).toInt := by rw [G_u_83.1 18 rfl]
          have g_96 : (u_83.1 19).toInt = (u_63.1 19).toInt := by rw [G_u_83.1 19 rfl]
          have g_97 : (u_83.1 20).toInt = (u_63.1 20).toInt := by rw [G_u_83.1 20 rfl]
          have g_98 : (u_83.1 23).toInt = (u_63.1 23).toInt := by rw [G_u_83.1 23 rfl]
          have g_99 : (u_83.1 24).toInt = (u_63.1 24).toInt := by rw [G_u_83.1 24 rfl]
          refine ok_eq (fun c_100 c_100' => ?_) (fun c_100 => ?_)
          · refine ok_bM (kP_SqlReaderModel_takes I_u_83 (by decide)) (fun r_102 u_103 z_101 => ?_)
            obtain ⟨I_u_103, G_u_103, p_104, p_105, p_106⟩ := z_101
            have F_u_103 : Fr [2, 4, 5, 7, 8, 10, 11, 12, 13, 14, 15, 16, 17, 18, 19, 20, 21, 23, 24, 26, 27, 28, 29, 30] [10, 11, 12, 13, 14, 15, 16, 17, 18, 19, 20, 21, 22, 23, 25, 26, 27, 29, 30, 31, 32] u u_103 := Fr_tr F_u_83 G_u_103 rfl rfl
            have g_107 : (u_103.1 1).toInt = (u_83.1 1).toInt := by rw [G_u_103.1 1 rfl]
            have g_108 : (u_103.1 2).toInt = (u_83.1 2).toInt := by rw [G_u_103.1 2 rfl]
            have g_109 : (u_103.1 4).toInt = (u_83.1 4).toInt := by rw [G_u_103.1 4 rfl]
            have g_110 : (u_103.1 7).toInt = (u_83.1 7).toInt := by rw [G_u_103.1 7 rfl]
            have g_111 : (u_103.1 8).toInt = (u_83.1 8).toInt := by rw [G_u_103.1 8 rfl]
            have g_112 : (u_103.1 10).toInt = (u_83.1 10).toInt := by rw [G_u_103.1 10 rfl]
            have g_113 : (u_103.1 16).toInt = (u_83.1 16).toInt := by rw [G_u_103.1 16 rfl]
            have g_114 : (u_103.1 17).toInt = (u_83.1 17).toInt := by rw [G_u_103.1 17 rfl]
            have g_115 : (u_103.1 18).toInt = (u_83.1 18).toInt := by rw [G_u_103.1 18 rfl]
            have g_116 : (u_103.1 19).toInt = (u_83.1 19).toInt := by rw [G_u_103.1 19 rfl]
            have g_117 : (u_103.1 20).toInt = (u_83.1 20).toInt := by rw [G_u_103.1 20 rfl]
            have g_118 : (u_103.1 23).toInt = (u_83.1 23).toInt := by rw [G_u_103.1 23 rfl]
            have g_119 : (u_103.1 24).toInt = (u_83.1 24).toInt := by rw [G_u_103.1 24 rfl]
            refine ok_eq (fun c_120 c_120' => ?_) (fun c_120 => ?_)
            · refine ok_bM (kP_SqlReaderModel_takes I_u_103 (by decide)) (fun r_122 u_123 z_121 => ?_)
              obtain ⟨I_u_123, G_u_123, p_124, p_125, p_126⟩ := z_121
              have F_u_123 : Fr [2, 4, 5, 7, 8, 10, 11, 12, 13, 14, 15, 16, 17, 18, 19, 20, 21, 23, 24, 26, 27, 28, 29, 30] [10, 11, 12, 13, 14, 15, 16, 17, 18, 19, 20, 21, 22, 23, 25, 26, 27, 29, 30, 31, 32] u u_123 := Fr_tr F_u_103 G_u_123 rfl rfl
              have g_127 : (u_123.1 1).toInt = (u_103.1 1).toInt := by rw [G_u_123.1 1 rfl]
              have g_128 : (u_123.1 2).toInt = (u_103.1 2).toInt := by rw [G_u_123.1 2 rfl]
              have g_129 : (u_123.1 4).toInt = (u_103.1 4).toInt := by rw [G_u_123.1 4 rfl]
              have g_130 : (u_123.1 7).toInt = (u_103.1 7).toInt := by rw [G_u_123.1 7 rfl]
              have g_131 : (u_123.1 8).toInt = (u_103.1 8).toInt := by rw [G_u_123.1 8 rfl]
              have g_132 : (u_123.1 10).toInt = (u_103.1 10).toInt := by rw [G_u_123.1 10 rfl]
              have g_133 : (u_123.1 16).toInt = (u_103.1 16).toInt := by rw [G_u_123.1 16 rfl]
              have g_134 : (u_123.1 17).toInt = (u_103.1 17).toInt := by rw [G_u_123.1 17 rfl]
              have g_135 : (u_123.1 18).toInt = (u_103.1 18).toInt := by rw [G_u_123.1 18 rfl]
              have g_136 : (u_123.1 19).toInt = (u_103.1 19).toInt := by rw [G_u_123.1 19 rfl]
              have g_137 : (u_123.1 20).toInt = (u_103.1 20).toInt := by rw [G_u_123.1 20 rfl]
              have g_138 : (u_123.1 23).toInt = (u_103.1 23).toInt := by rw [G_u_123.1 23 rfl]
              have g_139 : (u_123.1 24).toInt = (u_103.1 24).toInt := by rw [G_u_123.1 24 rfl]
              refine ok_eq (fun c_140 c_140' => ?_) (fun c_140 => ?_)
              · refine ok_bM (kP_SqlReaderModel_takes I_u_123 (by decide)) (fun r_142 u_143 z_141 => ?_)
                obtain ⟨I_u_143, G_u_143, p_144, p_145, p_146⟩ := z_141
                have F_u_143 : Fr [2, 4, 5, 7, 8, 10, 11, 12, 13, 14, 15, 16, 17, 18, 19, 20, 21, 23, 24, 26, 27, 28, 29, 30] [10, 11, 12, 13, 14, 15, 16, 17, 18, 19, 20, 21, 22, 23, 25, 26, 27, 29, 30, 31, 32] u u_143 := Fr_tr F_u_123 G_u_143 rfl rfl
                have g_147 : (u_143.1 1).toInt = (u_123.1 1).toInt := by rw [G_u_143.1 1 rfl]
                have g_148 : (u_143.1 2).toInt = (u_123.1 2).toInt := by rw [G_u_143.1 2 rfl]
                have g_149 : (u_143.1 4).toInt = (u_123.1 4).toInt := by rw [G_u_143.1 4 rfl]
                have g_150 : (u_143.1 7).toInt = (u_123.1 7).toInt := by rw [G_u_143.1 7 rfl]
                have g_151 : (u_143.1 8).toInt = (u_123.1 8).toInt := by rw [G_u_143.1 8 rfl]
                have g_152 : (u_143.1 10).toInt = (u_123.1 10).toInt := by rw [G_u_143.1 10 rfl]
                have g_153 : (u_143.1 16).toInt = (u_123.1 16).toInt := by rw [G_u_143.1 16 rfl]
                have g_154 : (u_143.1 17).toInt = (u_123.1 17).toInt := by rw [G_u_143.1 17 rfl]
                have g_155 : (u_143.1 18).toInt = (u_123.1 18).toInt := by rw [G_u_143.1 18 rfl]
                have g_156 : (u_143.1 19).toInt = (u_123.1 19).toInt := by rw [G_u_143.1 19 rfl]
                have g_157 : (u_143.1 20).toInt = (u_123.1 20).toInt := by rw [G_u_143.1 20 rfl]
                have g_158 : (u_143.1 23).toInt = (u_123.1 23).toInt := by rw [G_u_143.1 23 rfl]
                have g_159 : (u_143.1 24).toInt = (u_123.1 24).toInt := by rw [G_u_143.1 24 rfl]
                refine ok_eq (fun c_160 c_160' => ?_) (fun c_160 => ?_)
                · refine ok_bM (kP_SqlReaderModel_takes I_u_143 (by decide)) (fun r_162 u_163 z_161 => ?_)
                  obtain ⟨I_u_163, G_u_163, p_164, p_165, p_166⟩ := z_161
                  have F_u_163 : Fr [2, 4, 5, 7, 8, 10, 11, 12, 13, 14, 15, 16, 17, 18, 19, 20, 21, 23, 24, 26, 27, 28, 29, 30] [10, 11, 12, 13, 14, 15, 16, 17, 18, 19, 20, 21, 22, 23, 25, 26, 27, 29, 30, 31, 32] u u_163 := Fr_tr F_u_143 G_u_163 rfl rfl
                  have g_167 : (u_163.1 1).toInt = (u_143.1 1).toInt := by rw [G_u_163.1 1 rfl]
                  have g_168 : (u_163.1 2).toInt = (u_143.1 2).toInt := by rw [G_u_163.1 2 rfl]
                  have g_169 : (u_163.1 4).toInt = (u_143.1 4).toInt := by rw [G_u_163.1 4 rfl]
                  have g_170 : (u_163.1 7).toInt = (u_143.1 7).toInt := by rw [G_u_163.1 7 rfl]
                  have g_171 : (u_163.1 8).toInt = (u_143.1 8).toInt := by rw [G_u_163.1 8 rfl]
                  have g_172 : (u_163.1 10).toInt = (u_143.1 10).toInt := by rw [G_u_163.1 10 rfl]
                  have g_173 : (u_163.1 16).toInt = (u_143.1 16).toInt := by rw [G_u_163.1 16 rfl]
                  have g_174 : (u_163.1 17).toInt = (u_143.1 17).toInt := by rw [G_u_163.1 17 rfl]
                  have g_175 : (u_163.1 18).toInt = (u_143.1 18).toInt := by rw [G_u_163.1 18 rfl]
                  have g_176 : (u_163.1 19).toInt = (u_143.1 19).toInt := by rw [G_u_163.1 19 rfl]
                  have g_177 : (u_163.1 20).toInt = (u_143.1 20).toInt := by rw [G_u_163.1 20 rfl]
                  have g_178 : (u_163.1 23).toInt = (u_143.1 23).toInt := by rw [G_u_163.1 23 rfl]
                  have g_179 : (u_163.1 24).toInt = (u_143.1 24).toInt := by rw [G_u_163.1 24 rfl]
                  refine ok_eq (fun c_180 c_180' => ?_) (fun c_180 => ?_)
                  · refine ok_bM (kP_SqlReaderModel_takes I_u_163 (by decide)) (fun r_182 u_183 z_181 => ?_)
                    obtain ⟨I_u_183, G_u_183, p_184, p_185, p_186⟩ := z_181
                    have F_u_183 : Fr [2, 4, 5, 7, 8, 10, 11, 12, 13, 14, 15, 16, 17, 18, 19, 20, 21, 23, 24, 26, 27, 28, 29, 30] [10, 11, 12, 13, 14, 15, 16, 17, 18, 19, 20, 21, 22, 23, 25, 26, 27, 29, 30, 31, 32] u u_183 := Fr_tr F_u_163 G_u_183 rfl rfl
                    have g_187 : (u_183.1 1).toInt = (u_163.1 1).toInt := by rw [G_u_183.1 1 rfl]
                    have g_188 : (u_183.1 2).toInt = (u_163.1 2).toInt := by rw [G_u_183.1 2 rfl]
                    have g_189 : (u_183.1 4).toInt = (u_163.1 4).toInt := by rw [G_u_183.1 4 rfl]
                    have g_190 : (u_183.1 7).toInt = (u_163.1 7).toInt := by rw [G_u_183.1 7 rfl]
                    have g_191 : (u_183.1 8).toInt = (u_163.1 8).toInt := by rw [G_u_183.1 8 rfl]
                    have g_192 : (u_183.1 10).toInt = (u_163.1 10).toInt := by rw [G_u_183.1 10 rfl]
                    have g_193 : (u_183.1 16).toInt = (u_163.1 16).toInt := by rw [G_u_183.1 16 rfl]
                    have g_194 : (u_183.1 17).toInt = (u_163.1 17).toInt := by rw [G_u_183.1 17 rfl]
                    have g_195 : (u_183.1 18).toInt = (u_163.1 18).toInt := by rw [G_u_183.1 18 rfl]
                    have g_196 : (u_183.1 19).toInt = (u_163.1 19).toInt := by rw [G_u_183.1 19 rfl]
                    have g_197 : (u_183.1 20).toInt = (u_163.1 20).toInt := by rw [G_u_183.1 20 rfl]
                    have g_198 : (u_183.1 23).toInt = (u_163.1 23).toInt := by rw [G_u_183.1 23 rfl]
                    have g_199 : (u_183.1 24).toInt = (u_163.1 24).toInt := by rw [G_u_183.1 24 rfl]
                    refine ok_eq (fun c_200 c_200' => ?_) (fun c_200 => ?_)
                    · refine ok_bM (kP_SqlReaderModel_takes I_u_183 (by decide)) (fun r_202 u_203 z_201 => ?_)
                      obtain ⟨I_u_203, G_u_203, p_204, p_205, p_206⟩ := z_201
                      have F_u_203 : Fr [2, 4, 5, 7, 8, 10, 11, 12, 13, 14, 15, 16, 17, 18, 19, 20, 21, 23, 24, 26, 27, 28, 29, 30] [10, 11, 12, 13, 14, 15, 16, 17, 18, 19, 20, 21, 22, 23, 25, 26, 27, 29, 30, 31, 32] u u_203 := Fr_tr F_u_183 G_u_203 rfl rfl
                      have g_207 : (u_203.1 1).toInt = (u_183.1 1).toInt := by rw [G_u_203.1 1 rfl]
                      have g_208 : (u_203.1 2).toInt = (u_183.1 2).toInt := by rw [G_u_203.1 2 rfl]
                      have g_209 : (u_203.1 4).toInt = (u_183.1 4).toInt := by rw [G_u_203.1 4 rfl]
                      have g_210 : (u_203.1 7).toInt = (u_183.1 7).toInt := by rw [G_u_203.1 7 rfl]
                      have g_211 : (u_203.1 8).toInt = (u_183.1 8).toInt := by rw [G_u_203.1 8 rfl]
                      have g_212 : (u_203.1 10).toInt = (u_183.1 10).toInt := by rw [G_u_203.1 10 rfl]
                      have g_213 : (u_203.1 16).toInt = (u_183.1 16).toInt := by rw [G_u_203.1 16 rfl]
                      have g_214 : (u_203.1 17).toInt = (u_183.1 17).toInt := by rw [G_u_203.1 17 rfl]
                      have g_215 : (u_203.1 18).toInt = (u_183.1 18).toInt := by rw [G_u_203.1 18 rfl]
                      have g_216 : (u_203.1 19).toInt = (u_183.1 19).toInt := by rw [G_u_203.1 19 rfl]
                      have g_217 : (u_203.1 20).toInt = (u_183.1 20).toInt := by rw [G_u_203.1 20 rfl]
                      have g_218 : (u_203.1 23).toInt = (u_183.1 23).toInt := by rw [G_u_203.1 23 rfl]
                      have g_219 : (u_203.1 24).toInt = (u_183.1 24).toInt := by rw [G_u_203.1 24 rfl]
                      refine ok_eq (fun c_220 c_220' => ?_) (fun c_220 => ?_)
                      · refine ok_bP (kP_SqlReaderModel_need I_u_203 (by decide)) (fun u_222 z_221 => ?_)
                        obtain ⟨I_u_222, G_u_222, p_223, p_224⟩ := z_221
                        have F_u_222 : Fr [2, 4, 5, 7, 8, 10, 11, 12, 13, 14, 15, 16, 17, 18, 19, 20, 21, 23, 24, 26, 27, 28, 29, 30] [10, 11, 12, 13, 14, 15, 16, 17, 18, 19, 20, 21, 22, 23, 25, 26, 27, 29, 30, 31, 32] u u_222 := Fr_tr F_u_203 G_u_222 rfl rfl
                        have g_225 : (u_222.1 1).toInt = (u_203.1 1).toInt := by rw [G_u_222.1 1 rfl]
                        have g_226 : (u_222.1 4).toInt = (u_203.1 4).toInt := by rw [G_u_222.1 4 rfl]
                        have g_227 : (u_222.1 7).toInt = (u_203.1 7).toInt := by rw [G_u_222.1 7 rfl]
                        have g_228 : (u_222.1 8).toInt = (u_203.1 8).toInt := by rw [G_u_222.1 8 rfl]
                        have g_229 : (u_222.1 10).toInt = (u_203.1 10).toInt := by rw [G_u_222.1 10 rfl]
                        have g_230 : (u_222.1 16).toInt = (u_203.1 16).toInt := by rw [G_u_222.1 16 rfl]
                        have g_231 : (u_222.1 17).toInt = (u_203.1 17).toInt := by rw [G_u_222.1 17 rfl]
                        have g_232 : (u_222.1 18).toInt = (u_203.1 18).toInt := by rw [G_u_222.1 18 rfl]
                        have g_233 : (u_222.1 19).toInt = (u_203.1 19).toInt := by rw [G_u_222.1 19 rfl]
                        have g_234 : (u_222.1 20).toInt = (u_203.1 20).toInt := by rw [G_u_222.1 20 rfl]
                        have g_235 : (u_222.1 23).toInt = (u_203.1 23).toInt := by rw [G_u_222.1 23 rfl]
                        have g_236 : (u_222.1 24).toInt = (u_203.1 24).toInt := by rw [G_u_222.1 24 rfl]
                        refine ok_seq (fun u_238 h_237 => ?_)
                        have I_u_238 : IP u_238 := by rw [h_237]; exact IP_s7 I_u_222 (by have B_239 := IP_b I_u_222; omega)
                        have F_u_238 : Fr [2, 4, 5, 7, 8, 10, 11, 12, 13, 14, 15, 16, 17, 18, 19, 20, 21, 23, 24, 26, 27, 28, 29, 30] [10, 11, 12, 13, 14, 15, 16, 17, 18, 19, 20, 21, 22, 23, 25, 26, 27, 29, 30, 31, 32] u u_238 := by rw [h_237]; exact Fr_ss F_u_222 rfl rfl
                        have g_240 : (u_238.1 7).toInt = (19 : Int32).toInt := by rw [h_237]; rfl
                        have g_241 : (u_238.1 1).toInt = (u_222.1 1).toInt := by rw [h_237]; rfl
                        have g_242 : (u_238.1 2).toInt = (u_222.1 2).toInt := by rw [h_237]; rfl
                        have g_243 : (u_238.1 4).toInt = (u_222.1 4).toInt := by rw [h_237]; rfl
                        have g_244 : (u_238.1 30).toInt = (u_222.1 30).toInt := by rw [h_237]; rfl
                        have g_245 : (u_238.1 8).toInt = (u_222.1 8).toInt := by rw [h_237]; rfl
                        have g_246 : (u_238.1 10).toInt = (u_222.1 10).toInt := by rw [h_237]; rfl
                        have g_247 : (u_238.1 16).toInt = (u_222.1 16).toInt := by rw [h_237]; rfl
                        have g_248 : (u_238.1 17).toInt = (u_222.1 17).toInt := by rw [h_237]; rfl
                        have g_249 : (u_238.1 18).toInt = (u_222.1 18).toInt := by rw [h_237]; rfl
                        have g_250 : (u_238.1 19).toInt = (u_222.1 19).toInt := by rw [h_237]; rfl
                        have g_251 : (u_238.1 20).toInt = (u_222.1 20).toInt := by rw [h_237]; rfl
                        have g_252 : (u_238.1 23).toInt = (u_222.1 23).toInt := by rw [h_237]; rfl
                        have g_253 : (u_238.1 24).toInt = (u_222.1 24).toInt := by rw [h_237]; rfl
                        exact ok_some ⟨I_u_238, F_u_238, (by have B_254 := IP_b I; have B_255 := IP_b I_u_238; omega), (by have B_256 := IP_b I_u_238; omega), (by have B_257 := IP_b I_u_238; have B_258 := IP_b I; omega), (by have B_259 := IP_b I_u_238; have B_260 := IP_b I; omega), (by have B_261 := IP_b I_u_238; have B_262 := IP_b I; omega)⟩
                      · refine ok_seq (fun u_264 h_263 => ?_)
                        have I_u_264 : IP u_264 := by rw [h_263]; exact IP_s7 I_u_203 (by have B_265 := IP_b I_u_203; omega)
                        have F_u_264 : Fr [2, 4, 5, 7, 8, 10, 11, 12, 13, 14, 15, 16, 17, 18, 19, 20, 21, 23, 24, 26, 27, 28, 29, 30] [10, 11, 12, 13, 14, 15, 16, 17, 18, 19, 20, 21, 22, 23, 25, 26, 27, 29, 30, 31, 32] u u_264 := by rw [h_263]; exact Fr_ss F_u_203 rfl rfl
                        have g_266 : (u_264.1 7).toInt = (18 : Int32).toInt := by rw [h_263]; rfl
                        have g_267 : (u_264.1 1).toInt = (u_203.1 1).toInt := by rw [h_263]; rfl
                        have g_268 : (u_264.1 2).toInt = (u_203.1 2).toInt := by rw [h_263]; rfl
                        have g_269 : (u_264.1 4).toInt = (u_203.1 4).toInt := by rw [h_263]; rfl
                        have g_270 : (u_264.1 30).toInt = (u_203.1 30).toInt := by rw [h_263]; rfl
                        have g_271 : (u_264.1 8).toInt = (u_203.1 8).toInt := by rw [h_263]; rfl
                        have g_272 : (u_264.1 10).toInt = (u_203.1 10).toInt := by rw [h_263]; rfl
                        have g_273 : (u_264.1 16).toInt = (u_203.1 16).toInt := by rw [h_263]; rfl
                        have g_274 : (u_264.1 17).toInt = (u_203.1 17).toInt := by rw [h_263]; rfl
                        have g_275 : (u_264.1 18).toInt = (u_203.1 18).toInt := by rw [h_263]; rfl
                        have g_276 : (u_264.1 19).toInt = (u_203.1 19).toInt := by rw [h_263]; rfl
                        have g_277 : (u_264.1 20).toInt = (u_203.1 20).toInt := by rw [h_263]; rfl
                        have g_278 : (u_264.1 23).toInt = (u_203.1 23).toInt := by rw [h_263]; rfl
                        have g_279 : (u_264.1 24).toInt = (u_203.1 24).toInt := by rw [h_263]; rfl
                        refine ok_bM (kP_SqlReaderModel_needName I_u_264 (by have FUe : FU = 100000 := rfl; have B_281 := IP_b I_u_264; have B_282 := IP_b I; omega)) (fun r_283 u_284 z_280 => ?_)
                        obtain ⟨I_u_284, G_u_284, p_285, p_286, p_287, p_288⟩ := z_280
                        have F_u_284 : Fr [2, 4, 5, 7, 8, 10, 11, 12, 13, 14, 15, 16, 17, 18, 19, 20, 21, 23, 24, 26, 27, 28, 29, 30] [10, 11, 12, 13, 14, 15, 16, 17, 18, 19, 20, 21, 22, 23, 25, 26, 27, 29, 30, 31, 32] u u_284 := Fr_tr F_u_264 G_u_284 rfl rfl
                        have g_289 : (u_284.1 1).toInt = (u_264.1 1).toInt := by rw [G_u_284.1 1 rfl]
                        have g_290 : (u_284.1 4).toInt = (u_264.1 4).toInt := by rw [G_u_284.1 4 rfl]
                        have g_291 : (u_284.1 7).toInt = (u_264.1 7).toInt := by rw [G_u_284.1 7 rfl]
                        have g_292 : (u_284.1 8).toInt = (u_264.1 8).toInt := by rw [G_u_284.1 8 rfl]
                        have g_293 : (u_284.1 10).toInt = (u_264.1 10).toInt := by rw [G_u_284.1 10 rfl]
                        have g_294 : (u_284.1 16).toInt = (u_264.1 16).toInt := by rw [G_u_284.1 16 rfl]
                        have g_295 : (u_284.1 17).toInt = (u_264.1 17).toInt := by rw [G_u_284.1 17 rfl]
                        have g_296 : (u_284.1 18).toInt = (u_264.1 18).toInt := by rw [G_u_284.1 18 rfl]
                        have g_297 : (u_284.1 19).toInt = (u_264.1 19).toInt := by rw [G_u_284.1 19 rfl]
                        have g_298 : (u_284.1 20).toInt = (u_264.1 20).toInt := by rw [G_u_284.1 20 rfl]
                        have g_299 : (u_284.1 23).toInt = (u_264.1 23).toInt := by rw [G_u_284.1 23 rfl]
                        have g_300 : (u_284.1 24).toInt = (u_264.1 24).toInt := by rw [G_u_284.1 24 rfl]
                        have n_301 : 0 ≤ r_283.toInt := by have B_302 := IP_b I_u_264; omega
                        refine ok_seq (fun u_304 h_303 => ?_)
                        have I_u_304 : IP u_304 := by rw [h_303]; exact IP_s10 I_u_284 (by have B_305 := IP_b I_u_284; omega) (by have B_306 := IP_b I_u_284; omega) (by have B_307 := IP_b I_u_284; omega)
                        have F_u_304 : Fr [2, 4, 5, 7, 8, 10, 11, 12, 13, 14, 15, 16, 17, 18, 19, 20, 21, 23, 24, 26, 27, 28, 29, 30] [10, 11, 12, 13, 14, 15, 16, 17, 18, 19, 20, 21, 22, 23, 25, 26, 27, 29, 30, 31, 32] u u_304 := by rw [h_303]; exact Fr_ss F_u_284 rfl rfl
                        have g_308 : (ga u_304 1 r_283).toInt = (ga u_284 1 r_283).toInt := by rw [h_303]; rfl
                        have g_309 : (u_304.1 10).toInt = (r_283 : Int32).toInt := by rw [h_303]; rfl
                        have g_310 : (u_304.1 1).toInt = (u_284.1 1).toInt := by rw [h_303]; rfl
                        have g_311 : (u_304.1 2).toInt = (u_284.1 2).toInt := by rw [h_303]; rfl
                        have g_312 : (u_304.1 4).toInt = (u_284.1 4).toInt := by rw [h_303]; rfl
                        have g_313 : (u_304.1 30).toInt = (u_284.1 30).toInt := by rw [h_303]; rfl
                        have g_314 : (u_304.1 7).toInt = (u_284.1 7).toInt := by rw [h_303]; rfl
                        have g_315 : (u_304.1 8).toInt = (u_284.1 8).toInt := by rw [h_303]; rfl
                        have g_316 : (u_304.1 16).toInt = (u_284.1 16).toInt := by rw [h_303]; rfl
                        have g_317 : (u_304.1 17).toInt = (u_284.1 17).toInt := by rw [h_303]; rfl
                        have g_318 : (u_304.1 18).toInt = (u_284.1 18).toInt := by rw [h_303]; rfl
                        have g_319 : (u_304.1 19).toInt = (u_284.1 19).toInt := by rw [h_303]; rfl
                        have g_320 : (u_304.1 20).toInt = (u_284.1 20).toInt := by rw [h_303]; rfl
                        have g_321 : (u_304.1 23).toInt = (u_284.1 23).toInt := by rw [h_303]; rfl
                        have g_322 : (u_304.1 24).toInt = (u_284.1 24).toInt := by rw [h_303]; rfl
                        exact ok_some ⟨I_u_304, F_u_304, (by have B_323 := IP_b I; have B_324 := IP_b I_u_304; omega), (by have B_325 := IP_b I_u_304; omega), (by have B_326 := IP_b I_u_304; have B_327 := IP_b I; omega), (by have B_328 := IP_b I_u_304; have B_329 := IP_b I; omega), (by have B_330 := IP_b I_u_304; have B_331 := IP_b I; omega)⟩
                    · refine ok_bP (kP_SqlReaderModel_readValues I_u_183 (by have FUe : FU = 100000 := rfl; have B_333 := IP_b I_u_183; have B_334 := IP_b I; omega) (by have FUe : FU = 100000 := rfl; have B_335 := IP_b I_u_183; have B_336 := IP_b I; omega) (by have FUe : FU = 100000 := rfl; have B_337 := IP_b I_u_183; have B_338 := IP_b I; omega) (by have FUe : FU = 100000 := rfl; have B_339 := IP_b I_u_183; have B_340 := IP_b I; omega) (by have FUe : FU = 100000 := rfl; have B_341 := IP_b I_u_183; have B_342 := IP_b I; omega)) (fun u_343 z_332 => ?_)
                      obtain ⟨I_u_343, G_u_343, p_344, p_345, p_346, p_347, p_348⟩ := z_332
                      have F_u_343 : Fr [2, 4, 5, 7, 8, 10, 11, 12, 13, 14, 15, 16, 17, 18, 19, 20, 21, 23, 24, 26, 27, 28, 29, 30] [10, 11, 12, 13, 14, 15, 16, 17, 18, 19, 20, 21, 22, 23, 25, 26, 27, 29, 30, 31, 32] u u_343 := Fr_tr F_u_183 G_u_343 rfl rfl
                      have g_349 : (u_343.1 1).toInt = (u_183.1 1).toInt := by rw [G_u_343.1 1 rfl]
                      have g_350 : (u_343.1 8).toInt = (u_183.1 8).toInt := by rw [G_u_343.1 8 rfl]
                      have g_351 : (u_343.1 10).toInt = (u_183.1 10).toInt := by rw [G_u_343.1 10 rfl]
                      have g_352 : (u_343.1 16).toInt = (u_183.1 16).toInt := by rw [G_u_343.1 16 rfl]
                      have g_353 : (u_343.1 17).toInt = (u_183.1 17).toInt := by rw [G_u_343.1 17 rfl]
                      have g_354 : (u_343.1 18).toInt = (u_183.1 18).toInt := by rw [G_u_343.1 18 rfl]
                      have g_355 : (u_343.1 19).toInt = (u_183.1 19).toInt := by rw [G_u_343.1 19 rfl]
                      have g_356 : (u_343.1 20).toInt = (u_183.1 20).toInt := by rw [G_u_343.1 20 rfl]
                      have g_357 : (u_343.1 24).toInt = (u_183.1 24).toInt := by rw [G_u_343.1 24 rfl]
                      exact ok_some ⟨I_u_343, F_u_343, (by have B_358 := IP_b I; have B_359 := IP_b I_u_343; omega), (by have B_360 := IP_b I_u_343; omega), (by have B_361 := IP_b I_u_343; have B_362 := IP_b I; omega), (by have B_363 := IP_b I_u_343; have B_364 := IP_b I; omega), (by have B_365 := IP_b I_u_343; have B_366 := IP_b I; omega)⟩
                  · refine ok_bM (kP_SqlReaderModel_needName I_u_163 (by have FUe : FU = 100000 := rfl; have B_368 := IP_b I_u_163; have B_369 := IP_b I; omega)) (fun r_370 u_371 z_367 => ?_)
                    obtain ⟨I_u_371, G_u_371, p_372, p_373, p_374, p_375⟩ := z_367
                    have F_u_371 : Fr [2, 4, 5, 7, 8, 10, 11, 12, 13, 14, 15, 16, 17, 18, 19, 20, 21, 23, 24, 26, 27, 28, 29, 30] [10, 11, 12, 13, 14, 15, 16, 17, 18, 19, 20, 21, 22, 23, 25, 26, 27, 29, 30, 31, 32] u u_371 := Fr_tr F_u_163 G_u_371 rfl rfl
                    have g_376 : (u_371.1 1).toInt = (u_163.1 1).toInt := by rw [G_u_371.1 1 rfl]
                    have g_377 : (u_371.1 4).toInt = (u_163.1 4).toInt := by rw [G_u_371.1 4 rfl]
                    have g_378 : (u_371.1 7).toInt = (u_163.1 7).toInt := by rw [G_u_371.1 7 rfl]
                    have g_379 : (u_371.1 8).toInt = (u_163.1 8).toInt := by rw [G_u_371.1 8 rfl]
                    have g_380 : (u_371.1 10).toInt = (u_163.1 10).toInt := by rw [G_u_371.1 10 rfl]
                    have g_381 : (u_371.1 16).toInt = (u_163.1 16).toInt := by rw [G_u_371.1 16 rfl]
                    have g_382 : (u_371.1 17).toInt = (u_163.1 17).toInt := by rw [G_u_371.1 17 rfl]
                    have g_383 : (u_371.1 18).toInt = (u_163.1 18).toInt := by rw [G_u_371.1 18 rfl]
                    have g_384 : (u_371.1 19).toInt = (u_163.1 19).toInt := by rw [G_u_371.1 19 rfl]
                    have g_385 : (u_371.1 20).toInt = (u_163.1 20).toInt := by rw [G_u_371.1 20 rfl]
                    have g_386 : (u_371.1 23).toInt = (u_163.1 23).toInt := by rw [G_u_371.1 23 rfl]
                    have g_387 : (u_371.1 24).toInt = (u_163.1 24).toInt := by rw [G_u_371.1 24 rfl]
                    have n_388 : 0 ≤ r_370.toInt := by have B_389 := IP_b I_u_163; omega
                    refine ok_bP (kP_SqlReaderModel_need I_u_371 (by decide)) (fun u_391 z_390 => ?_)
                    obtain ⟨I_u_391, G_u_391, p_392, p_393⟩ := z_390
                    have F_u_391 : Fr [2, 4, 5, 7, 8, 10, 11, 12, 13, 14, 15, 16, 17, 18, 19, 20, 21, 23, 24, 26, 27, 28, 29, 30] [10, 11, 12, 13, 14, 15, 16, 17, 18, 19, 20, 21, 22, 23, 25, 26, 27, 29, 30, 31, 32] u u_391 := Fr_tr F_u_371 G_u_391 rfl rfl
                    have g_394 : (u_391.1 1).toInt = (u_371.1 1).toInt := by rw [G_u_391.1 1 rfl]
                    have g_395 : (u_391.1 4).toInt = (u_371.1 4).toInt := by rw [G_u_391.1 4 rfl]
                    have g_396 : (u_391.1 7).toInt = (u_371.1 7).toInt := by rw [G_u_391.1 7 rfl]
                    have g_397 : (u_391.1 8).toInt = (u_371.1 8).toInt := by rw [G_u_391.1 8 rfl]
                    have g_398 : (u_391.1 10).toInt = (u_371.1 10).toInt := by rw [G_u_391.1 10 rfl]
                    have g_399 : (u_391.1 16).toInt = (u_371.1 16).toInt := by rw [G_u_391.1 16 rfl]
                    have g_400 : (u_391.1 17).toInt = (u_371.1 17).toInt := by rw [G_u_391.1 17 rfl]
                    have g_401 : (u_391.1 18).toInt = (u_371.1 18).toInt := by rw [G_u_391.1 18 rfl]
                    have g_402 : (u_391.1 19).toInt = (u_371.1 19).toInt := by rw [G_u_391.1 19 rfl]
                    have g_403 : (u_391.1 20).toInt = (u_371.1 20).toInt := by rw [G_u_391.1 20 rfl]
                    have g_404 : (u_391.1 23).toInt = (u_371.1 23).toInt := by rw [G_u_391.1 23 rfl]
                    have g_405 : (u_391.1 24).toInt = (u_371.1 24).toInt := by rw [G_u_391.1 24 rfl]
                    have g_406 : (ga u_391 1 r_370).toInt = (ga u_371 1 r_370).toInt := by show (u_391.2.1 1 _).toInt = _; rw [G_u_391.2.1 1 rfl]; rfl
                    refine ok_bM (kP_SqlReaderModel_readDeed I_u_391 (by have FUe : FU = 100000 := rfl; have B_408 := IP_b I_u_391; have B_409 := IP_b I; omega) (by have FUe : FU = 100000 := rfl; have B_410 := IP_b I_u_391; have B_411 := IP_b I; omega) (by have FUe : FU = 100000 := rfl; have B_412 := IP_b I_u_391; have B_413 := IP_b I; omega) (by have FUe : FU = 100000 := rfl; have B_414 := IP_b I_u_391; have B_415 := IP_b I; omega) (by have FUe : FU = 100000 := rfl; have B_416 := IP_b I_u_391; have B_417 := IP_b I; omega) (by have FUe : FU = 100000 := rfl; have B_418 := IP_b I_u_391; have B_419 := IP_b I; omega) (by have FUe : FU = 100000 := rfl; have B_420 := IP_b I_u_391; have B_421 := IP_b I; omega) (by have FUe : FU = 100000 := rfl; have B_422 := IP_b I_u_391; have B_423 := IP_b I; omega) (by have FUe : FU = 100000 := rfl; have B_424 := IP_b I_u_391; have B_425 := IP_b I; omega) (by have FUe : FU = 100000 := rfl; have B_426 := IP_b I_u_391; have B_427 := IP_b I; omega)) (fun r_428 u_429 z_407 => ?_)
                    obtain ⟨I_u_429, G_u_429, p_430, p_431, p_432, p_433, p_434, p_435, p_436, p_437, p_438⟩ := z_407
                    have F_u_429 : Fr [2, 4, 5, 7, 8, 10, 11, 12, 13, 14, 15, 16, 17, 18, 19, 20, 21, 23, 24, 26, 27, 28, 29, 30] [10, 11, 12, 13, 14, 15, 16, 17, 18, 19, 20, 21, 22, 23, 25, 26, 27, 29, 30, 31, 32] u u_429 := Fr_tr F_u_391 G_u_429 rfl rfl
                    have g_439 : (u_429.1 1).toInt = (u_391.1 1).toInt := by rw [G_u_429.1 1 rfl]
                    have g_440 : (u_429.1 8).toInt = (u_391.1 8).toInt := by rw [G_u_429.1 8 rfl]
                    have g_441 : (u_429.1 24).toInt = (u_391.1 24).toInt := by rw [G_u_429.1 24 rfl]
                    have g_442 : (ga u_429 1 r_370).toInt = (ga u_391 1 r_370).toInt := by show (u_429.2.1 1 _).toInt = _; rw [G_u_429.2.1 1 rfl]; rfl
                    refine ok_eq (fun c_443 c_443' => ?_) (fun c_443 => ?_)
                    · refine ok_mono (kP_SqlReaderModel_readOther_J232 I_u_429 (by have FUe : FU = 100000 := rfl; have B_444 := IP_b I_u_429; have B_445 := IP_b I; omega) (by have FUe : FU = 100000 := rfl; have B_446 := IP_b I_u_429; have B_447 := IP_b I; omega) (by have FUe : FU = 100000 := rfl; have B_448 := IP_b I_u_429; have B_449 := IP_b I; omega) (by have FUe : FU = 100000 := rfl; have B_450 := IP_b I_u_429; have B_451 := IP_b I; omega) (by have FUe : FU = 100000 := rfl; have B_452 := IP_b I_u_429; have B_453 := IP_b I; omega) (by have FUe : FU = 100000 := rfl; have B_454 := IP_b I_u_429; have B_455 := IP_b I; omega) (by have FUe : FU = 100000 := rfl; have B_456 := IP_b I_u_429; have B_457 := IP_b I; omega) (by have FUe : FU = 100000 := rfl; have B_458 := IP_b I_u_429; have B_459 := IP_b I; omega) (by have FUe : FU = 100000 := rfl; have B_460 := IP_b I_u_429; have B_461 := IP_b I; omega) (by have FUe : FU = 100000 := rfl; have B_462 := IP_b I_u_429; have B_463 := IP_b I; omega)) (fun u_465 z_464 => ?_)
                      obtain ⟨I_u_465, G_u_465, p_466, p_467, p_468, p_469, p_470⟩ := z_464
                      have F_u_465 : Fr [2, 4, 5, 7, 8, 10, 11, 12, 13, 14, 15, 16, 17, 18, 19, 20, 21, 23, 24, 26, 27, 28, 29, 30] [10, 11, 12, 13, 14, 15, 16, 17, 18, 19, 20, 21, 22, 23, 25, 26, 27, 29, 30, 31, 32] u u_465 := Fr_tr F_u_429 G_u_465 rfl rfl
                      have g_471 : (u_465.1 1).toInt = (u_429.1 1).toInt := by rw [G_u_465.1 1 rfl]
                      have g_472 : (u_465.1 4).toInt = (u_429.1 4).toInt := by rw [G_u_465.1 4 rfl]
                      have g_473 : (u_465.1 30).toInt = (u_429.1 30).toInt := by rw [G_u_465.1 30 rfl]
                      have g_474 : (u_465.1 10).toInt = (u_429.1 10).toInt := by rw [G_u_465.1 10 rfl]
                      have g_475 : (u_465.1 16).toInt = (u_429.1 16).toInt := by rw [G_u_465.1 16 rfl]
                      have g_476 : (u_465.1 17).toInt = (u_429.1 17).toInt := by rw [G_u_465.1 17 rfl]
                      have g_477 : (u_465.1 18).toInt = (u_429.1 18).toInt := by rw [G_u_465.1 18 rfl]
                      have g_478 : (u_465.1 19).toInt = (u_429.1 19).toInt := by rw [G_u_465.1 19 rfl]
                      have g_479 : (u_465.1 20).toInt = (u_429.1 20).toInt := by rw [G_u_465.1 20 rfl]
                      have g_480 : (u_465.1 23).toInt = (u_429.1 23).toInt := by rw [G_u_465.1 23 rfl]
                      have g_481 : (u_465.1 24).toInt = (u_429.1 24).toInt := by rw [G_u_465.1 24 rfl]
                      have g_482 : (ga u_465 1 r_370).toInt = (ga u_429 1 r_370).toInt := by show (u_465.2.1 1 _).toInt = _; rw [G_u_465.2.1 1 rfl]; rfl
                      exact ⟨I_u_465, F_u_465, (by have B_483 := IP_b I; have B_484 := IP_b I_u_465; omega), (by have B_485 := IP_b I_u_465; omega), (by have B_486 := IP_b I_u_465; have B_487 := IP_b I; omega), (by have B_488 := IP_b I_u_465; have B_489 := IP_b I; omega), (by have B_490 := IP_b I_u_465; have B_491 := IP_b I; omega)⟩
                    · refine ok_eq (fun c_492 c_492' => ?_) (fun c_492 => ?_)
                      · refine ok_mono (kP_SqlReaderModel_readOther_J232 I_u_429 (by have FUe : FU = 100000 := rfl; have B_493 := IP_b I_u_429; have B_494 := IP_b I; omega) (by have FUe : FU = 100000 := rfl; have B_495 := IP_b I_u_429; have B_496 := IP_b I; omega) (by have FUe : FU = 100000 := rfl; have B_497 := IP_b I_u_429; have B_498 := IP_b I; omega) (by have FUe : FU = 100000 := rfl; have B_499 := IP_b I_u_429; have B_500 := IP_b I; omega) (by have FUe : FU = 100000 := rfl; have B_501 := IP_b I_u_429; have B_502 := IP_b I; omega) (by have FUe : FU = 100000 := rfl; have B_503 := IP_b I_u_429; have B_504 := IP_b I; omega) (by have FUe : FU = 100000 := rfl; have B_505 := IP_b I_u_429; have B_506 := IP_b I; omega) (by have FUe : FU = 100000 := rfl; have B_507 := IP_b I_u_429; have B_508 := IP_b I; omega) (by have FUe : FU = 100000 := rfl; have B_509 := IP_b I_u_429; have B_510 := IP_b I; omega) (by have FUe : FU = 100000 := rfl; have B_511 := IP_b I_u_429; have B_512 := IP_b I; omega)) (fun u_514 z_513 => ?_)
                        obtain ⟨I_u_514, G_u_514, p_515, p_516, p_517, p_518, p_519⟩ := z_513
                        have F_u_514 : Fr [2, 4, 5, 7, 8, 10, 11, 12, 13, 14, 15, 16, 17, 18, 19, 20, 21, 23, 24, 26, 27, 28, 29, 30] [10, 11, 12, 13, 14, 15, 16, 17, 18, 19, 20, 21, 22, 23, 25, 26, 27, 29, 30, 31, 32] u u_514 := Fr_tr F_u_429 G_u_514 rfl rfl
                        have g_520 : (u_514.1 1).toInt = (u_429.1 1).toInt := by rw [G_u_514.1 1 rfl]
                        have g_521 : (u_514.1 4).toInt = (u_429.1 4).toInt := by rw [G_u_514.1 4 rfl]
                        have g_522 : (u_514.1 30).toInt = (u_429.1 30).toInt := by rw [G_u_514.1 30 rfl]
                        have g_523 : (u_514.1 10).toInt = (u_429.1 10).toInt := by rw [G_u_514.1 10 rfl]
                        have g_524 : (u_514.1 16).toInt = (u_429.1 16).toInt := by rw [G_u_514.1 16 rfl]
                        have g_525 : (u_514.1 17).toInt = (u_429.1 17).toInt := by rw [G_u_514.1 17 rfl]
                        have g_526 : (u_514.1 18).toInt = (u_429.1 18).toInt := by rw [G_u_514.1 18 rfl]
                        have g_527 : (u_514.1 19).toInt = (u_429.1 19).toInt := by rw [G_u_514.1 19 rfl]
                        have g_528 : (u_514.1 20).toInt = (u_429.1 20).toInt := by rw [G_u_514.1 20 rfl]
                        have g_529 : (u_514.1 23).toInt = (u_429.1 23).toInt := by rw [G_u_514.1 23 rfl]
                        have g_530 : (u_514.1 24).toInt = (u_429.1 24).toInt := by rw [G_u_514.1 24 rfl]
                        have g_531 : (ga u_514 1 r_370).toInt = (ga u_429 1 r_370).toInt := by show (u_514.2.1 1 _).toInt = _; rw [G_u_514.2.1 1 rfl]; rfl
                        exact ⟨I_u_514, F_u_514, (by have B_532 := IP_b I; have B_533 := IP_b I_u_514; omega), (by have B_534 := IP_b I_u_514; omega), (by have B_535 := IP_b I_u_514; have B_536 := IP_b I; omega), (by have B_537 := IP_b I_u_514; have B_538 := IP_b I; omega), (by have B_539 := IP_b I_u_514; have B_540 := IP_b I; omega)⟩
                      · refine ok_mono (kP_SqlReaderModel_readOther_J232 I_u_429 (by have FUe : FU = 100000 := rfl; have B_541 := IP_b I_u_429; have B_542 := IP_b I; omega) (by have FUe : FU = 100000 := rfl; have B_543 := IP_b I_u_429; have B_544 := IP_b I; omega) (by have FUe : FU = 100000 := rfl; have B_545 := IP_b I_u_429; have B_546 := IP_b I; omega) (by have FUe : FU = 100000 := rfl; have B_547 := IP_b I_u_429; have B_548 := IP_b I; omega) (by have FUe : FU = 100000 := rfl; have B_549 := IP_b I_u_429; have B_550 := IP_b I; omega) (by have FUe : FU = 100000 := rfl; have B_551 := IP_b I_u_429; have B_552 := IP_b I; omega) (by have FUe : FU = 100000 := rfl; have B_553 := IP_b I_u_429; have B_554 := IP_b I; omega) (by have FUe : FU = 100000 := rfl; have B_555 := IP_b I_u_429; have B_556 := IP_b I; omega) (by have FUe : FU = 100000 := rfl; have B_557 := IP_b I_u_429; have B_558 := IP_b I; omega) (by have FUe : FU = 100000 := rfl; have B_559 := IP_b I_u_429; have B_560 := IP_b I; omega)) (fun u_562 z_561 => ?_)
                        obtain ⟨I_u_562, G_u_562, p_563, p_564, p_565, p_566, p_567⟩ := z_561
                        have F_u_562 : Fr [2, 4, 5, 7, 8, 10, 11, 12, 13, 14, 15, 16, 17, 18, 19, 20, 21, 23, 24, 26, 27, 28, 29, 30] [10, 11, 12, 13, 14, 15, 16, 17, 18, 19, 20, 21, 22, 23, 25, 26, 27, 29, 30, 31, 32] u u_562 := Fr_tr F_u_429 G_u_562 rfl rfl
                        have g_568 : (u_562.1 1).toInt = (u_429.1 1).toInt := by rw [G_u_562.1 1 rfl]
                        have g_569 : (u_562.1 4).toInt = (u_429.1 4).toInt := by rw [G_u_562.1 4 rfl]
                        have g_570 : (u_562.1 30).toInt = (u_429.1 30).toInt := by rw [G_u_562.1 30 rfl]
                        have g_571 : (u_562.1 10).toInt = (u_429.1 10).toInt := by rw [G_u_562.1 10 rfl]
                        have g_572 : (u_562.1 16).toInt = (u_429.1 16).toInt := by rw [G_u_562.1 16 rfl]
                        have g_573 : (u_562.1 17).toInt = (u_429.1 17).toInt := by rw [G_u_562.1 17 rfl]
                        have g_574 : (u_562.1 18).toInt = (u_429.1 18).toInt := by rw [G_u_562.1 18 rfl]
                        have g_575 : (u_562.1 19).toInt = (u_429.1 19).toInt := by rw [G_u_562.1 19 rfl]
                        have g_576 : (u_562.1 20).toInt = (u_429.1 20).toInt := by rw [G_u_562.1 20 rfl]
                        have g_577 : (u_562.1 23).toInt = (u_429.1 23).toInt := by rw [G_u_562.1 23 rfl]
                        have g_578 : (u_562.1 24).toInt = (u_429.1 24).toInt := by rw [G_u_562.1 24 rfl]
                        have g_579 : (ga u_562 1 r_370).toInt = (ga u_429 1 r_370).toInt := by show (u_562.2.1 1 _).toInt = _; rw [G_u_562.2.1 1 rfl]; rfl
                        exact ⟨I_u_562, F_u_562, (by have B_580 := IP_b I; have B_581 := IP_b I_u_562; omega), (by have B_582 := IP_b I_u_562; omega), (by have B_583 := IP_b I_u_562; have B_584 := IP_b I; omega), (by have B_585 := IP_b I_u_562; have B_586 := IP_b I; omega), (by have B_587 := IP_b I_u_562; have B_588 := IP_b I; omega)⟩
                · refine ok_seq (fun u_590 h_589 => ?_)
                  have I_u_590 : IP u_590 := by rw [h_589]; exact IP_s7 I_u_143 (by have B_591 := IP_b I_u_143; omega)
                  have F_u_590 : Fr [2, 4, 5, 7, 8, 10, 11, 12, 13, 14, 15, 16, 17, 18, 19, 20, 21, 23, 24, 26, 27, 28, 29, 30] [10, 11, 12, 13, 14, 15, 16, 17, 18, 19, 20, 21, 22, 23, 25, 26, 27, 29, 30, 31, 32] u u_590 := by rw [h_589]; exact Fr_ss F_u_143 rfl rfl
                  have g_592 : (u_590.1 7).toInt = (15 : Int32).toInt := by rw [h_589]; rfl
                  have g_593 : (u_590.1 1).toInt = (u_143.1 1).toInt := by rw [h_589]; rfl
                  have g_594 : (u_590.1 2).toInt = (u_143.1 2).toInt := by rw [h_589]; rfl
                  have g_595 : (u_590.1 4).toInt = (u_143.1 4).toInt := by rw [h_589]; rfl
                  have g_596 : (u_590.1 30).toInt = (u_143.1 30).toInt := by rw [h_589]; rfl
                  have g_597 : (u_590.1 8).toInt = (u_143.1 8).toInt := by rw [h_589]; rfl
                  have g_598 : (u_590.1 10).toInt = (u_143.1 10).toInt := by rw [h_589]; rfl
                  have g_599 : (u_590.1 16).toInt = (u_143.1 16).toInt := by rw [h_589]; rfl
                  have g_600 : (u_590.1 17).toInt = (u_143.1 17).toInt := by rw [h_589]; rfl
                  have g_601 : (u_590.1 18).toInt = (u_143.1 18).toInt := by rw [h_589]; rfl
                  have g_602 : (u_590.1 19).toInt = (u_143.1 19).toInt := by rw [h_589]; rfl
                  have g_603 : (u_590.1 20).toInt = (u_143.1 20).toInt := by rw [h_589]; rfl
                  have g_604 : (u_590.1 23).toInt = (u_143.1 23).toInt := by rw [h_589]; rfl
                  have g_605 : (u_590.1 24).toInt = (u_143.1 24).toInt := by rw [h_589]; rfl
                  refine ok_bM (kP_SqlReaderModel_needName I_u_590 (by have FUe : FU = 100000 := rfl; have B_607 := IP_b I_u_590; have B_608 := IP_b I; omega)) (fun r_609 u_610 z_606 => ?_)
                  obtain ⟨I_u_610, G_u_610, p_611, p_612, p_613, p_614⟩ := z_606
                  have F_u_610 : Fr [2, 4, 5, 7, 8, 10, 11, 12, 13, 14, 15, 16, 17, 18, 19, 20, 21, 23, 24, 26, 27, 28, 29, 30] [10, 11, 12, 13, 14, 15, 16, 17, 18, 19, 20, 21, 22, 23, 25, 26, 27, 29, 30, 31, 32] u u_610 := Fr_tr F_u_590 G_u_610 rfl rfl
                  have g_615 : (u_610.1 1).toInt = (u_590.1 1).toInt := by rw [G_u_610.1 1 rfl]
                  have g_616 : (u_610.1 4).toInt = (u_590.1 4).toInt := by rw [G_u_610.1 4 rfl]
                  have g_617 : (u_610.1 7).toInt = (u_590.1 7).toInt := by rw [G_u_610.1 7 rfl]
                  have g_618 : (u_610.1 8).toInt = (u_590.1 8).toInt := by rw [G_u_610.1 8 rfl]
                  have g_619 : (u_610.1 10).toInt = (u_590.1 10).toInt := by rw [G_u_610.1 10 rfl]
                  have g_620 : (u_610.1 16).toInt = (u_590.1 16).toInt := by rw [G_u_610.1 16 rfl]
                  have g_621 : (u_610.1 17).toInt = (u_590.1 17).toInt := by rw [G_u_610.1 17 rfl]
                  have g_622 : (u_610.1 18).toInt = (u_590.1 18).toInt := by rw [G_u_610.1 18 rfl]
                  have g_623 : (u_610.1 19).toInt = (u_590.1 19).toInt := by rw [G_u_610.1 19 rfl]
                  have g_624 : (u_610.1 20).toInt = (u_590.1 20).toInt := by rw [G_u_610.1 20 rfl]
                  have g_625 : (u_610.1 23).toInt = (u_590.1 23).toInt := by rw [G_u_610.1 23 rfl]
                  have g_626 : (u_610.1 24).toInt = (u_590.1 24).toInt := by rw [G_u_610.1 24 rfl]
                  have n_627 : 0 ≤ r_609.toInt := by have B_628 := IP_b I_u_590; omega
                  refine ok_seq (fun u_630 h_629 => ?_)
                  have I_u_630 : IP u_630 := by rw [h_629]; exact IP_s10 I_u_610 (by have B_631 := IP_b I_u_610; omega) (by have B_632 := IP_b I_u_610; omega) (by have B_633 := IP_b I_u_610; omega)
                  have F_u_630 : Fr [2, 4, 5, 7, 8, 10, 11, 12, 13, 14, 15, 16, 17, 18, 19, 20, 21, 23, 24, 26, 27, 28, 29, 30] [10, 11, 12, 13, 14, 15, 16, 17, 18, 19, 20, 21, 22, 23, 25, 26, 27, 29, 30, 31, 32] u u_630 := by rw [h_629]; exact Fr_ss F_u_610 rfl rfl
                  have g_634 : (ga u_630 1 r_609).toInt = (ga u_610 1 r_609).toInt := by rw [h_629]; rfl
                  have g_635 : (u_630.1 10).toInt = (r_609 : Int32).toInt := by rw [h_629]; rfl
                  have g_636 : (u_630.1 1).toInt = (u_610.1 1).toInt := by rw [h_629]; rfl
                  have g_637 : (u_630.1 2).toInt = (u_610.1 2).toInt := by rw [h_629]; rfl
                  have g_638 : (u_630.1 4).toInt = (u_610.1 4).toInt := by rw [h_629]; rfl
                  have g_639 : (u_630.1 30).toInt = (u_610.1 30).toInt := by rw [h_629]; rfl
                  have g_640 : (u_630.1 7).toInt = (u_610.1 7).toInt := by rw [h_629]; rfl
                  have g_641 : (u_630.1 8).toInt = (u_610.1 8).toInt := by rw [h_629]; rfl
                  have g_642 : (u_630.1 16).toInt = (u_610.1 16).toInt := by rw [h_629]; rfl
                  have g_643 : (u_630.1 17).toInt = (u_610.1 17).toInt := by rw [h_629]; rfl
                  have g_644 : (u_630.1 18).toInt = (u_610.1 18).toInt := by rw [h_629]; rfl
                  have g_645 : (u_630.1 19).toInt = (u_610.1 19).toInt := by rw [h_629]; rfl
                  have g_646 : (u_630.1 20).toInt = (u_610.1 20).toInt := by rw [h_629]; rfl
                  have g_647 : (u_630.1 23).toInt = (u_610.1 23).toInt := by rw [h_629]; rfl
                  have g_648 : (u_630.1 24).toInt = (u_610.1 24).toInt := by rw [h_629]; rfl
                  refine ok_bP (kP_SqlReaderModel_readMode I_u_630 (by have FUe : FU = 100000 := rfl; have B_650 := IP_b I_u_630; have B_651 := IP_b I; omega) (by have FUe : FU = 100000 := rfl; have B_652 := IP_b I_u_630; have B_653 := IP_b I; omega) (by have FUe : FU = 100000 := rfl; have B_654 := IP_b I_u_630; have B_655 := IP_b I; omega)) (fun u_656 z_649 => ?_)
                  obtain ⟨I_u_656, G_u_656, p_657, p_658, p_659, p_660, p_661⟩ := z_649
                  have F_u_656 : Fr [2, 4, 5, 7, 8, 10, 11, 12, 13, 14, 15, 16, 17, 18, 19, 20, 21, 23, 24, 26, 27, 28, 29, 30] [10, 11, 12, 13, 14, 15, 16, 17, 18, 19, 20, 21, 22, 23, 25, 26, 27, 29, 30, 31, 32] u u_656 := Fr_tr F_u_630 G_u_656 rfl rfl
                  have g_662 : (u_656.1 1).toInt = (u_630.1 1).toInt := by rw [G_u_656.1 1 rfl]
                  have g_663 : (u_656.1 4).toInt = (u_630.1 4).toInt := by rw [G_u_656.1 4 rfl]
                  have g_664 : (u_656.1 7).toInt = (u_630.1 7).toInt := by rw [G_u_656.1 7 rfl]
                  have g_665 : (u_656.1 8).toInt = (u_630.1 8).toInt := by rw [G_u_656.1 8 rfl]
                  have g_666 : (u_656.1 10).toInt = (u_630.1 10).toInt := by rw [G_u_656.1 10 rfl]
                  have g_667 : (u_656.1 16).toInt = (u_630.1 16).toInt := by rw [G_u_656.1 16 rfl]
                  have g_668 : (u_656.1 17).toInt = (u_630.1 17).toInt := by rw [G_u_656.1 17 rfl]
                  have g_669 : (u_656.1 18).toInt = (u_630.1 18).toInt := by rw [G_u_656.1 18 rfl]
                  have g_670 : (u_656.1 19).toInt = (u_630.1 19).toInt := by rw [G_u_656.1 19 rfl]
                  have g_671 : (u_656.1 20).toInt = (u_630.1 20).toInt := by rw [G_u_656.1 20 rfl]
                  have g_672 : (u_656.1 23).toInt = (u_630.1 23).toInt := by rw [G_u_656.1 23 rfl]
                  have g_673 : (u_656.1 24).toInt = (u_630.1 24).toInt := by rw [G_u_656.1 24 rfl]
                  have g_674 : (ga u_656 1 r_609).toInt = (ga u_630 1 r_609).toInt := by show (u_656.2.1 1 _).toInt = _; rw [G_u_656.2.1 1 rfl]; rfl
                  exact ok_some ⟨I_u_656, F_u_656, (by have B_675 := IP_b I; have B_676 := IP_b I_u_656; omega), (by have B_677 := IP_b I_u_656; omega), (by have B_678 := IP_b I_u_656; have B_679 := IP_b I; omega), (by have B_680 := IP_b I_u_656; have B_681 := IP_b I; omega), (by have B_682 := IP_b I_u_656; have B_683 := IP_b I; omega)⟩
              · refine ok_bP (kP_SqlReaderModel_readNamed I_u_123 (by have FUe : FU = 100000 := rfl; have B_685 := IP_b I_u_123; have B_686 := IP_b I; omega) (by have FUe : FU = 100000 := rfl; have B_687 := IP_b I_u_123; have B_688 := IP_b I; omega) (by have FUe : FU = 100000 := rfl; have B_689 := IP_b I_u_123; have B_690 := IP_b I; omega) (by have FUe : FU = 100000 := rfl; have B_691 := IP_b I_u_123; have B_692 := IP_b I; omega)) (fun u_693 z_684 => ?_)
                obtain ⟨I_u_693, G_u_693, p_694, p_695, p_696, p_697, p_698⟩ := z_684
                have F_u_693 : Fr [2, 4, 5, 7, 8, 10, 11, 12, 13, 14, 15, 16, 17, 18, 19, 20, 21, 23, 24, 26, 27, 28, 29, 30] [10, 11, 12, 13, 14, 15, 16, 17, 18, 19, 20, 21, 22, 23, 25, 26, 27, 29, 30, 31, 32] u u_693 := Fr_tr F_u_123 G_u_693 rfl rfl
                have g_699 : (u_693.1 1).toInt = (u_123.1 1).toInt := by rw [G_u_693.1 1 rfl]
                have g_700 : (u_693.1 4).toInt = (u_123.1 4).toInt := by rw [G_u_693.1 4 rfl]
                have g_701 : (u_693.1 8).toInt = (u_123.1 8).toInt := by rw [G_u_693.1 8 rfl]
                have g_702 : (u_693.1 10).toInt = (u_123.1 10).toInt := by rw [G_u_693.1 10 rfl]
                have g_703 : (u_693.1 16).toInt = (u_123.1 16).toInt := by rw [G_u_693.1 16 rfl]
                have g_704 : (u_693.1 17).toInt = (u_123.1 17).toInt := by rw [G_u_693.1 17 rfl]
                have g_705 : (u_693.1 18).toInt = (u_123.1 18).toInt := by rw [G_u_693.1 18 rfl]
                have g_706 : (u_693.1 19).toInt = (u_123.1 19).toInt := by rw [G_u_693.1 19 rfl]
                have g_707 : (u_693.1 20).toInt = (u_123.1 20).toInt := by rw [G_u_693.1 20 rfl]
                have g_708 : (u_693.1 23).toInt = (u_123.1 23).toInt := by rw [G_u_693.1 23 rfl]
                have g_709 : (u_693.1 24).toInt = (u_123.1 24).toInt := by rw [G_u_693.1 24 rfl]
                exact ok_some ⟨I_u_693, F_u_693, (by have B_710 := IP_b I; have B_711 := IP_b I_u_693; omega), (by have B_712 := IP_b I_u_693; omega), (by have B_713 := IP_b I_u_693; have B_714 := IP_b I; omega), (by have B_715 := IP_b I_u_693; have B_716 := IP_b I; omega), (by have B_717 := IP_b I_u_693; have B_718 := IP_b I; omega)⟩
            · refine ok_bP (kP_SqlReaderModel_readNamed I_u_103 (by have FUe : FU = 100000 := rfl; have B_720 := IP_b I_u_103; have B_721 := IP_b I; omega) (by have FUe : FU = 100000 := rfl; have B_722 := IP_b I_u_103; have B_723 := IP_b I; omega) (by have FUe : FU = 100000 := rfl; have B_724 := IP_b I_u_103; have B_725 := IP_b I; omega) (by have FUe : FU = 100000 := rfl; have B_726 := IP_b I_u_103; have B_727 := IP_b I; omega)) (fun u_728 z_719 => ?_)
              obtain ⟨I_u_728, G_u_728, p_729, p_730, p_731, p_732, p_733⟩ := z_719
              have F_u_728 : Fr [2, 4, 5, 7, 8, 10, 11, 12, 13, 14, 15, 16, 17, 18, 19, 20, 21, 23, 24, 26, 27, 28, 29, 30] [10, 11, 12, 13, 14, 15, 16, 17, 18, 19, 20, 21, 22, 23, 25, 26, 27, 29, 30, 31, 32] u u_728 := Fr_tr F_u_103 G_u_728 rfl rfl
              have g_734 : (u_728.1 1).toInt = (u_103.1 1).toInt := by rw [G_u_728.1 1 rfl]
              have g_735 : (u_728.1 4).toInt = (u_103.1 4).toInt := by rw [G_u_728.1 4 rfl]
              have g_736 : (u_728.1 8).toInt = (u_103.1 8).toInt := by rw [G_u_728.1 8 rfl]
              have g_737 : (u_728.1 10).toInt = (u_103.1 10).toInt := by rw [G_u_728.1 10 rfl]
              have g_738 : (u_728.1 16).toInt = (u_103.1 16).toInt := by rw [G_u_728.1 16 rfl]
              have g_739 : (u_728.1 17).toInt = (u_103.1 17).toInt := by rw [G_u_728.1 17 rfl]
              have g_740 : (u_728.1 18).toInt = (u_103.1 18).toInt := by rw [G_u_728.1 18 rfl]
              have g_741 : (u_728.1 19).toInt = (u_103.1 19).toInt := by rw [G_u_728.1 19 rfl]
              have g_742 : (u_728.1 20).toInt = (u_103.1 20).toInt := by rw [G_u_728.1 20 rfl]
              have g_743 : (u_728.1 23).toInt = (u_103.1 23).toInt := by rw [G_u_728.1 23 rfl]
              have g_744 : (u_728.1 24).toInt = (u_103.1 24).toInt := by rw [G_u_728.1 24 rfl]
              exact ok_some ⟨I_u_728, F_u_728, (by have B_745 := IP_b I; have B_746 := IP_b I_u_728; omega), (by have B_747 := IP_b I_u_728; omega), (by have B_748 := IP_b I_u_728; have B_749 := IP_b I; omega), (by have B_750 := IP_b I_u_728; have B_751 := IP_b I; omega), (by have B_752 := IP_b I_u_728; have B_753 := IP_b I; omega)⟩
          · refine ok_seq (fun u_755 h_754 => ?_)
            have I_u_755 : IP u_755 := by rw [h_754]; exact IP_s7 I_u_83 (by have B_756 := IP_b I_u_83; omega)
            have F_u_755 : Fr [2, 4, 5, 7, 8, 10, 11, 12, 13, 14, 15, 16, 17, 18, 19, 20, 21, 23, 24, 26, 27, 28, 29, 30] [10, 11, 12, 13, 14, 15, 16, 17, 18, 19, 20, 21, 22, 23, 25, 26, 27, 29, 30, 31, 32] u u_755 := by rw [h_754]; exact Fr_ss F_u_83 rfl rfl
            have g_757 : (u_755.1 7).toInt = (11 : Int32).toInt := by rw [h_754]; rfl
            have g_758 : (u_755.1 1).toInt = (u_83.1 1).toInt := by rw [h_754]; rfl
            have g_759 : (u_755.1 2).toInt = (u_83.1 2).toInt := by rw [h_754]; rfl
            have g_760 : (u_755.1 4).toInt = (u_83.1 4).toInt := by rw [h_754]; rfl
            have g_761 : (u_755.1 30).toInt = (u_83.1 30).toInt := by rw [h_754]; rfl
            have g_762 : (u_755.1 8).toInt = (u_83.1 8).toInt := by rw [h_754]; rfl
            have g_763 : (u_755.1 10).toInt = (u_83.1 10).toInt := by rw [h_754]; rfl
            have g_764 : (u_755.1 16).toInt = (u_83.1 16).toInt := by rw [h_754]; rfl
            have g_765 : (u_755.1 17).toInt = (u_83.1 17).toInt := by rw [h_754]; rfl
            have g_766 : (u_755.1 18).toInt = (u_83.1 18).toInt := by rw [h_754]; rfl
            have g_767 : (u_755.1 19).toInt = (u_83.1 19).toInt := by rw [h_754]; rfl
            have g_768 : (u_755.1 20).toInt = (u_83.1 20).toInt := by rw [h_754]; rfl
            have g_769 : (u_755.1 23).toInt = (u_83.1 23).toInt := by rw [h_754]; rfl
            have g_770 : (u_755.1 24).toInt = (u_83.1 24).toInt := by rw [h_754]; rfl
            refine ok_bM (kP_SqlReaderModel_takes I_u_755 (by decide)) (fun r_772 u_773 z_771 => ?_)
            obtain ⟨I_u_773, G_u_773, p_774, p_775, p_776⟩ := z_771
            have F_u_773 : Fr [2, 4, 5, 7, 8, 10, 11, 12, 13, 14, 15, 16, 17, 18, 19, 20, 21, 23, 24, 26, 27, 28, 29, 30] [10, 11, 12, 13, 14, 15, 16, 17, 18, 19, 20, 21, 22, 23, 25, 26, 27, 29, 30, 31, 32] u u_773 := Fr_tr F_u_755 G_u_773 rfl rfl
            have g_777 : (u_773.1 1).toInt = (u_755.1 1).toInt := by rw [G_u_773.1 1 rfl]
            have g_778 : (u_773.1 2).toInt = (u_755.1 2).toInt := by rw [G_u_773.1 2 rfl]
            have g_779 : (u_773.1 4).toInt = (u_755.1 4).toInt := by rw [G_u_773.1 4 rfl]
            have g_780 : (u_773.1 7).toInt = (u_755.1 7).toInt := by rw [G_u_773.1 7 rfl]
            have g_781 : (u_773.1 8).toInt = (u_755.1 8).toInt := by rw [G_u_773.1 8 rfl]
            have g_782 : (u_773.1 10).toInt = (u_755.1 10).toInt := by rw [G_u_773.1 10 rfl]
            have g_783 : (u_773.1 16).toInt = (u_755.1 16).toInt := by rw [G_u_773.1 16 rfl]
            have g_784 : (u_773.1 17).toInt = (u_755.1 17).toInt := by rw [G_u_773.1 17 rfl]
            have g_785 : (u_773.1 18).toInt = (u_755.1 18).toInt := by rw [G_u_773.1 18 rfl]
            have g_786 : (u_773.1 19).toInt = (u_755.1 19).toInt := by rw [G_u_773.1 19 rfl]
            have g_787 : (u_773.1 20).toInt = (u_755.1 20).toInt := by rw [G_u_773.1 20 rfl]
            have g_788 : (u_773.1 23).toInt = (u_755.1 23).toInt := by rw [G_u_773.1 23 rfl]
            have g_789 : (u_773.1 24).toInt = (u_755.1 24).toInt := by rw [G_u_773.1 24 rfl]
            refine ok_eq (fun c_790 c_790' => ?_) (fun c_790 => ?_)
            · exact ok_some ⟨I_u_773, F_u_773, (by have B_791 := IP_b I; have B_792 := IP_b I_u_773; omega), (by have B_793 := IP_b I_u_773; omega), (by have B_794 := IP_b I_u_773; have B_795 := IP_b I; omega), (by have B_796 := IP_b I_u_773; have B_797 := IP_b I; omega), (by have B_798 := IP_b I_u_773; have B_799 := IP_b I; omega)⟩
            · refine ok_bP (kP_SqlReaderModel_readNamed I_u_773 (by have FUe : FU = 100000 := rfl; have B_801 := IP_b I_u_773; have B_802 := IP_b I; omega) (by have FUe : FU = 100000 := rfl; have B_803 := IP_b I_u_773; have B_804 := IP_b I; omega) (by have FUe : FU = 100000 := rfl; have B_805 := IP_b I_u_773; have B_806 := IP_b I; omega) (by have FUe : FU = 100000 := rfl; have B_807 := IP_b I_u_773; have B_808 := IP_b I; omega)) (fun u_809 z_800 => ?_)
              obtain ⟨I_u_809, G_u_809, p_810, p_811, p_812, p_813, p_814⟩ := z_800
              have F_u_809 : Fr [2, 4, 5, 7, 8, 10, 11, 12, 13, 14, 15, 16, 17, 18, 19, 20, 21, 23, 24, 26, 27, 28, 29, 30] [10, 11, 12, 13, 14, 15, 16, 17, 18, 19, 20, 21, 22, 23, 25, 26, 27, 29, 30, 31, 32] u u_809 := Fr_tr F_u_773 G_u_809 rfl rfl
              have g_815 : (u_809.1 1).toInt = (u_773.1 1).toInt := by rw [G_u_809.1 1 rfl]
              have g_816 : (u_809.1 4).toInt = (u_773.1 4).toInt := by rw [G_u_809.1 4 rfl]
              have g_817 : (u_809.1 8).toInt = (u_773.1 8).toInt := by rw [G_u_809.1 8 rfl]
              have g_818 : (u_809.1 10).toInt = (u_773.1 10).toInt := by rw [G_u_809.1 10 rfl]
              have g_819 : (u_809.1 16).toInt = (u_773.1 16).toInt := by rw [G_u_809.1 16 rfl]
              have g_820 : (u_809.1 17).toInt = (u_773.1 17).toInt := by rw [G_u_809.1 17 rfl]
              have g_821 : (u_809.1 18).toInt = (u_773.1 18).toInt := by rw [G_u_809.1 18 rfl]
              have g_822 : (u_809.1 19).toInt = (u_773.1 19).toInt := by rw [G_u_809.1 19 rfl]
              have g_823 : (u_809.1 20).toInt = (u_773.1 20).toInt := by rw [G_u_809.1 20 rfl]
              have g_824 : (u_809.1 23).toInt = (u_773.1 23).toInt := by rw [G_u_809.1 23 rfl]
              have g_825 : (u_809.1 24).toInt = (u_773.1 24).toInt := by rw [G_u_809.1 24 rfl]
              exact ok_some ⟨I_u_809, F_u_809, (by have B_826 := IP_b I; have B_827 := IP_b I_u_809; omega), (by have B_828 := IP_b I_u_809; omega), (by have B_829 := IP_b I_u_809; have B_830 := IP_b I; omega), (by have B_831 := IP_b I_u_809; have B_832 := IP_b I; omega), (by have B_833 := IP_b I_u_809; have B_834 := IP_b I; omega)⟩
        · refine ok_seq (fun u_836 h_835 => ?_)
          have I_u_836 : IP u_836 := by rw [h_835]; exact IP_s7 I_u_63 (by have B_837 := IP_b I_u_63; omega)
          have F_u_836 : Fr [2, 4, 5, 7, 8, 10, 11, 12, 13, 14, 15, 16, 17, 18, 19, 20, 21, 23, 24, 26, 27, 28, 29, 30] [10, 11, 12, 13, 14, 15, 16, 17, 18, 19, 20, 21, 22, 23, 25, 26, 27, 29, 30, 31, 32] u u_836 := by rw [h_835]; exact Fr_ss F_u_63 rfl rfl
          have g_838 : (u_836.1 7).toInt = (10 : Int32).toInt := by rw [h_835]; rfl
          have g_839 : (u_836.1 1).toInt = (u_63.1 1).toInt := by rw [h_835]; rfl
          have g_840 : (u_836.1 2).toInt = (u_63.1 2).toInt := by rw [h_835]; rfl
          have g_841 : (u_836.1 4).toInt = (u_63.1 4).toInt := by rw [h_835]; rfl
          have g_842 : (u_836.1 30).toInt = (u_63.1 30).toInt := by rw [h_835]; rfl
          have g_843 : (u_836.1 8).toInt = (u_63.1 8).toInt := by rw [h_835]; rfl
          have g_844 : (u_836.1 10).toInt = (u_63.1 10).toInt := by rw [h_835]; rfl
          have g_845 : (u_836.1 16).toInt = (u_63.1 16).toInt := by rw [h_835]; rfl
          have g_846 : (u_836.1 17).toInt = (u_63.1 17).toInt := by rw [h_835]; rfl
          have g_847 : (u_836.1 18).toInt = (u_63.1 18).toInt := by rw [h_835]; rfl
          have g_848 : (u_836.1 19).toInt = (u_63.1 19).toInt := by rw [h_835]; rfl
          have g_849 : (u_836.1 20).toInt = (u_63.1 20).toInt := by rw [h_835]; rfl
          have g_850 : (u_836.1 23).toInt = (u_63.1 23).toInt := by rw [h_835]; rfl
          have g_851 : (u_836.1 24).toInt = (u_63.1 24).toInt := by rw [h_835]; rfl
          exact ok_some ⟨I_u_836, F_u_836, (by have B_852 := IP_b I; have B_853 := IP_b I_u_836; omega), (by have B_854 := IP_b I_u_836; omega), (by have B_855 := IP_b I_u_836; have B_856 := IP_b I; omega), (by have B_857 := IP_b I_u_836; have B_858 := IP_b I; omega), (by have B_859 := IP_b I_u_836; have B_860 := IP_b I; omega)⟩
      · refine ok_bP (kP_SqlReaderModel_readBegin I_u_43 (by have FUe : FU = 100000 := rfl; have B_862 := IP_b I_u_43; have B_863 := IP_b I; omega) (by have FUe : FU = 100000 := rfl; have B_864 := IP_b I_u_43; have B_865 := IP_b I; omega) (by have FUe : FU = 100000 := rfl; have B_866 := IP_b I_u_43; have B_867 := IP_b I; omega)) (fun u_868 z_861 => ?_)
        obtain ⟨I_u_868, G_u_868, p_869, p_870, p_871, p_872, p_873⟩ := z_861
        have F_u_868 : Fr [2, 4, 5, 7, 8, 10, 11, 12, 13, 14, 15, 16, 17, 18, 19, 20, 21, 23, 24, 26, 27, 28, 29, 30] [10, 11, 12, 13, 14, 15, 16, 17, 18, 19, 20, 21, 22, 23, 25, 26, 27, 29, 30, 31, 32] u u_868 := Fr_tr F_u_43 G_u_868 rfl rfl
        have g_874 : (u_868.1 1).toInt = (u_43.1 1).toInt := by rw [G_u_868.1 1 rfl]
        have g_875 : (u_868.1 4).toInt = (u_43.1 4).toInt := by rw [G_u_868.1 4 rfl]
        have g_876 : (u_868.1 8).toInt = (u_43.1 8).toInt := by rw [G_u_868.1 8 rfl]
        have g_877 : (u_868.1 10).toInt = (u_43.1 10).toInt := by rw [G_u_868.1 10 rfl]
        have g_878 : (u_868.1 16).toInt = (u_43.1 16).toInt := by rw [G_u_868.1 16 rfl]
        have g_879 : (u_868.1 17).toInt = (u_43.1 17).toInt := by rw [G_u_868.1 17 rfl]
        have g_880 : (u_868.1 18).toInt = (u_43.1 18).toInt := by rw [G_u_868.1 18 rfl]
        have g_881 : (u_868.1 19).toInt = (u_43.1 19).toInt := by rw [G_u_868.1 19 rfl]
        have g_882 : (u_868.1 20).toInt = (u_43.1 20).toInt := by rw [G_u_868.1 20 rfl]
        have g_883 : (u_868.1 23).toInt = (u_43.1 23).toInt := by rw [G_u_868.1 23 rfl]
        have g_884 : (u_868.1 24).toInt = (u_43.1 24).toInt := by rw [G_u_868.1 24 rfl]
        exact ok_some ⟨I_u_868, F_u_868, (by have B_885 := IP_b I; have B_886 := IP_b I_u_868; omega), (by have B_887 := IP_b I_u_868; omega), (by have B_888 := IP_b I_u_868; have B_889 := IP_b I; omega), (by have B_890 := IP_b I_u_868; have B_891 := IP_b I; omega), (by have B_892 := IP_b I_u_868; have B_893 := IP_b I; omega)⟩
    · refine ok_seq (fun u_895 h_894 => ?_)
      have I_u_895 : IP u_895 := by rw [h_894]; exact IP_s7 I_u_23 (by have B_896 := IP_b I_u_23; omega)
      have F_u_895 : Fr [2, 4, 5, 7, 8, 10, 11, 12, 13, 14, 15, 16, 17, 18, 19, 20, 21, 23, 24, 26, 27, 28, 29, 30] [10, 11, 12, 13, 14, 15, 16, 17, 18, 19, 20, 21, 22, 23, 25, 26, 27, 29, 30, 31, 32] u u_895 := by rw [h_894]; exact Fr_ss F_u_23 rfl rfl
      have g_897 : (u_895.1 7).toInt = (3 : Int32).toInt := by rw [h_894]; rfl
      have g_898 : (u_895.1 1).toInt = (u_23.1 1).toInt := by rw [h_894]; rfl
      have g_899 : (u_895.1 2).toInt = (u_23.1 2).toInt := by rw [h_894]; rfl
      have g_900 : (u_895.1 4).toInt = (u_23.1 4).toInt := by rw [h_894]; rfl
      have g_901 : (u_895.1 30).toInt = (u_23.1 30).toInt := by rw [h_894]; rfl
      have g_902 : (u_895.1 8).toInt = (u_23.1 8).toInt := by rw [h_894]; rfl
      have g_903 : (u_895.1 10).toInt = (u_23.1 10).toInt := by rw [h_894]; rfl
      have g_904 : (u_895.1 16).toInt = (u_23.1 16).toInt := by rw [h_894]; rfl
      have g_905 : (u_895.1 17).toInt = (u_23.1 17).toInt := by rw [h_894]; rfl
      have g_906 : (u_895.1 18).toInt = (u_23.1 18).toInt := by rw [h_894]; rfl
      have g_907 : (u_895.1 19).toInt = (u_23.1 19).toInt := by rw [h_894]; rfl
      have g_908 : (u_895.1 20).toInt = (u_23.1 20).toInt := by rw [h_894]; rfl
      have g_909 : (u_895.1 23).toInt = (u_23.1 23).toInt := by rw [h_894]; rfl
      have g_910 : (u_895.1 24).toInt = (u_23.1 24).toInt := by rw [h_894]; rfl
      refine ok_bP (kP_SqlReaderModel_need I_u_895 (by decide)) (fun u_912 z_911 => ?_)
      obtain ⟨I_u_912, G_u_912, p_913, p_914⟩ := z_911
      have F_u_912 : Fr [2, 4, 5, 7, 8, 10, 11, 12, 13, 14, 15, 16, 17, 18, 19, 20, 21, 23, 24, 26, 27, 28, 29, 30] [10, 11, 12, 13, 14, 15, 16, 17, 18, 19, 20, 21, 22, 23, 25, 26, 27, 29, 30, 31, 32] u u_912 := Fr_tr F_u_895 G_u_912 rfl rfl
      have g_915 : (u_912.1 1).toInt = (u_895.1 1).toInt := by rw [G_u_912.1 1 rfl]
      have g_916 : (u_912.1 4).toInt = (u_895.1 4).toInt := by rw [G_u_912.1 4 rfl]
      have g_917 : (u_912.1 7).toInt = (u_895.1 7).toInt := by rw [G_u_912.1 7 rfl]
      have g_918 : (u_912.1 8).toInt = (u_895.1 8).toInt := by rw [G_u_912.1 8 rfl]
      have g_919 : (u_912.1 10).toInt = (u_895.1 10).toInt := by rw [G_u_912.1 10 rfl]
      have g_920 : (u_912.1 16).toInt = (u_895.1 16).toInt := by rw [G_u_912.1 16 rfl]
      have g_921 : (u_912.1 17).toInt = (u_895.1 17).toInt := by rw [G_u_912.1 17 rfl]
      have g_922 : (u_912.1 18).toInt = (u_895.1 18).toInt := by rw [G_u_912.1 18 rfl]
      have g_923 : (u_912.1 19).toInt = (u_895.1 19).toInt := by rw [G_u_912.1 19 rfl]
      have g_924 : (u_912.1 20).toInt = (u_895.1 20).toInt := by rw [G_u_912.1 20 rfl]
      have g_925 : (u_912.1 23).toInt = (u_895.1 23).toInt := by rw [G_u_912.1 23 rfl]
      have g_926 : (u_912.1 24).toInt = (u_895.1 24).toInt := by rw [G_u_912.1 24 rfl]
      refine ok_bM (kP_SqlReaderModel_needName I_u_912 (by have FUe : FU = 100000 := rfl; have B_928 := IP_b I_u_912; have B_929 := IP_b I; omega)) (fun r_930 u_931 z_927 => ?_)
      obtain ⟨I_u_931, G_u_931, p_932, p_933, p_934, p_935⟩ := z_927
      have F_u_931 : Fr [2, 4, 5, 7, 8, 10, 11, 12, 13, 14, 15, 16, 17, 18, 19, 20, 21, 23, 24, 26, 27, 28, 29, 30] [10, 11, 12, 13, 14, 15, 16, 17, 18, 19, 20, 21, 22, 23, 25, 26, 27, 29, 30, 31, 32] u u_931 := Fr_tr F_u_912 G_u_931 rfl rfl
      have g_936 : (u_931.1 1).toInt = (u_912.1 1).toInt := by rw [G_u_931.1 1 rfl]
      have g_937 : (u_931.1 4).toInt = (u_912.1 4).toInt := by rw [G_u_931.1 4 rfl]
      have g_938 : (u_931.1 7).toInt = (u_912.1 7).toInt := by rw [G_u_931.1 7 rfl]
      have g_939 : (u_931.1 8).toInt = (u_912.1 8).toInt := by rw [G_u_931.1 8 rfl]
      have g_940 : (u_931.1 10).toInt = (u_912.1 10).toInt := by rw [G_u_931.1 10 rfl]
      have g_941 : (u_931.1 16).toInt = (u_912.1 16).toInt := by rw [G_u_931.1 16 rfl]
      have g_942 : (u_931.1 17).toInt = (u_912.1 17).toInt := by rw [G_u_931.1 17 rfl]
      have g_943 : (u_931.1 18).toInt = (u_912.1 18).toInt := by rw [G_u_931.1 18 rfl]
      have g_944 : (u_931.1 19).toInt = (u_912.1 19).toInt := by rw [G_u_931.1 19 rfl]
      have g_945 : (u_931.1 20).toInt = (u_912.1 20).toInt := by rw [G_u_931.1 20 rfl]
      have g_946 : (u_931.1 23).toInt = (u_912.1 23).toInt := by rw [G_u_931.1 23 rfl]
      have g_947 : (u_931.1 24).toInt = (u_912.1 24).toInt := by rw [G_u_931.1 24 rfl]
      have n_948 : 0 ≤ r_930.toInt := by have B_949 := IP_b I_u_912; omega
      refine ok_seq (fun u_951 h_950 => ?_)
      have I_u_951 : IP u_951 := by rw [h_950]; exact IP_s10 I_u_931 (by have B_952 := IP_b I_u_931; omega) (by have B_953 := IP_b I_u_931; omega) (by have B_954 := IP_b I_u_931; omega)
      have F_u_951 : Fr [2, 4, 5, 7, 8, 10, 11, 12, 13, 14, 15, 16, 17, 18, 19, 20, 21, 23, 24, 26, 27, 28, 29, 30] [10, 11, 12, 13, 14, 15, 16, 17, 18, 19, 20, 21, 22, 23, 25, 26, 27, 29, 30, 31, 32] u u_951 := by rw [h_950]; exact Fr_ss F_u_931 rfl rfl
      have g_955 : (ga u_951 1 r_930).toInt = (ga u_931 1 r_930).toInt := by rw [h_950]; rfl
      have g_956 : (u_951.1 10).toInt = (r_930 : Int32).toInt := by rw [h_950]; rfl
      have g_957 : (u_951.1 1).toInt = (u_931.1 1).toInt := by rw [h_950]; rfl
      have g_958 : (u_951.1 2).toInt = (u_931.1 2).toInt := by rw [h_950]; rfl
      have g_959 : (u_951.1 4).toInt = (u_931.1 4).toInt := by rw [h_950]; rfl
      have g_960 : (u_951.1 30).toInt = (u_931.1 30).toInt := by rw [h_950]; rfl
      have g_961 : (u_951.1 7).toInt = (u_931.1 7).toInt := by rw [h_950]; rfl
      have g_962 : (u_951.1 8).toInt = (u_931.1 8).toInt := by rw [h_950]; rfl
      have g_963 : (u_951.1 16).toInt = (u_931.1 16).toInt := by rw [h_950]; rfl
      have g_964 : (u_951.1 17).toInt = (u_931.1 17).toInt := by rw [h_950]; rfl
      have g_965 : (u_951.1 18).toInt = (u_931.1 18).toInt := by rw [h_950]; rfl
      have g_966 : (u_951.1 19).toInt = (u_931.1 19).toInt := by rw [h_950]; rfl
      have g_967 : (u_951.1 20).toInt = (u_931.1 20).toInt := by rw [h_950]; rfl
      have g_968 : (u_951.1 23).toInt = (u_931.1 23).toInt := by rw [h_950]; rfl
      have g_969 : (u_951.1 24).toInt = (u_931.1 24).toInt := by rw [h_950]; rfl
      exact ok_some ⟨I_u_951, F_u_951, (by have B_970 := IP_b I; have B_971 := IP_b I_u_951; omega), (by have B_972 := IP_b I_u_951; omega), (by have B_973 := IP_b I_u_951; have B_974 := IP_b I; omega), (by have B_975 := IP_b I_u_951; have B_976 := IP_b I; omega), (by have B_977 := IP_b I_u_951; have B_978 := IP_b I; omega)⟩
  · refine ok_bP (kP_SqlReaderModel_readCreate I_u_3 (by have FUe : FU = 100000 := rfl; have B_980 := IP_b I_u_3; have B_981 := IP_b I; omega) (by have FUe : FU = 100000 := rfl; have B_982 := IP_b I_u_3; have B_983 := IP_b I; omega) (by have FUe : FU = 100000 := rfl; have B_984 := IP_b I_u_3; have B_985 := IP_b I; omega) (by have FUe : FU = 100000 := rfl; have B_986 := IP_b I_u_3; have B_987 := IP_b I; omega) (by have FUe : FU = 100000 := rfl; have B_988 := IP_b I_u_3; have B_989 := IP_b I; omega)) (fun u_990 z_979 => ?_)
    obtain ⟨I_u_990, G_u_990, p_991, p_992, p_993, p_994, p_995⟩ := z_979
    have F_u_990 : Fr [2, 4, 5, 7, 8, 10, 11, 12, 13, 14, 15, 16, 17, 18, 19, 20, 21, 23, 24, 26, 27, 28, 29, 30] [10, 11, 12, 13, 14, 15, 16, 17, 18, 19, 20, 21, 22, 23, 25, 26, 27, 29, 30, 31, 32] u u_990 := Fr_tr F_u_3 G_u_990 rfl rfl
    have g_996 : (u_990.1 1).toInt = (u_3.1 1).toInt := by rw [G_u_990.1 1 rfl]
    have g_997 : (u_990.1 4).toInt = (u_3.1 4).toInt := by rw [G_u_990.1 4 rfl]
    have g_998 : (u_990.1 8).toInt = (u_3.1 8).toInt := by rw [G_u_990.1 8 rfl]
    have g_999 : (u_990.1 16).toInt = (u_3.1 16).toInt := by rw [G_u_990.1 16 rfl]
    have g_1000 : (u_990.1 17).toInt = (u_3.1 17).toInt := by rw [G_u_990.1 17 rfl]
    have g_1001 : (u_990.1 18).toInt = (u_3.1 18).toInt := by rw [G_u_990.1 18 rfl]
    have g_1002 : (u_990.1 19).toInt = (u_3.1 19).toInt := by rw [G_u_990.1 19 rfl]
    have g_1003 : (u_990.1 20).toInt = (u_3.1 20).toInt := by rw [G_u_990.1 20 rfl]
    have g_1004 : (u_990.1 23).toInt = (u_3.1 23).toInt := by rw [G_u_990.1 23 rfl]
    exact ok_some ⟨I_u_990, F_u_990, (by have B_1005 := IP_b I; have B_1006 := IP_b I_u_990; omega), (by have B_1007 := IP_b I_u_990; omega), (by have B_1008 := IP_b I_u_990; have B_1009 := IP_b I; omega), (by have B_1010 := IP_b I_u_990; have B_1011 := IP_b I; omega), (by have B_1012 := IP_b I_u_990; have B_1013 := IP_b I; omega)⟩
