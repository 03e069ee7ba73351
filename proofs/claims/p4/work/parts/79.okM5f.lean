set_option maxHeartbeats 20000000 in
theorem kP_SqlReaderModel_readCreate_L32 : ∀ (n : Nat) {x1 : Int32} {u : St} (I : IP u) (h0 : (u.1 4).toInt ≤ 185000) (h1 : (u.1 2).toInt = 1 ∨ ((u.1 4).toInt ≤ 100000 + 40 * (u.1 30).toInt ∧ (u.1 30).toInt ≤ (u.1 1).toInt)) (h2 : (u.1 30).toInt ≤ 3800) (h3 : 0 ≤ x1.toInt) (h4 : x1.toInt ≤ 1) (h5 : (u.1 24).toInt ≤ 1000) (h6 : (u.1 2).toInt = 1 ∨ x1.toInt = 0 ∨ 2 * (u.1 24).toInt + 2 ≤ (u.1 30).toInt) (hm : (2 * (2100 - (u.1 30).toInt) + x1.toInt).toNat < n), ok (mM_SqlReaderModel_readCreate_L32 n x1 u) (fun v => IP v ∧ Fr [2, 24, 30] [31, 32] u v ∧ (u.1 2).toInt ≤ (v.1 2).toInt ∧ (v.1 4).toInt ≤ 185000 ∧ ((v.1 2).toInt = 1 ∨ ((v.1 4).toInt ≤ 100000 + 40 * (v.1 30).toInt ∧ (v.1 30).toInt ≤ (u.1 1).toInt)) ∧ ((v.1 30).toInt ≤ (u.1 30).toInt + 1 ∨ (v.1 30).toInt ≤ (u.1 1).toInt + 1) ∧ ((v.1 2).toInt = 1 ∨ (u.1 30).toInt ≤ (v.1 30).toInt) ∧ ((u.1 2).toInt = 0 ∨ (v.1 30).toInt ≤ (u.1 30).toInt + 0 ∨ (v.1 30).toInt ≤ (u.1 1).toInt + 0)) := by
  intro n
  induction n with
  | zero => intro x1 u I h0 h1 h2 h3 h4 h5 h6 hm; exact absurd hm (Nat.not_lt_zero _)
  | succ n ih =>
    intro x1 u I h0 h1 h2 h3 h4 h5 h6 hm
    have l0 : (0 : Int32).toInt = 0 := by decide
    have l1 : (1 : Int32).toInt = 1 := by decide
    have l2 : (2 : Int32).toInt = 2 := by decide
    have l3 : (3 : Int32).toInt = 3 := by decide
    have l4 : (4 : Int32).toInt = 4 := by decide
    have l24 : (24 : Int32).toInt = 24 := by decide
    have l30 : (30 : Int32).toInt = 30 := by decide
    have l31 : (31 : Int32).toInt = 31 := by decide
    have l40 : (40 : Int32).toInt = 40 := by decide
    have l88 : (88 : Int32).toInt = 88 := by decide
    have l125 : (125 : Int32).toInt = 125 := by decide
    have l126 : (126 : Int32).toInt = 126 := by decide
    have l127 : (127 : Int32).toInt = 127 := by decide
    have l999 : (999 : Int32).toInt = 999 := by decide
    have l2100 : (2100 : Int32).toInt = 2100 := by decide
    have l3800 : (3800 : Int32).toInt = 3800 := by decide
    have l3900 : (3900 : Int32).toInt = 3900 := by decide
    have l100000 : (100000 : Int32).toInt = 100000 := by decide
    have l185000 : (185000 : Int32).toInt = 185000 := by decide
    rw [mM_SqlReaderModel_readCreate_L32]
    refine ok_eq (fun c_1 c_1' => ?_) (fun c_1 => ?_)
    · refine ok_bP (kP_SqlReaderModel_need I (by decide)) (fun u_3 z_2 => ?_)
      obtain ⟨I_u_3, G_u_3, p_4, p_5⟩ := z_2
      have F_u_3 : Fr [2, 24, 30] [31, 32] u u_3 := Fr_tr (Fr_rfl u) G_u_3 rfl rfl
      have g_6 : (u_3.1 1).toInt = (u.1 1).toInt := by rw [G_u_3.1 1 rfl]
      have g_7 : (u_3.1 4).toInt = (u.1 4).toInt := by rw [G_u_3.1 4 rfl]
      have g_8 : (u_3.1 24).toInt = (u.1 24).toInt := by rw [G_u_3.1 24 rfl]
      have Q_u_3_24 : u_3.1 24 = u.1 24 := G_u_3.1 24 rfl
      have g_9 : (ga u_3 31 (u_3.1 24)).toInt = (ga u 31 (u.1 24)).toInt := by show (u_3.2.1 31 (u_3.1 24).toNatClampNeg).toInt = _; rw [G_u_3.2.1 31 rfl, G_u_3.1 24 rfl]; rfl
      have g_10 : (ga u_3 1 (ga u_3 31 (u_3.1 24))).toInt = (ga u 1 (ga u 31 (u.1 24))).toInt := by show (u_3.2.1 1 (u_3.2.1 31 (u_3.1 24).toNatClampNeg).toNatClampNeg).toInt = _; rw [G_u_3.2.1 1 rfl, G_u_3.2.1 31 rfl, G_u_3.1 24 rfl]; rfl
      exact ok_some ⟨I_u_3, F_u_3, (by have B_11 := IP_b I; have B_12 := IP_b I_u_3; omega), (by have B_13 := IP_b I_u_3; omega), (by have B_14 := IP_b I_u_3; have B_15 := IP_b I; omega), (by have B_16 := IP_b I_u_3; have B_17 := IP_b I; omega), (by have B_18 := IP_b I_u_3; have B_19 := IP_b I; omega), (by have B_20 := IP_b I; have B_21 := IP_b I_u_3; omega)⟩
    · refine ok_eq (fun c_22 c_22' => ?_) (fun c_22 => ?_)
      · refine ok_bM (kP_SqlReaderModel_needName I (by have FUe : FU = 100000 := rfl; have B_24 := IP_b I; omega)) (fun r_25 u_26 z_23 => ?_)
        obtain ⟨I_u_26, G_u_26, p_27, p_28, p_29, p_30⟩ := z_23
        have F_u_26 : Fr [2, 24, 30] [31, 32] u u_26 := Fr_tr (Fr_rfl u) G_u_26 rfl rfl
        have g_31 : (u_26.1 1).toInt = (u.1 1).toInt := by rw [G_u_26.1 1 rfl]
        have g_32 : (u_26.1 4).toInt = (u.1 4).toInt := by rw [G_u_26.1 4 rfl]
        have g_33 : (u_26.1 24).toInt = (u.1 24).toInt := by rw [G_u_26.1 24 rfl]
        have Q_u_26_24 : u_26.1 24 = u.1 24 := G_u_26.1 24 rfl
        have g_34 : (ga u_26 31 (u_26.1 24)).toInt = (ga u 31 (u.1 24)).toInt := by show (u_26.2.1 31 (u_26.1 24).toNatClampNeg).toInt = _; rw [G_u_26.2.1 31 rfl, G_u_26.1 24 rfl]; rfl
        have g_35 : (ga u_26 1 (ga u_26 31 (u_26.1 24))).toInt = (ga u 1 (ga u 31 (u.1 24))).toInt := by show (u_26.2.1 1 (u_26.2.1 31 (u_26.1 24).toNatClampNeg).toNatClampNeg).toInt = _; rw [G_u_26.2.1 1 rfl, G_u_26.2.1 31 rfl, G_u_26.1 24 rfl]; rfl
        have n_36 : 0 ≤ r_25.toInt := by have B_37 := IP_b I; omega
        refine ok_gd (inb_of (by have B_38 := IP_b I; have B_39 := IP_b I_u_26; omega) (by have B_40 := IP_b I; have B_41 := IP_b I_u_26; omega)) ?_
        refine ok_seq (fun u_43 h_42 => ?_)
        have I_u_43 : IP u_43 := by rw [h_42]; exact IP_a31 I_u_26 (by have B_44 := IP_b I_u_26; omega)
        have F_u_43 : Fr [2, 24, 30] [31, 32] u u_43 := by rw [h_42]; exact Fr_sa F_u_26 rfl rfl rfl
        have Q_u_43_24 : u_43.1 24 = u_26.1 24 := by rw [h_42]; rfl
        have g_45 : (ga u_43 31 (u_43.1 24)).toInt = (r_25 : Int32).toInt := by rw [h_42]; show (upd (u_26.2.1 31) ((u.1 24)).toNatClampNeg r_25 (u_26.1 24).toNatClampNeg).toInt = _; rw [Q_u_26_24, pk_us]
        have g_46 : (ga u_43 1 (ga u_43 31 (u_43.1 24))).toInt = (ga u_26 1 (r_25)).toInt := by rw [show ga u_43 31 (u_43.1 24) = (r_25 : Int32) from by rw [h_42]; show upd (u_26.2.1 31) ((u.1 24)).toNatClampNeg r_25 (u_26.1 24).toNatClampNeg = _; rw [Q_u_26_24, pk_us], h_42]; rfl
        have g_47 : (u_43.1 1).toInt = (u_26.1 1).toInt := by rw [h_42]; rfl
        have g_48 : (u_43.1 2).toInt = (u_26.1 2).toInt := by rw [h_42]; rfl
        have g_49 : (u_43.1 4).toInt = (u_26.1 4).toInt := by rw [h_42]; rfl
        have g_50 : (u_43.1 30).toInt = (u_26.1 30).toInt := by rw [h_42]; rfl
        have g_51 : (u_43.1 24).toInt = (u_26.1 24).toInt := by rw [h_42]; rfl
        refine ok_bM (kP_SqlReaderModel_takes I_u_43 (by decide)) (fun r_53 u_54 z_52 => ?_)
        obtain ⟨I_u_54, G_u_54, p_55, p_56, p_57⟩ := z_52
        have F_u_54 : Fr [2, 24, 30] [31, 32] u u_54 := Fr_tr F_u_43 G_u_54 rfl rfl
        have g_58 : (u_54.1 1).toInt = (u_43.1 1).toInt := by rw [G_u_54.1 1 rfl]
        have g_59 : (u_54.1 2).toInt = (u_43.1 2).toInt := by rw [G_u_54.1 2 rfl]
        have g_60 : (u_54.1 4).toInt = (u_43.1 4).toInt := by rw [G_u_54.1 4 rfl]
        have g_61 : (u_54.1 24).toInt = (u_43.1 24).toInt := by rw [G_u_54.1 24 rfl]
        have Q_u_54_24 : u_54.1 24 = u_43.1 24 := G_u_54.1 24 rfl
        have g_62 : (ga u_54 31 (u_54.1 24)).toInt = (ga u_43 31 (u_43.1 24)).toInt := by show (u_54.2.1 31 (u_54.1 24).toNatClampNeg).toInt = _; rw [G_u_54.2.1 31 rfl, G_u_54.1 24 rfl]; rfl
        have g_63 : (ga u_54 1 (ga u_54 31 (u_54.1 24))).toInt = (ga u_43 1 (ga u_43 31 (u_43.1 24))).toInt := by show (u_54.2.1 1 (u_54.2.1 31 (u_54.1 24).toNatClampNeg).toNatClampNeg).toInt = _; rw [G_u_54.2.1 1 rfl, G_u_54.2.1 31 rfl, G_u_54.1 24 rfl]; rfl
        refine ok_eq (fun c_64 c_64' => ?_) (fun c_64 => ?_)
        · replace p_57 := (p_57.resolve_right (fun q => absurd (q.1.symm.trans c_64) (by decide))).2
          refine ok_bM (kP_SqlReaderModel_takes I_u_54 (by decide)) (fun r_66 u_67 z_65 => ?_)
          obtain ⟨I_u_67, G_u_67, p_68, p_69, p_70⟩ := z_65
          have F_u_67 : Fr [2, 24, 30] [31, 32] u u_67 := Fr_tr F_u_54 G_u_67 rfl rfl
          have g_71 : (u_67.1 1).toInt = (u_54.1 1).toInt := by rw [G_u_67.1 1 rfl]
          have g_72 : (u_67.1 2).toInt = (u_54.1 2).toInt := by rw [G_u_67.1 2 rfl]
          have g_73 : (u_67.1 4).toInt = (u_54.1 4).toInt := by rw [G_u_67.1 4 rfl]
          have g_74 : (u_67.1 24).toInt = (u_54.1 24).toInt := by rw [G_u_67.1 24 rfl]
          have Q_u_67_24 : u_67.1 24 = u_54.1 24 := G_u_67.1 24 rfl
          have g_75 : (ga u_67 31 (u_67.1 24)).toInt = (ga u_54 31 (u_54.1 24)).toInt := by show (u_67.2.1 31 (u_67.1 24).toNatClampNeg).toInt = _; rw [G_u_67.2.1 31 rfl, G_u_67.1 24 rfl]; rfl
          have g_76 : (ga u_67 1 (ga u_67 31 (u_67.1 24))).toInt = (ga u_54 1 (ga u_54 31 (u_54.1 24))).toInt := by show (u_67.2.1 1 (u_67.2.1 31 (u_67.1 24).toNatClampNeg).toNatClampNeg).toInt = _; rw [G_u_67.2.1 1 rfl, G_u_67.2.1 31 rfl, G_u_67.1 24 rfl]; rfl
          refine ok_eq (fun c_77 c_77' => ?_) (fun c_77 => ?_)
          · replace p_70 := (p_70.resolve_right (fun q => absurd (q.1.symm.trans c_77) (by decide))).2
            refine ok_bM (kP_SqlReaderModel_takes I_u_67 (by decide)) (fun r_79 u_80 z_78 => ?_)
            obtain ⟨I_u_80, G_u_80, p_81, p_82, p_83⟩ := z_78
            have F_u_80 : Fr [2, 24, 30] [31, 32] u u_80 := Fr_tr F_u_67 G_u_80 rfl rfl
            have g_84 : (u_80.1 1).toInt = (u_67.1 1).toInt := by rw [G_u_80.1 1 rfl]
            have g_85 : (u_80.1 2).toInt = (u_67.1 2).toInt := by rw [G_u_80.1 2 rfl]
            have g_86 : (u_80.1 4).toInt = (u_67.1 4).toInt := by rw [G_u_80.1 4 rfl]
            have g_87 : (u_80.1 24).toInt = (u_67.1 24).toInt := by rw [G_u_80.1 24 rfl]
            have Q_u_80_24 : u_80.1 24 = u_67.1 24 := G_u_80.1 24 rfl
            have g_88 : (ga u_80 31 (u_80.1 24)).toInt = (ga u_67 31 (u_67.1 24)).toInt := by show (u_80.2.1 31 (u_80.1 24).toNatClampNeg).toInt = _; rw [G_u_80.2.1 31 rfl, G_u_80.1 24 rfl]; rfl
            have g_89 : (ga u_80 1 (ga u_80 31 (u_80.1 24))).toInt = (ga u_67 1 (ga u_67 31 (u_67.1 24))).toInt := by show (u_80.2.1 1 (u_80.2.1 31 (u_80.1 24).toNatClampNeg).toNatClampNeg).toInt = _; rw [G_u_80.2.1 1 rfl, G_u_80.2.1 31 rfl, G_u_80.1 24 rfl]; rfl
            refine ok_eq (fun c_90 c_90' => ?_) (fun c_90 => ?_)
            · replace p_83 := (p_83.resolve_right (fun q => absurd (q.1.symm.trans c_90) (by decide))).2
              refine ok_mono (kP_SqlReaderModel_readCreate_J99 ih I_u_80 (by have FUe : FU = 100000 := rfl; have B_91 := IP_b I_u_80; have B_92 := IP_b I; omega) (by have FUe : FU = 100000 := rfl; have B_93 := IP_b I_u_80; have B_94 := IP_b I; omega) (by have FUe : FU = 100000 := rfl; have B_95 := IP_b I_u_80; have B_96 := IP_b I; omega) (by have FUe : FU = 100000 := rfl; have B_97 := IP_b I_u_80; have B_98 := IP_b I; omega) (by have FUe : FU = 100000 := rfl; have B_99 := IP_b I_u_80; have B_100 := IP_b I; omega) (by have FUe : FU = 100000 := rfl; have B_101 := IP_b I_u_80; have B_102 := IP_b I; omega) (by have FUe : FU = 100000 := rfl; have B_103 := IP_b I_u_80; have B_104 := IP_b I; omega) (by have FUe : FU = 100000 := rfl; have B_105 := IP_b I_u_80; have B_106 := IP_b I; omega) (by have FUe : FU = 100000 := rfl; have B_107 := IP_b I_u_80; have B_108 := IP_b I; omega)) (fun u_110 z_109 => ?_)
              obtain ⟨I_u_110, G_u_110, p_111, p_112, p_113, p_114, p_115, p_116⟩ := z_109
              have F_u_110 : Fr [2, 24, 30] [31, 32] u u_110 := Fr_tr F_u_80 G_u_110 rfl rfl
              have g_117 : (u_110.1 1).toInt = (u_80.1 1).toInt := by rw [G_u_110.1 1 rfl]
              have g_118 : (u_110.1 4).toInt = (u_80.1 4).toInt := by rw [G_u_110.1 4 rfl]
              exact ⟨I_u_110, F_u_110, (by have B_119 := IP_b I; have B_120 := IP_b I_u_110; omega), (by have B_121 := IP_b I_u_110; omega), (by have B_122 := IP_b I_u_110; have B_123 := IP_b I; omega), (by have B_124 := IP_b I_u_110; have B_125 := IP_b I; omega), (by have B_126 := IP_b I_u_110; have B_127 := IP_b I; omega), (by have B_128 := IP_b I; have B_129 := IP_b I_u_110; omega)⟩
            · replace p_83 := p_83.resolve_left (fun q => c_90 (q.1.trans (by decide)))
              clear c_90
              refine ok_mono (kP_SqlReaderModel_readCreate_J99 ih I_u_80 (by have FUe : FU = 100000 := rfl; have B_130 := IP_b I_u_80; have B_131 := IP_b I; omega) (by have FUe : FU = 100000 := rfl; have B_132 := IP_b I_u_80; have B_133 := IP_b I; omega) (by have FUe : FU = 100000 := rfl; have B_134 := IP_b I_u_80; have B_135 := IP_b I; omega) (by have FUe : FU = 100000 := rfl; have B_136 := IP_b I_u_80; have B_137 := IP_b I; omega) (by have FUe : FU = 100000 := rfl; have B_138 := IP_b I_u_80; have B_139 := IP_b I; omega) (by have FUe : FU = 100000 := rfl; have B_140 := IP_b I_u_80; have B_141 := IP_b I; omega) (by have FUe : FU = 100000 := rfl; have B_142 := IP_b I_u_80; have B_143 := IP_b I; omega) (by have FUe : FU = 100000 := rfl; have B_144 := IP_b I_u_80; have B_145 := IP_b I; omega) (by have FUe : FU = 100000 := rfl; have B_146 := IP_b I_u_80; have B_147 := IP_b I; omega)) (fun u_149 z_148 => ?_)
              obtain ⟨I_u_149, G_u_149, p_150, p_151, p_152, p_153, p_154, p_155⟩ := z_148
              have F_u_149 : Fr [2, 24, 30] [31, 32] u u_149 := Fr_tr F_u_80 G_u_149 rfl rfl
              have g_156 : (u_149.1 1).toInt = (u_80.1 1).toInt := by rw [G_u_149.1 1 rfl]
              have g_157 : (u_149.1 4).toInt = (u_80.1 4).toInt := by rw [G_u_149.1 4 rfl]
              exact ⟨I_u_149, F_u_149, (by have B_158 := IP_b I; have B_159 := IP_b I_u_149; omega), (by have B_160 := IP_b I_u_149; omega), (by have B_161 := IP_b I_u_149; have B_162 := IP_b I; omega), (by have B_163 := IP_b I_u_149; have B_164 := IP_b I; omega), (by have B_165 := IP_b I_u_149; have B_166 := IP_b I; omega), (by have B_167 := IP_b I; have B_168 := IP_b I_u_149; omega)⟩
          · replace p_70 := p_70.resolve_left (fun q => c_77 (q.1.trans (by decide)))
            clear c_77
            refine ok_mono (kP_SqlReaderModel_readCreate_J99 ih I_u_67 (by have FUe : FU = 100000 := rfl; have B_169 := IP_b I_u_67; have B_170 := IP_b I; omega) (by have FUe : FU = 100000 := rfl; have B_171 := IP_b I_u_67; have B_172 := IP_b I; omega) (by have FUe : FU = 100000 := rfl; have B_173 := IP_b I_u_67; have B_174 := IP_b I; omega) (by have FUe : FU = 100000 := rfl; have B_175 := IP_b I_u_67; have B_176 := IP_b I; omega) (by have FUe : FU = 100000 := rfl; have B_177 := IP_b I_u_67; have B_178 := IP_b I; omega) (by have FUe : FU = 100000 := rfl; have B_179 := IP_b I_u_67; have B_180 := IP_b I; omega) (by have FUe : FU = 100000 := rfl; have B_181 := IP_b I_u_67; have B_182 := IP_b I; omega) (by have FUe : FU = 100000 := rfl; have B_183 := IP_b I_u_67; have B_184 := IP_b I; omega) (by have FUe : FU = 100000 := rfl; have B_185 := IP_b I_u_67; have B_186 := IP_b I; omega)) (fun u_188 z_187 => ?_)
            obtain ⟨I_u_188, G_u_188, p_189, p_190, p_191, p_192, p_193, p_194⟩ := z_187
            have F_u_188 : Fr [2, 24, 30] [31, 32] u u_188 := Fr_tr F_u_67 G_u_188 rfl rfl
            have g_195 : (u_188.1 1).toInt = (u_67.1 1).toInt := by rw [G_u_188.1 1 rfl]
            have g_196 : (u_188.1 4).toInt = (u_67.1 4).toInt := by rw [G_u_188.1 4 rfl]
            exact ⟨I_u_188, F_u_188, (by have B_197 := IP_b I; have B_198 := IP_b I_u_188; omega), (by have B_199 := IP_b I_u_188; omega), (by have B_200 := IP_b I_u_188; have B_201 := IP_b I; omega), (by have B_202 := IP_b I_u_188; have B_203 := IP_b I; omega), (by have B_204 := IP_b I_u_188; have B_205 := IP_b I; omega), (by have B_206 := IP_b I; have B_207 := IP_b I_u_188; omega)⟩
        · replace p_57 := p_57.resolve_left (fun q => c_64 (q.1.trans (by decide)))
          clear c_64
          refine ok_mono (kP_SqlReaderModel_readCreate_J99 ih I_u_54 (by have FUe : FU = 100000 := rfl; have B_208 := IP_b I_u_54; have B_209 := IP_b I; omega) (by have FUe : FU = 100000 := rfl; have B_210 := IP_b I_u_54; have B_211 := IP_b I; omega) (by have FUe : FU = 100000 := rfl; have B_212 := IP_b I_u_54; have B_213 := IP_b I; omega) (by have FUe : FU = 100000 := rfl; have B_214 := IP_b I_u_54; have B_215 := IP_b I; omega) (by have FUe : FU = 100000 := rfl; have B_216 := IP_b I_u_54; have B_217 := IP_b I; omega) (by have FUe : FU = 100000 := rfl; have B_218 := IP_b I_u_54; have B_219 := IP_b I; omega) (by have FUe : FU = 100000 := rfl; have B_220 := IP_b I_u_54; have B_221 := IP_b I; omega) (by have FUe : FU = 100000 := rfl; have B_222 := IP_b I_u_54; have B_223 := IP_b I; omega) (by have FUe : FU = 100000 := rfl; have B_224 := IP_b I_u_54; have B_225 := IP_b I; omega)) (fun u_227 z_226 => ?_)
          obtain ⟨I_u_227, G_u_227, p_228, p_229, p_230, p_231, p_232, p_233⟩ := z_226
          have F_u_227 : Fr [2, 24, 30] [31, 32] u u_227 := Fr_tr F_u_54 G_u_227 rfl rfl
          have g_234 : (u_227.1 1).toInt = (u_54.1 1).toInt := by rw [G_u_227.1 1 rfl]
          have g_235 : (u_227.1 4).toInt = (u_54.1 4).toInt := by rw [G_u_227.1 4 rfl]
          exact ⟨I_u_227, F_u_227, (by have B_236 := IP_b I; have B_237 := IP_b I_u_227; omega), (by have B_238 := IP_b I_u_227; omega), (by have B_239 := IP_b I_u_227; have B_240 := IP_b I; omega), (by have B_241 := IP_b I_u_227; have B_242 := IP_b I; omega), (by have B_243 := IP_b I_u_227; have B_244 := IP_b I; omega), (by have B_245 := IP_b I; have B_246 := IP_b I_u_227; omega)⟩
      · refine ok_bP (kP_SqlReaderModel_need I (by decide)) (fun u_248 z_247 => ?_)
        obtain ⟨I_u_248, G_u_248, p_249, p_250⟩ := z_247
        have F_u_248 : Fr [2, 24, 30] [31, 32] u u_248 := Fr_tr (Fr_rfl u) G_u_248 rfl rfl
        have g_251 : (u_248.1 1).toInt = (u.1 1).toInt := by rw [G_u_248.1 1 rfl]
        have g_252 : (u_248.1 4).toInt = (u.1 4).toInt := by rw [G_u_248.1 4 rfl]
        have g_253 : (u_248.1 24).toInt = (u.1 24).toInt := by rw [G_u_248.1 24 rfl]
        have Q_u_248_24 : u_248.1 24 = u.1 24 := G_u_248.1 24 rfl
        have g_254 : (ga u_248 31 (u_248.1 24)).toInt = (ga u 31 (u.1 24)).toInt := by show (u_248.2.1 31 (u_248.1 24).toNatClampNeg).toInt = _; rw [G_u_248.2.1 31 rfl, G_u_248.1 24 rfl]; rfl
        have g_255 : (ga u_248 1 (ga u_248 31 (u_248.1 24))).toInt = (ga u 1 (ga u 31 (u.1 24))).toInt := by show (u_248.2.1 1 (u_248.2.1 31 (u_248.1 24).toNatClampNeg).toNatClampNeg).toInt = _; rw [G_u_248.2.1 1 rfl, G_u_248.2.1 31 rfl, G_u_248.1 24 rfl]; rfl
        exact ok_some ⟨I_u_248, F_u_248, (by have B_256 := IP_b I; have B_257 := IP_b I_u_248; omega), (by have B_258 := IP_b I_u_248; omega), (by have B_259 := IP_b I_u_248; have B_260 := IP_b I; omega), (by have B_261 := IP_b I_u_248; have B_262 := IP_b I; omega), (by have B_263 := IP_b I_u_248; have B_264 := IP_b I; omega), (by have B_265 := IP_b I; have B_266 := IP_b I_u_248; omega)⟩
theorem kP_SqlReaderModel_readCreate {u : St} (I : IP u) (h0 : (u.1 4).toInt ≤ 185000) (h1 : (u.1 2).toInt = 1 ∨ ((u.1 4).toInt ≤ 100000 + 40 * (u.1 30).toInt ∧ (u.1 30).toInt ≤ (u.1 1).toInt)) (h2 : (u.1 30).toInt ≤ 3790) (h3 : (u.1 24).toInt = 0) (h4 : (u.1 2).toInt = 1 ∨ 1 ≤ (u.1 30).toInt) : ok (mM_SqlReaderModel_readCreate u) (fun v => IP v ∧ Fr [2, 5, 7, 10, 12, 24, 26, 27, 30] [18, 19, 20, 31, 32] u v ∧ (u.1 2).toInt ≤ (v.1 2).toInt ∧ (v.1 4).toInt ≤ 185000 ∧ ((v.1 2).toInt = 1 ∨ ((v.1 4).toInt ≤ 100000 + 40 * (v.1 30).toInt ∧ (v.1 30).toInt ≤ (u.1 1).toInt)) ∧ ((v.1 30).toInt ≤ (u.1 30).toInt + 2 ∨ (v.1 30).toInt ≤ (u.1 1).toInt + 2) ∧ ((v.1 2).toInt = 1 ∨ (u.1 30).toInt ≤ (v.1 30).toInt)) := by
  have l0 : (0 : Int32).toInt = 0 := by decide
  have l1 : (1 : Int32).toInt = 1 := by decide
  have l2 : (2 : Int32).toInt = 2 := by decide
  have l3 : (3 : Int32).toInt = 3 := by decide
  have l4 : (4 : Int32).toInt = 4 := by decide
  have l6 : (6 : Int32).toInt = 6 := by decide
  have l7 : (7 : Int32).toInt = 7 := by decide
  have l9 : (9 : Int32).toInt = 9 := by decide
  have l10 : (10 : Int32).toInt = 10 := by decide
  have l24 : (24 : Int32).toInt = 24 := by decide
  have l26 : (26 : Int32).toInt = 26 := by decide
  have l30 : (30 : Int32).toInt = 30 := by decide
  have l40 : (40 : Int32).toInt = 40 := by decide
  have l79 : (79 : Int32).toInt = 79 := by decide
  have l88 : (88 : Int32).toInt = 88 := by decide
  have l124 : (124 : Int32).toInt = 124 := by decide
  have l128 : (128 : Int32).toInt = 128 := by decide
  have l129 : (129 : Int32).toInt = 129 := by decide
  have l130 : (130 : Int32).toInt = 130 := by decide
  have l200 : (200 : Int32).toInt = 200 := by decide
  have l1000 : (1000 : Int32).toInt = 1000 := by decide
  have l2100 : (2100 : Int32).toInt = 2100 := by decide
  have l3800 : (3800 : Int32).toInt = 3800 := by decide
  have l3900 : (3900 : Int32).toInt = 3900 := by decide
  have l100000 : (100000 : Int32).toInt = 100000 := by decide
  have l185000 : (185000 : Int32).toInt = 185000 := by decide
  rw [mM_SqlReaderModel_readCreate]
  refine ok_bM (kP_SqlReaderModel_takes I (by decide)) (fun r_2 u_3 z_1 => ?_)
  obtain ⟨I_u_3, G_u_3, p_4, p_5, p_6⟩ := z_1
  have F_u_3 : Fr [2, 5, 7, 10, 12, 24, 26, 27, 30] [18, 19, 20, 31, 32] u u_3 := Fr_tr (Fr_rfl u) G_u_3 rfl rfl
  have g_7 : (u_3.1 1).toInt = (u.1 1).toInt := by rw [G_u_3.1 1 rfl]
  have g_8 : (u_3.1 2).toInt = (u.1 2).toInt := by rw [G_u_3.1 2 rfl]
  have g_9 : (u_3.1 4).toInt = (u.1 4).toInt := by rw [G_u_3.1 4 rfl]
  have g_10 : (u_3.1 10).toInt = (u.1 10).toInt := by rw [G_u_3.1 10 rfl]
  have g_11 : (u_3.1 24).toInt = (u.1 24).toInt := by rw [G_u_3.1 24 rfl]
  have g_12 : (u_3.1 26).toInt = (u.1 26).toInt := by rw [G_u_3.1 26 rfl]
  refine ok_eq (fun c_13 c_13' => ?_) (fun c_13 => ?_)
  · replace p_6 := (p_6.resolve_right (fun q => absurd (q.1.symm.trans c_13) (by decide))).2
    refine ok_seq (fun u_15 h_14 => ?_)
    have I_u_15 : IP u_15 := by rw [h_14]; exact IP_s7 I_u_3 (by have B_16 := IP_b I_u_3; omega)
    have F_u_15 : Fr [2, 5, 7, 10, 12, 24, 26, 27, 30] [18, 19, 20, 31, 32] u u_15 := by rw [h_14]; exact Fr_ss F_u_3 rfl rfl
    have g_17 : (u_15.1 7).toInt = (2 : Int32).toInt := by rw [h_14]; rfl
    have g_18 : (u_15.1 1).toInt = (u_3.1 1).toInt := by rw [h_14]; rfl
    have g_19 : (u_15.1 2).toInt = (u_3.1 2).toInt := by rw [h_14]; rfl
    have g_20 : (u_15.1 4).toInt = (u_3.1 4).toInt := by rw [h_14]; rfl
    have g_21 : (u_15.1 30).toInt = (u_3.1 30).toInt := by rw [h_14]; rfl
    have g_22 : (u_15.1 10).toInt = (u_3.1 10).toInt := by rw [h_14]; rfl
    have g_23 : (u_15.1 24).toInt = (u_3.1 24).toInt := by rw [h_14]; rfl
    have g_24 : (u_15.1 26).toInt = (u_3.1 26).toInt := by rw [h_14]; rfl
    refine ok_bM (kP_SqlReaderModel_takes I_u_15 (by decide)) (fun r_26 u_27 z_25 => ?_)
    obtain ⟨I_u_27, G_u_27, p_28, p_29, p_30⟩ := z_25
    have F_u_27 : Fr [2, 5, 7, 10, 12, 24, 26, 27, 30] [18, 19, 20, 31, 32] u u_27 := Fr_tr F_u_15 G_u_27 rfl rfl
    have g_31 : (u_27.1 1).toInt = (u_15.1 1).toInt := by rw [G_u_27.1 1 rfl]
    have g_32 : (u_27.1 2).toInt = (u_15.1 2).toInt := by rw [G_u_27.1 2 rfl]
    have g_33 : (u_27.1 4).toInt = (u_15.1 4).toInt := by rw [G_u_27.1 4 rfl]
    have g_34 : (u_27.1 10).toInt = (u_15.1 10).toInt := by rw [G_u_27.1 10 rfl]
    have g_35 : (u_27.1 24).toInt = (u_15.1 24).toInt := by rw [G_u_27.1 24 rfl]
    have g_36 : (u_27.1 26).toInt = (u_15.1 26).toInt := by rw [G_u_27.1 26 rfl]
    refine ok_gd (zb_of (by omega) (by omega)) ?_
    refine ok_seq (fun u_38 h_37 => ?_)
    have I_u_38 : IP u_38 := by rw [h_37]; exact IP_s27 I_u_27 (by have B_39 := IP_b I_u_27; omega) (by have B_40 := IP_b I_u_27; omega)
    have F_u_38 : Fr [2, 5, 7, 10, 12, 24, 26, 27, 30] [18, 19, 20, 31, 32] u u_38 := by rw [h_37]; exact Fr_ss F_u_27 rfl rfl
    have g_41 : (u_38.1 27).toInt = (r_26 : Int32).toInt := by rw [h_37]; rfl
    have g_42 : (u_38.1 1).toInt = (u_27.1 1).toInt := by rw [h_37]; rfl
    have g_43 : (u_38.1 2).toInt = (u_27.1 2).toInt := by rw [h_37]; rfl
    have g_44 : (u_38.1 4).toInt = (u_27.1 4).toInt := by rw [h_37]; rfl
    have g_45 : (u_38.1 30).toInt = (u_27.1 30).toInt := by rw [h_37]; rfl
    have g_46 : (u_38.1 10).toInt = (u_27.1 10).toInt := by rw [h_37]; rfl
    have g_47 : (u_38.1 24).toInt = (u_27.1 24).toInt := by rw [h_37]; rfl
    have g_48 : (u_38.1 26).toInt = (u_27.1 26).toInt := by rw [h_37]; rfl
    refine ok_bP (kP_SqlReaderModel_need I_u_38 (by decide)) (fun u_50 z_49 => ?_)
    obtain ⟨I_u_50, G_u_50, p_51, p_52⟩ := z_49
    have F_u_50 : Fr [2, 5, 7, 10, 12, 24, 26, 27, 30] [18, 19, 20, 31, 32] u u_50 := Fr_tr F_u_38 G_u_50 rfl rfl
    have g_53 : (u_50.1 1).toInt = (u_38.1 1).toInt := by rw [G_u_50.1 1 rfl]
    have g_54 : (u_50.1 4).toInt = (u_38.1 4).toInt := by rw [G_u_50.1 4 rfl]
    have g_55 : (u_50.1 10).toInt = (u_38.1 10).toInt := by rw [G_u_50.1 10 rfl]
    have g_56 : (u_50.1 24).toInt = (u_38.1 24).toInt := by rw [G_u_50.1 24 rfl]
    have g_57 : (u_50.1 26).toInt = (u_38.1 26).toInt := by rw [G_u_50.1 26 rfl]
    refine ok_bP (kP_SqlReaderModel_need I_u_50 (by decide)) (fun u_59 z_58 => ?_)
    obtain ⟨I_u_59, G_u_59, p_60, p_61⟩ := z_58
    have F_u_59 : Fr [2, 5, 7, 10, 12, 24, 26, 27, 30] [18, 19, 20, 31, 32] u u_59 := Fr_tr F_u_50 G_u_59 rfl rfl
    have g_62 : (u_59.1 1).toInt = (u_50.1 1).toInt := by rw [G_u_59.1 1 rfl]
    have g_63 : (u_59.1 4).toInt = (u_50.1 4).toInt := by rw [G_u_59.1 4 rfl]
    have g_64 : (u_59.1 10).toInt = (u_50.1 10).toInt := by rw [G_u_59.1 10 rfl]
    have g_65 : (u_59.1 24).toInt = (u_50.1 24).toInt := by rw [G_u_59.1 24 rfl]
    have g_66 : (u_59.1 26).toInt = (u_50.1 26).toInt := by rw [G_u_59.1 26 rfl]
    refine ok_bM (kP_SqlReaderModel_needName I_u_59 (by have FUe : FU = 100000 := rfl; have B_68 := IP_b I_u_59; have B_69 := IP_b I; omega)) (fun r_70 u_71 z_67 => ?_)
    obtain ⟨I_u_71, G_u_71, p_72, p_73, p_74, p_75⟩ := z_67
    have F_u_71 : Fr [2, 5, 7, 10, 12, 24, 26, 27, 30] [18, 19, 20, 31, 32] u u_71 := Fr_tr F_u_59 G_u_71 rfl rfl
    have g_76 : (u_71.1 1).toInt = (u_59.1 1).toInt := by rw [G_u_71.1 1 rfl]
    have g_77 : (u_71.1 4).toInt = (u_59.1 4).toInt := by rw [G_u_71.1 4 rfl]
    have g_78 : (u_71.1 10).toInt = (u_59.1 10).toInt := by rw [G_u_71.1 10 rfl]
    have g_79 : (u_71.1 24).toInt = (u_59.1 24).toInt := by rw [G_u_71.1 24 rfl]
    have g_80 : (u_71.1 26).toInt = (u_59.1 26).toInt := by rw [G_u_71.1 26 rfl]
    have n_81 : 0 ≤ r_70.toInt := by have B_82 := IP_b I_u_59; omega
    refine ok_seq (fun u_84 h_83 => ?_)
    have I_u_84 : IP u_84 := by rw [h_83]; exact IP_s10 I_u_71 (by have B_85 := IP_b I_u_71; omega) (by have B_86 := IP_b I_u_71; omega) (by have B_87 := IP_b I_u_71; omega)
    have F_u_84 : Fr [2, 5, 7, 10, 12, 24, 26, 27, 30] [18, 19, 20, 31, 32] u u_84 := by rw [h_83]; exact Fr_ss F_u_71 rfl rfl
    have g_88 : (u_84.1 10).toInt = (r_70 : Int32).toInt := by rw [h_83]; rfl
    have g_89 : (u_84.1 1).toInt = (u_71.1 1).toInt := by rw [h_83]; rfl
    have g_90 : (u_84.1 2).toInt = (u_71.1 2).toInt := by rw [h_83]; rfl
    have g_91 : (u_84.1 4).toInt = (u_71.1 4).toInt := by rw [h_83]; rfl
    have g_92 : (u_84.1 30).toInt = (u_71.1 30).toInt := by rw [h_83]; rfl
    have g_93 : (u_84.1 24).toInt = (u_71.1 24).toInt := by rw [h_83]; rfl
    have g_94 : (u_84.1 26).toInt = (u_71.1 26).toInt := by rw [h_83]; rfl
    refine ok_bP (kP_SqlReaderModel_need I_u_84 (by decide)) (fun u_96 z_95 => ?_)
    obtain ⟨I_u_96, G_u_96, p_97, p_98⟩ := z_95
    have F_u_96 : Fr [2, 5, 7, 10, 12, 24, 26, 27, 30] [18, 19, 20, 31, 32] u u_96 := Fr_tr F_u_84 G_u_96 rfl rfl
    have g_99 : (u_96.1 1).toInt = (u_84.1 1).toInt := by rw [G_u_96.1 1 rfl]
    have g_100 : (u_96.1 4).toInt = (u_84.1 4).toInt := by rw [G_u_96.1 4 rfl]
    have g_101 : (u_96.1 10).toInt = (u_84.1 10).toInt := by rw [G_u_96.1 10 rfl]
    have g_102 : (u_96.1 24).toInt = (u_84.1 24).toInt := by rw [G_u_96.1 24 rfl]
    have g_103 : (u_96.1 26).toInt = (u_84.1 26).toInt := by rw [G_u_96.1 26 rfl]
    refine ok_bM (kP_SqlReaderModel_needName I_u_96 (by have FUe : FU = 100000 := rfl; have B_105 := IP_b I_u_96; have B_106 := IP_b I; omega)) (fun r_107 u_108 z_104 => ?_)
    obtain ⟨I_u_108, G_u_108, p_109, p_110, p_111, p_112⟩ := z_104
    have F_u_108 : Fr [2, 5, 7, 10, 12, 24, 26, 27, 30] [18, 19, 20, 31, 32] u u_108 := Fr_tr F_u_96 G_u_108 rfl rfl
    have g_113 : (u_108.1 1).toInt = (u_96.1 1).toInt := by rw [G_u_108.1 1 rfl]
    have g_114 : (u_108.1 4).toInt = (u_96.1 4).toInt := by rw [G_u_108.1 4 rfl]
    have g_115 : (u_108.1 10).toInt = (u_96.1 10).toInt := by rw [G_u_108.1 10 rfl]
    have g_116 : (u_108.1 24).toInt = (u_96.1 24).toInt := by rw [G_u_108.1 24 rfl]
    have g_117 : (u_108.1 26).toInt = (u_96.1 26).toInt := by rw [G_u_108.1 26 rfl]
    have n_118 : 0 ≤ r_107.toInt := by have B_119 := IP_b I_u_96; omega
    refine ok_seq (fun u_121 h_120 => ?_)
    have I_u_121 : IP u_121 := by rw [h_120]; exact IP_s26 I_u_108 (by have B_122 := IP_b I_u_108; omega) (by have B_123 := IP_b I_u_108; omega) (by have B_124 := IP_b I_u_108; omega)
    have F_u_121 : Fr [2, 5, 7, 10, 12, 24, 26, 27, 30] [18, 19, 20, 31, 32] u u_121 := by rw [h_120]; exact Fr_ss F_u_108 rfl rfl
    have g_125 : (u_121.1 26).toInt = (r_107 : Int32).toInt := by rw [h_120]; rfl
    have g_126 : (u_121.1 1).toInt = (u_108.1 1).toInt := by rw [h_120]; rfl
    have g_127 : (u_121.1 2).toInt = (u_108.1 2).toInt := by rw [h_120]; rfl
    have g_128 : (u_121.1 4).toInt = (u_108.1 4).toInt := by rw [h_120]; rfl
    have g_129 : (u_121.1 30).toInt = (u_108.1 30).toInt := by rw [h_120]; rfl
    have g_130 : (u_121.1 10).toInt = (u_108.1 10).toInt := by rw [h_120]; rfl
    have g_131 : (u_121.1 24).toInt = (u_108.1 24).toInt := by rw [h_120]; rfl
    refine ok_bP (kP_SqlReaderModel_note I_u_121 (by have FUe : FU = 100000 := rfl; have B_133 := IP_b I_u_121; have B_134 := IP_b I; omega) (by have FUe : FU = 100000 := rfl; have B_135 := IP_b I_u_121; have B_136 := IP_b I; omega) (by have FUe : FU = 100000 := rfl; have B_137 := IP_b I_u_121; have B_138 := IP_b I; omega) (by have FUe : FU = 100000 := rfl; have B_139 := IP_b I_u_121; have B_140 := IP_b I; omega) (by have FUe : FU = 100000 := rfl; have B_141 := IP_b I_u_121; have B_142 := IP_b I; omega)) (fun u_143 z_132 => ?_)
    obtain ⟨I_u_143, G_u_143⟩ := z_132
    have F_u_143 : Fr [2, 5, 7, 10, 12, 24, 26, 27, 30] [18, 19, 20, 31, 32] u u_143 := Fr_tr F_u_121 G_u_143 rfl rfl
    have g_144 : (u_143.1 1).toInt = (u_121.1 1).toInt := by rw [G_u_143.1 1 rfl]
    have g_145 : (u_143.1 2).toInt = (u_121.1 2).toInt := by rw [G_u_143.1 2 rfl]
    have g_146 : (u_143.1 4).toInt = (u_121.1 4).toInt := by rw [G_u_143.1 4 rfl]
    have g_147 : (u_143.1 30).toInt = (u_121.1 30).toInt := by rw [G_u_143.1 30 rfl]
    have g_148 : (u_143.1 10).toInt = (u_121.1 10).toInt := by rw [G_u_143.1 10 rfl]
    have g_149 : (u_143.1 24).toInt = (u_121.1 24).toInt := by rw [G_u_143.1 24 rfl]
    have g_150 : (u_143.1 26).toInt = (u_121.1 26).toInt := by rw [G_u_143.1 26 rfl]
    refine ok_bP (kP_SqlReaderModel_need I_u_143 (by decide)) (fun u_152 z_151 => ?_)
    obtain ⟨I_u_152, G_u_152, p_153, p_154⟩ := z_151
    have F_u_152 : Fr [2, 5, 7, 10, 12, 24, 26, 27, 30] [18, 19, 20, 31, 32] u u_152 := Fr_tr F_u_143 G_u_152 rfl rfl
    have g_155 : (u_152.1 1).toInt = (u_143.1 1).toInt := by rw [G_u_152.1 1 rfl]
    have g_156 : (u_152.1 4).toInt = (u_143.1 4).toInt := by rw [G_u_152.1 4 rfl]
    have g_157 : (u_152.1 10).toInt = (u_143.1 10).toInt := by rw [G_u_152.1 10 rfl]
    have g_158 : (u_152.1 24).toInt = (u_143.1 24).toInt := by rw [G_u_152.1 24 rfl]
    have g_159 : (u_152.1 26).toInt = (u_143.1 26).toInt := by rw [G_u_152.1 26 rfl]
    exact ok_some ⟨I_u_152, F_u_152, (by have B_160 := IP_b I; have B_161 := IP_b I_u_152; omega), (by have B_162 := IP_b I_u_152; omega), (by have B_163 := IP_b I_u_152; have B_164 := IP_b I; omega), (by have B_165 := IP_b I_u_152; have B_166 := IP_b I; omega), (by have B_167 := IP_b I_u_152; have B_168 := IP_b I; omega)⟩
  · replace p_6 := p_6.resolve_left (fun q => c_13 (q.1.trans (by decide)))
    clear c_13
    refine ok_seq (fun u_170 h_169 => ?_)
    have I_u_170 : IP u_170 := by rw [h_169]; exact IP_s7 I_u_3 (by have B_171 := IP_b I_u_3; omega)
    have F_u_170 : Fr [2, 5, 7, 10, 12, 24, 26, 27, 30] [18, 19, 20, 31, 32] u u_170 := by rw [h_169]; exact Fr_ss F_u_3 rfl rfl
    have g_172 : (u_170.1 7).toInt = (1 : Int32).toInt := by rw [h_169]; rfl
    have g_173 : (u_170.1 1).toInt = (u_3.1 1).toInt := by rw [h_169]; rfl
    have g_174 : (u_170.1 2).toInt = (u_3.1 2).toInt := by rw [h_169]; rfl
    have g_175 : (u_170.1 4).toInt = (u_3.1 4).toInt := by rw [h_169]; rfl
    have g_176 : (u_170.1 30).toInt = (u_3.1 30).toInt := by rw [h_169]; rfl
    have g_177 : (u_170.1 10).toInt = (u_3.1 10).toInt := by rw [h_169]; rfl
    have g_178 : (u_170.1 24).toInt = (u_3.1 24).toInt := by rw [h_169]; rfl
    have g_179 : (u_170.1 26).toInt = (u_3.1 26).toInt := by rw [h_169]; rfl
    refine ok_bM (kP_SqlReaderModel_needName I_u_170 (by have FUe : FU = 100000 := rfl; have B_181 := IP_b I_u_170; have B_182 := IP_b I; omega)) (fun r_183 u_184 z_180 => ?_)
    obtain ⟨I_u_184, G_u_184, p_185, p_186, p_187, p_188⟩ := z_180
    have F_u_184 : Fr [2, 5, 7, 10, 12, 24, 26, 27, 30] [18, 19, 20, 31, 32] u u_184 := Fr_tr F_u_170 G_u_184 rfl rfl
    have g_189 : (u_184.1 1).toInt = (u_170.1 1).toInt := by rw [G_u_184.1 1 rfl]
    have g_190 : (u_184.1 4).toInt = (u_170.1 4).toInt := by rw [G_u_184.1 4 rfl]
    have g_191 : (u_184.1 10).toInt = (u_170.1 10).toInt := by rw [G_u_184.1 10 rfl]
    have g_192 : (u_184.1 24).toInt = (u_170.1 24).toInt := by rw [G_u_184.1 24 rfl]
    have g_193 : (u_184.1 26).toInt = (u_170.1 26).toInt := by rw [G_u_184.1 26 rfl]
    have n_194 : 0 ≤ r_183.toInt := by have B_195 := IP_b I_u_170; omega
    refine ok_seq (fun u_197 h_196 => ?_)
    have I_u_197 : IP u_197 := by rw [h_196]; exact IP_s12 I_u_184 (by have B_198 := IP_b I_u_184; omega) (by have B_199 := IP_b I_u_184; omega) (by have B_200 := IP_b I_u_184; omega)
    have F_u_197 : Fr [2, 5, 7, 10, 12, 24, 26, 27, 30] [18, 19, 20, 31, 32] u u_197 := by rw [h_196]; exact Fr_ss F_u_184 rfl rfl
    have g_201 : (u_197.1 12).toInt = (r_183 : Int32).toInt := by rw [h_196]; rfl
    have g_202 : (u_197.1 1).toInt = (u_184.1 1).toInt := by rw [h_196]; rfl
    have g_203 : (u_197.1 2).toInt = (u_184.1 2).toInt := by rw [h_196]; rfl
    have g_204 : (u_197.1 4).toInt = (u_184.1 4).toInt := by rw [h_196]; rfl
    have g_205 : (u_197.1 30).toInt = (u_184.1 30).toInt := by rw [h_196]; rfl
    have g_206 : (u_197.1 10).toInt = (u_184.1 10).toInt := by rw [h_196]; rfl
    have g_207 : (u_197.1 24).toInt = (u_184.1 24).toInt := by rw [h_196]; rfl
    have g_208 : (u_197.1 26).toInt = (u_184.1 26).toInt := by rw [h_196]; rfl
    refine ok_bP (kP_SqlReaderModel_need I_u_197 (by decide)) (fun u_210 z_209 => ?_)
    obtain ⟨I_u_210, G_u_210, p_211, p_212⟩ := z_209
    have F_u_210 : Fr [2, 5, 7, 10, 12, 24, 26, 27, 30] [18, 19, 20, 31, 32] u u_210 := Fr_tr F_u_197 G_u_210 rfl rfl
    have g_213 : (u_210.1 1).toInt = (u_197.1 1).toInt := by rw [G_u_210.1 1 rfl]
    have g_214 : (u_210.1 4).toInt = (u_197.1 4).toInt := by rw [G_u_210.1 4 rfl]
    have g_215 : (u_210.1 10).toInt = (u_197.1 10).toInt := by rw [G_u_210.1 10 rfl]
    have g_216 : (u_210.1 24).toInt = (u_197.1 24).toInt := by rw [G_u_210.1 24 rfl]
    have g_217 : (u_210.1 26).toInt = (u_197.1 26).toInt := by rw [G_u_210.1 26 rfl]
    refine ok_mono (kP_SqlReaderModel_readCreate_L32 _ I_u_210 (by have FUe : FU = 100000 := rfl; have B_218 := IP_b I_u_210; have B_219 := IP_b I; omega) (by have FUe : FU = 100000 := rfl; have B_220 := IP_b I_u_210; have B_221 := IP_b I; omega) (by have FUe : FU = 100000 := rfl; have B_222 := IP_b I_u_210; have B_223 := IP_b I; omega) (by have FUe : FU = 100000 := rfl; have B_224 := IP_b I_u_210; have B_225 := IP_b I; omega) (by have FUe : FU = 100000 := rfl; have B_226 := IP_b I_u_210; have B_227 := IP_b I; omega) (by have FUe : FU = 100000 := rfl; have B_228 := IP_b I_u_210; have B_229 := IP_b I; omega) (by have FUe : FU = 100000 := rfl; have B_230 := IP_b I_u_210; have B_231 := IP_b I; omega) (by have FUe : FU = 100000 := rfl; have B_232 := IP_b I_u_210; have B_233 := IP_b I; omega)) (fun u_235 z_234 => ?_)
    obtain ⟨I_u_235, G_u_235, p_236, p_237, p_238, p_239, p_240, p_241⟩ := z_234
    have F_u_235 : Fr [2, 5, 7, 10, 12, 24, 26, 27, 30] [18, 19, 20, 31, 32] u u_235 := Fr_tr F_u_210 G_u_235 rfl rfl
    have g_242 : (u_235.1 1).toInt = (u_210.1 1).toInt := by rw [G_u_235.1 1 rfl]
    have g_243 : (u_235.1 4).toInt = (u_210.1 4).toInt := by rw [G_u_235.1 4 rfl]
    have g_244 : (u_235.1 10).toInt = (u_210.1 10).toInt := by rw [G_u_235.1 10 rfl]
    have g_245 : (u_235.1 26).toInt = (u_210.1 26).toInt := by rw [G_u_235.1 26 rfl]
    exact ⟨I_u_235, F_u_235, (by have B_246 := IP_b I; have B_247 := IP_b I_u_235; omega), (by have B_248 := IP_b I_u_235; omega), (by have B_249 := IP_b I_u_235; have B_250 := IP_b I; omega), (by have B_251 := IP_b I_u_235; have B_252 := IP_b I; omega), (by have B_253 := IP_b I_u_235; have B_254 := IP_b I; omega)⟩
theorem kP_SqlReaderModel_readOther_J232 {x1 : Int32} {s1 : Int32} {u : St} (I : IP u) (h0 : (u.1 4).toInt ≤ 185000) (h1 : (u.1 2).toInt = 1 ∨ ((u.1 4).toInt ≤ 100000 + 40 * (u.1 30).toInt ∧ (u.1 30).toInt ≤ (u.1 1).toInt)) (h2 : (u.1 30).toInt ≤ 3800) (h3 : 0 ≤ s1.toInt) (h4 : s1.toInt ≤ 1) (h5 : (u.1 2).toInt ≤ s1.toInt) (h6 : 0 ≤ x1.toInt) (h7 : x1.toInt ≤ 4000) (h8 : s1.toInt = 1 ∨ (x1.toInt < (u.1 1).toInt ∧ (ga u 1 x1).toInt = 2)) (h9 : (u.1 7).toInt ≠ 5 ∨ 0 ≤ (u.1 10).toInt) : ok (mM_SqlReaderModel_readOther_J232 x1 s1 u) (fun v => IP v ∧ Fr [2, 7, 8, 12] [] u v ∧ (u.1 2).toInt ≤ (v.1 2).toInt ∧ (v.1 4).toInt ≤ 185000 ∧ ((v.1 2).toInt = 1 ∨ ((v.1 4).toInt ≤ 100000 + 40 * (v.1 30).toInt ∧ (v.1 30).toInt ≤ (u.1 1).toInt)) ∧ ((v.1 30).toInt ≤ (u.1 30).toInt + 0 ∨ (v.1 30).toInt ≤ (u.1 1).toInt + 0) ∧ ((v.1 2).toInt = 1 ∨ (u.1 30).toInt ≤ (v.1 30).toInt)) := by
  have l0 : (0 : Int32).toInt = 0 := by decide
  have l1 : (1 : Int32).toInt = 1 := by decide
  have l2 : (2 : Int32).toInt = 2 := by decide
  have l4 : (4 : Int32).toInt = 4 := by decide
  have l7 : (7 : Int32).toInt = 7 := by decide
  have l16 : (16 : Int32).toInt = 16 := by decide
  have l30 : (30 : Int32).toInt = 30 := by decide
  have l40 : (40 : Int32).toInt = 40 := by decide
  have l100000 : (100000 : Int32).toInt = 100000 := by decide
  have l185000 : (185000 : Int32).toInt = 185000 := by decide
  rw [mM_SqlReaderModel_readOther_J232]
  refine ok_gd (zb_of (by omega) (by omega)) ?_
  refine ok_seq (fun u_2 h_1 => ?_)
  have I_u_2 : IP u_2 := by rw [h_1]; exact IP_bad I (by have B_3 := IP_b I; omega) (by have B_4 := IP_b I; omega) (by have B_5 := IP_b I; omega)
  have F_u_2 : Fr [2, 7, 8, 12] [] u u_2 := by rw [h_1]; exact Fr_ss (Fr_rfl u) rfl rfl
  have g_6 : (ga u_2 1 x1).toInt = (ga u 1 x1).toInt := by rw [h_1]; rfl
  have g_7 : (u_2.1 2).toInt = (s1 : Int32).toInt := by rw [h_1]; rfl
  have g_8 : (u_2.1 1).toInt = (u.1 1).toInt := by rw [h_1]; rfl
  have g_9 : (u_2.1 4).toInt = (u.1 4).toInt := by rw [h_1]; rfl
  have g_10 : (u_2.1 30).toInt = (u.1 30).toInt := by rw [h_1]; rfl
  have g_11 : (u_2.1 7).toInt = (u.1 7).toInt := by rw [h_1]; rfl
  have g_12 : (u_2.1 10).toInt = (u.1 10).toInt := by rw [h_1]; rfl
  refine ok_seq (fun u_14 h_13 => ?_)
  have I_u_14 : IP u_14 := by rw [h_13]; exact IP_s8 I_u_2 (by have B_15 := IP_b I_u_2; omega)
  have F_u_14 : Fr [2, 7, 8, 12] [] u u_14 := by rw [h_13]; exact Fr_ss F_u_2 rfl rfl
  have g_16 : (ga u_14 1 x1).toInt = (ga u_2 1 x1).toInt := by rw [h_13]; rfl
  have g_17 : (u_14.1 8).toInt = ((u_2.1 7) : Int32).toInt := by rw [h_13]; rfl
  have g_18 : (u_14.1 1).toInt = (u_2.1 1).toInt := by rw [h_13]; rfl
  have g_19 : (u_14.1 2).toInt = (u_2.1 2).toInt := by rw [h_13]; rfl
  have g_20 : (u_14.1 4).toInt = (u_2.1 4).toInt := by rw [h_13]; rfl
  have g_21 : (u_14.1 30).toInt = (u_2.1 30).toInt := by rw [h_13]; rfl
  have g_22 : (u_14.1 7).toInt = (u_2.1 7).toInt := by rw [h_13]; rfl
  have g_23 : (u_14.1 10).toInt = (u_2.1 10).toInt := by rw [h_13]; rfl
  refine ok_seq (fun u_25 h_24 => ?_)
  have I_u_25 : IP u_25 := by rw [h_24]; exact IP_s7 I_u_14 (by have B_26 := IP_b I_u_14; omega)
  have F_u_25 : Fr [2, 7, 8, 12] [] u u_25 := by rw [h_24]; exact Fr_ss F_u_14 rfl rfl
  have g_27 : (ga u_25 1 x1).toInt = (ga u_14 1 x1).toInt := by rw [h_24]; rfl
  have g_28 : (u_25.1 7).toInt = (16 : Int32).toInt := by rw [h_24]; rfl
  have g_29 : (u_25.1 1).toInt = (u_14.1 1).toInt := by rw [h_24]; rfl
  have g_30 : (u_25.1 2).toInt = (u_14.1 2).toInt := by rw [h_24]; rfl
  have g_31 : (u_25.1 4).toInt = (u_14.1 4).toInt := by rw [h_24]; rfl
  have g_32 : (u_25.1 30).toInt = (u_14.1 30).toInt := by rw [h_24]; rfl
  have g_33 : (u_25.1 10).toInt = (u_14.1 10).toInt := by rw [h_24]; rfl
  refine ok_seq (fun u_35 h_34 => ?_)
  have I_u_35 : IP u_35 := by rw [h_34]; exact IP_s12 I_u_25 (by have B_36 := IP_b I_u_25; omega) (by have B_37 := IP_b I_u_25; omega) (by have B_38 := IP_b I_u_25; omega)
  have F_u_35 : Fr [2, 7, 8, 12] [] u u_35 := by rw [h_34]; exact Fr_ss F_u_25 rfl rfl
  have g_39 : (ga u_35 1 x1).toInt = (ga u_25 1 x1).toInt := by rw [h_34]; rfl
  have g_40 : (u_35.1 12).toInt = (x1 : Int32).toInt := by rw [h_34]; rfl
  have g_41 : (u_35.1 1).toInt = (u_25.1 1).toInt := by rw [h_34]; rfl
  have g_42 : (u_35.1 2).toInt = (u_25.1 2).toInt := by rw [h_34]; rfl
  have g_43 : (u_35.1 4).toInt = (u_25.1 4).toInt := by rw [h_34]; rfl
  have g_44 : (u_35.1 30).toInt = (u_25.1 30).toInt := by rw [h_34]; rfl
  have g_45 : (u_35.1 7).toInt = (u_25.1 7).toInt := by rw [h_34]; rfl
  have g_46 : (u_35.1 10).toInt = (u_25.1 10).toInt := by rw [h_34]; rfl
  exact ok_some ⟨I_u_35, F_u_35, (by have B_47 := IP_b I; have B_48 := IP_b I_u_35; omega), (by have B_49 := IP_b I_u_35; omega), (by have B_50 := IP_b I_u_35; have B_51 := IP_b I; omega), (by have B_52 := IP_b I_u_35; have B_53 := IP_b I; omega), (by have B_54 := IP_b I_u_35; have B_55 := IP_b I; omega)⟩
