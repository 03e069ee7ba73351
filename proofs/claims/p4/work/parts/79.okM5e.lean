set_option maxHeartbeats 20000000 in
theorem kP_SqlReaderModel_readCreate_J99 {q32 : Int32 → St → Option (St)} {w : Nat} (hq : ∀ {x1 : Int32} {u : St} (I : IP u) (h0 : (u.1 4).toInt ≤ 185000) (h1 : (u.1 2).toInt = 1 ∨ ((u.1 4).toInt ≤ 100000 + 40 * (u.1 30).toInt ∧ (u.1 30).toInt ≤ (u.1 1).toInt)) (h2 : (u.1 30).toInt ≤ 3800) (h3 : 0 ≤ x1.toInt) (h4 : x1.toInt ≤ 1) (h5 : (u.1 24).toInt ≤ 1000) (h6 : (u.1 2).toInt = 1 ∨ x1.toInt = 0 ∨ 2 * (u.1 24).toInt + 2 ≤ (u.1 30).toInt) (hm : (2 * (2100 - (u.1 30).toInt) + x1.toInt).toNat < w), ok (q32 x1 u) (fun v => IP v ∧ Fr [2, 24, 30] [31, 32] u v ∧ (u.1 2).toInt ≤ (v.1 2).toInt ∧ (v.1 4).toInt ≤ 185000 ∧ ((v.1 2).toInt = 1 ∨ ((v.1 4).toInt ≤ 100000 + 40 * (v.1 30).toInt ∧ (v.1 30).toInt ≤ (u.1 1).toInt)) ∧ ((v.1 30).toInt ≤ (u.1 30).toInt + 1 ∨ (v.1 30).toInt ≤ (u.1 1).toInt + 1) ∧ ((v.1 2).toInt = 1 ∨ (u.1 30).toInt ≤ (v.1 30).toInt) ∧ ((u.1 2).toInt = 0 ∨ (v.1 30).toInt ≤ (u.1 30).toInt + 0 ∨ (v.1 30).toInt ≤ (u.1 1).toInt + 0))) {s0 : Int32} {u : St} (I : IP u) (h0 : (u.1 4).toInt ≤ 185000) (h1 : (u.1 2).toInt = 1 ∨ ((u.1 4).toInt ≤ 100000 + 40 * (u.1 30).toInt ∧ (u.1 30).toInt ≤ (u.1 1).toInt)) (h2 : (u.1 30).toInt ≤ 3800) (h3 : 0 ≤ s0.toInt) (h4 : s0.toInt ≤ 3) (h5 : (u.1 24).toInt ≤ 999) (h6 : (u.1 2).toInt = 1 ∨ 2 * (u.1 24).toInt + 3 ≤ (u.1 30).toInt) (h7 : (u.1 2).toInt = 1 ∨ (0 ≤ (ga u 31 (u.1 24)).toInt ∧ (ga u 31 (u.1 24)).toInt < (u.1 1).toInt ∧ (ga u 1 (ga u 31 (u.1 24))).toInt = 2)) (h8 : (2 * (2100 - (u.1 30).toInt)).toNat < w) : ok (mM_SqlReaderModel_readCreate_J99 q32 s0 u) (fun v => IP v ∧ Fr [2, 24, 30] [31, 32] u v ∧ (u.1 2).toInt ≤ (v.1 2).toInt ∧ (v.1 4).toInt ≤ 185000 ∧ ((v.1 2).toInt = 1 ∨ ((v.1 4).toInt ≤ 100000 + 40 * (v.1 30).toInt ∧ (v.1 30).toInt ≤ (u.1 1).toInt)) ∧ ((v.1 30).toInt ≤ (u.1 30).toInt + 1 ∨ (v.1 30).toInt ≤ (u.1 1).toInt + 1) ∧ ((v.1 2).toInt = 1 ∨ (u.1 30).toInt ≤ (v.1 30).toInt) ∧ ((u.1 2).toInt = 0 ∨ (v.1 30).toInt ≤ (u.1 30).toInt + 0 ∨ (v.1 30).toInt ≤ (u.1 1).toInt + 0)) := by
  have l0 : (0 : Int32).toInt = 0 := by decide
  have l1 : (1 : Int32).toInt = 1 := by decide
  have l2 : (2 : Int32).toInt = 2 := by decide
  have l4 : (4 : Int32).toInt = 4 := by decide
  have l10 : (10 : Int32).toInt = 10 := by decide
  have l20 : (20 : Int32).toInt = 20 := by decide
  have l24 : (24 : Int32).toInt = 24 := by decide
  have l30 : (30 : Int32).toInt = 30 := by decide
  have l40 : (40 : Int32).toInt = 40 := by decide
  have l80 : (80 : Int32).toInt = 80 := by decide
  have l89 : (89 : Int32).toInt = 89 := by decide
  have l100 : (100 : Int32).toInt = 100 := by decide
  have l128 : (128 : Int32).toInt = 128 := by decide
  have l1000 : (1000 : Int32).toInt = 1000 := by decide
  have l2100 : (2100 : Int32).toInt = 2100 := by decide
  have l3800 : (3800 : Int32).toInt = 3800 := by decide
  have l100000 : (100000 : Int32).toInt = 100000 := by decide
  have l185000 : (185000 : Int32).toInt = 185000 := by decide
  rw [mM_SqlReaderModel_readCreate_J99]
  refine ok_eq (fun c_1 c_1' => ?_) (fun c_1 => ?_)
  · refine ok_eq (fun c_2 c_2' => ?_) (fun c_2 => ?_)
    · rw [mM_SqlReaderModel_readCreate_J117]
      refine ok_gd (by decide) ?_
      refine ok_seq (fun u_4 h_3 => ?_)
      have I_u_4 : IP u_4 := by rw [h_3]; exact IP_bad I (by have B_5 := IP_b I; omega) (by have B_6 := IP_b I; omega) (by have B_7 := IP_b I; omega)
      have F_u_4 : Fr [2, 24, 30] [31, 32] u u_4 := by rw [h_3]; exact Fr_ss (Fr_rfl u) rfl rfl
      have Q_u_4_24 : u_4.1 24 = u.1 24 := by rw [h_3]; rfl
      have g_8 : (ga u_4 31 (u_4.1 24)).toInt = (ga u 31 (u.1 24)).toInt := by rw [h_3]; rfl
      have g_9 : (ga u_4 1 (ga u_4 31 (u_4.1 24))).toInt = (ga u 1 (ga u 31 (u.1 24))).toInt := by rw [h_3]; rfl
      have g_10 : (u_4.1 2).toInt = (1 : Int32).toInt := by rw [h_3]; rfl
      have g_11 : (u_4.1 1).toInt = (u.1 1).toInt := by rw [h_3]; rfl
      have g_12 : (u_4.1 4).toInt = (u.1 4).toInt := by rw [h_3]; rfl
      have g_13 : (u_4.1 30).toInt = (u.1 30).toInt := by rw [h_3]; rfl
      have g_14 : (u_4.1 24).toInt = (u.1 24).toInt := by rw [h_3]; rfl
      refine ok_bM (kP_SqlReaderModel_takes I_u_4 (by decide)) (fun r_16 u_17 z_15 => ?_)
      obtain ⟨I_u_17, G_u_17, p_18, p_19, p_20⟩ := z_15
      have F_u_17 : Fr [2, 24, 30] [31, 32] u u_17 := Fr_tr F_u_4 G_u_17 rfl rfl
      have g_21 : (u_17.1 1).toInt = (u_4.1 1).toInt := by rw [G_u_17.1 1 rfl]
      have g_22 : (u_17.1 2).toInt = (u_4.1 2).toInt := by rw [G_u_17.1 2 rfl]
      have g_23 : (u_17.1 4).toInt = (u_4.1 4).toInt := by rw [G_u_17.1 4 rfl]
      have g_24 : (u_17.1 24).toInt = (u_4.1 24).toInt := by rw [G_u_17.1 24 rfl]
      have Q_u_17_24 : u_17.1 24 = u_4.1 24 := G_u_17.1 24 rfl
      have g_25 : (ga u_17 31 (u_17.1 24)).toInt = (ga u_4 31 (u_4.1 24)).toInt := by show (u_17.2.1 31 (u_17.1 24).toNatClampNeg).toInt = _; rw [G_u_17.2.1 31 rfl, G_u_17.1 24 rfl]; rfl
      have g_26 : (ga u_17 1 (ga u_17 31 (u_17.1 24))).toInt = (ga u_4 1 (ga u_4 31 (u_4.1 24))).toInt := by show (u_17.2.1 1 (u_17.2.1 31 (u_17.1 24).toNatClampNeg).toNatClampNeg).toInt = _; rw [G_u_17.2.1 1 rfl, G_u_17.2.1 31 rfl, G_u_17.1 24 rfl]; rfl
      refine ok_eq (fun c_27 c_27' => ?_) (fun c_27 => ?_)
      · replace p_20 := (p_20.resolve_right (fun q => absurd (q.1.symm.trans c_27) (by decide))).2
        rw [mM_SqlReaderModel_readCreate_J142]
        refine ok_bM (kP_SqlReaderModel_takes I_u_17 (by decide)) (fun r_29 u_30 z_28 => ?_)
        obtain ⟨I_u_30, G_u_30, p_31, p_32, p_33⟩ := z_28
        have F_u_30 : Fr [2, 24, 30] [31, 32] u u_30 := Fr_tr F_u_17 G_u_30 rfl rfl
        have g_34 : (u_30.1 1).toInt = (u_17.1 1).toInt := by rw [G_u_30.1 1 rfl]
        have g_35 : (u_30.1 2).toInt = (u_17.1 2).toInt := by rw [G_u_30.1 2 rfl]
        have g_36 : (u_30.1 4).toInt = (u_17.1 4).toInt := by rw [G_u_30.1 4 rfl]
        have g_37 : (u_30.1 24).toInt = (u_17.1 24).toInt := by rw [G_u_30.1 24 rfl]
        have Q_u_30_24 : u_30.1 24 = u_17.1 24 := G_u_30.1 24 rfl
        have g_38 : (ga u_30 31 (u_30.1 24)).toInt = (ga u_17 31 (u_17.1 24)).toInt := by show (u_30.2.1 31 (u_30.1 24).toNatClampNeg).toInt = _; rw [G_u_30.2.1 31 rfl, G_u_30.1 24 rfl]; rfl
        have g_39 : (ga u_30 1 (ga u_30 31 (u_30.1 24))).toInt = (ga u_17 1 (ga u_17 31 (u_17.1 24))).toInt := by show (u_30.2.1 1 (u_30.2.1 31 (u_30.1 24).toNatClampNeg).toNatClampNeg).toInt = _; rw [G_u_30.2.1 1 rfl, G_u_30.2.1 31 rfl, G_u_30.1 24 rfl]; rfl
        refine ok_eq (fun c_40 c_40' => ?_) (fun c_40 => ?_)
        · replace p_33 := (p_33.resolve_right (fun q => absurd (q.1.symm.trans c_40) (by decide))).2
          rw [mM_SqlReaderModel_readCreate_J168]
          refine ok_gd (inb_of (by have B_41 := IP_b I_u_17; have B_42 := IP_b I_u_30; omega) (by have B_43 := IP_b I_u_17; have B_44 := IP_b I_u_30; omega)) ?_
          refine ok_seq (fun u_46 h_45 => ?_)
          have I_u_46 : IP u_46 := by rw [h_45]; exact I_u_30
          have F_u_46 : Fr [2, 24, 30] [31, 32] u u_46 := by rw [h_45]; exact Fr_sa F_u_30 rfl rfl rfl
          have Q_u_46_24 : u_46.1 24 = u_30.1 24 := by rw [h_45]; rfl
          have g_47 : (ga u_46 31 (u_46.1 24)).toInt = (ga u_30 31 (u_30.1 24)).toInt := by rw [h_45]; rfl
          have g_48 : (ga u_46 1 (ga u_46 31 (u_46.1 24))).toInt = (ga u_30 1 (ga u_30 31 (u_30.1 24))).toInt := by rw [h_45]; rfl
          have g_49 : (u_46.1 1).toInt = (u_30.1 1).toInt := by rw [h_45]; rfl
          have g_50 : (u_46.1 2).toInt = (u_30.1 2).toInt := by rw [h_45]; rfl
          have g_51 : (u_46.1 4).toInt = (u_30.1 4).toInt := by rw [h_45]; rfl
          have g_52 : (u_46.1 30).toInt = (u_30.1 30).toInt := by rw [h_45]; rfl
          have g_53 : (u_46.1 24).toInt = (u_30.1 24).toInt := by rw [h_45]; rfl
          refine ok_seq (fun u_55 h_54 => ?_)
          try have e_56 : ((u_46.1 24) + 1 : Int32).toInt = ((u_46.1 24) : Int32).toInt + (1 : Int32).toInt := by have B_57 := IP_b I; have B_58 := IP_b I_u_46; exact add_i (by omega) (by omega)
          have I_u_55 : IP u_55 := by rw [h_54]; exact IP_s24 I_u_46 (by have B_59 := IP_b I_u_46; omega) (by have B_60 := IP_b I_u_46; omega)
          have F_u_55 : Fr [2, 24, 30] [31, 32] u u_55 := by rw [h_54]; exact Fr_ss F_u_46 rfl rfl
          try have e_61 : ((u_46.1 24) + 1 : Int32).toInt = ((u_46.1 24) : Int32).toInt + (1 : Int32).toInt := by have B_62 := IP_b I; have B_63 := IP_b I_u_46; exact add_i (by omega) (by omega)
          have g_64 : (u_55.1 24).toInt = (((u_46.1 24) + 1) : Int32).toInt := by rw [h_54]; rfl
          have g_65 : (u_55.1 1).toInt = (u_46.1 1).toInt := by rw [h_54]; rfl
          have g_66 : (u_55.1 2).toInt = (u_46.1 2).toInt := by rw [h_54]; rfl
          have g_67 : (u_55.1 4).toInt = (u_46.1 4).toInt := by rw [h_54]; rfl
          have g_68 : (u_55.1 30).toInt = (u_46.1 30).toInt := by rw [h_54]; rfl
          refine ok_bM (kP_SqlReaderModel_takes I_u_55 (by decide)) (fun r_70 u_71 z_69 => ?_)
          obtain ⟨I_u_71, G_u_71, p_72, p_73, p_74⟩ := z_69
          have F_u_71 : Fr [2, 24, 30] [31, 32] u u_71 := Fr_tr F_u_55 G_u_71 rfl rfl
          have g_75 : (u_71.1 1).toInt = (u_55.1 1).toInt := by rw [G_u_71.1 1 rfl]
          have g_76 : (u_71.1 2).toInt = (u_55.1 2).toInt := by rw [G_u_71.1 2 rfl]
          have g_77 : (u_71.1 4).toInt = (u_55.1 4).toInt := by rw [G_u_71.1 4 rfl]
          have g_78 : (u_71.1 24).toInt = (u_55.1 24).toInt := by rw [G_u_71.1 24 rfl]
          have Q_u_71_24 : u_71.1 24 = u_55.1 24 := G_u_71.1 24 rfl
          have g_79 : (ga u_71 31 (u_71.1 24)).toInt = (ga u_55 31 (u_55.1 24)).toInt := by show (u_71.2.1 31 (u_71.1 24).toNatClampNeg).toInt = _; rw [G_u_71.2.1 31 rfl, G_u_71.1 24 rfl]; rfl
          have g_80 : (ga u_71 1 (ga u_71 31 (u_71.1 24))).toInt = (ga u_55 1 (ga u_55 31 (u_55.1 24))).toInt := by show (u_71.2.1 1 (u_71.2.1 31 (u_71.1 24).toNatClampNeg).toNatClampNeg).toInt = _; rw [G_u_71.2.1 1 rfl, G_u_71.2.1 31 rfl, G_u_71.1 24 rfl]; rfl
          refine ok_mono (hq I_u_71 (by have B_81 := IP_b I_u_71; omega) (by have B_82 := IP_b I_u_71; omega) (by have B_83 := IP_b I_u_71; omega) (by have B_84 := IP_b I_u_71; omega) (by have B_85 := IP_b I_u_71; omega) (by have B_86 := IP_b I_u_71; omega) (by have B_87 := IP_b I_u_71; omega) (by have B_88 := IP_b I_u_71; omega)) (fun u_90 z_89 => ?_)
          obtain ⟨I_u_90, G_u_90, p_91, p_92, p_93, p_94, p_95, p_96⟩ := z_89
          have F_u_90 : Fr [2, 24, 30] [31, 32] u u_90 := Fr_tr F_u_71 G_u_90 rfl rfl
          have g_97 : (u_90.1 1).toInt = (u_71.1 1).toInt := by rw [G_u_90.1 1 rfl]
          have g_98 : (u_90.1 4).toInt = (u_71.1 4).toInt := by rw [G_u_90.1 4 rfl]
          exact ⟨I_u_90, F_u_90, (by have B_99 := IP_b I; have B_100 := IP_b I_u_90; omega), (by have B_101 := IP_b I_u_90; omega), (by have B_102 := IP_b I_u_90; have B_103 := IP_b I; omega), (by have B_104 := IP_b I_u_90; have B_105 := IP_b I; omega), (by have B_106 := IP_b I_u_90; have B_107 := IP_b I; omega), (by have B_108 := IP_b I; have B_109 := IP_b I_u_90; omega)⟩
        · replace p_33 := p_33.resolve_left (fun q => c_40 (q.1.trans (by decide)))
          clear c_40
          try have e_110 : (s0 + 20 : Int32).toInt = (s0 : Int32).toInt + (20 : Int32).toInt := by have B_111 := IP_b I; exact add_i (by omega) (by omega)
          rw [mM_SqlReaderModel_readCreate_J168]
          refine ok_gd (inb_of (by have B_112 := IP_b I_u_17; have B_113 := IP_b I_u_30; omega) (by have B_114 := IP_b I_u_17; have B_115 := IP_b I_u_30; omega)) ?_
          refine ok_seq (fun u_117 h_116 => ?_)
          have I_u_117 : IP u_117 := by rw [h_116]; exact I_u_30
          have F_u_117 : Fr [2, 24, 30] [31, 32] u u_117 := by rw [h_116]; exact Fr_sa F_u_30 rfl rfl rfl
          have Q_u_117_24 : u_117.1 24 = u_30.1 24 := by rw [h_116]; rfl
          have g_118 : (ga u_117 31 (u_117.1 24)).toInt = (ga u_30 31 (u_30.1 24)).toInt := by rw [h_116]; rfl
          have g_119 : (ga u_117 1 (ga u_117 31 (u_117.1 24))).toInt = (ga u_30 1 (ga u_30 31 (u_30.1 24))).toInt := by rw [h_116]; rfl
          have g_120 : (u_117.1 1).toInt = (u_30.1 1).toInt := by rw [h_116]; rfl
          have g_121 : (u_117.1 2).toInt = (u_30.1 2).toInt := by rw [h_116]; rfl
          have g_122 : (u_117.1 4).toInt = (u_30.1 4).toInt := by rw [h_116]; rfl
          have g_123 : (u_117.1 30).toInt = (u_30.1 30).toInt := by rw [h_116]; rfl
          have g_124 : (u_117.1 24).toInt = (u_30.1 24).toInt := by rw [h_116]; rfl
          refine ok_seq (fun u_126 h_125 => ?_)
          try have e_127 : ((u_117.1 24) + 1 : Int32).toInt = ((u_117.1 24) : Int32).toInt + (1 : Int32).toInt := by have B_128 := IP_b I; have B_129 := IP_b I_u_117; exact add_i (by omega) (by omega)
          have I_u_126 : IP u_126 := by rw [h_125]; exact IP_s24 I_u_117 (by have B_130 := IP_b I_u_117; omega) (by have B_131 := IP_b I_u_117; omega)
          have F_u_126 : Fr [2, 24, 30] [31, 32] u u_126 := by rw [h_125]; exact Fr_ss F_u_117 rfl rfl
          try have e_132 : ((u_117.1 24) + 1 : Int32).toInt = ((u_117.1 24) : Int32).toInt + (1 : Int32).toInt := by have B_133 := IP_b I; have B_134 := IP_b I_u_117; exact add_i (by omega) (by omega)
          have g_135 : (u_126.1 24).toInt = (((u_117.1 24) + 1) : Int32).toInt := by rw [h_125]; rfl
          have g_136 : (u_126.1 1).toInt = (u_117.1 1).toInt := by rw [h_125]; rfl
          have g_137 : (u_126.1 2).toInt = (u_117.1 2).toInt := by rw [h_125]; rfl
          have g_138 : (u_126.1 4).toInt = (u_117.1 4).toInt := by rw [h_125]; rfl
          have g_139 : (u_126.1 30).toInt = (u_117.1 30).toInt := by rw [h_125]; rfl
          refine ok_bM (kP_SqlReaderModel_takes I_u_126 (by decide)) (fun r_141 u_142 z_140 => ?_)
          obtain ⟨I_u_142, G_u_142, p_143, p_144, p_145⟩ := z_140
          have F_u_142 : Fr [2, 24, 30] [31, 32] u u_142 := Fr_tr F_u_126 G_u_142 rfl rfl
          have g_146 : (u_142.1 1).toInt = (u_126.1 1).toInt := by rw [G_u_142.1 1 rfl]
          have g_147 : (u_142.1 2).toInt = (u_126.1 2).toInt := by rw [G_u_142.1 2 rfl]
          have g_148 : (u_142.1 4).toInt = (u_126.1 4).toInt := by rw [G_u_142.1 4 rfl]
          have g_149 : (u_142.1 24).toInt = (u_126.1 24).toInt := by rw [G_u_142.1 24 rfl]
          have Q_u_142_24 : u_142.1 24 = u_126.1 24 := G_u_142.1 24 rfl
          have g_150 : (ga u_142 31 (u_142.1 24)).toInt = (ga u_126 31 (u_126.1 24)).toInt := by show (u_142.2.1 31 (u_142.1 24).toNatClampNeg).toInt = _; rw [G_u_142.2.1 31 rfl, G_u_142.1 24 rfl]; rfl
          have g_151 : (ga u_142 1 (ga u_142 31 (u_142.1 24))).toInt = (ga u_126 1 (ga u_126 31 (u_126.1 24))).toInt := by show (u_142.2.1 1 (u_142.2.1 31 (u_142.1 24).toNatClampNeg).toNatClampNeg).toInt = _; rw [G_u_142.2.1 1 rfl, G_u_142.2.1 31 rfl, G_u_142.1 24 rfl]; rfl
          refine ok_mono (hq I_u_142 (by have B_152 := IP_b I_u_142; omega) (by have B_153 := IP_b I_u_142; omega) (by have B_154 := IP_b I_u_142; omega) (by have B_155 := IP_b I_u_142; omega) (by have B_156 := IP_b I_u_142; omega) (by have B_157 := IP_b I_u_142; omega) (by have B_158 := IP_b I_u_142; omega) (by have B_159 := IP_b I_u_142; omega)) (fun u_161 z_160 => ?_)
          obtain ⟨I_u_161, G_u_161, p_162, p_163, p_164, p_165, p_166, p_167⟩ := z_160
          have F_u_161 : Fr [2, 24, 30] [31, 32] u u_161 := Fr_tr F_u_142 G_u_161 rfl rfl
          have g_168 : (u_161.1 1).toInt = (u_142.1 1).toInt := by rw [G_u_161.1 1 rfl]
          have g_169 : (u_161.1 4).toInt = (u_142.1 4).toInt := by rw [G_u_161.1 4 rfl]
          exact ⟨I_u_161, F_u_161, (by have B_170 := IP_b I; have B_171 := IP_b I_u_161; omega), (by have B_172 := IP_b I_u_161; omega), (by have B_173 := IP_b I_u_161; have B_174 := IP_b I; omega), (by have B_175 := IP_b I_u_161; have B_176 := IP_b I; omega), (by have B_177 := IP_b I_u_161; have B_178 := IP_b I; omega), (by have B_179 := IP_b I; have B_180 := IP_b I_u_161; omega)⟩
      · replace p_20 := p_20.resolve_left (fun q => c_27 (q.1.trans (by decide)))
        clear c_27
        refine ok_bP (kP_SqlReaderModel_need I_u_17 (by decide)) (fun u_182 z_181 => ?_)
        obtain ⟨I_u_182, G_u_182, p_183, p_184⟩ := z_181
        have F_u_182 : Fr [2, 24, 30] [31, 32] u u_182 := Fr_tr F_u_17 G_u_182 rfl rfl
        have g_185 : (u_182.1 1).toInt = (u_17.1 1).toInt := by rw [G_u_182.1 1 rfl]
        have g_186 : (u_182.1 4).toInt = (u_17.1 4).toInt := by rw [G_u_182.1 4 rfl]
        have g_187 : (u_182.1 24).toInt = (u_17.1 24).toInt := by rw [G_u_182.1 24 rfl]
        have Q_u_182_24 : u_182.1 24 = u_17.1 24 := G_u_182.1 24 rfl
        have g_188 : (ga u_182 31 (u_182.1 24)).toInt = (ga u_17 31 (u_17.1 24)).toInt := by show (u_182.2.1 31 (u_182.1 24).toNatClampNeg).toInt = _; rw [G_u_182.2.1 31 rfl, G_u_182.1 24 rfl]; rfl
        have g_189 : (ga u_182 1 (ga u_182 31 (u_182.1 24))).toInt = (ga u_17 1 (ga u_17 31 (u_17.1 24))).toInt := by show (u_182.2.1 1 (u_182.2.1 31 (u_182.1 24).toNatClampNeg).toNatClampNeg).toInt = _; rw [G_u_182.2.1 1 rfl, G_u_182.2.1 31 rfl, G_u_182.1 24 rfl]; rfl
        try have e_192 : (s0 + 10 : Int32).toInt = (s0 : Int32).toInt + (10 : Int32).toInt := by have B_193 := IP_b I; exact add_i (by omega) (by omega)
        refine ok_seq (fun y_191 h_190 => ?_)
        have h_190' : y_191.toInt = ((s0 + 10) : Int32).toInt := by rw [h_190]
        rw [mM_SqlReaderModel_readCreate_J142]
        refine ok_bM (kP_SqlReaderModel_takes I_u_182 (by decide)) (fun r_195 u_196 z_194 => ?_)
        obtain ⟨I_u_196, G_u_196, p_197, p_198, p_199⟩ := z_194
        have F_u_196 : Fr [2, 24, 30] [31, 32] u u_196 := Fr_tr F_u_182 G_u_196 rfl rfl
        have g_200 : (u_196.1 1).toInt = (u_182.1 1).toInt := by rw [G_u_196.1 1 rfl]
        have g_201 : (u_196.1 2).toInt = (u_182.1 2).toInt := by rw [G_u_196.1 2 rfl]
        have g_202 : (u_196.1 4).toInt = (u_182.1 4).toInt := by rw [G_u_196.1 4 rfl]
        have g_203 : (u_196.1 24).toInt = (u_182.1 24).toInt := by rw [G_u_196.1 24 rfl]
        have Q_u_196_24 : u_196.1 24 = u_182.1 24 := G_u_196.1 24 rfl
        have g_204 : (ga u_196 31 (u_196.1 24)).toInt = (ga u_182 31 (u_182.1 24)).toInt := by show (u_196.2.1 31 (u_196.1 24).toNatClampNeg).toInt = _; rw [G_u_196.2.1 31 rfl, G_u_196.1 24 rfl]; rfl
        have g_205 : (ga u_196 1 (ga u_196 31 (u_196.1 24))).toInt = (ga u_182 1 (ga u_182 31 (u_182.1 24))).toInt := by show (u_196.2.1 1 (u_196.2.1 31 (u_196.1 24).toNatClampNeg).toNatClampNeg).toInt = _; rw [G_u_196.2.1 1 rfl, G_u_196.2.1 31 rfl, G_u_196.1 24 rfl]; rfl
        refine ok_eq (fun c_206 c_206' => ?_) (fun c_206 => ?_)
        · replace p_199 := (p_199.resolve_right (fun q => absurd (q.1.symm.trans c_206) (by decide))).2
          rw [mM_SqlReaderModel_readCreate_J168]
          refine ok_gd (inb_of (by have B_207 := IP_b I_u_182; have B_208 := IP_b I_u_196; omega) (by have B_209 := IP_b I_u_182; have B_210 := IP_b I_u_196; omega)) ?_
          refine ok_seq (fun u_212 h_211 => ?_)
          have I_u_212 : IP u_212 := by rw [h_211]; exact I_u_196
          have F_u_212 : Fr [2, 24, 30] [31, 32] u u_212 := by rw [h_211]; exact Fr_sa F_u_196 rfl rfl rfl
          have Q_u_212_24 : u_212.1 24 = u_196.1 24 := by rw [h_211]; rfl
          have g_213 : (ga u_212 31 (u_212.1 24)).toInt = (ga u_196 31 (u_196.1 24)).toInt := by rw [h_211]; rfl
          have g_214 : (ga u_212 1 (ga u_212 31 (u_212.1 24))).toInt = (ga u_196 1 (ga u_196 31 (u_196.1 24))).toInt := by rw [h_211]; rfl
          have g_215 : (u_212.1 1).toInt = (u_196.1 1).toInt := by rw [h_211]; rfl
          have g_216 : (u_212.1 2).toInt = (u_196.1 2).toInt := by rw [h_211]; rfl
          have g_217 : (u_212.1 4).toInt = (u_196.1 4).toInt := by rw [h_211]; rfl
          have g_218 : (u_212.1 30).toInt = (u_196.1 30).toInt := by rw [h_211]; rfl
          have g_219 : (u_212.1 24).toInt = (u_196.1 24).toInt := by rw [h_211]; rfl
          refine ok_seq (fun u_221 h_220 => ?_)
          try have e_222 : ((u_212.1 24) + 1 : Int32).toInt = ((u_212.1 24) : Int32).toInt + (1 : Int32).toInt := by have B_223 := IP_b I; have B_224 := IP_b I_u_212; exact add_i (by omega) (by omega)
          have I_u_221 : IP u_221 := by rw [h_220]; exact IP_s24 I_u_212 (by have B_225 := IP_b I_u_212; omega) (by have B_226 := IP_b I_u_212; omega)
          have F_u_221 : Fr [2, 24, 30] [31, 32] u u_221 := by rw [h_220]; exact Fr_ss F_u_212 rfl rfl
          try have e_227 : ((u_212.1 24) + 1 : Int32).toInt = ((u_212.1 24) : Int32).toInt + (1 : Int32).toInt := by have B_228 := IP_b I; have B_229 := IP_b I_u_212; exact add_i (by omega) (by omega)
          have g_230 : (u_221.1 24).toInt = (((u_212.1 24) + 1) : Int32).toInt := by rw [h_220]; rfl
          have g_231 : (u_221.1 1).toInt = (u_212.1 1).toInt := by rw [h_220]; rfl
          have g_232 : (u_221.1 2).toInt = (u_212.1 2).toInt := by rw [h_220]; rfl
          have g_233 : (u_221.1 4).toInt = (u_212.1 4).toInt := by rw [h_220]; rfl
          have g_234 : (u_221.1 30).toInt = (u_212.1 30).toInt := by rw [h_220]; rfl
          refine ok_bM (kP_SqlReaderModel_takes I_u_221 (by decide)) (fun r_236 u_237 z_235 => ?_)
          obtain ⟨I_u_237, G_u_237, p_238, p_239, p_240⟩ := z_235
          have F_u_237 : Fr [2, 24, 30] [31, 32] u u_237 := Fr_tr F_u_221 G_u_237 rfl rfl
          have g_241 : (u_237.1 1).toInt = (u_221.1 1).toInt := by rw [G_u_237.1 1 rfl]
          have g_242 : (u_237.1 2).toInt = (u_221.1 2).toInt := by rw [G_u_237.1 2 rfl]
          have g_243 : (u_237.1 4).toInt = (u_221.1 4).toInt := by rw [G_u_237.1 4 rfl]
          have g_244 : (u_237.1 24).toInt = (u_221.1 24).toInt := by rw [G_u_237.1 24 rfl]
          have Q_u_237_24 : u_237.1 24 = u_221.1 24 := G_u_237.1 24 rfl
          have g_245 : (ga u_237 31 (u_237.1 24)).toInt = (ga u_221 31 (u_221.1 24)).toInt := by show (u_237.2.1 31 (u_237.1 24).toNatClampNeg).toInt = _; rw [G_u_237.2.1 31 rfl, G_u_237.1 24 rfl]; rfl
          have g_246 : (ga u_237 1 (ga u_237 31 (u_237.1 24))).toInt = (ga u_221 1 (ga u_221 31 (u_221.1 24))).toInt := by show (u_237.2.1 1 (u_237.2.1 31 (u_237.1 24).toNatClampNeg).toNatClampNeg).toInt = _; rw [G_u_237.2.1 1 rfl, G_u_237.2.1 31 rfl, G_u_237.1 24 rfl]; rfl
          refine ok_mono (hq I_u_237 (by have B_247 := IP_b I_u_237; omega) (by have B_248 := IP_b I_u_237; omega) (by have B_249 := IP_b I_u_237; omega) (by have B_250 := IP_b I_u_237; omega) (by have B_251 := IP_b I_u_237; omega) (by have B_252 := IP_b I_u_237; omega) (by have B_253 := IP_b I_u_237; omega) (by have B_254 := IP_b I_u_237; omega)) (fun u_256 z_255 => ?_)
          obtain ⟨I_u_256, G_u_256, p_257, p_258, p_259, p_260, p_261, p_262⟩ := z_255
          have F_u_256 : Fr [2, 24, 30] [31, 32] u u_256 := Fr_tr F_u_237 G_u_256 rfl rfl
          have g_263 : (u_256.1 1).toInt = (u_237.1 1).toInt := by rw [G_u_256.1 1 rfl]
          have g_264 : (u_256.1 4).toInt = (u_237.1 4).toInt := by rw [G_u_256.1 4 rfl]
          exact ⟨I_u_256, F_u_256, (by have B_265 := IP_b I; have B_266 := IP_b I_u_256; omega), (by have B_267 := IP_b I_u_256; omega), (by have B_268 := IP_b I_u_256; have B_269 := IP_b I; omega), (by have B_270 := IP_b I_u_256; have B_271 := IP_b I; omega), (by have B_272 := IP_b I_u_256; have B_273 := IP_b I; omega), (by have B_274 := IP_b I; have B_275 := IP_b I_u_256; omega)⟩
        · replace p_199 := p_199.resolve_left (fun q => c_206 (q.1.trans (by decide)))
          clear c_206
          try have e_276 : (y_191 + 20 : Int32).toInt = (y_191 : Int32).toInt + (20 : Int32).toInt := by have B_277 := IP_b I; exact add_i (by omega) (by omega)
          rw [mM_SqlReaderModel_readCreate_J168]
          refine ok_gd (inb_of (by have B_278 := IP_b I_u_182; have B_279 := IP_b I_u_196; omega) (by have B_280 := IP_b I_u_182; have B_281 := IP_b I_u_196; omega)) ?_
          refine ok_seq (fun u_283 h_282 => ?_)
          have I_u_283 : IP u_283 := by rw [h_282]; exact I_u_196
          have F_u_283 : Fr [2, 24, 30] [31, 32] u u_283 := by rw [h_282]; exact Fr_sa F_u_196 rfl rfl rfl
          have Q_u_283_24 : u_283.1 24 = u_196.1 24 := by rw [h_282]; rfl
          have g_284 : (ga u_283 31 (u_283.1 24)).toInt = (ga u_196 31 (u_196.1 24)).toInt := by rw [h_282]; rfl
          have g_285 : (ga u_283 1 (ga u_283 31 (u_283.1 24))).toInt = (ga u_196 1 (ga u_196 31 (u_196.1 24))).toInt := by rw [h_282]; rfl
          have g_286 : (u_283.1 1).toInt = (u_196.1 1).toInt := by rw [h_282]; rfl
          have g_287 : (u_283.1 2).toInt = (u_196.1 2).toInt := by rw [h_282]; rfl
          have g_288 : (u_283.1 4).toInt = (u_196.1 4).toInt := by rw [h_282]; rfl
          have g_289 : (u_283.1 30).toInt = (u_196.1 30).toInt := by rw [h_282]; rfl
          have g_290 : (u_283.1 24).toInt = (u_196.1 24).toInt := by rw [h_282]; rfl
          refine ok_seq (fun u_292 h_291 => ?_)
          try have e_293 : ((u_283.1 24) + 1 : Int32).toInt = ((u_283.1 24) : Int32).toInt + (1 : Int32).toInt := by have B_294 := IP_b I; have B_295 := IP_b I_u_283; exact add_i (by omega) (by omega)
          have I_u_292 : IP u_292 := by rw [h_291]; exact IP_s24 I_u_283 (by have B_296 := IP_b I_u_283; omega) (by have B_297 := IP_b I_u_283; omega)
          have F_u_292 : Fr [2, 24, 30] [31, 32] u u_292 := by rw [h_291]; exact Fr_ss F_u_283 rfl rfl
          try have e_298 : ((u_283.1 24) + 1 : Int32).toInt = ((u_283.1 24) : Int32).toInt + (1 : Int32).toInt := by have B_299 := IP_b I; have B_300 := IP_b I_u_283; exact add_i (by omega) (by omega)
          have g_301 : (u_292.1 24).toInt = (((u_283.1 24) + 1) : Int32).toInt := by rw [h_291]; rfl
          have g_302 : (u_292.1 1).toInt = (u_283.1 1).toInt := by rw [h_291]; rfl
          have g_303 : (u_292.1 2).toInt = (u_283.1 2).toInt := by rw [h_291]; rfl
          have g_304 : (u_292.1 4).toInt = (u_283.1 4).toInt := by rw [h_291]; rfl
          have g_305 : (u_292.1 30).toInt = (u_283.1 30).toInt := by rw [h_291]; rfl
          refine ok_bM (kP_SqlReaderModel_takes I_u_292 (by decide)) (fun r_307 u_308 z_306 => ?_)
          obtain ⟨I_u_308, G_u_308, p_309, p_310, p_311⟩ := z_306
          have F_u_308 : Fr [2, 24, 30] [31, 32] u u_308 := Fr_tr F_u_292 G_u_308 rfl rfl
          have g_312 : (u_308.1 1).toInt = (u_292.1 1).toInt := by rw [G_u_308.1 1 rfl]
          have g_313 : (u_308.1 2).toInt = (u_292.1 2).toInt := by rw [G_u_308.1 2 rfl]
          have g_314 : (u_308.1 4).toInt = (u_292.1 4).toInt := by rw [G_u_308.1 4 rfl]
          have g_315 : (u_308.1 24).toInt = (u_292.1 24).toInt := by rw [G_u_308.1 24 rfl]
          have Q_u_308_24 : u_308.1 24 = u_292.1 24 := G_u_308.1 24 rfl
          have g_316 : (ga u_308 31 (u_308.1 24)).toInt = (ga u_292 31 (u_292.1 24)).toInt := by show (u_308.2.1 31 (u_308.1 24).toNatClampNeg).toInt = _; rw [G_u_308.2.1 31 rfl, G_u_308.1 24 rfl]; rfl
          have g_317 : (ga u_308 1 (ga u_308 31 (u_308.1 24))).toInt = (ga u_292 1 (ga u_292 31 (u_292.1 24))).toInt := by show (u_308.2.1 1 (u_308.2.1 31 (u_308.1 24).toNatClampNeg).toNatClampNeg).toInt = _; rw [G_u_308.2.1 1 rfl, G_u_308.2.1 31 rfl, G_u_308.1 24 rfl]; rfl
          refine ok_mono (hq I_u_308 (by have B_318 := IP_b I_u_308; omega) (by have B_319 := IP_b I_u_308; omega) (by have B_320 := IP_b I_u_308; omega) (by have B_321 := IP_b I_u_308; omega) (by have B_322 := IP_b I_u_308; omega) (by have B_323 := IP_b I_u_308; omega) (by have B_324 := IP_b I_u_308; omega) (by have B_325 := IP_b I_u_308; omega)) (fun u_327 z_326 => ?_)
          obtain ⟨I_u_327, G_u_327, p_328, p_329, p_330, p_331, p_332, p_333⟩ := z_326
          have F_u_327 : Fr [2, 24, 30] [31, 32] u u_327 := Fr_tr F_u_308 G_u_327 rfl rfl
          have g_334 : (u_327.1 1).toInt = (u_308.1 1).toInt := by rw [G_u_327.1 1 rfl]
          have g_335 : (u_327.1 4).toInt = (u_308.1 4).toInt := by rw [G_u_327.1 4 rfl]
          exact ⟨I_u_327, F_u_327, (by have B_336 := IP_b I; have B_337 := IP_b I_u_327; omega), (by have B_338 := IP_b I_u_327; omega), (by have B_339 := IP_b I_u_327; have B_340 := IP_b I; omega), (by have B_341 := IP_b I_u_327; have B_342 := IP_b I; omega), (by have B_343 := IP_b I_u_327; have B_344 := IP_b I; omega), (by have B_345 := IP_b I; have B_346 := IP_b I_u_327; omega)⟩
    · rw [mM_SqlReaderModel_readCreate_J117]
      refine ok_gd (by decide) ?_
      refine ok_seq (fun u_348 h_347 => ?_)
      have I_u_348 : IP u_348 := by rw [h_347]; exact IP_bad I (by have B_349 := IP_b I; omega) (by have B_350 := IP_b I; omega) (by have B_351 := IP_b I; omega)
      have F_u_348 : Fr [2, 24, 30] [31, 32] u u_348 := by rw [h_347]; exact Fr_ss (Fr_rfl u) rfl rfl
      have Q_u_348_24 : u_348.1 24 = u.1 24 := by rw [h_347]; rfl
      have g_352 : (ga u_348 31 (u_348.1 24)).toInt = (ga u 31 (u.1 24)).toInt := by rw [h_347]; rfl
      have g_353 : (ga u_348 1 (ga u_348 31 (u_348.1 24))).toInt = (ga u 1 (ga u 31 (u.1 24))).toInt := by rw [h_347]; rfl
      have g_354 : (u_348.1 2).toInt = (0 : Int32).toInt := by rw [h_347]; rfl
      have g_355 : (u_348.1 1).toInt = (u.1 1).toInt := by rw [h_347]; rfl
      have g_356 : (u_348.1 4).toInt = (u.1 4).toInt := by rw [h_347]; rfl
      have g_357 : (u_348.1 30).toInt = (u.1 30).toInt := by rw [h_347]; rfl
      have g_358 : (u_348.1 24).toInt = (u.1 24).toInt := by rw [h_347]; rfl
      refine ok_bM (kP_SqlReaderModel_takes I_u_348 (by decide)) (fun r_360 u_361 z_359 => ?_)
      obtain ⟨I_u_361, G_u_361, p_362, p_363, p_364⟩ := z_359
      have F_u_361 : Fr [2, 24, 30] [31, 32] u u_361 := Fr_tr F_u_348 G_u_361 rfl rfl
      have g_365 : (u_361.1 1).toInt = (u_348.1 1).toInt := by rw [G_u_361.1 1 rfl]
      have g_366 : (u_361.1 2).toInt = (u_348.1 2).toInt := by rw [G_u_361.1 2 rfl]
      have g_367 : (u_361.1 4).toInt = (u_348.1 4).toInt := by rw [G_u_361.1 4 rfl]
      have g_368 : (u_361.1 24).toInt = (u_348.1 24).toInt := by rw [G_u_361.1 24 rfl]
      have Q_u_361_24 : u_361.1 24 = u_348.1 24 := G_u_361.1 24 rfl
      have g_369 : (ga u_361 31 (u_361.1 24)).toInt = (ga u_348 31 (u_348.1 24)).toInt := by show (u_361.2.1 31 (u_361.1 24).toNatClampNeg).toInt = _; rw [G_u_361.2.1 31 rfl, G_u_361.1 24 rfl]; rfl
      have g_370 : (ga u_361 1 (ga u_361 31 (u_361.1 24))).toInt = (ga u_348 1 (ga u_348 31 (u_348.1 24))).toInt := by show (u_361.2.1 1 (u_361.2.1 31 (u_361.1 24).toNatClampNeg).toNatClampNeg).toInt = _; rw [G_u_361.2.1 1 rfl, G_u_361.2.1 31 rfl, G_u_361.1 24 rfl]; rfl
      refine ok_eq (fun c_371 c_371' => ?_) (fun c_371 => ?_)
      · replace p_364 := (p_364.resolve_right (fun q => absurd (q.1.symm.trans c_371) (by decide))).2
        rw [mM_SqlReaderModel_readCreate_J142]
        refine ok_bM (kP_SqlReaderModel_takes I_u_361 (by decide)) (fun r_373 u_374 z_372 => ?_)
        obtain ⟨I_u_374, G_u_374, p_375, p_376, p_377⟩ := z_372
        have F_u_374 : Fr [2, 24, 30] [31, 32] u u_374 := Fr_tr F_u_361 G_u_374 rfl rfl
        have g_378 : (u_374.1 1).toInt = (u_361.1 1).toInt := by rw [G_u_374.1 1 rfl]
        have g_379 : (u_374.1 2).toInt = (u_361.1 2).toInt := by rw [G_u_374.1 2 rfl]
        have g_380 : (u_374.1 4).toInt = (u_361.1 4).toInt := by rw [G_u_374.1 4 rfl]
        have g_381 : (u_374.1 24).toInt = (u_361.1 24).toInt := by rw [G_u_374.1 24 rfl]
        have Q_u_374_24 : u_374.1 24 = u_361.1 24 := G_u_374.1 24 rfl
        have g_382 : (ga u_374 31 (u_374.1 24)).toInt = (ga u_361 31 (u_361.1 24)).toInt := by show (u_374.2.1 31 (u_374.1 24).toNatClampNeg).toInt = _; rw [G_u_374.2.1 31 rfl, G_u_374.1 24 rfl]; rfl
        have g_383 : (ga u_374 1 (ga u_374 31 (u_374.1 24))).toInt = (ga u_361 1 (ga u_361 31 (u_361.1 24))).toInt := by show (u_374.2.1 1 (u_374.2.1 31 (u_374.1 24).toNatClampNeg).toNatClampNeg).toInt = _; rw [G_u_374.2.1 1 rfl, G_u_374.2.1 31 rfl, G_u_374.1 24 rfl]; rfl
        refine ok_eq (fun c_384 c_384' => ?_) (fun c_384 => ?_)
        · replace p_377 := (p_377.resolve_right (fun q => absurd (q.1.symm.trans c_384) (by decide))).2
          rw [mM_SqlReaderModel_readCreate_J168]
          refine ok_gd (inb_of (by have B_385 := IP_b I_u_361; have B_386 := IP_b I_u_374; omega) (by have B_387 := IP_b I_u_361; have B_388 := IP_b I_u_374; omega)) ?_
          refine ok_seq (fun u_390 h_389 => ?_)
          have I_u_390 : IP u_390 := by rw [h_389]; exact I_u_374
          have F_u_390 : Fr [2, 24, 30] [31, 32] u u_390 := by rw [h_389]; exact Fr_sa F_u_374 rfl rfl rfl
          have Q_u_390_24 : u_390.1 24 = u_374.1 24 := by rw [h_389]; rfl
          have g_391 : (ga u_390 31 (u_390.1 24)).toInt = (ga u_374 31 (u_374.1 24)).toInt := by rw [h_389]; rfl
          have g_392 : (ga u_390 1 (ga u_390 31 (u_390.1 24))).toInt = (ga u_374 1 (ga u_374 31 (u_374.1 24))).toInt := by rw [h_389]; rfl
          have g_393 : (u_390.1 1).toInt = (u_374.1 1).toInt := by rw [h_389]; rfl
          have g_394 : (u_390.1 2).toInt = (u_374.1 2).toInt := by rw [h_389]; rfl
          have g_395 : (u_390.1 4).toInt = (u_374.1 4).toInt := by rw [h_389]; rfl
          have g_396 : (u_390.1 30).toInt = (u_374.1 30).toInt := by rw [h_389]; rfl
          have g_397 : (u_390.1 24).toInt = (u_374.1 24).toInt := by rw [h_389]; rfl
          refine ok_seq (fun u_399 h_398 => ?_)
          try have e_400 : ((u_390.1 24) + 1 : Int32).toInt = ((u_390.1 24) : Int32).toInt + (1 : Int32).toInt := by have B_401 := IP_b I; have B_402 := IP_b I_u_390; exact add_i (by omega) (by omega)
          have I_u_399 : IP u_399 := by rw [h_398]; exact IP_s24 I_u_390 (by have B_403 := IP_b I_u_390; omega) (by have B_404 := IP_b I_u_390; omega)
          have F_u_399 : Fr [2, 24, 30] [31, 32] u u_399 := by rw [h_398]; exact Fr_ss F_u_390 rfl rfl
          try have e_405 : ((u_390.1 24) + 1 : Int32).toInt = ((u_390.1 24) : Int32).toInt + (1 : Int32).toInt := by have B_406 := IP_b I; have B_407 := IP_b I_u_390; exact add_i (by omega) (by omega)
          have g_408 : (u_399.1 24).toInt = (((u_390.1 24) + 1) : Int32).toInt := by rw [h_398]; rfl
          have g_409 : (u_399.1 1).toInt = (u_390.1 1).toInt := by rw [h_398]; rfl
          have g_410 : (u_399.1 2).toInt = (u_390.1 2).toInt := by rw [h_398]; rfl
          have g_411 : (u_399.1 4).toInt = (u_390.1 4).toInt := by rw [h_398]; rfl
          have g_412 : (u_399.1 30).toInt = (u_390.1 30).toInt := by rw [h_398]; rfl
          refine ok_bM (kP_SqlReaderModel_takes I_u_399 (by decide)) (fun r_414 u_415 z_413 => ?_)
          obtain ⟨I_u_415, G_u_415, p_416, p_417, p_418⟩ := z_413
          have F_u_415 : Fr [2, 24, 30] [31, 32] u u_415 := Fr_tr F_u_399 G_u_415 rfl rfl
          have g_419 : (u_415.1 1).toInt = (u_399.1 1).toInt := by rw [G_u_415.1 1 rfl]
          have g_420 : (u_415.1 2).toInt = (u_399.1 2).toInt := by rw [G_u_415.1 2 rfl]
          have g_421 : (u_415.1 4).toInt = (u_399.1 4).toInt := by rw [G_u_415.1 4 rfl]
          have g_422 : (u_415.1 24).toInt = (u_399.1 24).toInt := by rw [G_u_415.1 24 rfl]
          have Q_u_415_24 : u_415.1 24 = u_399.1 24 := G_u_415.1 24 rfl
          have g_423 : (ga u_415 31 (u_415.1 24)).toInt = (ga u_399 31 (u_399.1 24)).toInt := by show (u_415.2.1 31 (u_415.1 24).toNatClampNeg).toInt = _; rw [G_u_415.2.1 31 rfl, G_u_415.1 24 rfl]; rfl
          have g_424 : (ga u_415 1 (ga u_415 31 (u_415.1 24))).toInt = (ga u_399 1 (ga u_399 31 (u_399.1 24))).toInt := by show (u_415.2.1 1 (u_415.2.1 31 (u_415.1 24).toNatClampNeg).toNatClampNeg).toInt = _; rw [G_u_415.2.1 1 rfl, G_u_415.2.1 31 rfl, G_u_415.1 24 rfl]; rfl
          refine ok_mono (hq I_u_415 (by have B_425 := IP_b I_u_415; omega) (by have B_426 := IP_b I_u_415; omega) (by have B_427 := IP_b I_u_415; omega) (by have B_428 := IP_b I_u_415; omega) (by have B_429 := IP_b I_u_415; omega) (by have B_430 := IP_b I_u_415; omega) (by have B_431 := IP_b I_u_415; omega) (by have B_432 := IP_b I_u_415; omega)) (fun u_434 z_433 => ?_)
          obtain ⟨I_u_434, G_u_434, p_435, p_436, p_437, p_438, p_439, p_440⟩ := z_433
          have F_u_434 : Fr [2, 24, 30] [31, 32] u u_434 := Fr_tr F_u_415 G_u_434 rfl rfl
          have g_441 : (u_434.1 1).toInt = (u_415.1 1).toInt := by rw [G_u_434.1 1 rfl]
          have g_442 : (u_434.1 4).toInt = (u_415.1 4).toInt := by rw [G_u_434.1 4 rfl]
          exact ⟨I_u_434, F_u_434, (by have B_443 := IP_b I; have B_444 := IP_b I_u_434; omega), (by have B_445 := IP_b I_u_434; omega), (by have B_446 := IP_b I_u_434; have B_447 := IP_b I; omega), (by have B_448 := IP_b I_u_434; have B_449 := IP_b I; omega), (by have B_450 := IP_b I_u_434; have B_451 := IP_b I; omega), (by have B_452 := IP_b I; have B_453 := IP_b I_u_434; omega)⟩
        · replace p_377 := p_377.resolve_left (fun q => c_384 (q.1.trans (by decide)))
          clear c_384
          try have e_454 : (s0 + 20 : Int32).toInt = (s0 : Int32).toInt + (20 : Int32).toInt := by have B_455 := IP_b I; exact add_i (by omega) (by omega)
          rw [mM_SqlReaderModel_readCreate_J168]
          refine ok_gd (inb_of (by have B_456 := IP_b I_u_361; have B_457 := IP_b I_u_374; omega) (by have B_458 := IP_b I_u_361; have B_459 := IP_b I_u_374; omega)) ?_
          refine ok_seq (fun u_461 h_460 => ?_)
          have I_u_461 : IP u_461 := by rw [h_460]; exact I_u_374
          have F_u_461 : Fr [2, 24, 30] [31, 32] u u_461 := by rw [h_460]; exact Fr_sa F_u_374 rfl rfl rfl
          have Q_u_461_24 : u_461.1 24 = u_374.1 24 := by rw [h_460]; rfl
          have g_462 : (ga u_461 31 (u_461.1 24)).toInt = (ga u_374 31 (u_374.1 24)).toInt := by rw [h_460]; rfl
          have g_463 : (ga u_461 1 (ga u_461 31 (u_461.1 24))).toInt = (ga u_374 1 (ga u_374 31 (u_374.1 24))).toInt := by rw [h_460]; rfl
          have g_464 : (u_461.1 1).toInt = (u_374.1 1).toInt := by rw [h_460]; rfl
          have g_465 : (u_461.1 2).toInt = (u_374.1 2).toInt := by rw [h_460]; rfl
          have g_466 : (u_461.1 4).toInt = (u_374.1 4).toInt := by rw [h_460]; rfl
          have g_467 : (u_461.1 30).toInt = (u_374.1 30).toInt := by rw [h_460]; rfl
          have g_468 : (u_461.1 24).toInt = (u_374.1 24).toInt := by rw [h_460]; rfl
          refine ok_seq (fun u_470 h_469 => ?_)
          try have e_471 : ((u_461.1 24) + 1 : Int32).toInt = ((u_461.1 24) : Int32).toInt + (1 : Int32).toInt := by have B_472 := IP_b I; have B_473 := IP_b I_u_461; exact add_i (by omega) (by omega)
          have I_u_470 : IP u_470 := by rw [h_469]; exact IP_s24 I_u_461 (by have B_474 := IP_b I_u_461; omega) (by have B_475 := IP_b I_u_461; omega)
          have F_u_470 : Fr [2, 24, 30] [31, 32] u u_470 := by rw [h_469]; exact Fr_ss F_u_461 rfl rfl
          try have e_476 : ((u_461.1 24) + 1 : Int32).toInt = ((u_461.1 24) : Int32).toInt + (1 : Int32).toInt := by have B_477 := IP_b I; have B_478 := IP_b I_u_461; exact add_i (by omega) (by omega)
          have g_479 : (u_470.1 24).toInt = (((u_461.1 24) + 1) : Int32).toInt := by rw [h_469]; rfl
          have g_480 : (u_470.1 1).toInt = (u_461.1 1).toInt := by rw [h_469]; rfl
          have g_481 : (u_470.1 2).toInt = (u_461.1 2).toInt := by rw [h_469]; rfl
          have g_482 : (u_470.1 4).toInt = (u_461.1 4).toInt := by rw [h_469]; rfl
          have g_483 : (u_470.1 30).toInt = (u_461.1 30).toInt := by rw [h_469]; rfl
          refine ok_bM (kP_SqlReaderModel_takes I_u_470 (by decide)) (fun r_485 u_486 z_484 => ?_)
          obtain ⟨I_u_486, G_u_486, p_487, p_488, p_489⟩ := z_484
          have F_u_486 : Fr [2, 24, 30] [31, 32] u u_486 := Fr_tr F_u_470 G_u_486 rfl rfl
          have g_490 : (u_486.1 1).toInt = (u_470.1 1).toInt := by rw [G_u_486.1 1 rfl]
          have g_491 : (u_486.1 2).toInt = (u_470.1 2).toInt := by rw [G_u_486.1 2 rfl]
          have g_492 : (u_486.1 4).toInt = (u_470.1 4).toInt := by rw [G_u_486.1 4 rfl]
          have g_493 : (u_486.1 24).toInt = (u_470.1 24).toInt := by rw [G_u_486.1 24 rfl]
          have Q_u_486_24 : u_486.1 24 = u_470.1 24 := G_u_486.1 24 rfl
          have g_494 : (ga u_486 31 (u_486.1 24)).toInt = (ga u_470 31 (u_470.1 24)).toInt := by show (u_486.2.1 31 (u_486.1 24).toNatClampNeg).toInt = _; rw [G_u_486.2.1 31 rfl, G_u_486.1 24 rfl]; rfl
          have g_495 : (ga u_486 1 (ga u_486 31 (u_486.1 24))).toInt = (ga u_470 1 (ga u_470 31 (u_470.1 24))).toInt := by show (u_486.2.1 1 (u_486.2.1 31 (u_486.1 24).toNatClampNeg).toNatClampNeg).toInt = _; rw [G_u_486.2.1 1 rfl, G_u_486.2.1 31 rfl, G_u_486.1 24 rfl]; rfl
          refine ok_mono (hq I_u_486 (by have B_496 := IP_b I_u_486; omega) (by have B_497 := IP_b I_u_486; omega) (by have B_498 := IP_b I_u_486; omega) (by have B_499 := IP_b I_u_486; omega) (by have B_500 := IP_b I_u_486; omega) (by have B_501 := IP_b I_u_486; omega) (by have B_502 := IP_b I_u_486; omega) (by have B_503 := IP_b I_u_486; omega)) (fun u_505 z_504 => ?_)
          obtain ⟨I_u_505, G_u_505, p_506, p_507, p_508, p_509, p_510, p_511⟩ := z_504
          have F_u_505 : Fr [2, 24, 30] [31, 32] u u_505 := Fr_tr F_u_486 G_u_505 rfl rfl
          have g_512 : (u_505.1 1).toInt = (u_486.1 1).toInt := by rw [G_u_505.1 1 rfl]
          have g_513 : (u_505.1 4).toInt = (u_486.1 4).toInt := by rw [G_u_505.1 4 rfl]
          exact ⟨I_u_505, F_u_505, (by have B_514 := IP_b I; have B_515 := IP_b I_u_505; omega), (by have B_516 := IP_b I_u_505; omega), (by have B_517 := IP_b I_u_505; have B_518 := IP_b I; omega), (by have B_519 := IP_b I_u_505; have B_520 := IP_b I; omega), (by have B_521 := IP_b I_u_505; have B_522 := IP_b I; omega), (by have B_523 := IP_b I; have B_524 := IP_b I_u_505; omega)⟩
      · replace p_364 := p_364.resolve_left (fun q => c_371 (q.1.trans (by decide)))
        clear c_371
        refine ok_bP (kP_SqlReaderModel_need I_u_361 (by decide)) (fun u_526 z_525 => ?_)
        obtain ⟨I_u_526, G_u_526, p_527, p_528⟩ := z_525
        have F_u_526 : Fr [2, 24, 30] [31, 32] u u_526 := Fr_tr F_u_361 G_u_526 rfl rfl
        have g_529 : (u_526.1 1).toInt = (u_361.1 1).toInt := by rw [G_u_526.1 1 rfl]
        have g_530 : (u_526.1 4).toInt = (u_361.1 4).toInt := by rw [G_u_526.1 4 rfl]
        have g_531 : (u_526.1 24).toInt = (u_361.1 24).toInt := by rw [G_u_526.1 24 rfl]
        have Q_u_526_24 : u_526.1 24 = u_361.1 24 := G_u_526.1 24 rfl
        have g_532 : (ga u_526 31 (u_526.1 24)).toInt = (ga u_361 31 (u_361.1 24)).toInt := by show (u_526.2.1 31 (u_526.1 24).toNatClampNeg).toInt = _; rw [G_u_526.2.1 31 rfl, G_u_526.1 24 rfl]; rfl
        have g_533 : (ga u_526 1 (ga u_526 31 (u_526.1 24))).toInt = (ga u_361 1 (ga u_361 31 (u_361.1 24))).toInt := by show (u_526.2.1 1 (u_526.2.1 31 (u_526.1 24).toNatClampNeg).toNatClampNeg).toInt = _; rw [G_u_526.2.1 1 rfl, G_u_526.2.1 31 rfl, G_u_526.1 24 rfl]; rfl
        try have e_536 : (s0 + 10 : Int32).toInt = (s0 : Int32).toInt + (10 : Int32).toInt := by have B_537 := IP_b I; exact add_i (by omega) (by omega)
        refine ok_seq (fun y_535 h_534 => ?_)
        have h_534' : y_535.toInt = ((s0 + 10) : Int32).toInt := by rw [h_534]
        rw [mM_SqlReaderModel_readCreate_J142]
        refine ok_bM (kP_SqlReaderModel_takes I_u_526 (by decide)) (fun r_539 u_540 z_538 => ?_)
        obtain ⟨I_u_540, G_u_540, p_541, p_542, p_543⟩ := z_538
        have F_u_540 : Fr [2, 24, 30] [31, 32] u u_540 := Fr_tr F_u_526 G_u_540 rfl rfl
        have g_544 : (u_540.1 1).toInt = (u_526.1 1).toInt := by rw [G_u_540.1 1 rfl]
        have g_545 : (u_540.1 2).toInt = (u_526.1 2).toInt := by rw [G_u_540.1 2 rfl]
        have g_546 : (u_540.1 4).toInt = (u_526.1 4).toInt := by rw [G_u_540.1 4 rfl]
        have g_547 : (u_540.1 24).toInt = (u_526.1 24).toInt := by rw [G_u_540.1 24 rfl]
        have Q_u_540_24 : u_540.1 24 = u_526.1 24 := G_u_540.1 24 rfl
        have g_548 : (ga u_540 31 (u_540.1 24)).toInt = (ga u_526 31 (u_526.1 24)).toInt := by show (u_540.2.1 31 (u_540.1 24).toNatClampNeg).toInt = _; rw [G_u_540.2.1 31 rfl, G_u_540.1 24 rfl]; rfl
        have g_549 : (ga u_540 1 (ga u_540 31 (u_540.1 24))).toInt = (ga u_526 1 (ga u_526 31 (u_526.1 24))).toInt := by show (u_540.2.1 1 (u_540.2.1 31 (u_540.1 24).toNatClampNeg).toNatClampNeg).toInt = _; rw [G_u_540.2.1 1 rfl, G_u_540.2.1 31 rfl, G_u_540.1 24 rfl]; rfl
        refine ok_eq (fun c_550 c_550' => ?_) (fun c_550 => ?_)
        · replace p_543 := (p_543.resolve_right (fun q => absurd (q.1.symm.trans c_550) (by decide))).2
          rw [mM_SqlReaderModel_readCreate_J168]
          refine ok_gd (inb_of (by have B_551 := IP_b I_u_526; have B_552 := IP_b I_u_540; omega) (by have B_553 := IP_b I_u_526; have B_554 := IP_b I_u_540; omega)) ?_
          refine ok_seq (fun u_556 h_555 => ?_)
          have I_u_556 : IP u_556 := by rw [h_555]; exact I_u_540
          have F_u_556 : Fr [2, 24, 30] [31, 32] u u_556 := by rw [h_555]; exact Fr_sa F_u_540 rfl rfl rfl
          have Q_u_556_24 : u_556.1 24 = u_540.1 24 := by rw [h_555]; rfl
          have g_557 : (ga u_556 31 (u_556.1 24)).toInt = (ga u_540 31 (u_540.1 24)).toInt := by rw [h_555]; rfl
          have g_558 : (ga u_556 1 (ga u_556 31 (u_556.1 24))).toInt = (ga u_540 1 (ga u_540 31 (u_540.1 24))).toInt := by rw [h_555]; rfl
          have g_559 : (u_556.1 1).toInt = (u_540.1 1).toInt := by rw [h_555]; rfl
          have g_560 : (u_556.1 2).toInt = (u_540.1 2).toInt := by rw [h_555]; rfl
          have g_561 : (u_556.1 4).toInt = (u_540.1 4).toInt := by rw [h_555]; rfl
          have g_562 : (u_556.1 30).toInt = (u_540.1 30).toInt := by rw [h_555]; rfl
          have g_563 : (u_556.1 24).toInt = (u_540.1 24).toInt := by rw [h_555]; rfl
          refine ok_seq (fun u_565 h_564 => ?_)
          try have e_566 : ((u_556.1 24) + 1 : Int32).toInt = ((u_556.1 24) : Int32).toInt + (1 : Int32).toInt := by have B_567 := IP_b I; have B_568 := IP_b I_u_556; exact add_i (by omega) (by omega)
          have I_u_565 : IP u_565 := by rw [h_564]; exact IP_s24 I_u_556 (by have B_569 := IP_b I_u_556; omega) (by have B_570 := IP_b I_u_556; omega)
          have F_u_565 : Fr [2, 24, 30] [31, 32] u u_565 := by rw [h_564]; exact Fr_ss F_u_556 rfl rfl
          try have e_571 : ((u_556.1 24) + 1 : Int32).toInt = ((u_556.1 24) : Int32).toInt + (1 : Int32).toInt := by have B_572 := IP_b I; have B_573 := IP_b I_u_556; exact add_i (by omega) (by omega)
          have g_574 : (u_565.1 24).toInt = (((u_556.1 24) + 1) : Int32).toInt := by rw [h_564]; rfl
          have g_575 : (u_565.1 1).toInt = (u_556.1 1).toInt := by rw [h_564]; rfl
          have g_576 : (u_565.1 2).toInt = (u_556.1 2).toInt := by rw [h_564]; rfl
          have g_577 : (u_565.1 4).toInt = (u_556.1 4).toInt := by rw [h_564]; rfl
          have g_578 : (u_565.1 30).toInt = (u_556.1 30).toInt := by rw [h_564]; rfl
          refine ok_bM (kP_SqlReaderModel_takes I_u_565 (by decide)) (fun r_580 u_581 z_579 => ?_)
          obtain ⟨I_u_581, G_u_581, p_582, p_583, p_584⟩ := z_579
          have F_u_581 : Fr [2, 24, 30] [31, 32] u u_581 := Fr_tr F_u_565 G_u_581 rfl rfl
          have g_585 : (u_581.1 1).toInt = (u_565.1 1).toInt := by rw [G_u_581.1 1 rfl]
          have g_586 : (u_581.1 2).toInt = (u_565.1 2).toInt := by rw [G_u_581.1 2 rfl]
          have g_587 : (u_581.1 4).toInt = (u_565.1 4).toInt := by rw [G_u_581.1 4 rfl]
          have g_588 : (u_581.1 24).toInt = (u_565.1 24).toInt := by rw [G_u_581.1 24 rfl]
          have Q_u_581_24 : u_581.1 24 = u_565.1 24 := G_u_581.1 24 rfl
          have g_589 : (ga u_581 31 (u_581.1 24)).toInt = (ga u_565 31 (u_565.1 24)).toInt := by show (u_581.2.1 31 (u_581.1 24).toNatClampNeg).toInt = _; rw [G_u_581.2.1 31 rfl, G_u_581.1 24 rfl]; rfl
          have g_590 : (ga u_581 1 (ga u_581 31 (u_581.1 24))).toInt = (ga u_565 1 (ga u_565 31 (u_565.1 24))).toInt := by show (u_581.2.1 1 (u_581.2.1 31 (u_581.1 24).toNatClampNeg).toNatClampNeg).toInt = _; rw [G_u_581.2.1 1 rfl, G_u_581.2.1 31 rfl, G_u_581.1 24 rfl]; rfl
          refine ok_mono (hq I_u_581 (by have B_591 := IP_b I_u_581; omega) (by have B_592 := IP_b I_u_581; omega) (by have B_593 := IP_b I_u_581; omega) (by have B_594 := IP_b I_u_581; omega) (by have B_595 := IP_b I_u_581; omega) (by have B_596 := IP_b I_u_581; omega) (by have B_597 := IP_b I_u_581; omega) (by have B_598 := IP_b I_u_581; omega)) (fun u_600 z_599 => ?_)
          obtain ⟨I_u_600, G_u_600, p_601, p_602, p_603, p_604, p_605, p_606⟩ := z_599
          have F_u_600 : Fr [2, 24, 30] [31, 32] u u_600 := Fr_tr F_u_581 G_u_600 rfl rfl
          have g_607 : (u_600.1 1).toInt = (u_581.1 1).toInt := by rw [G_u_600.1 1 rfl]
          have g_608 : (u_600.1 4).toInt = (u_581.1 4).toInt := by rw [G_u_600.1 4 rfl]
          exact ⟨I_u_600, F_u_600, (by have B_609 := IP_b I; have B_610 := IP_b I_u_600; omega), (by have B_611 := IP_b I_u_600; omega), (by have B_612 := IP_b I_u_600; have B_613 := IP_b I; omega), (by have B_614 := IP_b I_u_600; have B_615 := IP_b I; omega), (by have B_616 := IP_b I_u_600; have B_617 := IP_b I; omega), (by have B_618 := IP_b I; have B_619 := IP_b I_u_600; omega)⟩
        · replace p_543 := p_543.resolve_left (fun q => c_550 (q.1.trans (by decide)))
          clear c_550
          try have e_620 : (y_535 + 20 : Int32).toInt = (y_535 : Int32).toInt + (20 : Int32).toInt := by have B_621 := IP_b I; exact add_i (by omega) (by omega)
          rw [mM_SqlReaderModel_readCreate_J168]
          refine ok_gd (inb_of (by have B_622 := IP_b I_u_526; have B_623 := IP_b I_u_540; omega) (by have B_624 := IP_b I_u_526; have B_625 := IP_b I_u_540; omega)) ?_
          refine ok_seq (fun u_627 h_626 => ?_)
          have I_u_627 : IP u_627 := by rw [h_626]; exact I_u_540
          have F_u_627 : Fr [2, 24, 30] [31, 32] u u_627 := by rw [h_626]; exact Fr_sa F_u_540 rfl rfl rfl
          have Q_u_627_24 : u_627.1 24 = u_540.1 24 := by rw [h_626]; rfl
          have g_628 : (ga u_627 31 (u_627.1 24)).toInt = (ga u_540 31 (u_540.1 24)).toInt := by rw [h_626]; rfl
          have g_629 : (ga u_627 1 (ga u_627 31 (u_627.1 24))).toInt = (ga u_540 1 (ga u_540 31 (u_540.1 24))).toInt := by rw [h_626]; rfl
          have g_630 : (u_627.1 1).toInt = (u_540.1 1).toInt := by rw [h_626]; rfl
          have g_631 : (u_627.1 2).toInt = (u_540.1 2).toInt := by rw [h_626]; rfl
          have g_632 : (u_627.1 4).toInt = (u_540.1 4).toInt := by rw [h_626]; rfl
          have g_633 : (u_627.1 30).toInt = (u_540.1 30).toInt := by rw [h_626]; rfl
          have g_634 : (u_627.1 24).toInt = (u_540.1 24).toInt := by rw [h_626]; rfl
          refine ok_seq (fun u_636 h_635 => ?_)
          try have e_637 : ((u_627.1 24) + 1 : Int32).toInt = ((u_627.1 24) : Int32).toInt + (1 : Int32).toInt := by have B_638 := IP_b I; have B_639 := IP_b I_u_627; exact add_i (by omega) (by omega)
          have I_u_636 : IP u_636 := by rw [h_635]; exact IP_s24 I_u_627 (by have B_640 := IP_b I_u_627; omega) (by have B_641 := IP_b I_u_627; omega)
          have F_u_636 : Fr [2, 24, 30] [31, 32] u u_636 := by rw [h_635]; exact Fr_ss F_u_627 rfl rfl
          try have e_642 : ((u_627.1 24) + 1 : Int32).toInt = ((u_627.1 24) : Int32).toInt + (1 : Int32).toInt := by have B_643 := IP_b I; have B_644 := IP_b I_u_627; exact add_i (by omega) (by omega)
          have g_645 : (u_636.1 24).toInt = (((u_627.1 24) + 1) : Int32).toInt := by rw [h_635]; rfl
          have g_646 : (u_636.1 1).toInt = (u_627.1 1).toInt := by rw [h_635]; rfl
          have g_647 : (u_636.1 2).toInt = (u_627.1 2).toInt := by rw [h_635]; rfl
          have g_648 : (u_636.1 4).toInt = (u_627.1 4).toInt := by rw [h_635]; rfl
          have g_649 : (u_636.1 30).toInt = (u_627.1 30).toInt := by rw [h_635]; rfl
          refine ok_bM (kP_SqlReaderModel_takes I_u_636 (by decide)) (fun r_651 u_652 z_650 => ?_)
          obtain ⟨I_u_652, G_u_652, p_653, p_654, p_655⟩ := z_650
          have F_u_652 : Fr [2, 24, 30] [31, 32] u u_652 := Fr_tr F_u_636 G_u_652 rfl rfl
          have g_656 : (u_652.1 1).toInt = (u_636.1 1).toInt := by rw [G_u_652.1 1 rfl]
          have g_657 : (u_652.1 2).toInt = (u_636.1 2).toInt := by rw [G_u_652.1 2 rfl]
          have g_658 : (u_652.1 4).toInt = (u_636.1 4).toInt := by rw [G_u_652.1 4 rfl]
          have g_659 : (u_652.1 24).toInt = (u_636.1 24).toInt := by rw [G_u_652.1 24 rfl]
          have Q_u_652_24 : u_652.1 24 = u_636.1 24 := G_u_652.1 24 rfl
          have g_660 : (ga u_652 31 (u_652.1 24)).toInt = (ga u_636 31 (u_636.1 24)).toInt := by show (u_652.2.1 31 (u_652.1 24).toNatClampNeg).toInt = _; rw [G_u_652.2.1 31 rfl, G_u_652.1 24 rfl]; rfl
          have g_661 : (ga u_652 1 (ga u_652 31 (u_652.1 24))).toInt = (ga u_636 1 (ga u_636 31 (u_636.1 24))).toInt := by show (u_652.2.1 1 (u_652.2.1 31 (u_652.1 24).toNatClampNeg).toNatClampNeg).toInt = _; rw [G_u_652.2.1 1 rfl, G_u_652.2.1 31 rfl, G_u_652.1 24 rfl]; rfl
          refine ok_mono (hq I_u_652 (by have B_662 := IP_b I_u_652; omega) (by have B_663 := IP_b I_u_652; omega) (by have B_664 := IP_b I_u_652; omega) (by have B_665 := IP_b I_u_652; omega) (by have B_666 := IP_b I_u_652; omega) (by have B_667 := IP_b I_u_652; omega) (by have B_668 := IP_b I_u_652; omega) (by have B_669 := IP_b I_u_652; omega)) (fun u_671 z_670 => ?_)
          obtain ⟨I_u_671, G_u_671, p_672, p_673, p_674, p_675, p_676, p_677⟩ := z_670
          have F_u_671 : Fr [2, 24, 30] [31, 32] u u_671 := Fr_tr F_u_652 G_u_671 rfl rfl
          have g_678 : (u_671.1 1).toInt = (u_652.1 1).toInt := by rw [G_u_671.1 1 rfl]
          have g_679 : (u_671.1 4).toInt = (u_652.1 4).toInt := by rw [G_u_671.1 4 rfl]
          exact ⟨I_u_671, F_u_671, (by have B_680 := IP_b I; have B_681 := IP_b I_u_671; omega), (by have B_682 := IP_b I_u_671; omega), (by have B_683 := IP_b I_u_671; have B_684 := IP_b I; omega), (by have B_685 := IP_b I_u_671; have B_686 := IP_b I; omega), (by have B_687 := IP_b I_u_671; have B_688 := IP_b I; omega), (by have B_689 := IP_b I; have B_690 := IP_b I_u_671; omega)⟩
  · rw [mM_SqlReaderModel_readCreate_J117]
    refine ok_gd (by decide) ?_
    refine ok_seq (fun u_692 h_691 => ?_)
    have I_u_692 : IP u_692 := by rw [h_691]; exact IP_bad I (by have B_693 := IP_b I; omega) (by have B_694 := IP_b I; omega) (by have B_695 := IP_b I; omega)
    have F_u_692 : Fr [2, 24, 30] [31, 32] u u_692 := by rw [h_691]; exact Fr_ss (Fr_rfl u) rfl rfl
    have Q_u_692_24 : u_692.1 24 = u.1 24 := by rw [h_691]; rfl
    have g_696 : (ga u_692 31 (u_692.1 24)).toInt = (ga u 31 (u.1 24)).toInt := by rw [h_691]; rfl
    have g_697 : (ga u_692 1 (ga u_692 31 (u_692.1 24))).toInt = (ga u 1 (ga u 31 (u.1 24))).toInt := by rw [h_691]; rfl
    have g_698 : (u_692.1 2).toInt = (1 : Int32).toInt := by rw [h_691]; rfl
    have g_699 : (u_692.1 1).toInt = (u.1 1).toInt := by rw [h_691]; rfl
    have g_700 : (u_692.1 4).toInt = (u.1 4).toInt := by rw [h_691]; rfl
    have g_701 : (u_692.1 30).toInt = (u.1 30).toInt := by rw [h_691]; rfl
    have g_702 : (u_692.1 24).toInt = (u.1 24).toInt := by rw [h_691]; rfl
    refine ok_bM (kP_SqlReaderModel_takes I_u_692 (by decide)) (fun r_704 u_705 z_703 => ?_)
    obtain ⟨I_u_705, G_u_705, p_706, p_707, p_708⟩ := z_703
    have F_u_705 : Fr [2, 24, 30] [31, 32] u u_705 := Fr_tr F_u_692 G_u_705 rfl rfl
    have g_709 : (u_705.1 1).toInt = (u_692.1 1).toInt := by rw [G_u_705.1 1 rfl]
    have g_710 : (u_705.1 2).toInt = (u_692.1 2).toInt := by rw [G_u_705.1 2 rfl]
    have g_711 : (u_705.1 4).toInt = (u_692.1 4).toInt := by rw [G_u_705.1 4 rfl]
    have g_712 : (u_705.1 24).toInt = (u_692.1 24).toInt := by rw [G_u_705.1 24 rfl]
    have Q_u_705_24 : u_705.1 24 = u_692.1 24 := G_u_705.1 24 rfl
    have g_713 : (ga u_705 31 (u_705.1 24)).toInt = (ga u_692 31 (u_692.1 24)).toInt := by show (u_705.2.1 31 (u_705.1 24).toNatClampNeg).toInt = _; rw [G_u_705.2.1 31 rfl, G_u_705.1 24 rfl]; rfl
    have g_714 : (ga u_705 1 (ga u_705 31 (u_705.1 24))).toInt = (ga u_692 1 (ga u_692 31 (u_692.1 24))).toInt := by show (u_705.2.1 1 (u_705.2.1 31 (u_705.1 24).toNatClampNeg).toNatClampNeg).toInt = _; rw [G_u_705.2.1 1 rfl, G_u_705.2.1 31 rfl, G_u_705.1 24 rfl]; rfl
    refine ok_eq (fun c_715 c_715' => ?_) (fun c_715 => ?_)
    · replace p_708 := (p_708.resolve_right (fun q => absurd (q.1.symm.trans c_715) (by decide))).2
      rw [mM_SqlReaderModel_readCreate_J142]
      refine ok_bM (kP_SqlReaderModel_takes I_u_705 (by decide)) (fun r_717 u_718 z_716 => ?_)
      obtain ⟨I_u_718, G_u_718, p_719, p_720, p_721⟩ := z_716
      have F_u_718 : Fr [2, 24, 30] [31, 32] u u_718 := Fr_tr F_u_705 G_u_718 rfl rfl
      have g_722 : (u_718.1 1).toInt = (u_705.1 1).toInt := by rw [G_u_718.1 1 rfl]
      have g_723 : (u_718.1 2).toInt = (u_705.1 2).toInt := by rw [G_u_718.1 2 rfl]
      have g_724 : (u_718.1 4).toInt = (u_705.1 4).toInt := by rw [G_u_718.1 4 rfl]
      have g_725 : (u_718.1 24).toInt = (u_705.1 24).toInt := by rw [G_u_718.1 24 rfl]
      have Q_u_718_24 : u_718.1 24 = u_705.1 24 := G_u_718.1 24 rfl
      have g_726 : (ga u_718 31 (u_718.1 24)).toInt = (ga u_705 31 (u_705.1 24)).toInt := by show (u_718.2.1 31 (u_718.1 24).toNatClampNeg).toInt = _; rw [G_u_718.2.1 31 rfl, G_u_718.1 24 rfl]; rfl
      have g_727 : (ga u_718 1 (ga u_718 31 (u_718.1 24))).toInt = (ga u_705 1 (ga u_705 31 (u_705.1 24))).toInt := by show (u_718.2.1 1 (u_718.2.1 31 (u_718.1 24).toNatClampNeg).toNatClampNeg).toInt = _; rw [G_u_718.2.1 1 rfl, G_u_718.2.1 31 rfl, G_u_718.1 24 rfl]; rfl
      refine ok_eq (fun c_728 c_728' => ?_) (fun c_728 => ?_)
      · replace p_721 := (p_721.resolve_right (fun q => absurd (q.1.symm.trans c_728) (by decide))).2
        rw [mM_SqlReaderModel_readCreate_J168]
        refine ok_gd (inb_of (by have B_729 := IP_b I_u_705; have B_730 := IP_b I_u_718; omega) (by have B_731 := IP_b I_u_705; have B_732 := IP_b I_u_718; omega)) ?_
        refine ok_seq (fun u_734 h_733 => ?_)
        have I_u_734 : IP u_734 := by rw [h_733]; exact I_u_718
        have F_u_734 : Fr [2, 24, 30] [31, 32] u u_734 := by rw [h_733]; exact Fr_sa F_u_718 rfl rfl rfl
        have Q_u_734_24 : u_734.1 24 = u_718.1 24 := by rw [h_733]; rfl
        have g_735 : (ga u_734 31 (u_734.1 24)).toInt = (ga u_718 31 (u_718.1 24)).toInt := by rw [h_733]; rfl
        have g_736 : (ga u_734 1 (ga u_734 31 (u_734.1 24))).toInt = (ga u_718 1 (ga u_718 31 (u_718.1 24))).toInt := by rw [h_733]; rfl
        have g_737 : (u_734.1 1).toInt = (u_718.1 1).toInt := by rw [h_733]; rfl
        have g_738 : (u_734.1 2).toInt = (u_718.1 2).toInt := by rw [h_733]; rfl
        have g_739 : (u_734.1 4).toInt = (u_718.1 4).toInt := by rw [h_733]; rfl
        have g_740 : (u_734.1 30).toInt = (u_718.1 30).toInt := by rw [h_733]; rfl
        have g_741 : (u_734.1 24).toInt = (u_718.1 24).toInt := by rw [h_733]; rfl
        refine ok_seq (fun u_743 h_742 => ?_)
        try have e_744 : ((u_734.1 24) + 1 : Int32).toInt = ((u_734.1 24) : Int32).toInt + (1 : Int32).toInt := by have B_745 := IP_b I; have B_746 := IP_b I_u_734; exact add_i (by omega) (by omega)
        have I_u_743 : IP u_743 := by rw [h_742]; exact IP_s24 I_u_734 (by have B_747 := IP_b I_u_734; omega) (by have B_748 := IP_b I_u_734; omega)
        have F_u_743 : Fr [2, 24, 30] [31, 32] u u_743 := by rw [h_742]; exact Fr_ss F_u_734 rfl rfl
        try have e_749 : ((u_734.1 24) + 1 : Int32).toInt = ((u_734.1 24) : Int32).toInt + (1 : Int32).toInt := by have B_750 := IP_b I; have B_751 := IP_b I_u_734; exact add_i (by omega) (by omega)
        have g_752 : (u_743.1 24).toInt = (((u_734.1 24) + 1) : Int32).toInt := by rw [h_742]; rfl
        have g_753 : (u_743.1 1).toInt = (u_734.1 1).toInt := by rw [h_742]; rfl
        have g_754 : (u_743.1 2).toInt = (u_734.1 2).toInt := by rw [h_742]; rfl
        have g_755 : (u_743.1 4).toInt = (u_734.1 4).toInt := by rw [h_742]; rfl
        have g_756 : (u_743.1 30).toInt = (u_734.1 30).toInt := by rw [h_742]; rfl
        refine ok_bM (kP_SqlReaderModel_takes I_u_743 (by decide)) (fun r_758 u_759 z_757 => ?_)
        obtain ⟨I_u_759, G_u_759, p_760, p_761, p_762⟩ := z_757
        have F_u_759 : Fr [2, 24, 30] [31, 32] u u_759 := Fr_tr F_u_743 G_u_759 rfl rfl
        have g_763 : (u_759.1 1).toInt = (u_743.1 1).toInt := by rw [G_u_759.1 1 rfl]
        have g_764 : (u_759.1 2).toInt = (u_743.1 2).toInt := by rw [G_u_759.1 2 rfl]
        have g_765 : (u_759.1 4).toInt = (u_743.1 4).toInt := by rw [G_u_759.1 4 rfl]
        have g_766 : (u_759.1 24).toInt = (u_743.1 24).toInt := by rw [G_u_759.1 24 rfl]
        have Q_u_759_24 : u_759.1 24 = u_743.1 24 := G_u_759.1 24 rfl
        have g_767 : (ga u_759 31 (u_759.1 24)).toInt = (ga u_743 31 (u_743.1 24)).toInt := by show (u_759.2.1 31 (u_759.1 24).toNatClampNeg).toInt = _; rw [G_u_759.2.1 31 rfl, G_u_759.1 24 rfl]; rfl
        have g_768 : (ga u_759 1 (ga u_759 31 (u_759.1 24))).toInt = (ga u_743 1 (ga u_743 31 (u_743.1 24))).toInt := by show (u_759.2.1 1 (u_759.2.1 31 (u_759.1 24).toNatClampNeg).toNatClampNeg).toInt = _; rw [G_u_759.2.1 1 rfl, G_u_759.2.1 31 rfl, G_u_759.1 24 rfl]; rfl
        refine ok_mono (hq I_u_759 (by have B_769 := IP_b I_u_759; omega) (by have B_770 := IP_b I_u_759; omega) (by have B_771 := IP_b I_u_759; omega) (by have B_772 := IP_b I_u_759; omega) (by have B_773 := IP_b I_u_759; omega) (by have B_774 := IP_b I_u_759; omega) (by have B_775 := IP_b I_u_759; omega) (by have B_776 := IP_b I_u_759; omega)) (fun u_778 z_777 => ?_)
        obtain ⟨I_u_778, G_u_778, p_779, p_780, p_781, p_782, p_783, p_784⟩ := z_777
        have F_u_778 : Fr [2, 24, 30] [31, 32] u u_778 := Fr_tr F_u_759 G_u_778 rfl rfl
        have g_785 : (u_778.1 1).toInt = (u_759.1 1).toInt := by rw [G_u_778.1 1 rfl]
        have g_786 : (u_778.1 4).toInt = (u_759.1 4).toInt := by rw [G_u_778.1 4 rfl]
        exact ⟨I_u_778, F_u_778, (by have B_787 := IP_b I; have B_788 := IP_b I_u_778; omega), (by have B_789 := IP_b I_u_778; omega), (by have B_790 := IP_b I_u_778; have B_791 := IP_b I; omega), (by have B_792 := IP_b I_u_778; have B_793 := IP_b I; omega), (by have B_794 := IP_b I_u_778; have B_795 := IP_b I; omega), (by have B_796 := IP_b I; have B_797 := IP_b I_u_778; omega)⟩
      · replace p_721 := p_721.resolve_left (fun q => c_728 (q.1.trans (by decide)))
        clear c_728
        try have e_798 : (s0 + 20 : Int32).toInt = (s0 : Int32).toInt + (20 : Int32).toInt := by have B_799 := IP_b I; exact add_i (by omega) (by omega)
        rw [mM_SqlReaderModel_readCreate_J168]
        refine ok_gd (inb_of (by have B_800 := IP_b I_u_705; have B_801 := IP_b I_u_718; omega) (by have B_802 := IP_b I_u_705; have B_803 := IP_b I_u_718; omega)) ?_
        refine ok_seq (fun u_805 h_804 => ?_)
        have I_u_805 : IP u_805 := by rw [h_804]; exact I_u_718
        have F_u_805 : Fr [2, 24, 30] [31, 32] u u_805 := by rw [h_804]; exact Fr_sa F_u_718 rfl rfl rfl
        have Q_u_805_24 : u_805.1 24 = u_718.1 24 := by rw [h_804]; rfl
        have g_806 : (ga u_805 31 (u_805.1 24)).toInt = (ga u_718 31 (u_718.1 24)).toInt := by rw [h_804]; rfl
        have g_807 : (ga u_805 1 (ga u_805 31 (u_805.1 24))).toInt = (ga u_718 1 (ga u_718 31 (u_718.1 24))).toInt := by rw [h_804]; rfl
        have g_808 : (u_805.1 1).toInt = (u_718.1 1).toInt := by rw [h_804]; rfl
        have g_809 : (u_805.1 2).toInt = (u_718.1 2).toInt := by rw [h_804]; rfl
        have g_810 : (u_805.1 4).toInt = (u_718.1 4).toInt := by rw [h_804]; rfl
        have g_811 : (u_805.1 30).toInt = (u_718.1 30).toInt := by rw [h_804]; rfl
        have g_812 : (u_805.1 24).toInt = (u_718.1 24).toInt := by rw [h_804]; rfl
        refine ok_seq (fun u_814 h_813 => ?_)
        try have e_815 : ((u_805.1 24) + 1 : Int32).toInt = ((u_805.1 24) : Int32).toInt + (1 : Int32).toInt := by have B_816 := IP_b I; have B_817 := IP_b I_u_805; exact add_i (by omega) (by omega)
        have I_u_814 : IP u_814 := by rw [h_813]; exact IP_s24 I_u_805 (by have B_818 := IP_b I_u_805; omega) (by have B_819 := IP_b I_u_805; omega)
        have F_u_814 : Fr [2, 24, 30] [31, 32] u u_814 := by rw [h_813]; exact Fr_ss F_u_805 rfl rfl
        try have e_820 : ((u_805.1 24) + 1 : Int32).toInt = ((u_805.1 24) : Int32).toInt + (1 : Int32).toInt := by have B_821 := IP_b I; have B_822 := IP_b I_u_805; exact add_i (by omega) (by omega)
        have g_823 : (u_814.1 24).toInt = (((u_805.1 24) + 1) : Int32).toInt := by rw [h_813]; rfl
        have g_824 : (u_814.1 1).toInt = (u_805.1 1).toInt := by rw [h_813]; rfl
        have g_825 : (u_814.1 2).toInt = (u_805.1 2).toInt := by rw [h_813]; rfl
        have g_826 : (u_814.1 4).toInt = (u_805.1 4).toInt := by rw [h_813]; rfl
        have g_827 : (u_814.1 30).toInt = (u_805.1 30).toInt := by rw [h_813]; rfl
        refine ok_bM (kP_SqlReaderModel_takes I_u_814 (by decide)) (fun r_829 u_830 z_828 => ?_)
        obtain ⟨I_u_830, G_u_830, p_831, p_832, p_833⟩ := z_828
        have F_u_830 : Fr [2, 24, 30] [31, 32] u u_830 := Fr_tr F_u_814 G_u_830 rfl rfl
        have g_834 : (u_830.1 1).toInt = (u_814.1 1).toInt := by rw [G_u_830.1 1 rfl]
        have g_835 : (u_830.1 2).toInt = (u_814.1 2).toInt := by rw [G_u_830.1 2 rfl]
        have g_836 : (u_830.1 4).toInt = (u_814.1 4).toInt := by rw [G_u_830.1 4 rfl]
        have g_837 : (u_830.1 24).toInt = (u_814.1 24).toInt := by rw [G_u_830.1 24 rfl]
        have Q_u_830_24 : u_830.1 24 = u_814.1 24 := G_u_830.1 24 rfl
        have g_838 : (ga u_830 31 (u_830.1 24)).toInt = (ga u_814 31 (u_814.1 24)).toInt := by show (u_830.2.1 31 (u_830.1 24).toNatClampNeg).toInt = _; rw [G_u_830.2.1 31 rfl, G_u_830.1 24 rfl]; rfl
        have g_839 : (ga u_830 1 (ga u_830 31 (u_830.1 24))).toInt = (ga u_814 1 (ga u_814 31 (u_814.1 24))).toInt := by show (u_830.2.1 1 (u_830.2.1 31 (u_830.1 24).toNatClampNeg).toNatClampNeg).toInt = _; rw [G_u_830.2.1 1 rfl, G_u_830.2.1 31 rfl, G_u_830.1 24 rfl]; rfl
        refine ok_mono (hq I_u_830 (by have B_840 := IP_b I_u_830; omega) (by have B_841 := IP_b I_u_830; omega) (by have B_842 := IP_b I_u_830; omega) (by have B_843 := IP_b I_u_830; omega) (by have B_844 := IP_b I_u_830; omega) (by have B_845 := IP_b I_u_830; omega) (by have B_846 := IP_b I_u_830; omega) (by have B_847 := IP_b I_u_830; omega)) (fun u_849 z_848 => ?_)
        obtain ⟨I_u_849, G_u_849, p_850, p_851, p_852, p_853, p_854, p_855⟩ := z_848
        have F_u_849 : Fr [2, 24, 30] [31, 32] u u_849 := Fr_tr F_u_830 G_u_849 rfl rfl
        have g_856 : (u_849.1 1).toInt = (u_830.1 1).toInt := by rw [G_u_849.1 1 rfl]
        have g_857 : (u_849.1 4).toInt = (u_830.1 4).toInt := by rw [G_u_849.1 4 rfl]
        exact ⟨I_u_849, F_u_849, (by have B_858 := IP_b I; have B_859 := IP_b I_u_849; omega), (by have B_860 := IP_b I_u_849; omega), (by have B_861 := IP_b I_u_849; have B_862 := IP_b I; omega), (by have B_863 := IP_b I_u_849; have B_864 := IP_b I; omega), (by have B_865 := IP_b I_u_849; have B_866 := IP_b I; omega), (by have B_867 := IP_b I; have B_868 := IP_b I_u_849; omega)⟩
    · replace p_708 := p_708.resolve_left (fun q => c_715 (q.1.trans (by decide)))
      clear c_715
      refine ok_bP (kP_SqlReaderModel_need I_u_705 (by decide)) (fun u_870 z_869 => ?_)
      obtain ⟨I_u_870, G_u_870, p_871, p_872⟩ := z_869
      have F_u_870 : Fr [2, 24, 30] [31, 32] u u_870 := Fr_tr F_u_705 G_u_870 rfl rfl
      have g_873 : (u_870.1 1).toInt = (u_705.1 1).toInt := by rw [G_u_870.1 1 rfl]
      have g_874 : (u_870.1 4).toInt = (u_705.1 4).toInt := by rw [G_u_870.1 4 rfl]
      have g_875 : (u_870.1 24).toInt = (u_705.1 24).toInt := by rw [G_u_870.1 24 rfl]
      have Q_u_870_24 : u_870.1 24 = u_705.1 24 := G_u_870.1 24 rfl
      have g_876 : (ga u_870 31 (u_870.1 24)).toInt = (ga u_705 31 (u_705.1 24)).toInt := by show (u_870.2.1 31 (u_870.1 24).toNatClampNeg).toInt = _; rw [G_u_870.2.1 31 rfl, G_u_870.1 24 rfl]; rfl
      have g_877 : (ga u_870 1 (ga u_870 31 (u_870.1 24))).toInt = (ga u_705 1 (ga u_705 31 (u_705.1 24))).toInt := by show (u_870.2.1 1 (u_870.2.1 31 (u_870.1 24).toNatClampNeg).toNatClampNeg).toInt = _; rw [G_u_870.2.1 1 rfl, G_u_870.2.1 31 rfl, G_u_870.1 24 rfl]; rfl
      try have e_880 : (s0 + 10 : Int32).toInt = (s0 : Int32).toInt + (10 : Int32).toInt := by have B_881 := IP_b I; exact add_i (by omega) (by omega)
      refine ok_seq (fun y_879 h_878 => ?_)
      have h_878' : y_879.toInt = ((s0 + 10) : Int32).toInt := by rw [h_878]
      rw [mM_SqlReaderModel_readCreate_J142]
      refine ok_bM (kP_SqlReaderModel_takes I_u_870 (by decide)) (fun r_883 u_884 z_882 => ?_)
      obtain ⟨I_u_884, G_u_884, p_885, p_886, p_887⟩ := z_882
      have F_u_884 : Fr [2, 24, 30] [31, 32] u u_884 := Fr_tr F_u_870 G_u_884 rfl rfl
      have g_888 : (u_884.1 1).toInt = (u_870.1 1).toInt := by rw [G_u_884.1 1 rfl]
      have g_889 : (u_884.1 2).toInt = (u_870.1 2).toInt := by rw [G_u_884.1 2 rfl]
      have g_890 : (u_884.1 4).toInt = (u_870.1 4).toInt := by rw [G_u_884.1 4 rfl]
      have g_891 : (u_884.1 24).toInt = (u_870.1 24).toInt := by rw [G_u_884.1 24 rfl]
      have Q_u_884_24 : u_884.1 24 = u_870.1 24 := G_u_884.1 24 rfl
      have g_892 : (ga u_884 31 (u_884.1 24)).toInt = (ga u_870 31 (u_870.1 24)).toInt := by show (u_884.2.1 31 (u_884.1 24).toNatClampNeg).toInt = _; rw [G_u_884.2.1 31 rfl, G_u_884.1 24 rfl]; rfl
      have g_893 : (ga u_884 1 (ga u_884 31 (u_884.1 24))).toInt = (ga u_870 1 (ga u_870 31 (u_870.1 24))).toInt := by show (u_884.2.1 1 (u_884.2.1 31 (u_884.1 24).toNatClampNeg).toNatClampNeg).toInt = _; rw [G_u_884.2.1 1 rfl, G_u_884.2.1 31 rfl, G_u_884.1 24 rfl]; rfl
      refine ok_eq (fun c_894 c_894' => ?_) (fun c_894 => ?_)
      · replace p_887 := (p_887.resolve_right (fun q => absurd (q.1.symm.trans c_894) (by decide))).2
        rw [mM_SqlReaderModel_readCreate_J168]
        refine ok_gd (inb_of (by have B_895 := IP_b I_u_870; have B_896 := IP_b I_u_884; omega) (by have B_897 := IP_b I_u_870; have B_898 := IP_b I_u_884; omega)) ?_
        refine ok_seq (fun u_900 h_899 => ?_)
        have I_u_900 : IP u_900 := by rw [h_899]; exact I_u_884
        have F_u_900 : Fr [2, 24, 30] [31, 32] u u_900 := by rw [h_899]; exact Fr_sa F_u_884 rfl rfl rfl
        have Q_u_900_24 : u_900.1 24 = u_884.1 24 := by rw [h_899]; rfl
        have g_901 : (ga u_900 31 (u_900.1 24)).toInt = (ga u_884 31 (u_884.1 24)).toInt := by rw [h_899]; rfl
        have g_902 : (ga u_900 1 (ga u_900 31 (u_900.1 24))).toInt = (ga u_884 1 (ga u_884 31 (u_884.1 24))).toInt := by rw [h_899]; rfl
        have g_903 : (u_900.1 1).toInt = (u_884.1 1).toInt := by rw [h_899]; rfl
        have g_904 : (u_900.1 2).toInt = (u_884.1 2).toInt := by rw [h_899]; rfl
        have g_905 : (u_900.1 4).toInt = (u_884.1 4).toInt := by rw [h_899]; rfl
        have g_906 : (u_900.1 30).toInt = (u_884.1 30).toInt := by rw [h_899]; rfl
        have g_907 : (u_900.1 24).toInt = (u_884.1 24).toInt := by rw [h_899]; rfl
        refine ok_seq (fun u_909 h_908 => ?_)
        try have e_910 : ((u_900.1 24) + 1 : Int32).toInt = ((u_900.1 24) : Int32).toInt + (1 : Int32).toInt := by have B_911 := IP_b I; have B_912 := IP_b I_u_900; exact add_i (by omega) (by omega)
        have I_u_909 : IP u_909 := by rw [h_908]; exact IP_s24 I_u_900 (by have B_913 := IP_b I_u_900; omega) (by have B_914 := IP_b I_u_900; omega)
        have F_u_909 : Fr [2, 24, 30] [31, 32] u u_909 := by rw [h_908]; exact Fr_ss F_u_900 rfl rfl
        try have e_915 : ((u_900.1 24) + 1 : Int32).toInt = ((u_900.1 24) : Int32).toInt + (1 : Int32).toInt := by have B_916 := IP_b I; have B_917 := IP_b I_u_900; exact add_i (by omega) (by omega)
        have g_918 : (u_909.1 24).toInt = (((u_900.1 24) + 1) : Int32).toInt := by rw [h_908]; rfl
        have g_919 : (u_909.1 1).toInt = (u_900.1 1).toInt := by rw [h_908]; rfl
        have g_920 : (u_909.1 2).toInt = (u_900.1 2).toInt := by rw [h_908]; rfl
        have g_921 : (u_909.1 4).toInt = (u_900.1 4).toInt := by rw [h_908]; rfl
        have g_922 : (u_909.1 30).toInt = (u_900.1 30).toInt := by rw [h_908]; rfl
        refine ok_bM (kP_SqlReaderModel_takes I_u_909 (by decide)) (fun r_924 u_925 z_923 => ?_)
        obtain ⟨I_u_925, G_u_925, p_926, p_927, p_928⟩ := z_923
        have F_u_925 : Fr [2, 24, 30] [31, 32] u u_925 := Fr_tr F_u_909 G_u_925 rfl rfl
        have g_929 : (u_925.1 1).toInt = (u_909.1 1).toInt := by rw [G_u_925.1 1 rfl]
        have g_930 : (u_925.1 2).toInt = (u_909.1 2).toInt := by rw [G_u_925.1 2 rfl]
        have g_931 : (u_925.1 4).toInt = (u_909.1 4).toInt := by rw [G_u_925.1 4 rfl]
        have g_932 : (u_925.1 24).toInt = (u_909.1 24).toInt := by rw [G_u_925.1 24 rfl]
        have Q_u_925_24 : u_925.1 24 = u_909.1 24 := G_u_925.1 24 rfl
        have g_933 : (ga u_925 31 (u_925.1 24)).toInt = (ga u_909 31 (u_909.1 24)).toInt := by show (u_925.2.1 31 (u_925.1 24).toNatClampNeg).toInt = _; rw [G_u_925.2.1 31 rfl, G_u_925.1 24 rfl]; rfl
        have g_934 : (ga u_925 1 (ga u_925 31 (u_925.1 24))).toInt = (ga u_909 1 (ga u_909 31 (u_909.1 24))).toInt := by show (u_925.2.1 1 (u_925.2.1 31 (u_925.1 24).toNatClampNeg).toNatClampNeg).toInt = _; rw [G_u_925.2.1 1 rfl, G_u_925.2.1 31 rfl, G_u_925.1 24 rfl]; rfl
        refine ok_mono (hq I_u_925 (by have B_935 := IP_b I_u_925; omega) (by have B_936 := IP_b I_u_925; omega) (by have B_937 := IP_b I_u_925; omega) (by have B_938 := IP_b I_u_925; omega) (by have B_939 := IP_b I_u_925; omega) (by have B_940 := IP_b I_u_925; omega) (by have B_941 := IP_b I_u_925; omega) (by have B_942 := IP_b I_u_925; omega)) (fun u_944 z_943 => ?_)
        obtain ⟨I_u_944, G_u_944, p_945, p_946, p_947, p_948, p_949, p_950⟩ := z_943
        have F_u_944 : Fr [2, 24, 30] [31, 32] u u_944 := Fr_tr F_u_925 G_u_944 rfl rfl
        have g_951 : (u_944.1 1).toInt = (u_925.1 1).toInt := by rw [G_u_944.1 1 rfl]
        have g_952 : (u_944.1 4).toInt = (u_925.1 4).toInt := by rw [G_u_944.1 4 rfl]
        exact ⟨I_u_944, F_u_944, (by have B_953 := IP_b I; have B_954 := IP_b I_u_944; omega), (by have B_955 := IP_b I_u_944; omega), (by have B_956 := IP_b I_u_944; have B_957 := IP_b I; omega), (by have B_958 := IP_b I_u_944; have B_959 := IP_b I; omega), (by have B_960 := IP_b I_u_944; have B_961 := IP_b I; omega), (by have B_962 := IP_b I; have B_963 := IP_b I_u_944; omega)⟩
      · replace p_887 := p_887.resolve_left (fun q => c_894 (q.1.trans (by decide)))
        clear c_894
        try have e_964 : (y_879 + 20 : Int32).toInt = (y_879 : Int32).toInt + (20 : Int32).toInt := by have B_965 := IP_b I; exact add_i (by omega) (by omega)
        rw [mM_SqlReaderModel_readCreate_J168]
        refine ok_gd (inb_of (by have B_966 := IP_b I_u_870; have B_967 := IP_b I_u_884; omega) (by have B_968 := IP_b I_u_870; have B_969 := IP_b I_u_884; omega)) ?_
        refine ok_seq (fun u_971 h_970 => ?_)
        have I_u_971 : IP u_971 := by rw [h_970]; exact I_u_884
        have F_u_971 : Fr [2, 24, 30] [31, 32] u u_971 := by rw [h_970]; exact Fr_sa F_u_884 rfl rfl rfl
        have Q_u_971_24 : u_971.1 24 = u_884.1 24 := by rw [h_970]; rfl
        have g_972 : (ga u_971 31 (u_971.1 24)).toInt = (ga u_884 31 (u_884.1 24)).toInt := by rw [h_970]; rfl
        have g_973 : (ga u_971 1 (ga u_971 31 (u_971.1 24))).toInt = (ga u_884 1 (ga u_884 31 (u_884.1 24))).toInt := by rw [h_970]; rfl
        have g_974 : (u_971.1 1).toInt = (u_884.1 1).toInt := by rw [h_970]; rfl
        have g_975 : (u_971.1 2).toInt = (u_884.1 2).toInt := by rw [h_970]; rfl
        have g_976 : (u_971.1 4).toInt = (u_884.1 4).toInt := by rw [h_970]; rfl
        have g_977 : (u_971.1 30).toInt = (u_884.1 30).toInt := by rw [h_970]; rfl
        have g_978 : (u_971.1 24).toInt = (u_884.1 24).toInt := by rw [h_970]; rfl
        refine ok_seq (fun u_980 h_979 => ?_)
        try have e_981 : ((u_971.1 24) + 1 : Int32).toInt = ((u_971.1 24) : Int32).toInt + (1 : Int32).toInt := by have B_982 := IP_b I; have B_983 := IP_b I_u_971; exact add_i (by omega) (by omega)
        have I_u_980 : IP u_980 := by rw [h_979]; exact IP_s24 I_u_971 (by have B_984 := IP_b I_u_971; omega) (by have B_985 := IP_b I_u_971; omega)
        have F_u_980 : Fr [2, 24, 30] [31, 32] u u_980 := by rw [h_979]; exact Fr_ss F_u_971 rfl rfl
        try have e_986 : ((u_971.1 24) + 1 : Int32).toInt = ((u_971.1 24) : Int32).toInt + (1 : Int32).toInt := by have B_987 := IP_b I; have B_988 := IP_b I_u_971; exact add_i (by omega) (by omega)
        have g_989 : (u_980.1 24).toInt = (((u_971.1 24) + 1) : Int32).toInt := by rw [h_979]; rfl
        have g_990 : (u_980.1 1).toInt = (u_971.1 1).toInt := by rw [h_979]; rfl
        have g_991 : (u_980.1 2).toInt = (u_971.1 2).toInt := by rw [h_979]; rfl
        have g_992 : (u_980.1 4).toInt = (u_971.1 4).toInt := by rw [h_979]; rfl
        have g_993 : (u_980.1 30).toInt = (u_971.1 30).toInt := by rw [h_979]; rfl
        refine ok_bM (kP_SqlReaderModel_takes I_u_980 (by decide)) (fun r_995 u_996 z_994 => ?_)
        obtain ⟨I_u_996, G_u_996, p_997, p_998, p_999⟩ := z_994
        have F_u_996 : Fr [2, 24, 30] [31, 32] u u_996 := Fr_tr F_u_980 G_u_996 rfl rfl
        have g_1000 : (u_996.1 1).toInt = (u_980.1 1).toInt := by rw [G_u_996.1 1 rfl]
        have g_1001 : (u_996.1 2).toInt = (u_980.1 2).toInt := by rw [G_u_996.1 2 rfl]
        have g_1002 : (u_996.1 4).toInt = (u_980.1 4).toInt := by rw [G_u_996.1 4 rfl]
        have g_1003 : (u_996.1 24).toInt = (u_980.1 24).toInt := by rw [G_u_996.1 24 rfl]
        have Q_u_996_24 : u_996.1 24 = u_980.1 24 := G_u_996.1 24 rfl
        have g_1004 : (ga u_996 31 (u_996.1 24)).toInt = (ga u_980 31 (u_980.1 24)).toInt := by show (u_996.2.1 31 (u_996.1 24).toNatClampNeg).toInt = _; rw [G_u_996.2.1 31 rfl, G_u_996.1 24 rfl]; rfl
        have g_1005 : (ga u_996 1 (ga u_996 31 (u_996.1 24))).toInt = (ga u_980 1 (ga u_980 31 (u_980.1 24))).toInt := by show (u_996.2.1 1 (u_996.2.1 31 (u_996.1 24).toNatClampNeg).toNatClampNeg).toInt = _; rw [G_u_996.2.1 1 rfl, G_u_996.2.1 31 rfl, G_u_996.1 24 rfl]; rfl
        refine ok_mono (hq I_u_996 (by have B_1006 := IP_b I_u_996; omega) (by have B_1007 := IP_b I_u_996; omega) (by have B_1008 := IP_b I_u_996; omega) (by have B_1009 := IP_b I_u_996; omega) (by have B_1010 := IP_b I_u_996; omega) (by have B_1011 := IP_b I_u_996; omega) (by have B_1012 := IP_b I_u_996; omega) (by have B_1013 := IP_b I_u_996; omega)) (fun u_1015 z_1014 => ?_)
        obtain ⟨I_u_1015, G_u_1015, p_1016, p_1017, p_1018, p_1019, p_1020, p_1021⟩ := z_1014
        have F_u_1015 : Fr [2, 24, 30] [31, 32] u u_1015 := Fr_tr F_u_996 G_u_1015 rfl rfl
        have g_1022 : (u_1015.1 1).toInt = (u_996.1 1).toInt := by rw [G_u_1015.1 1 rfl]
        have g_1023 : (u_1015.1 4).toInt = (u_996.1 4).toInt := by rw [G_u_1015.1 4 rfl]
        exact ⟨I_u_1015, F_u_1015, (by have B_1024 := IP_b I; have B_1025 := IP_b I_u_1015; omega), (by have B_1026 := IP_b I_u_1015; omega), (by have B_1027 := IP_b I_u_1015; have B_1028 := IP_b I; omega), (by have B_1029 := IP_b I_u_1015; have B_1030 := IP_b I; omega), (by have B_1031 := IP_b I_u_1015; have B_1032 := IP_b I; omega), (by have B_1033 := IP_b I; have B_1034 := IP_b I_u_1015; omega)⟩
