set_option maxHeartbeats 20000000 in
theorem kP_SqlReaderModel_readOther {u : St} (I : IP u) (h0 : (u.1 4).toInt ≤ 185000) (h1 : (u.1 2).toInt = 1 ∨ ((u.1 4).toInt ≤ 100000 + 40 * (u.1 30).toInt ∧ (u.1 30).toInt ≤ (u.1 1).toInt)) (h2 : (u.1 30).toInt ≤ 3780) (h3 : (u.1 16).toInt = 0) (h4 : (u.1 17).toInt = 0) (h5 : (u.1 18).toInt = 0) (h6 : (u.1 19).toInt = 0) (h7 : (u.1 23).toInt = 0) (h8 : (u.1 20).toInt = 0) (h9 : (u.1 24).toInt = 0) (h10 : (u.1 7).toInt = 0) : ok (mM_SqlReaderModel_readOther u) (fun v => IP v ∧ Fr [2, 4, 5, 7, 8, 10, 11, 12, 13, 14, 15, 16, 17, 18, 19, 20, 21, 23, 24, 26, 27, 28, 29, 30] [10, 11, 12, 13, 14, 15, 16, 17, 18, 19, 20, 21, 22, 23, 25, 26, 27, 29, 30, 31, 32] u v ∧ (u.1 2).toInt ≤ (v.1 2).toInt ∧ (v.1 4).toInt ≤ 185000 ∧ ((v.1 2).toInt = 1 ∨ ((v.1 4).toInt ≤ 100000 + 40 * (v.1 30).toInt ∧ (v.1 30).toInt ≤ (u.1 1).toInt)) ∧ ((v.1 30).toInt ≤ (u.1 30).toInt + 7 ∨ (v.1 30).toInt ≤ (u.1 1).toInt + 7) ∧ ((v.1 2).toInt = 1 ∨ (u.1 30).toInt ≤ (v.1 30).toInt)) := by
  have l0 : (0 : Int32).toInt = 0 := by decide
  have l1 : (1 : Int32).toInt = 1 := by decide
  have l2 : (2 : Int32).toInt = 2 := by decide
  have l3 : (3 : Int32).toInt = 3 := by decide
  have l4 : (4 : Int32).toInt = 4 := by decide
  have l5 : (5 : Int32).toInt = 5 := by decide
  have l7 : (7 : Int32).toInt = 7 := by decide
  have l10 : (10 : Int32).toInt = 10 := by decide
  have l11 : (11 : Int32).toInt = 11 := by decide
  have l12 : (12 : Int32).toInt = 12 := by decide
  have l13 : (13 : Int32).toInt = 13 := by decide
  have l14 : (14 : Int32).toInt = 14 := by decide
  have l15 : (15 : Int32).toInt = 15 := by decide
  have l16 : (16 : Int32).toInt = 16 := by decide
  have l17 : (17 : Int32).toInt = 17 := by decide
  have l18 : (18 : Int32).toInt = 18 := by decide
  have l19 : (19 : Int32).toInt = 19 := by decide
  have l20 : (20 : Int32).toInt = 20 := by decide
  have l23 : (23 : Int32).toInt = 23 := by decide
  have l24 : (24 : Int32).toInt = 24 := by decide
  have l30 : (30 : Int32).toInt = 30 := by decide
  have l40 : (40 : Int32).toInt = 40 := by decide
  have l123 : (123 : Int32).toInt = 123 := by decide
  have l124 : (124 : Int32).toInt = 124 := by decide
  have l131 : (131 : Int32).toInt = 131 := by decide
  have l132 : (132 : Int32).toInt = 132 := by decide
  have l137 : (137 : Int32).toInt = 137 := by decide
  have l138 : (138 : Int32).toInt = 138 := by decide
  have l139 : (139 : Int32).toInt = 139 := by decide
  have l140 : (140 : Int32).toInt = 140 := by decide
  have l141 : (141 : Int32).toInt = 141 := by decide
  have l142 : (142 : Int32).toInt = 142 := by decide
  have l146 : (146 : Int32).toInt = 146 := by decide
  have l147 : (147 : Int32).toInt = 147 := by decide
  have l148 : (148 : Int32).toInt = 148 := by decide
  have l149 : (149 : Int32).toInt = 149 := by decide
  have l150 : (150 : Int32).toInt = 150 := by decide
  have l3790 : (3790 : Int32).toInt = 3790 := by decide
  have l3800 : (3800 : Int32).toInt = 3800 := by decide
  have l3900 : (3900 : Int32).toInt = 3900 := by decide
  have l4000 : (4000 : Int32).toInt = 4000 := by decide
  have l100000 : (100000 : Int32).toInt = 100000 := by decide
  have l185000 : (185000 : Int32).toInt = 185000 := by decide
  rw [mM_SqlReaderModel_readOther]
  refine ok_bM (kP_SqlReaderModel_takes I (by decide)) (fun r_2 u_3 z_1 => ?_)
  obtain ⟨I_u_3, G_u_3, p_4, p_5, p_6⟩ := z_1
  have F_u_3 : Fr [2, 4, 5, 7, 8, 10, 11, 12, 13, 14, 15, 16, 17, 18, 19, 20, 21, 23, 24, 26, 27, 28, 29, 30] [10, 11, 12, 13, 14, 15, 16, 17, 18, 19, 20, 21, 22, 23, 25, 26, 27, 29, 30, 31, 32] u u_3 := Fr_tr (Fr_rfl u) G_u_3 rfl rfl
  have g_7 : (u_3.1 1).toInt = (u.1 1).toInt := by rw [G_u_3.1 1 rfl]
  have g_8 : (u_3.1 2).toInt = (u.1 2).toInt := by rw [G_u_3.1 2 rfl]
  have g_9 : (u_3.1 4).toInt = (u.1 4).toInt := by rw [G_u_3.1 4 rfl]
  have g_10 : (u_3.1 7).toInt = (u.1 7).toInt := by rw [G_u_3.1 7 rfl]
  have g_11 : (u_3.1 8).toInt = (u.1 8).toInt := by rw [G_u_3.1 8 rfl]
  have g_12 : (u_3.1 10).toInt = (u.1 10).toInt := by rw [G_u_3.1 10 rfl]
  have g_13 : (u_3.1 16).toInt = (u.1 16).toInt := by rw [G_u_3.1 16 rfl]
  have g_14 : (u_3.1 17).toInt = (u.1 17).toInt := by rw [G_u_3.1 17 rfl]
  have g_15 : (u_3.1 18).toInt = (u.1 18).toInt := by rw [G_u_3.1 18 rfl]
  have g_16 : (u_3.1 19).toInt = (u.1 19).toInt := by rw [G_u_3.1 19 rfl]
  have g_17 : (u_3.1 20).toInt = (u.1 20).toInt := by rw [G_u_3.1 20 rfl]
  have g_18 : (u_3.1 23).toInt = (u.1 23).toInt := by rw [G_u_3.1 23 rfl]
  have g_19 : (u_3.1 24).toInt = (u.1 24).toInt := by rw [G_u_3.1 24 rfl]
  refine ok_eq (fun c_20 c_20' => ?_) (fun c_20 => ?_)
  · replace p_6 := (p_6.resolve_right (fun q => absurd (q.1.symm.trans c_20) (by decide))).2
    refine ok_bM (kP_SqlReaderModel_takes I_u_3 (by decide)) (fun r_22 u_23 z_21 => ?_)
    obtain ⟨I_u_23, G_u_23, p_24, p_25, p_26⟩ := z_21
    have F_u_23 : Fr [2, 4, 5, 7, 8, 10, 11, 12, 13, 14, 15, 16, 17, 18, 19, 20, 21, 23, 24, 26, 27, 28, 29, 30] [10, 11, 12, 13, 14, 15, 16, 17, 18, 19, 20, 21, 22, 23, 25, 26, 27, 29, 30, 31, 32] u u_23 := Fr_tr F_u_3 G_u_23 rfl rfl
    have g_27 : (u_23.1 1).toInt = (u_3.1 1).toInt := by rw [G_u_23.1 1 rfl]
    have g_28 : (u_23.1 2).toInt = (u_3.1 2).toInt := by rw [G_u_23.1 2 rfl]
    have g_29 : (u_23.1 4).toInt = (u_3.1 4).toInt := by rw [G_u_23.1 4 rfl]
    have g_30 : (u_23.1 7).toInt = (u_3.1 7).toInt := by rw [G_u_23.1 7 rfl]
    have g_31 : (u_23.1 8).toInt = (u_3.1 8).toInt := by rw [G_u_23.1 8 rfl]
    have g_32 : (u_23.1 10).toInt = (u_3.1 10).toInt := by rw [G_u_23.1 10 rfl]
    have g_33 : (u_23.1 16).toInt = (u_3.1 16).toInt := by rw [G_u_23.1 16 rfl]
    have g_34 : (u_23.1 17).toInt = (u_3.1 17).toInt := by rw [G_u_23.1 17 rfl]
    have g_35 : (u_23.1 18).toInt = (u_3.1 18).toInt := by rw [G_u_23.1 18 rfl]
    have g_36 : (u_23.1 19).toInt = (u_3.1 19).toInt := by rw [G_u_23.1 19 rfl]
    have g_37 : (u_23.1 20).toInt = (u_3.1 20).toInt := by rw [G_u_23.1 20 rfl]
    have g_38 : (u_23.1 23).toInt = (u_3.1 23).toInt := by rw [G_u_23.1 23 rfl]
    have g_39 : (u_23.1 24).toInt = (u_3.1 24).toInt := by rw [G_u_23.1 24 rfl]
    refine ok_eq (fun c_40 c_40' => ?_) (fun c_40 => ?_)
    · replace p_26 := (p_26.resolve_right (fun q => absurd (q.1.symm.trans c_40) (by decide))).2
      refine ok_bM (kP_SqlReaderModel_takes I_u_23 (by decide)) (fun r_42 u_43 z_41 => ?_)
      obtain ⟨I_u_43, G_u_43, p_44, p_45, p_46⟩ := z_41
      have F_u_43 : Fr [2, 4, 5, 7, 8, 10, 11, 12, 13, 14, 15, 16, 17, 18, 19, 20, 21, 23, 24, 26, 27, 28, 29, 30] [10, 11, 12, 13, 14, 15, 16, 17, 18, 19, 20, 21, 22, 23, 25, 26, 27, 29, 30, 31, 32] u u_43 := Fr_tr F_u_23 G_u_43 rfl rfl
      have g_47 : (u_43.1 1).toInt = (u_23.1 1).toInt := by rw [G_u_43.1 1 rfl]
      have g_48 : (u_43.1 2).toInt = (u_23.1 2).toInt := by rw [G_u_43.1 2 rfl]
      have g_49 : (u_43.1 4).toInt = (u_23.1 4).toInt := by rw [G_u_43.1 4 rfl]
      have g_50 : (u_43.1 7).toInt = (u_23.1 7).toInt := by rw [G_u_43.1 7 rfl]
      have g_51 : (u_43.1 8).toInt = (u_23.1 8).toInt := by rw [G_u_43.1 8 rfl]
      have g_52 : (u_43.1 10).toInt = (u_23.1 10).toInt := by rw [G_u_43.1 10 rfl]
      have g_53 : (u_43.1 16).toInt = (u_23.1 16).toInt := by rw [G_u_43.1 16 rfl]
      have g_54 : (u_43.1 17).toInt = (u_23.1 17).toInt := by rw [G_u_43.1 17 rfl]
      have g_55 : (u_43.1 18).toInt = (u_23.1 18).toInt := by rw [G_u_43.1 18 rfl]
      have g_56 : (u_43.1 19).toInt = (u_23.1 19).toInt := by rw [G_u_43.1 19 rfl]
      have g_57 : (u_43.1 20).toInt = (u_23.1 20).toInt := by rw [G_u_43.1 20 rfl]
      have g_58 : (u_43.1 23).toInt = (u_23.1 23).toInt := by rw [G_u_43.1 23 rfl]
      have g_59 : (u_43.1 24).toInt = (u_23.1 24).toInt := by rw [G_u_43.1 24 rfl]
      refine ok_eq (fun c_60 c_60' => ?_) (fun c_60 => ?_)
      · replace p_46 := (p_46.resolve_right (fun q => absurd (q.1.symm.trans c_60) (by decide))).2
        refine ok_bM (kP_SqlReaderModel_takes I_u_43 (by decide)) (fun r_62 u_63 z_61 => ?_)
        obtain ⟨I_u_63, G_u_63, p_64, p_65, p_66⟩ := z_61
        have F_u_63 : Fr [2, 4, 5, 7, 8, 10, 11, 12, 13, 14, 15, 16, 17, 18, 19, 20, 21, 23, 24, 26, 27, 28, 29, 30] [10, 11, 12, 13, 14, 15, 16, 17, 18, 19, 20, 21, 22, 23, 25, 26, 27, 29, 30, 31, 32] u u_63 := Fr_tr F_u_43 G_u_63 rfl rfl
        have g_67 : (u_63.1 1).toInt = (u_43.1 1).toInt := by rw [G_u_63.1 1 rfl]
        have g_68 : (u_63.1 2).toInt = (u_43.1 2).toInt := by rw [G_u_63.1 2 rfl]
        have g_69 : (u_63.1 4).toInt = (u_43.1 4).toInt := by rw [G_u_63.1 4 rfl]
        have g_70 : (u_63.1 7).toInt = (u_43.1 7).toInt := by rw [G_u_63.1 7 rfl]
        have g_71 : (u_63.1 8).toInt = (u_43.1 8).toInt := by rw [G_u_63.1 8 rfl]
        have g_72 : (u_63.1 10).toInt = (u_43.1 10).toInt := by rw [G_u_63.1 10 rfl]
        have g_73 : (u_63.1 16).toInt = (u_43.1 16).toInt := by rw [G_u_63.1 16 rfl]
        have g_74 : (u_63.1 17).toInt = (u_43.1 17).toInt := by rw [G_u_63.1 17 rfl]
        have g_75 : (u_63.1 18).toInt = (u_43.1 18).toInt := by rw [G_u_63.1 18 rfl]
        have g_76 : (u_63.1 19).toInt = (u_43.1 19).toInt := by rw [G_u_63.1 19 rfl]
        have g_77 : (u_63.1 20).toInt = (u_43.1 20).toInt := by rw [G_u_63.1 20 rfl]
        have g_78 : (u_63.1 23).toInt = (u_43.1 23).toInt := by rw [G_u_63.1 23 rfl]
        have g_79 : (u_63.1 24).toInt = (u_43.1 24).toInt := by rw [G_u_63.1 24 rfl]
        refine ok_eq (fun c_80 c_80' => ?_) (fun c_80 => ?_)
        · replace p_66 := (p_66.resolve_right (fun q => absurd (q.1.symm.trans c_80) (by decide))).2
          refine ok_bM (kP_SqlReaderModel_takes I_u_63 (by decide)) (fun r_82 u_83 z_81 => ?_)
          obtain ⟨I_u_83, G_u_83, p_84, p_85, p_86⟩ := z_81
          have F_u_83 : Fr [2, 4, 5, 7, 8, 10, 11, 12, 13, 14, 15, 16, 17, 18, 19, 20, 21, 23, 24, 26, 27, 28, 29, 30] [10, 11, 12, 13, 14, 15, 16, 17, 18, 19, 20, 21, 22, 23, 25, 26, 27, 29, 30, 31, 32] u u_83 := Fr_tr F_u_63 G_u_83 rfl rfl
          have g_87 : (u_83.1 1).toInt = (u_63.1 1).toInt := by rw [G_u_83.1 1 rfl]
          have g_88 : (u_83.1 2).toInt = (u_63.1 2).toInt := by rw [G_u_83.1 2 rfl]
          have g_89 : (u_83.1 4).toInt = (u_63.1 4).toInt := by rw [G_u_83.1 4 rfl]
          have g_90 : (u_83.1 7).toInt = (u_63.1 7).toInt := by rw [G_u_83.1 7 rfl]
          have g_91 : (u_83.1 8).toInt = (u_63.1 8).toInt := by rw [G_u_83.1 8 rfl]
          have g_92 : (u_83.1 10).toInt = (u_63.1 10).toInt := by rw [G_u_83.1 10 rfl]
          have g_93 : (u_83.1 16).toInt = (u_63.1 16).toInt := by rw [G_u_83.1 16 rfl]
          have g_94 : (u_83.1 17).toInt = (u_63.1 17).toInt := by rw [G_u_83.1 17 rfl]
          have g_95 : (u_83.1 18).toInt = (u_63.1 18).toInt := by rw [G_u_83.1 18 rfl]
          have g_96 : (u_83.1 19).toInt = (u_63.1 19).toInt := by rw [G_u_83.1 19 rfl]
          have g_97 : (u_83.1 20).toInt = (u_63.1 20).toInt := by rw [G_u_83.1 20 rfl]
          have g_98 : (u_83.1 23).toInt = (u_63.1 23).toInt := by rw [G_u_83.1 23 rfl]
          have g_99 : (u_83.1 24).toInt = (u_63.1 24).toInt := by rw [G_u_83.1 24 rfl]
          refine ok_eq (fun c_100 c_100' => ?_) (fun c_100 => ?_)
          · replace p_86 := (p_86.resolve_right (fun q => absurd (q.1.symm.trans c_100) (by decide))).2
            refine ok_bM (kP_SqlReaderModel_takes I_u_83 (by decide)) (fun r_102 u_103 z_101 => ?_)
            obtain ⟨I_u_103, G_u_103, p_104, p_105, p_106⟩ := z_101
            have F_u_103 : Fr [2, 4, 5, 7, 8, 10, 11, 12, 13, 14, 15, 16, 17, 18, 19, 20, 21, 23, 24, 26, 27, 28, 29, 30] [10, 11, 12, 13, 14, 15, 16, 17, 18, 19, 20, 21, 22, 23, 25, 26, 27, 29, 30, 31, 32] u u_103 := Fr_tr F_u_83 G_u_103 rfl rfl
            have g_107 : (u_103.1 1).toInt = (u_83.1 1).toInt := by rw [G_u_103.1 1 rfl]
            have g_108 : (u_103.1 2).toInt = (u_83.1 2).toInt := by rw [G_u_103.1 2 rfl]
            have g_109 : (u_103.1 4).toInt = (u_83.1 4).toInt := by rw [G_u_103.1 4 rfl]
            have g_110 : (u_103.1 7).toInt = (u_83.1 7).toInt := by rw [G_u_103.1 7 rfl]
            have g_111 : (u_103.1 8).toInt = (u_83.1 8).toInt := by rw [G_u_103.1 8 rfl]
            have g_112 : (u_103.1 10).toInt = (u_83.1 10).toInt := by rw [G_u_103.1 10 rfl]
            have g_113 : (u_103.1 16).toInt = (u_83.1 16).toInt := by rw [G_u_103.1 16 rfl]
            have g_114 : (u_103.1 17).toInt = (u_83.1 17).toInt := by rw [G_u_103.1 17 rfl]
            have g_115 : (u_103.1 18).toInt = (u_83.1 18).toInt := by rw [G_u_103.1 18 rfl]
            have g_116 : (u_103.1 19).toInt = (u_83.1 19).toInt := by rw [G_u_103.1 19 rfl]
            have g_117 : (u_103.1 20).toInt = (u_83.1 20).toInt := by rw [G_u_103.1 20 rfl]
            have g_118 : (u_103.1 23).toInt = (u_83.1 23).toInt := by rw [G_u_103.1 23 rfl]
            have g_119 : (u_103.1 24).toInt = (u_83.1 24).toInt := by rw [G_u_103.1 24 rfl]
            refine ok_eq (fun c_120 c_120' => ?_) (fun c_120 => ?_)
            · replace p_106 := (p_106.resolve_right (fun q => absurd (q.1.symm.trans c_120) (by decide))).2
              refine ok_bM (kP_SqlReaderModel_takes I_u_103 (by decide)) (fun r_122 u_123 z_121 => ?_)
              obtain ⟨I_u_123, G_u_123, p_124, p_125, p_126⟩ := z_121
              have F_u_123 : Fr [2, 4, 5, 7, 8, 10, 11, 12, 13, 14, 15, 16, 17, 18, 19, 20, 21, 23, 24, 26, 27, 28, 29, 30] [10, 11, 12, 13, 14, 15, 16, 17, 18, 19, 20, 21, 22, 23, 25, 26, 27, 29, 30, 31, 32] u u_123 := Fr_tr F_u_103 G_u_123 rfl rfl
              have g_127 : (u_123.1 1).toInt = (u_103.1 1).toInt := by rw [G_u_123.1 1 rfl]
              have g_128 : (u_123.1 2).toInt = (u_103.1 2).toInt := by rw [G_u_123.1 2 rfl]
              have g_129 : (u_123.1 4).toInt = (u_103.1 4).toInt := by rw [G_u_123.1 4 rfl]
              have g_130 : (u_123.1 7).toInt = (u_103.1 7).toInt := by rw [G_u_123.1 7 rfl]
              have g_131 : (u_123.1 8).toInt = (u_103.1 8).toInt := by rw [G_u_123.1 8 rfl]
              have g_132 : (u_123.1 10).toInt = (u_103.1 10).toInt := by rw [G_u_123.1 10 rfl]
              have g_133 : (u_123.1 16).toInt = (u_103.1 16).toInt := by rw [G_u_123.1 16 rfl]
              have g_134 : (u_123.1 17).toInt = (u_103.1 17).toInt := by rw [G_u_123.1 17 rfl]
              have g_135 : (u_123.1 18).toInt = (u_103.1 18).toInt := by rw [G_u_123.1 18 rfl]
              have g_136 : (u_123.1 19).toInt = (u_103.1 19).toInt := by rw [G_u_123.1 19 rfl]
              have g_137 : (u_123.1 20).toInt = (u_103.1 20).toInt := by rw [G_u_123.1 20 rfl]
              have g_138 : (u_123.1 23).toInt = (u_103.1 23).toInt := by rw [G_u_123.1 23 rfl]
              have g_139 : (u_123.1 24).toInt = (u_103.1 24).toInt := by rw [G_u_123.1 24 rfl]
              refine ok_eq (fun c_140 c_140' => ?_) (fun c_140 => ?_)
              · replace p_126 := (p_126.resolve_right (fun q => absurd (q.1.symm.trans c_140) (by decide))).2
                refine ok_bM (kP_SqlReaderModel_takes I_u_123 (by decide)) (fun r_142 u_143 z_141 => ?_)
                obtain ⟨I_u_143, G_u_143, p_144, p_145, p_146⟩ := z_141
                have F_u_143 : Fr [2, 4, 5, 7, 8, 10, 11, 12, 13, 14, 15, 16, 17, 18, 19, 20, 21, 23, 24, 26, 27, 28, 29, 30] [10, 11, 12, 13, 14, 15, 16, 17, 18, 19, 20, 21, 22, 23, 25, 26, 27, 29, 30, 31, 32] u u_143 := Fr_tr F_u_123 G_u_143 rfl rfl
                have g_147 : (u_143.1 1).toInt = (u_123.1 1).toInt := by rw [G_u_143.1 1 rfl]
                have g_148 : (u_143.1 2).toInt = (u_123.1 2).toInt := by rw [G_u_143.1 2 rfl]
                have g_149 : (u_143.1 4).toInt = (u_123.1 4).toInt := by rw [G_u_143.1 4 rfl]
                have g_150 : (u_143.1 7).toInt = (u_123.1 7).toInt := by rw [G_u_143.1 7 rfl]
                have g_151 : (u_143.1 8).toInt = (u_123.1 8).toInt := by rw [G_u_143.1 8 rfl]
                have g_152 : (u_143.1 10).toInt = (u_123.1 10).toInt := by rw [G_u_143.1 10 rfl]
                have g_153 : (u_143.1 16).toInt = (u_123.1 16).toInt := by rw [G_u_143.1 16 rfl]
                have g_154 : (u_143.1 17).toInt = (u_123.1 17).toInt := by rw [G_u_143.1 17 rfl]
                have g_155 : (u_143.1 18).toInt = (u_123.1 18).toInt := by rw [G_u_143.1 18 rfl]
                have g_156 : (u_143.1 19).toInt = (u_123.1 19).toInt := by rw [G_u_143.1 19 rfl]
                have g_157 : (u_143.1 20).toInt = (u_123.1 20).toInt := by rw [G_u_143.1 20 rfl]
                have g_158 : (u_143.1 23).toInt = (u_123.1 23).toInt := by rw [G_u_143.1 23 rfl]
                have g_159 : (u_143.1 24).toInt = (u_123.1 24).toInt := by rw [G_u_143.1 24 rfl]
                refine ok_eq (fun c_160 c_160' => ?_) (fun c_160 => ?_)
                · replace p_146 := (p_146.resolve_right (fun q => absurd (q.1.symm.trans c_160) (by decide))).2
                  refine ok_bM (kP_SqlReaderModel_takes I_u_143 (by decide)) (fun r_162 u_163 z_161 => ?_)
                  obtain ⟨I_u_163, G_u_163, p_164, p_165, p_166⟩ := z_161
                  have F_u_163 : Fr [2, 4, 5, 7, 8, 10, 11, 12, 13, 14, 15, 16, 17, 18, 19, 20, 21, 23, 24, 26, 27, 28, 29, 30] [10, 11, 12, 13, 14, 15, 16, 17, 18, 19, 20, 21, 22, 23, 25, 26, 27, 29, 30, 31, 32] u u_163 := Fr_tr F_u_143 G_u_163 rfl rfl
                  have g_167 : (u_163.1 1).toInt = (u_143.1 1).toInt := by rw [G_u_163.1 1 rfl]
                  have g_168 : (u_163.1 2).toInt = (u_143.1 2).toInt := by rw [G_u_163.1 2 rfl]
                  have g_169 : (u_163.1 4).toInt = (u_143.1 4).toInt := by rw [G_u_163.1 4 rfl]
                  have g_170 : (u_163.1 7).toInt = (u_143.1 7).toInt := by rw [G_u_163.1 7 rfl]
                  have g_171 : (u_163.1 8).toInt = (u_143.1 8).toInt := by rw [G_u_163.1 8 rfl]
                  have g_172 : (u_163.1 10).toInt = (u_143.1 10).toInt := by rw [G_u_163.1 10 rfl]
                  have g_173 : (u_163.1 16).toInt = (u_143.1 16).toInt := by rw [G_u_163.1 16 rfl]
                  have g_174 : (u_163.1 17).toInt = (u_143.1 17).toInt := by rw [G_u_163.1 17 rfl]
                  have g_175 : (u_163.1 18).toInt = (u_143.1 18).toInt := by rw [G_u_163.1 18 rfl]
                  have g_176 : (u_163.1 19).toInt = (u_143.1 19).toInt := by rw [G_u_163.1 19 rfl]
                  have g_177 : (u_163.1 20).toInt = (u_143.1 20).toInt := by rw [G_u_163.1 20 rfl]
                  have g_178 : (u_163.1 23).toInt = (u_143.1 23).toInt := by rw [G_u_163.1 23 rfl]
                  have g_179 : (u_163.1 24).toInt = (u_143.1 24).toInt := by rw [G_u_163.1 24 rfl]
                  refine ok_eq (fun c_180 c_180' => ?_) (fun c_180 => ?_)
                  · replace p_166 := (p_166.resolve_right (fun q => absurd (q.1.symm.trans c_180) (by decide))).2
                    refine ok_bM (kP_SqlReaderModel_takes I_u_163 (by decide)) (fun r_182 u_183 z_181 => ?_)
                    obtain ⟨I_u_183, G_u_183, p_184, p_185, p_186⟩ := z_181
                    have F_u_183 : Fr [2, 4, 5, 7, 8, 10, 11, 12, 13, 14, 15, 16, 17, 18, 19, 20, 21, 23, 24, 26, 27, 28, 29, 30] [10, 11, 12, 13, 14, 15, 16, 17, 18, 19, 20, 21, 22, 23, 25, 26, 27, 29, 30, 31, 32] u u_183 := Fr_tr F_u_163 G_u_183 rfl rfl
                    have g_187 : (u_183.1 1).toInt = (u_163.1 1).toInt := by rw [G_u_183.1 1 rfl]
                    have g_188 : (u_183.1 2).toInt = (u_163.1 2).toInt := by rw [G_u_183.1 2 rfl]
                    have g_189 : (u_183.1 4).toInt = (u_163.1 4).toInt := by rw [G_u_183.1 4 rfl]
                    have g_190 : (u_183.1 7).toInt = (u_163.1 7).toInt := by rw [G_u_183.1 7 rfl]
                    have g_191 : (u_183.1 8).toInt = (u_163.1 8).toInt := by rw [G_u_183.1 8 rfl]
                    have g_192 : (u_183.1 10).toInt = (u_163.1 10).toInt := by rw [G_u_183.1 10 rfl]
                    have g_193 : (u_183.1 16).toInt = (u_163.1 16).toInt := by rw [G_u_183.1 16 rfl]
                    have g_194 : (u_183.1 17).toInt = (u_163.1 17).toInt := by rw [G_u_183.1 17 rfl]
                    have g_195 : (u_183.1 18).toInt = (u_163.1 18).toInt := by rw [G_u_183.1 18 rfl]
                    have g_196 : (u_183.1 19).toInt = (u_163.1 19).toInt := by rw [G_u_183.1 19 rfl]
                    have g_197 : (u_183.1 20).toInt = (u_163.1 20).toInt := by rw [G_u_183.1 20 rfl]
                    have g_198 : (u_183.1 23).toInt = (u_163.1 23).toInt := by rw [G_u_183.1 23 rfl]
                    have g_199 : (u_183.1 24).toInt = (u_163.1 24).toInt := by rw [G_u_183.1 24 rfl]
                    refine ok_eq (fun c_200 c_200' => ?_) (fun c_200 => ?_)
                    · replace p_186 := (p_186.resolve_right (fun q => absurd (q.1.symm.trans c_200) (by decide))).2
                      refine ok_bM (kP_SqlReaderModel_takes I_u_183 (by decide)) (fun r_202 u_203 z_201 => ?_)
                      obtain ⟨I_u_203, G_u_203, p_204, p_205, p_206⟩ := z_201
                      have F_u_203 : Fr [2, 4, 5, 7, 8, 10, 11, 12, 13, 14, 15, 16, 17, 18, 19, 20, 21, 23, 24, 26, 27, 28, 29, 30] [10, 11, 12, 13, 14, 15, 16, 17, 18, 19, 20, 21, 22, 23, 25, 26, 27, 29, 30, 31, 32] u u_203 := Fr_tr F_u_183 G_u_203 rfl rfl
                      have g_207 : (u_203.1 1).toInt = (u_183.1 1).toInt := by rw [G_u_203.1 1 rfl]
                      have g_208 : (u_203.1 2).toInt = (u_183.1 2).toInt := by rw [G_u_203.1 2 rfl]
                      have g_209 : (u_203.1 4).toInt = (u_183.1 4).toInt := by rw [G_u_203.1 4 rfl]
                      have g_210 : (u_203.1 7).toInt = (u_183.1 7).toInt := by rw [G_u_203.1 7 rfl]
                      have g_211 : (u_203.1 8).toInt = (u_183.1 8).toInt := by rw [G_u_203.1 8 rfl]
                      have g_212 : (u_203.1 10).toInt = (u_183.1 10).toInt := by rw [G_u_203.1 10 rfl]
                      have g_213 : (u_203.1 16).toInt = (u_183.1 16).toInt := by rw [G_u_203.1 16 rfl]
                      have g_214 : (u_203.1 17).toInt = (u_183.1 17).toInt := by rw [G_u_203.1 17 rfl]
                      have g_215 : (u_203.1 18).toInt = (u_183.1 18).toInt := by rw [G_u_203.1 18 rfl]
                      have g_216 : (u_203.1 19).toInt = (u_183.1 19).toInt := by rw [G_u_203.1 19 rfl]
                      have g_217 : (u_203.1 20).toInt = (u_183.1 20).toInt := by rw [G_u_203.1 20 rfl]
                      have g_218 : (u_203.1 23).toInt = (u_183.1 23).toInt := by rw [G_u_203.1 23 rfl]
                      have g_219 : (u_203.1 24).toInt = (u_183.1 24).toInt := by rw [G_u_203.1 24 rfl]
                      refine ok_eq (fun c_220 c_220' => ?_) (fun c_220 => ?_)
                      · replace p_206 := (p_206.resolve_right (fun q => absurd (q.1.symm.trans c_220) (by decide))).2
                        refine ok_bP (kP_SqlReaderModel_need I_u_203 (by decide)) (fun u_222 z_221 => ?_)
                        obtain ⟨I_u_222, G_u_222, p_223, p_224⟩ := z_221
                        have F_u_222 : Fr [2, 4, 5, 7, 8, 10, 11, 12, 13, 14, 15, 16, 17, 18, 19, 20, 21, 23, 24, 26, 27, 28, 29, 30] [10, 11, 12, 13, 14, 15, 16, 17, 18, 19, 20, 21, 22, 23, 25, 26, 27, 29, 30, 31, 32] u u_222 := Fr_tr F_u_203 G_u_222 rfl rfl
                        have g_225 : (u_222.1 1).toInt = (u_203.1 1).toInt := by rw [G_u_222.1 1 rfl]
                        have g_226 : (u_222.1 4).toInt = (u_203.1 4).toInt := by rw [G_u_222.1 4 rfl]
                        have g_227 : (u_222.1 7).toInt = (u_203.1 7).toInt := by rw [G_u_222.1 7 rfl]
                        have g_228 : (u_222.1 8).toInt = (u_203.1 8).toInt := by rw [G_u_222.1 8 rfl]
                        have g_229 : (u_222.1 10).toInt = (u_203.1 10).toInt := by rw [G_u_222.1 10 rfl]
                        have g_230 : (u_222.1 16).toInt = (u_203.1 16).toInt := by rw [G_u_222.1 16 rfl]
                        have g_231 : (u_222.1 17).toInt = (u_203.1 17).toInt := by rw [G_u_222.1 17 rfl]
                        have g_232 : (u_222.1 18).toInt = (u_203.1 18).toInt := by rw [G_u_222.1 18 rfl]
                        have g_233 : (u_222.1 19).toInt = (u_203.1 19).toInt := by rw [G_u_222.1 19 rfl]
                        have g_234 : (u_222.1 20).toInt = (u_203.1 20).toInt := by rw [G_u_222.1 20 rfl]
                        have g_235 : (u_222.1 23).toInt = (u_203.1 23).toInt := by rw [G_u_222.1 23 rfl]
                        have g_236 : (u_222.1 24).toInt = (u_203.1 24).toInt := by rw [G_u_222.1 24 rfl]
                        refine ok_seq (fun u_238 h_237 => ?_)
                        have I_u_238 : IP u_238 := by rw [h_237]; exact IP_s7 I_u_222 (by have B_239 := IP_b I_u_222; omega)
                        have F_u_238 : Fr [2, 4, 5, 7, 8, 10, 11, 12, 13, 14, 15, 16, 17, 18, 19, 20, 21, 23, 24, 26, 27, 28, 29, 30] [10, 11, 12, 13, 14, 15, 16, 17, 18, 19, 20, 21, 22, 23, 25, 26, 27, 29, 30, 31, 32] u u_238 := by rw [h_237]; exact Fr_ss F_u_222 rfl rfl
                        have g_240 : (u_238.1 7).toInt = (19 : Int32).toInt := by rw [h_237]; rfl
                        have g_241 : (u_238.1 1).toInt = (u_222.1 1).toInt := by rw [h_237]; rfl
                        have g_242 : (u_238.1 2).toInt = (u_222.1 2).toInt := by rw [h_237]; rfl
                        have g_243 : (u_238.1 4).toInt = (u_222.1 4).toInt := by rw [h_237]; rfl
                        have g_244 : (u_238.1 30).toInt = (u_222.1 30).toInt := by rw [h_237]; rfl
                        have g_245 : (u_238.1 8).toInt = (u_222.1 8).toInt := by rw [h_237]; rfl
                        have g_246 : (u_238.1 10).toInt = (u_222.1 10).toInt := by rw [h_237]; rfl
                        have g_247 : (u_238.1 16).toInt = (u_222.1 16).toInt := by rw [h_237]; rfl
                        have g_248 : (u_238.1 17).toInt = (u_222.1 17).toInt := by rw [h_237]; rfl
                        have g_249 : (u_238.1 18).toInt = (u_222.1 18).toInt := by rw [h_237]; rfl
                        have g_250 : (u_238.1 19).toInt = (u_222.1 19).toInt := by rw [h_237]; rfl
                        have g_251 : (u_238.1 20).toInt = (u_222.1 20).toInt := by rw [h_237]; rfl
                        have g_252 : (u_238.1 23).toInt = (u_222.1 23).toInt := by rw [h_237]; rfl
                        have g_253 : (u_238.1 24).toInt = (u_222.1 24).toInt := by rw [h_237]; rfl
                        exact ok_some ⟨I_u_238, F_u_238, (by have B_254 := IP_b I; have B_255 := IP_b I_u_238; omega), (by have B_256 := IP_b I_u_238; omega), (by have B_257 := IP_b I_u_238; have B_258 := IP_b I; omega), (by have B_259 := IP_b I_u_238; have B_260 := IP_b I; omega), (by have B_261 := IP_b I_u_238; have B_262 := IP_b I; omega)⟩
                      · replace p_206 := p_206.resolve_left (fun q => c_220 (q.1.trans (by decide)))
                        clear c_220
                        refine ok_seq (fun u_264 h_263 => ?_)
                        have I_u_264 : IP u_264 := by rw [h_263]; exact IP_s7 I_u_203 (by have B_265 := IP_b I_u_203; omega)
                        have F_u_264 : Fr [2, 4, 5, 7, 8, 10, 11, 12, 13, 14, 15, 16, 17, 18, 19, 20, 21, 23, 24, 26, 27, 28, 29, 30] [10, 11, 12, 13, 14, 15, 16, 17, 18, 19, 20, 21, 22, 23, 25, 26, 27, 29, 30, 31, 32] u u_264 := by rw [h_263]; exact Fr_ss F_u_203 rfl rfl
                        have g_266 : (u_264.1 7).toInt = (18 : Int32).toInt := by rw [h_263]; rfl
                        have g_267 : (u_264.1 1).toInt = (u_203.1 1).toInt := by rw [h_263]; rfl
                        have g_268 : (u_264.1 2).toInt = (u_203.1 2).toInt := by rw [h_263]; rfl
                        have g_269 : (u_264.1 4).toInt = (u_203.1 4).toInt := by rw [h_263]; rfl
                        have g_270 : (u_264.1 30).toInt = (u_203.1 30).toInt := by rw [h_263]; rfl
                        have g_271 : (u_264.1 8).toInt = (u_203.1 8).toInt := by rw [h_263]; rfl
                        have g_272 : (u_264.1 10).toInt = (u_203.1 10).toInt := by rw [h_263]; rfl
                        have g_273 : (u_264.1 16).toInt = (u_203.1 16).toInt := by rw [h_263]; rfl
                        have g_274 : (u_264.1 17).toInt = (u_203.1 17).toInt := by rw [h_263]; rfl
                        have g_275 : (u_264.1 18).toInt = (u_203.1 18).toInt := by rw [h_263]; rfl
                        have g_276 : (u_264.1 19).toInt = (u_203.1 19).toInt := by rw [h_263]; rfl
                        have g_277 : (u_264.1 20).toInt = (u_203.1 20).toInt := by rw [h_263]; rfl
                        have g_278 : (u_264.1 23).toInt = (u_203.1 23).toInt := by rw [h_263]; rfl
                        have g_279 : (u_264.1 24).toInt = (u_203.1 24).toInt := by rw [h_263]; rfl
                        refine ok_bM (kP_SqlReaderModel_needName I_u_264 (by have FUe : FU = 100000 := rfl; have B_281 := IP_b I_u_264; have B_282 := IP_b I; omega)) (fun r_283 u_284 z_280 => ?_)
                        obtain ⟨I_u_284, G_u_284, p_285, p_286, p_287, p_288⟩ := z_280
                        have F_u_284 : Fr [2, 4, 5, 7, 8, 10, 11, 12, 13, 14, 15, 16, 17, 18, 19, 20, 21, 23, 24, 26, 27, 28, 29, 30] [10, 11, 12, 13, 14, 15, 16, 17, 18, 19, 20, 21, 22, 23, 25, 26, 27, 29, 30, 31, 32] u u_284 := Fr_tr F_u_264 G_u_284 rfl rfl
                        have g_289 : (u_284.1 1).toInt = (u_264.1 1).toInt := by rw [G_u_284.1 1 rfl]
                        have g_290 : (u_284.1 4).toInt = (u_264.1 4).toInt := by rw [G_u_284.1 4 rfl]
                        have g_291 : (u_284.1 7).toInt = (u_264.1 7).toInt := by rw [G_u_284.1 7 rfl]
                        have g_292 : (u_284.1 8).toInt = (u_264.1 8).toInt := by rw [G_u_284.1 8 rfl]
                        have g_293 : (u_284.1 10).toInt = (u_264.1 10).toInt := by rw [G_u_284.1 10 rfl]
                        have g_294 : (u_284.1 16).toInt = (u_264.1 16).toInt := by rw [G_u_284.1 16 rfl]
                        have g_295 : (u_284.1 17).toInt = (u_264.1 17).toInt := by rw [G_u_284.1 17 rfl]
                        have g_296 : (u_284.1 18).toInt = (u_264.1 18).toInt := by rw [G_u_284.1 18 rfl]
                        have g_297 : (u_284.1 19).toInt = (u_264.1 19).toInt := by rw [G_u_284.1 19 rfl]
                        have g_298 : (u_284.1 20).toInt = (u_264.1 20).toInt := by rw [G_u_284.1 20 rfl]
                        have g_299 : (u_284.1 23).toInt = (u_264.1 23).toInt := by rw [G_u_284.1 23 rfl]
                        have g_300 : (u_284.1 24).toInt = (u_264.1 24).toInt := by rw [G_u_284.1 24 rfl]
                        have n_301 : 0 ≤ r_283.toInt := by have B_302 := IP_b I_u_264; omega
                        refine ok_seq (fun u_304 h_303 => ?_)
                        have I_u_304 : IP u_304 := by rw [h_303]; exact IP_s10 I_u_284 (by have B_305 := IP_b I_u_284; omega) (by have B_306 := IP_b I_u_284; omega) (by have B_307 := IP_b I_u_284; omega)
                        have F_u_304 : Fr [2, 4, 5, 7, 8, 10, 11, 12, 13, 14, 15, 16, 17, 18, 19, 20, 21, 23, 24, 26, 27, 28, 29, 30] [10, 11, 12, 13, 14, 15, 16, 17, 18, 19, 20, 21, 22, 23, 25, 26, 27, 29, 30, 31, 32] u u_304 := by rw [h_303]; exact Fr_ss F_u_284 rfl rfl
                        have g_308 : (ga u_304 1 r_283).toInt = (ga u_284 1 r_283).toInt := by rw [h_303]; rfl
                        have g_309 : (u_304.1 10).toInt = (r_283 : Int32).toInt := by rw [h_303]; rfl
                        have g_310 : (u_304.1 1).toInt = (u_284.1 1).toInt := by rw [h_303]; rfl
                        have g_311 : (u_304.1 2).toInt = (u_284.1 2).toInt := by rw [h_303]; rfl
                        have g_312 : (u_304.1 4).toInt = (u_284.1 4).toInt := by rw [h_303]; rfl
                        have g_313 : (u_304.1 30).toInt = (u_284.1 30).toInt := by rw [h_303]; rfl
                        have g_314 : (u_304.1 7).toInt = (u_284.1 7).toInt := by rw [h_303]; rfl
                        have g_315 : (u_304.1 8).toInt = (u_284.1 8).toInt := by rw [h_303]; rfl
                        have g_316 : (u_304.1 16).toInt = (u_284.1 16).toInt := by rw [h_303]; rfl
                        have g_317 : (u_304.1 17).toInt = (u_284.1 17).toInt := by rw [h_303]; rfl
                        have g_318 : (u_304.1 18).toInt = (u_284.1 18).toInt := by rw [h_303]; rfl
                        have g_319 : (u_304.1 19).toInt = (u_284.1 19).toInt := by rw [h_303]; rfl
                        have g_320 : (u_304.1 20).toInt = (u_284.1 20).toInt := by rw [h_303]; rfl
                        have g_321 : (u_304.1 23).toInt = (u_284.1 23).toInt := by rw [h_303]; rfl
                        have g_322 : (u_304.1 24).toInt = (u_284.1 24).toInt := by rw [h_303]; rfl
                        exact ok_some ⟨I_u_304, F_u_304, (by have B_323 := IP_b I; have B_324 := IP_b I_u_304; omega), (by have B_325 := IP_b I_u_304; omega), (by have B_326 := IP_b I_u_304; have B_327 := IP_b I; omega), (by have B_328 := IP_b I_u_304; have B_329 := IP_b I; omega), (by have B_330 := IP_b I_u_304; have B_331 := IP_b I; omega)⟩
                    · replace p_186 := p_186.resolve_left (fun q => c_200 (q.1.trans (by decide)))
                      clear c_200
                      refine ok_bP (kP_SqlReaderModel_readValues I_u_183 (by have FUe : FU = 100000 := rfl; have B_333 := IP_b I_u_183; have B_334 := IP_b I; omega) (by have FUe : FU = 100000 := rfl; have B_335 := IP_b I_u_183; have B_336 := IP_b I; omega) (by have FUe : FU = 100000 := rfl; have B_337 := IP_b I_u_183; have B_338 := IP_b I; omega) (by have FUe : FU = 100000 := rfl; have B_339 := IP_b I_u_183; have B_340 := IP_b I; omega) (by have FUe : FU = 100000 := rfl; have B_341 := IP_b I_u_183; have B_342 := IP_b I; omega)) (fun u_343 z_332 => ?_)
                      obtain ⟨I_u_343, G_u_343, p_344, p_345, p_346, p_347, p_348⟩ := z_332
                      have F_u_343 : Fr [2, 4, 5, 7, 8, 10, 11, 12, 13, 14, 15, 16, 17, 18, 19, 20, 21, 23, 24, 26, 27, 28, 29, 30] [10, 11, 12, 13, 14, 15, 16, 17, 18, 19, 20, 21, 22, 23, 25, 26, 27, 29, 30, 31, 32] u u_343 := Fr_tr F_u_183 G_u_343 rfl rfl
                      have g_349 : (u_343.1 1).toInt = (u_183.1 1).toInt := by rw [G_u_343.1 1 rfl]
                      have g_350 : (u_343.1 8).toInt = (u_183.1 8).toInt := by rw [G_u_343.1 8 rfl]
                      have g_351 : (u_343.1 10).toInt = (u_183.1 10).toInt := by rw [G_u_343.1 10 rfl]
                      have g_352 : (u_343.1 16).toInt = (u_183.1 16).toInt := by rw [G_u_343.1 16 rfl]
                      have g_353 : (u_343.1 17).toInt = (u_183.1 17).toInt := by rw [G_u_343.1 17 rfl]
                      have g_354 : (u_343.1 18).toInt = (u_183.1 18).toInt := by rw [G_u_343.1 18 rfl]
                      have g_355 : (u_343.1 19).toInt = (u_183.1 19).toInt := by rw [G_u_343.1 19 rfl]
                      have g_356 : (u_343.1 20).toInt = (u_183.1 20).toInt := by rw [G_u_343.1 20 rfl]
                      have g_357 : (u_343.1 24).toInt = (u_183.1 24).toInt := by rw [G_u_343.1 24 rfl]
                      exact ok_some ⟨I_u_343, F_u_343, (by have B_358 := IP_b I; have B_359 := IP_b I_u_343; omega), (by have B_360 := IP_b I_u_343; omega), (by have B_361 := IP_b I_u_343; have B_362 := IP_b I; omega), (by have B_363 := IP_b I_u_343; have B_364 := IP_b I; omega), (by have B_365 := IP_b I_u_343; have B_366 := IP_b I; omega)⟩
                  · replace p_166 := p_166.resolve_left (fun q => c_180 (q.1.trans (by decide)))
                    clear c_180
                    refine ok_bM (kP_SqlReaderModel_needName I_u_163 (by have FUe : FU = 100000 := rfl; have B_368 := IP_b I_u_163; have B_369 := IP_b I; omega)) (fun r_370 u_371 z_367 => ?_)
                    obtain ⟨I_u_371, G_u_371, p_372, p_373, p_374, p_375⟩ := z_367
                    have F_u_371 : Fr [2, 4, 5, 7, 8, 10, 11, 12, 13, 14, 15, 16, 17, 18, 19, 20, 21, 23, 24, 26, 27, 28, 29, 30] [10, 11, 12, 13, 14, 15, 16, 17, 18, 19, 20, 21, 22, 23, 25, 26, 27, 29, 30, 31, 32] u u_371 := Fr_tr F_u_163 G_u_371 rfl rfl
                    have g_376 : (u_371.1 1).toInt = (u_163.1 1).toInt := by rw [G_u_371.1 1 rfl]
                    have g_377 : (u_371.1 4).toInt = (u_163.1 4).toInt := by rw [G_u_371.1 4 rfl]
                    have g_378 : (u_371.1 7).toInt = (u_163.1 7).toInt := by rw [G_u_371.1 7 rfl]
                    have g_379 : (u_371.1 8).toInt = (u_163.1 8).toInt := by rw [G_u_371.1 8 rfl]
                    have g_380 : (u_371.1 10).toInt = (u_163.1 10).toInt := by rw [G_u_371.1 10 rfl]
                    have g_381 : (u_371.1 16).toInt = (u_163.1 16).toInt := by rw [G_u_371.1 16 rfl]
                    have g_382 : (u_371.1 17).toInt = (u_163.1 17).toInt := by rw [G_u_371.1 17 rfl]
                    have g_383 : (u_371.1 18).toInt = (u_163.1 18).toInt := by rw [G_u_371.1 18 rfl]
                    have g_384 : (u_371.1 19).toInt = (u_163.1 19).toInt := by rw [G_u_371.1 19 rfl]
                    have g_385 : (u_371.1 20).toInt = (u_163.1 20).toInt := by rw [G_u_371.1 20 rfl]
                    have g_386 : (u_371.1 23).toInt = (u_163.1 23).toInt := by rw [G_u_371.1 23 rfl]
                    have g_387 : (u_371.1 24).toInt = (u_163.1 24).toInt := by rw [G_u_371.1 24 rfl]
                    have n_388 : 0 ≤ r_370.toInt := by have B_389 := IP_b I_u_163; omega
                    refine ok_bP (kP_SqlReaderModel_need I_u_371 (by decide)) (fun u_391 z_390 => ?_)
                    obtain ⟨I_u_391, G_u_391, p_392, p_393⟩ := z_390
                    have F_u_391 : Fr [2, 4, 5, 7, 8, 10, 11, 12, 13, 14, 15, 16, 17, 18, 19, 20, 21, 23, 24, 26, 27, 28, 29, 30] [10, 11, 12, 13, 14, 15, 16, 17, 18, 19, 20, 21, 22, 23, 25, 26, 27, 29, 30, 31, 32] u u_391 := Fr_tr F_u_371 G_u_391 rfl rfl
                    have g_394 : (u_391.1 1).toInt = (u_371.1 1).toInt := by rw [G_u_391.1 1 rfl]
                    have g_395 : (u_391.1 4).toInt = (u_371.1 4).toInt := by rw [G_u_391.1 4 rfl]
                    have g_396 : (u_391.1 7).toInt = (u_371.1 7).toInt := by rw [G_u_391.1 7 rfl]
                    have g_397 : (u_391.1 8).toInt = (u_371.1 8).toInt := by rw [G_u_391.1 8 rfl]
                    have g_398 : (u_391.1 10).toInt = (u_371.1 10).toInt := by rw [G_u_391.1 10 rfl]
                    have g_399 : (u_391.1 16).toInt = (u_371.1 16).toInt := by rw [G_u_391.1 16 rfl]
                    have g_400 : (u_391.1 17).toInt = (u_371.1 17).toInt := by rw [G_u_391.1 17 rfl]
                    have g_401 : (u_391.1 18).toInt = (u_371.1 18).toInt := by rw [G_u_391.1 18 rfl]
                    have g_402 : (u_391.1 19).toInt = (u_371.1 19).toInt := by rw [G_u_391.1 19 rfl]
                    have g_403 : (u_391.1 20).toInt = (u_371.1 20).toInt := by rw [G_u_391.1 20 rfl]
                    have g_404 : (u_391.1 23).toInt = (u_371.1 23).toInt := by rw [G_u_391.1 23 rfl]
                    have g_405 : (u_391.1 24).toInt = (u_371.1 24).toInt := by rw [G_u_391.1 24 rfl]
                    have g_406 : (ga u_391 1 r_370).toInt = (ga u_371 1 r_370).toInt := by show (u_391.2.1 1 _).toInt = _; rw [G_u_391.2.1 1 rfl]; rfl
                    refine ok_bM (kP_SqlReaderModel_readDeed I_u_391 (by have FUe : FU = 100000 := rfl; have B_408 := IP_b I_u_391; have B_409 := IP_b I; omega) (by have FUe : FU = 100000 := rfl; have B_410 := IP_b I_u_391; have B_411 := IP_b I; omega) (by have FUe : FU = 100000 := rfl; have B_412 := IP_b I_u_391; have B_413 := IP_b I; omega) (by have FUe : FU = 100000 := rfl; have B_414 := IP_b I_u_391; have B_415 := IP_b I; omega) (by have FUe : FU = 100000 := rfl; have B_416 := IP_b I_u_391; have B_417 := IP_b I; omega) (by have FUe : FU = 100000 := rfl; have B_418 := IP_b I_u_391; have B_419 := IP_b I; omega) (by have FUe : FU = 100000 := rfl; have B_420 := IP_b I_u_391; have B_421 := IP_b I; omega) (by have FUe : FU = 100000 := rfl; have B_422 := IP_b I_u_391; have B_423 := IP_b I; omega) (by have FUe : FU = 100000 := rfl; have B_424 := IP_b I_u_391; have B_425 := IP_b I; omega) (by have FUe : FU = 100000 := rfl; have B_426 := IP_b I_u_391; have B_427 := IP_b I; omega)) (fun r_428 u_429 z_407 => ?_)
                    obtain ⟨I_u_429, G_u_429, p_430, p_431, p_432, p_433, p_434, p_435, p_436, p_437, p_438⟩ := z_407
                    have F_u_429 : Fr [2, 4, 5, 7, 8, 10, 11, 12, 13, 14, 15, 16, 17, 18, 19, 20, 21, 23, 24, 26, 27, 28, 29, 30] [10, 11, 12, 13, 14, 15, 16, 17, 18, 19, 20, 21, 22, 23, 25, 26, 27, 29, 30, 31, 32] u u_429 := Fr_tr F_u_391 G_u_429 rfl rfl
                    have g_439 : (u_429.1 1).toInt = (u_391.1 1).toInt := by rw [G_u_429.1 1 rfl]
                    have g_440 : (u_429.1 8).toInt = (u_391.1 8).toInt := by rw [G_u_429.1 8 rfl]
                    have g_441 : (u_429.1 24).toInt = (u_391.1 24).toInt := by rw [G_u_429.1 24 rfl]
                    have g_442 : (ga u_429 1 r_370).toInt = (ga u_391 1 r_370).toInt := by show (u_429.2.1 1 _).toInt = _; rw [G_u_429.2.1 1 rfl]; rfl
                    refine ok_eq (fun c_443 c_443' => ?_) (fun c_443 => ?_)
                    · refine ok_mono (kP_SqlReaderModel_readOther_J232 I_u_429 (by have FUe : FU = 100000 := rfl; have B_444 := IP_b I_u_429; have B_445 := IP_b I; omega) (by have FUe : FU = 100000 := rfl; have B_446 := IP_b I_u_429; have B_447 := IP_b I; omega) (by have FUe : FU = 100000 := rfl; have B_448 := IP_b I_u_429; have B_449 := IP_b I; omega) (by have FUe : FU = 100000 := rfl; have B_450 := IP_b I_u_429; have B_451 := IP_b I; omega) (by have FUe : FU = 100000 := rfl; have B_452 := IP_b I_u_429; have B_453 := IP_b I; omega) (by have FUe : FU = 100000 := rfl; have B_454 := IP_b I_u_429; have B_455 := IP_b I; omega) (by have FUe : FU = 100000 := rfl; have B_456 := IP_b I_u_429; have B_457 := IP_b I; omega) (by have FUe : FU = 100000 := rfl; have B_458 := IP_b I_u_429; have B_459 := IP_b I; omega) (by have FUe : FU = 100000 := rfl; have B_460 := IP_b I_u_429; have B_461 := IP_b I; omega) (by have FUe : FU = 100000 := rfl; have B_462 := IP_b I_u_429; have B_463 := IP_b I; omega)) (fun u_465 z_464 => ?_)
                      obtain ⟨I_u_465, G_u_465, p_466, p_467, p_468, p_469, p_470⟩ := z_464
                      have F_u_465 : Fr [2, 4, 5, 7, 8, 10, 11, 12, 13, 14, 15, 16, 17, 18, 19, 20, 21, 23, 24, 26, 27, 28, 29, 30] [10, 11, 12, 13, 14, 15, 16, 17, 18, 19, 20, 21, 22, 23, 25, 26, 27, 29, 30, 31, 32] u u_465 := Fr_tr F_u_429 G_u_465 rfl rfl
                      have g_471 : (u_465.1 1).toInt = (u_429.1 1).toInt := by rw [G_u_465.1 1 rfl]
                      have g_472 : (u_465.1 4).toInt = (u_429.1 4).toInt := by rw [G_u_465.1 4 rfl]
                      have g_473 : (u_465.1 30).toInt = (u_429.1 30).toInt := by rw [G_u_465.1 30 rfl]
                      have g_474 : (u_465.1 10).toInt = (u_429.1 10).toInt := by rw [G_u_465.1 10 rfl]
                      have g_475 : (u_465.1 16).toInt = (u_429.1 16).toInt := by rw [G_u_465.1 16 rfl]
                      have g_476 : (u_465.1 17).toInt = (u_429.1 17).toInt := by rw [G_u_465.1 17 rfl]
                      have g_477 : (u_465.1 18).toInt = (u_429.1 18).toInt := by rw [G_u_465.1 18 rfl]
                      have g_478 : (u_465.1 19).toInt = (u_429.1 19).toInt := by rw [G_u_465.1 19 rfl]
                      have g_479 : (u_465.1 20).toInt = (u_429.1 20).toInt := by rw [G_u_465.1 20 rfl]
                      have g_480 : (u_465.1 23).toInt = (u_429.1 23).toInt := by rw [G_u_465.1 23 rfl]
                      have g_481 : (u_465.1 24).toInt = (u_429.1 24).toInt := by rw [G_u_465.1 24 rfl]
                      have g_482 : (ga u_465 1 r_370).toInt = (ga u_429 1 r_370).toInt := by show (u_465.2.1 1 _).toInt = _; rw [G_u_465.2.1 1 rfl]; rfl
                      exact ⟨I_u_465, F_u_465, (by have B_483 := IP_b I; have B_484 := IP_b I_u_465; omega), (by have B_485 := IP_b I_u_465; omega), (by have B_486 := IP_b I_u_465; have B_487 := IP_b I; omega), (by have B_488 := IP_b I_u_465; have B_489 := IP_b I; omega), (by have B_490 := IP_b I_u_465; have B_491 := IP_b I; omega)⟩
                    · refine ok_eq (fun c_492 c_492' => ?_) (fun c_492 => ?_)
                      · refine ok_mono (kP_SqlReaderModel_readOther_J232 I_u_429 (by have FUe : FU = 100000 := rfl; have B_493 := IP_b I_u_429; have B_494 := IP_b I; omega) (by have FUe : FU = 100000 := rfl; have B_495 := IP_b I_u_429; have B_496 := IP_b I; omega) (by have FUe : FU = 100000 := rfl; have B_497 := IP_b I_u_429; have B_498 := IP_b I; omega) (by have FUe : FU = 100000 := rfl; have B_499 := IP_b I_u_429; have B_500 := IP_b I; omega) (by have FUe : FU = 100000 := rfl; have B_501 := IP_b I_u_429; have B_502 := IP_b I; omega) (by have FUe : FU = 100000 := rfl; have B_503 := IP_b I_u_429; have B_504 := IP_b I; omega) (by have FUe : FU = 100000 := rfl; have B_505 := IP_b I_u_429; have B_506 := IP_b I; omega) (by have FUe : FU = 100000 := rfl; have B_507 := IP_b I_u_429; have B_508 := IP_b I; omega) (by have FUe : FU = 100000 := rfl; have B_509 := IP_b I_u_429; have B_510 := IP_b I; omega) (by have FUe : FU = 100000 := rfl; have B_511 := IP_b I_u_429; have B_512 := IP_b I; omega)) (fun u_514 z_513 => ?_)
                        obtain ⟨I_u_514, G_u_514, p_515, p_516, p_517, p_518, p_519⟩ := z_513
                        have F_u_514 : Fr [2, 4, 5, 7, 8, 10, 11, 12, 13, 14, 15, 16, 17, 18, 19, 20, 21, 23, 24, 26, 27, 28, 29, 30] [10, 11, 12, 13, 14, 15, 16, 17, 18, 19, 20, 21, 22, 23, 25, 26, 27, 29, 30, 31, 32] u u_514 := Fr_tr F_u_429 G_u_514 rfl rfl
                        have g_520 : (u_514.1 1).toInt = (u_429.1 1).toInt := by rw [G_u_514.1 1 rfl]
                        have g_521 : (u_514.1 4).toInt = (u_429.1 4).toInt := by rw [G_u_514.1 4 rfl]
                        have g_522 : (u_514.1 30).toInt = (u_429.1 30).toInt := by rw [G_u_514.1 30 rfl]
                        have g_523 : (u_514.1 10).toInt = (u_429.1 10).toInt := by rw [G_u_514.1 10 rfl]
                        have g_524 : (u_514.1 16).toInt = (u_429.1 16).toInt := by rw [G_u_514.1 16 rfl]
                        have g_525 : (u_514.1 17).toInt = (u_429.1 17).toInt := by rw [G_u_514.1 17 rfl]
                        have g_526 : (u_514.1 18).toInt = (u_429.1 18).toInt := by rw [G_u_514.1 18 rfl]
                        have g_527 : (u_514.1 19).toInt = (u_429.1 19).toInt := by rw [G_u_514.1 19 rfl]
                        have g_528 : (u_514.1 20).toInt = (u_429.1 20).toInt := by rw [G_u_514.1 20 rfl]
                        have g_529 : (u_514.1 23).toInt = (u_429.1 23).toInt := by rw [G_u_514.1 23 rfl]
                        have g_530 : (u_514.1 24).toInt = (u_429.1 24).toInt := by rw [G_u_514.1 24 rfl]
                        have g_531 : (ga u_514 1 r_370).toInt = (ga u_429 1 r_370).toInt := by show (u_514.2.1 1 _).toInt = _; rw [G_u_514.2.1 1 rfl]; rfl
                        exact ⟨I_u_514, F_u_514, (by have B_532 := IP_b I; have B_533 := IP_b I_u_514; omega), (by have B_534 := IP_b I_u_514; omega), (by have B_535 := IP_b I_u_514; have B_536 := IP_b I; omega), (by have B_537 := IP_b I_u_514; have B_538 := IP_b I; omega), (by have B_539 := IP_b I_u_514; have B_540 := IP_b I; omega)⟩
                      · refine ok_mono (kP_SqlReaderModel_readOther_J232 I_u_429 (by have FUe : FU = 100000 := rfl; have B_541 := IP_b I_u_429; have B_542 := IP_b I; omega) (by have FUe : FU = 100000 := rfl; have B_543 := IP_b I_u_429; have B_544 := IP_b I; omega) (by have FUe : FU = 100000 := rfl; have B_545 := IP_b I_u_429; have B_546 := IP_b I; omega) (by have FUe : FU = 100000 := rfl; have B_547 := IP_b I_u_429; have B_548 := IP_b I; omega) (by have FUe : FU = 100000 := rfl; have B_549 := IP_b I_u_429; have B_550 := IP_b I; omega) (by have FUe : FU = 100000 := rfl; have B_551 := IP_b I_u_429; have B_552 := IP_b I; omega) (by have FUe : FU = 100000 := rfl; have B_553 := IP_b I_u_429; have B_554 := IP_b I; omega) (by have FUe : FU = 100000 := rfl; have B_555 := IP_b I_u_429; have B_556 := IP_b I; omega) (by have FUe : FU = 100000 := rfl; have B_557 := IP_b I_u_429; have B_558 := IP_b I; omega) (by have FUe : FU = 100000 := rfl; have B_559 := IP_b I_u_429; have B_560 := IP_b I; omega)) (fun u_562 z_561 => ?_)
                        obtain ⟨I_u_562, G_u_562, p_563, p_564, p_565, p_566, p_567⟩ := z_561
                        have F_u_562 : Fr [2, 4, 5, 7, 8, 10, 11, 12, 13, 14, 15, 16, 17, 18, 19, 20, 21, 23, 24, 26, 27, 28, 29, 30] [10, 11, 12, 13, 14, 15, 16, 17, 18, 19, 20, 21, 22, 23, 25, 26, 27, 29, 30, 31, 32] u u_562 := Fr_tr F_u_429 G_u_562 rfl rfl
                        have g_568 : (u_562.1 1).toInt = (u_429.1 1).toInt := by rw [G_u_562.1 1 rfl]
                        have g_569 : (u_562.1 4).toInt = (u_429.1 4).toInt := by rw [G_u_562.1 4 rfl]
                        have g_570 : (u_562.1 30).toInt = (u_429.1 30).toInt := by rw [G_u_562.1 30 rfl]
                        have g_571 : (u_562.1 10).toInt = (u_429.1 10).toInt := by rw [G_u_562.1 10 rfl]
                        have g_572 : (u_562.1 16).toInt = (u_429.1 16).toInt := by rw [G_u_562.1 16 rfl]
                        have g_573 : (u_562.1 17).toInt = (u_429.1 17).toInt := by rw [G_u_562.1 17 rfl]
                        have g_574 : (u_562.1 18).toInt = (u_429.1 18).toInt := by rw [G_u_562.1 18 rfl]
                        have g_575 : (u_562.1 19).toInt = (u_429.1 19).toInt := by rw [G_u_562.1 19 rfl]
                        have g_576 : (u_562.1 20).toInt = (u_429.1 20).toInt := by rw [G_u_562.1 20 rfl]
                        have g_577 : (u_562.1 23).toInt = (u_429.1 23).toInt := by rw [G_u_562.1 23 rfl]
                        have g_578 : (u_562.1 24).toInt = (u_429.1 24).toInt := by rw [G_u_562.1 24 rfl]
                        have g_579 : (ga u_562 1 r_370).toInt = (ga u_429 1 r_370).toInt := by show (u_562.2.1 1 _).toInt = _; rw [G_u_562.2.1 1 rfl]; rfl
                        exact ⟨I_u_562, F_u_562, (by have B_580 := IP_b I; have B_581 := IP_b I_u_562; omega), (by have B_582 := IP_b I_u_562; omega), (by have B_583 := IP_b I_u_562; have B_584 := IP_b I; omega), (by have B_585 := IP_b I_u_562; have B_586 := IP_b I; omega), (by have B_587 := IP_b I_u_562; have B_588 := IP_b I; omega)⟩
                · replace p_146 := p_146.resolve_left (fun q => c_160 (q.1.trans (by decide)))
                  clear c_160
                  refine ok_seq (fun u_590 h_589 => ?_)
                  have I_u_590 : IP u_590 := by rw [h_589]; exact IP_s7 I_u_143 (by have B_591 := IP_b I_u_143; omega)
                  have F_u_590 : Fr [2, 4, 5, 7, 8, 10, 11, 12, 13, 14, 15, 16, 17, 18, 19, 20, 21, 23, 24, 26, 27, 28, 29, 30] [10, 11, 12, 13, 14, 15, 16, 17, 18, 19, 20, 21, 22, 23, 25, 26, 27, 29, 30, 31, 32] u u_590 := by rw [h_589]; exact Fr_ss F_u_143 rfl rfl
                  have g_592 : (u_590.1 7).toInt = (15 : Int32).toInt := by rw [h_589]; rfl
                  have g_593 : (u_590.1 1).toInt = (u_143.1 1).toInt := by rw [h_589]; rfl
                  have g_594 : (u_590.1 2).toInt = (u_143.1 2).toInt := by rw [h_589]; rfl
                  have g_595 : (u_590.1 4).toInt = (u_143.1 4).toInt := by rw [h_589]; rfl
                  have g_596 : (u_590.1 30).toInt = (u_143.1 30).toInt := by rw [h_589]; rfl
                  have g_597 : (u_590.1 8).toInt = (u_143.1 8).toInt := by rw [h_589]; rfl
                  have g_598 : (u_590.1 10).toInt = (u_143.1 10).toInt := by rw [h_589]; rfl
                  have g_599 : (u_590.1 16).toInt = (u_143.1 16).toInt := by rw [h_589]; rfl
                  have g_600 : (u_590.1 17).toInt = (u_143.1 17).toInt := by rw [h_589]; rfl
                  have g_601 : (u_590.1 18).toInt = (u_143.1 18).toInt := by rw [h_589]; rfl
                  have g_602 : (u_590.1 19).toInt = (u_143.1 19).toInt := by rw [h_589]; rfl
                  have g_603 : (u_590.1 20).toInt = (u_143.1 20).toInt := by rw [h_589]; rfl
                  have g_604 : (u_590.1 23).toInt = (u_143.1 23).toInt := by rw [h_589]; rfl
                  have g_605 : (u_590.1 24).toInt = (u_143.1 24).toInt := by rw [h_589]; rfl
                  refine ok_bM (kP_SqlReaderModel_needName I_u_590 (by have FUe : FU = 100000 := rfl; have B_607 := IP_b I_u_590; have B_608 := IP_b I; omega)) (fun r_609 u_610 z_606 => ?_)
                  obtain ⟨I_u_610, G_u_610, p_611, p_612, p_613, p_614⟩ := z_606
                  have F_u_610 : Fr [2, 4, 5, 7, 8, 10, 11, 12, 13, 14, 15, 16, 17, 18, 19, 20, 21, 23, 24, 26, 27, 28, 29, 30] [10, 11, 12, 13, 14, 15, 16, 17, 18, 19, 20, 21, 22, 23, 25, 26, 27, 29, 30, 31, 32] u u_610 := Fr_tr F_u_590 G_u_610 rfl rfl
                  have g_615 : (u_610.1 1).toInt = (u_590.1 1).toInt := by rw [G_u_610.1 1 rfl]
                  have g_616 : (u_610.1 4).toInt = (u_590.1 4).toInt := by rw [G_u_610.1 4 rfl]
                  have g_617 : (u_610.1 7).toInt = (u_590.1 7).toInt := by rw [G_u_610.1 7 rfl]
                  have g_618 : (u_610.1 8).toInt = (u_590.1 8).toInt := by rw [G_u_610.1 8 rfl]
                  have g_619 : (u_610.1 10).toInt = (u_590.1 10).toInt := by rw [G_u_610.1 10 rfl]
                  have g_620 : (u_610.1 16).toInt = (u_590.1 16).toInt := by rw [G_u_610.1 16 rfl]
                  have g_621 : (u_610.1 17).toInt = (u_590.1 17).toInt := by rw [G_u_610.1 17 rfl]
                  have g_622 : (u_610.1 18).toInt = (u_590.1 18).toInt := by rw [G_u_610.1 18 rfl]
                  have g_623 : (u_610.1 19).toInt = (u_590.1 19).toInt := by rw [G_u_610.1 19 rfl]
                  have g_624 : (u_610.1 20).toInt = (u_590.1 20).toInt := by rw [G_u_610.1 20 rfl]
                  have g_625 : (u_610.1 23).toInt = (u_590.1 23).toInt := by rw [G_u_610.1 23 rfl]
                  have g_626 : (u_610.1 24).toInt = (u_590.1 24).toInt := by rw [G_u_610.1 24 rfl]
                  have n_627 : 0 ≤ r_609.toInt := by have B_628 := IP_b I_u_590; omega
                  refine ok_seq (fun u_630 h_629 => ?_)
                  have I_u_630 : IP u_630 := by rw [h_629]; exact IP_s10 I_u_610 (by have B_631 := IP_b I_u_610; omega) (by have B_632 := IP_b I_u_610; omega) (by have B_633 := IP_b I_u_610; omega)
                  have F_u_630 : Fr [2, 4, 5, 7, 8, 10, 11, 12, 13, 14, 15, 16, 17, 18, 19, 20, 21, 23, 24, 26, 27, 28, 29, 30] [10, 11, 12, 13, 14, 15, 16, 17, 18, 19, 20, 21, 22, 23, 25, 26, 27, 29, 30, 31, 32] u u_630 := by rw [h_629]; exact Fr_ss F_u_610 rfl rfl
                  have g_634 : (ga u_630 1 r_609).toInt = (ga u_610 1 r_609).toInt := by rw [h_629]; rfl
                  have g_635 : (u_630.1 10).toInt = (r_609 : Int32).toInt := by rw [h_629]; rfl
                  have g_636 : (u_630.1 1).toInt = (u_610.1 1).toInt := by rw [h_629]; rfl
                  have g_637 : (u_630.1 2).toInt = (u_610.1 2).toInt := by rw [h_629]; rfl
                  have g_638 : (u_630.1 4).toInt = (u_610.1 4).toInt := by rw [h_629]; rfl
                  have g_639 : (u_630.1 30).toInt = (u_610.1 30).toInt := by rw [h_629]; rfl
                  have g_640 : (u_630.1 7).toInt = (u_610.1 7).toInt := by rw [h_629]; rfl
                  have g_641 : (u_630.1 8).toInt = (u_610.1 8).toInt := by rw [h_629]; rfl
                  have g_642 : (u_630.1 16).toInt = (u_610.1 16).toInt := by rw [h_629]; rfl
                  have g_643 : (u_630.1 17).toInt = (u_610.1 17).toInt := by rw [h_629]; rfl
                  have g_644 : (u_630.1 18).toInt = (u_610.1 18).toInt := by rw [h_629]; rfl
                  have g_645 : (u_630.1 19).toInt = (u_610.1 19).toInt := by rw [h_629]; rfl
                  have g_646 : (u_630.1 20).toInt = (u_610.1 20).toInt := by rw [h_629]; rfl
                  have g_647 : (u_630.1 23).toInt = (u_610.1 23).toInt := by rw [h_629]; rfl
                  have g_648 : (u_630.1 24).toInt = (u_610.1 24).toInt := by rw [h_629]; rfl
                  refine ok_bP (kP_SqlReaderModel_readMode I_u_630 (by have FUe : FU = 100000 := rfl; have B_650 := IP_b I_u_630; have B_651 := IP_b I; omega) (by have FUe : FU = 100000 := rfl; have B_652 := IP_b I_u_630; have B_653 := IP_b I; omega) (by have FUe : FU = 100000 := rfl; have B_654 := IP_b I_u_630; have B_655 := IP_b I; omega)) (fun u_656 z_649 => ?_)
                  obtain ⟨I_u_656, G_u_656, p_657, p_658, p_659, p_660, p_661⟩ := z_649
                  have F_u_656 : Fr [2, 4, 5, 7, 8, 10, 11, 12, 13, 14, 15, 16, 17, 18, 19, 20, 21, 23, 24, 26, 27, 28, 29, 30] [10, 11, 12, 13, 14, 15, 16, 17, 18, 19, 20, 21, 22, 23, 25, 26, 27, 29, 30, 31, 32] u u_656 := Fr_tr F_u_630 G_u_656 rfl rfl
                  have g_662 : (u_656.1 1).toInt = (u_630.1 1).toInt := by rw [G_u_656.1 1 rfl]
                  have g_663 : (u_656.1 4).toInt = (u_630.1 4).toInt := by rw [G_u_656.1 4 rfl]
                  have g_664 : (u_656.1 7).toInt = (u_630.1 7).toInt := by rw [G_u_656.1 7 rfl]
                  have g_665 : (u_656.1 8).toInt = (u_630.1 8).toInt := by rw [G_u_656.1 8 rfl]
                  have g_666 : (u_656.1 10).toInt = (u_630.1 10).toInt := by rw [G_u_656.1 10 rfl]
                  have g_667 : (u_656.1 16).toInt = (u_630.1 16).toInt := by rw [G_u_656.1 16 rfl]
                  have g_668 : (u_656.1 17).toInt = (u_630.1 17).toInt := by rw [G_u_656.1 17 rfl]
                  have g_669 : (u_656.1 18).toInt = (u_630.1 18).toInt := by rw [G_u_656.1 18 rfl]
                  have g_670 : (u_656.1 19).toInt = (u_630.1 19).toInt := by rw [G_u_656.1 19 rfl]
                  have g_671 : (u_656.1 20).toInt = (u_630.1 20).toInt := by rw [G_u_656.1 20 rfl]
                  have g_672 : (u_656.1 23).toInt = (u_630.1 23).toInt := by rw [G_u_656.1 23 rfl]
                  have g_673 : (u_656.1 24).toInt = (u_630.1 24).toInt := by rw [G_u_656.1 24 rfl]
                  have g_674 : (ga u_656 1 r_609).toInt = (ga u_630 1 r_609).toInt := by show (u_656.2.1 1 _).toInt = _; rw [G_u_656.2.1 1 rfl]; rfl
                  exact ok_some ⟨I_u_656, F_u_656, (by have B_675 := IP_b I; have B_676 := IP_b I_u_656; omega), (by have B_677 := IP_b I_u_656; omega), (by have B_678 := IP_b I_u_656; have B_679 := IP_b I; omega), (by have B_680 := IP_b I_u_656; have B_681 := IP_b I; omega), (by have B_682 := IP_b I_u_656; have B_683 := IP_b I; omega)⟩
              · replace p_126 := p_126.resolve_left (fun q => c_140 (q.1.trans (by decide)))
                clear c_140
                refine ok_bP (kP_SqlReaderModel_readNamed I_u_123 (by have FUe : FU = 100000 := rfl; have B_685 := IP_b I_u_123; have B_686 := IP_b I; omega) (by have FUe : FU = 100000 := rfl; have B_687 := IP_b I_u_123; have B_688 := IP_b I; omega) (by have FUe : FU = 100000 := rfl; have B_689 := IP_b I_u_123; have B_690 := IP_b I; omega) (by have FUe : FU = 100000 := rfl; have B_691 := IP_b I_u_123; have B_692 := IP_b I; omega)) (fun u_693 z_684 => ?_)
                obtain ⟨I_u_693, G_u_693, p_694, p_695, p_696, p_697, p_698⟩ := z_684
                have F_u_693 : Fr [2, 4, 5, 7, 8, 10, 11, 12, 13, 14, 15, 16, 17, 18, 19, 20, 21, 23, 24, 26, 27, 28, 29, 30] [10, 11, 12, 13, 14, 15, 16, 17, 18, 19, 20, 21, 22, 23, 25, 26, 27, 29, 30, 31, 32] u u_693 := Fr_tr F_u_123 G_u_693 rfl rfl
                have g_699 : (u_693.1 1).toInt = (u_123.1 1).toInt := by rw [G_u_693.1 1 rfl]
                have g_700 : (u_693.1 4).toInt = (u_123.1 4).toInt := by rw [G_u_693.1 4 rfl]
                have g_701 : (u_693.1 8).toInt = (u_123.1 8).toInt := by rw [G_u_693.1 8 rfl]
                have g_702 : (u_693.1 10).toInt = (u_123.1 10).toInt := by rw [G_u_693.1 10 rfl]
                have g_703 : (u_693.1 16).toInt = (u_123.1 16).toInt := by rw [G_u_693.1 16 rfl]
                have g_704 : (u_693.1 17).toInt = (u_123.1 17).toInt := by rw [G_u_693.1 17 rfl]
                have g_705 : (u_693.1 18).toInt = (u_123.1 18).toInt := by rw [G_u_693.1 18 rfl]
                have g_706 : (u_693.1 19).toInt = (u_123.1 19).toInt := by rw [G_u_693.1 19 rfl]
                have g_707 : (u_693.1 20).toInt = (u_123.1 20).toInt := by rw [G_u_693.1 20 rfl]
                have g_708 : (u_693.1 23).toInt = (u_123.1 23).toInt := by rw [G_u_693.1 23 rfl]
                have g_709 : (u_693.1 24).toInt = (u_123.1 24).toInt := by rw [G_u_693.1 24 rfl]
                exact ok_some ⟨I_u_693, F_u_693, (by have B_710 := IP_b I; have B_711 := IP_b I_u_693; omega), (by have B_712 := IP_b I_u_693; omega), (by have B_713 := IP_b I_u_693; have B_714 := IP_b I; omega), (by have B_715 := IP_b I_u_693; have B_716 := IP_b I; omega), (by have B_717 := IP_b I_u_693; have B_718 := IP_b I; omega)⟩
            · replace p_106 := p_106.resolve_left (fun q => c_120 (q.1.trans (by decide)))
              clear c_120
              refine ok_bP (kP_SqlReaderModel_readNamed I_u_103 (by have FUe : FU = 100000 := rfl; have B_720 := IP_b I_u_103; have B_721 := IP_b I; omega) (by have FUe : FU = 100000 := rfl; have B_722 := IP_b I_u_103; have B_723 := IP_b I; omega) (by have FUe : FU = 100000 := rfl; have B_724 := IP_b I_u_103; have B_725 := IP_b I; omega) (by have FUe : FU = 100000 := rfl; have B_726 := IP_b I_u_103; have B_727 := IP_b I; omega)) (fun u_728 z_719 => ?_)
              obtain ⟨I_u_728, G_u_728, p_729, p_730, p_731, p_732, p_733⟩ := z_719
              have F_u_728 : Fr [2, 4, 5, 7, 8, 10, 11, 12, 13, 14, 15, 16, 17, 18, 19, 20, 21, 23, 24, 26, 27, 28, 29, 30] [10, 11, 12, 13, 14, 15, 16, 17, 18, 19, 20, 21, 22, 23, 25, 26, 27, 29, 30, 31, 32] u u_728 := Fr_tr F_u_103 G_u_728 rfl rfl
              have g_734 : (u_728.1 1).toInt = (u_103.1 1).toInt := by rw [G_u_728.1 1 rfl]
              have g_735 : (u_728.1 4).toInt = (u_103.1 4).toInt := by rw [G_u_728.1 4 rfl]
              have g_736 : (u_728.1 8).toInt = (u_103.1 8).toInt := by rw [G_u_728.1 8 rfl]
              have g_737 : (u_728.1 10).toInt = (u_103.1 10).toInt := by rw [G_u_728.1 10 rfl]
              have g_738 : (u_728.1 16).toInt = (u_103.1 16).toInt := by rw [G_u_728.1 16 rfl]
              have g_739 : (u_728.1 17).toInt = (u_103.1 17).toInt := by rw [G_u_728.1 17 rfl]
              have g_740 : (u_728.1 18).toInt = (u_103.1 18).toInt := by rw [G_u_728.1 18 rfl]
              have g_741 : (u_728.1 19).toInt = (u_103.1 19).toInt := by rw [G_u_728.1 19 rfl]
              have g_742 : (u_728.1 20).toInt = (u_103.1 20).toInt := by rw [G_u_728.1 20 rfl]
              have g_743 : (u_728.1 23).toInt = (u_103.1 23).toInt := by rw [G_u_728.1 23 rfl]
              have g_744 : (u_728.1 24).toInt = (u_103.1 24).toInt := by rw [G_u_728.1 24 rfl]
              exact ok_some ⟨I_u_728, F_u_728, (by have B_745 := IP_b I; have B_746 := IP_b I_u_728; omega), (by have B_747 := IP_b I_u_728; omega), (by have B_748 := IP_b I_u_728; have B_749 := IP_b I; omega), (by have B_750 := IP_b I_u_728; have B_751 := IP_b I; omega), (by have B_752 := IP_b I_u_728; have B_753 := IP_b I; omega)⟩
          · replace p_86 := p_86.resolve_left (fun q => c_100 (q.1.trans (by decide)))
            clear c_100
            refine ok_seq (fun u_755 h_754 => ?_)
            have I_u_755 : IP u_755 := by rw [h_754]; exact IP_s7 I_u_83 (by have B_756 := IP_b I_u_83; omega)
            have F_u_755 : Fr [2, 4, 5, 7, 8, 10, 11, 12, 13, 14, 15, 16, 17, 18, 19, 20, 21, 23, 24, 26, 27, 28, 29, 30] [10, 11, 12, 13, 14, 15, 16, 17, 18, 19, 20, 21, 22, 23, 25, 26, 27, 29, 30, 31, 32] u u_755 := by rw [h_754]; exact Fr_ss F_u_83 rfl rfl
            have g_757 : (u_755.1 7).toInt = (11 : Int32).toInt := by rw [h_754]; rfl
            have g_758 : (u_755.1 1).toInt = (u_83.1 1).toInt := by rw [h_754]; rfl
            have g_759 : (u_755.1 2).toInt = (u_83.1 2).toInt := by rw [h_754]; rfl
            have g_760 : (u_755.1 4).toInt = (u_83.1 4).toInt := by rw [h_754]; rfl
            have g_761 : (u_755.1 30).toInt = (u_83.1 30).toInt := by rw [h_754]; rfl
            have g_762 : (u_755.1 8).toInt = (u_83.1 8).toInt := by rw [h_754]; rfl
            have g_763 : (u_755.1 10).toInt = (u_83.1 10).toInt := by rw [h_754]; rfl
            have g_764 : (u_755.1 16).toInt = (u_83.1 16).toInt := by rw [h_754]; rfl
            have g_765 : (u_755.1 17).toInt = (u_83.1 17).toInt := by rw [h_754]; rfl
            have g_766 : (u_755.1 18).toInt = (u_83.1 18).toInt := by rw [h_754]; rfl
            have g_767 : (u_755.1 19).toInt = (u_83.1 19).toInt := by rw [h_754]; rfl
            have g_768 : (u_755.1 20).toInt = (u_83.1 20).toInt := by rw [h_754]; rfl
            have g_769 : (u_755.1 23).toInt = (u_83.1 23).toInt := by rw [h_754]; rfl
            have g_770 : (u_755.1 24).toInt = (u_83.1 24).toInt := by rw [h_754]; rfl
            refine ok_bM (kP_SqlReaderModel_takes I_u_755 (by decide)) (fun r_772 u_773 z_771 => ?_)
            obtain ⟨I_u_773, G_u_773, p_774, p_775, p_776⟩ := z_771
            have F_u_773 : Fr [2, 4, 5, 7, 8, 10, 11, 12, 13, 14, 15, 16, 17, 18, 19, 20, 21, 23, 24, 26, 27, 28, 29, 30] [10, 11, 12, 13, 14, 15, 16, 17, 18, 19, 20, 21, 22, 23, 25, 26, 27, 29, 30, 31, 32] u u_773 := Fr_tr F_u_755 G_u_773 rfl rfl
            have g_777 : (u_773.1 1).toInt = (u_755.1 1).toInt := by rw [G_u_773.1 1 rfl]
            have g_778 : (u_773.1 2).toInt = (u_755.1 2).toInt := by rw [G_u_773.1 2 rfl]
            have g_779 : (u_773.1 4).toInt = (u_755.1 4).toInt := by rw [G_u_773.1 4 rfl]
            have g_780 : (u_773.1 7).toInt = (u_755.1 7).toInt := by rw [G_u_773.1 7 rfl]
            have g_781 : (u_773.1 8).toInt = (u_755.1 8).toInt := by rw [G_u_773.1 8 rfl]
            have g_782 : (u_773.1 10).toInt = (u_755.1 10).toInt := by rw [G_u_773.1 10 rfl]
            have g_783 : (u_773.1 16).toInt = (u_755.1 16).toInt := by rw [G_u_773.1 16 rfl]
            have g_784 : (u_773.1 17).toInt = (u_755.1 17).toInt := by rw [G_u_773.1 17 rfl]
            have g_785 : (u_773.1 18).toInt = (u_755.1 18).toInt := by rw [G_u_773.1 18 rfl]
            have g_786 : (u_773.1 19).toInt = (u_755.1 19).toInt := by rw [G_u_773.1 19 rfl]
            have g_787 : (u_773.1 20).toInt = (u_755.1 20).toInt := by rw [G_u_773.1 20 rfl]
            have g_788 : (u_773.1 23).toInt = (u_755.1 23).toInt := by rw [G_u_773.1 23 rfl]
            have g_789 : (u_773.1 24).toInt = (u_755.1 24).toInt := by rw [G_u_773.1 24 rfl]
            refine ok_eq (fun c_790 c_790' => ?_) (fun c_790 => ?_)
            · replace p_776 := (p_776.resolve_right (fun q => absurd (q.1.symm.trans c_790) (by decide))).2
              exact ok_some ⟨I_u_773, F_u_773, (by have B_791 := IP_b I; have B_792 := IP_b I_u_773; omega), (by have B_793 := IP_b I_u_773; omega), (by have B_794 := IP_b I_u_773; have B_795 := IP_b I; omega), (by have B_796 := IP_b I_u_773; have B_797 := IP_b I; omega), (by have B_798 := IP_b I_u_773; have B_799 := IP_b I; omega)⟩
            · replace p_776 := p_776.resolve_left (fun q => c_790 (q.1.trans (by decide)))
              clear c_790
              refine ok_bP (kP_SqlReaderModel_readNamed I_u_773 (by have FUe : FU = 100000 := rfl; have B_801 := IP_b I_u_773; have B_802 := IP_b I; omega) (by have FUe : FU = 100000 := rfl; have B_803 := IP_b I_u_773; have B_804 := IP_b I; omega) (by have FUe : FU = 100000 := rfl; have B_805 := IP_b I_u_773; have B_806 := IP_b I; omega) (by have FUe : FU = 100000 := rfl; have B_807 := IP_b I_u_773; have B_808 := IP_b I; omega)) (fun u_809 z_800 => ?_)
              obtain ⟨I_u_809, G_u_809, p_810, p_811, p_812, p_813, p_814⟩ := z_800
              have F_u_809 : Fr [2, 4, 5, 7, 8, 10, 11, 12, 13, 14, 15, 16, 17, 18, 19, 20, 21, 23, 24, 26, 27, 28, 29, 30] [10, 11, 12, 13, 14, 15, 16, 17, 18, 19, 20, 21, 22, 23, 25, 26, 27, 29, 30, 31, 32] u u_809 := Fr_tr F_u_773 G_u_809 rfl rfl
              have g_815 : (u_809.1 1).toInt = (u_773.1 1).toInt := by rw [G_u_809.1 1 rfl]
              have g_816 : (u_809.1 4).toInt = (u_773.1 4).toInt := by rw [G_u_809.1 4 rfl]
              have g_817 : (u_809.1 8).toInt = (u_773.1 8).toInt := by rw [G_u_809.1 8 rfl]
              have g_818 : (u_809.1 10).toInt = (u_773.1 10).toInt := by rw [G_u_809.1 10 rfl]
              have g_819 : (u_809.1 16).toInt = (u_773.1 16).toInt := by rw [G_u_809.1 16 rfl]
              have g_820 : (u_809.1 17).toInt = (u_773.1 17).toInt := by rw [G_u_809.1 17 rfl]
              have g_821 : (u_809.1 18).toInt = (u_773.1 18).toInt := by rw [G_u_809.1 18 rfl]
              have g_822 : (u_809.1 19).toInt = (u_773.1 19).toInt := by rw [G_u_809.1 19 rfl]
              have g_823 : (u_809.1 20).toInt = (u_773.1 20).toInt := by rw [G_u_809.1 20 rfl]
              have g_824 : (u_809.1 23).toInt = (u_773.1 23).toInt := by rw [G_u_809.1 23 rfl]
              have g_825 : (u_809.1 24).toInt = (u_773.1 24).toInt := by rw [G_u_809.1 24 rfl]
              exact ok_some ⟨I_u_809, F_u_809, (by have B_826 := IP_b I; have B_827 := IP_b I_u_809; omega), (by have B_828 := IP_b I_u_809; omega), (by have B_829 := IP_b I_u_809; have B_830 := IP_b I; omega), (by have B_831 := IP_b I_u_809; have B_832 := IP_b I; omega), (by have B_833 := IP_b I_u_809; have B_834 := IP_b I; omega)⟩
        · replace p_66 := p_66.resolve_left (fun q => c_80 (q.1.trans (by decide)))
          clear c_80
          refine ok_seq (fun u_836 h_835 => ?_)
          have I_u_836 : IP u_836 := by rw [h_835]; exact IP_s7 I_u_63 (by have B_837 := IP_b I_u_63; omega)
          have F_u_836 : Fr [2, 4, 5, 7, 8, 10, 11, 12, 13, 14, 15, 16, 17, 18, 19, 20, 21, 23, 24, 26, 27, 28, 29, 30] [10, 11, 12, 13, 14, 15, 16, 17, 18, 19, 20, 21, 22, 23, 25, 26, 27, 29, 30, 31, 32] u u_836 := by rw [h_835]; exact Fr_ss F_u_63 rfl rfl
          have g_838 : (u_836.1 7).toInt = (10 : Int32).toInt := by rw [h_835]; rfl
          have g_839 : (u_836.1 1).toInt = (u_63.1 1).toInt := by rw [h_835]; rfl
          have g_840 : (u_836.1 2).toInt = (u_63.1 2).toInt := by rw [h_835]; rfl
          have g_841 : (u_836.1 4).toInt = (u_63.1 4).toInt := by rw [h_835]; rfl
          have g_842 : (u_836.1 30).toInt = (u_63.1 30).toInt := by rw [h_835]; rfl
          have g_843 : (u_836.1 8).toInt = (u_63.1 8).toInt := by rw [h_835]; rfl
          have g_844 : (u_836.1 10).toInt = (u_63.1 10).toInt := by rw [h_835]; rfl
          have g_845 : (u_836.1 16).toInt = (u_63.1 16).toInt := by rw [h_835]; rfl
          have g_846 : (u_836.1 17).toInt = (u_63.1 17).toInt := by rw [h_835]; rfl
          have g_847 : (u_836.1 18).toInt = (u_63.1 18).toInt := by rw [h_835]; rfl
          have g_848 : (u_836.1 19).toInt = (u_63.1 19).toInt := by rw [h_835]; rfl
          have g_849 : (u_836.1 20).toInt = (u_63.1 20).toInt := by rw [h_835]; rfl
          have g_850 : (u_836.1 23).toInt = (u_63.1 23).toInt := by rw [h_835]; rfl
          have g_851 : (u_836.1 24).toInt = (u_63.1 24).toInt := by rw [h_835]; rfl
          exact ok_some ⟨I_u_836, F_u_836, (by have B_852 := IP_b I; have B_853 := IP_b I_u_836; omega), (by have B_854 := IP_b I_u_836; omega), (by have B_855 := IP_b I_u_836; have B_856 := IP_b I; omega), (by have B_857 := IP_b I_u_836; have B_858 := IP_b I; omega), (by have B_859 := IP_b I_u_836; have B_860 := IP_b I; omega)⟩
      · replace p_46 := p_46.resolve_left (fun q => c_60 (q.1.trans (by decide)))
        clear c_60
        refine ok_bP (kP_SqlReaderModel_readBegin I_u_43 (by have FUe : FU = 100000 := rfl; have B_862 := IP_b I_u_43; have B_863 := IP_b I; omega) (by have FUe : FU = 100000 := rfl; have B_864 := IP_b I_u_43; have B_865 := IP_b I; omega) (by have FUe : FU = 100000 := rfl; have B_866 := IP_b I_u_43; have B_867 := IP_b I; omega)) (fun u_868 z_861 => ?_)
        obtain ⟨I_u_868, G_u_868, p_869, p_870, p_871, p_872, p_873⟩ := z_861
        have F_u_868 : Fr [2, 4, 5, 7, 8, 10, 11, 12, 13, 14, 15, 16, 17, 18, 19, 20, 21, 23, 24, 26, 27, 28, 29, 30] [10, 11, 12, 13, 14, 15, 16, 17, 18, 19, 20, 21, 22, 23, 25, 26, 27, 29, 30, 31, 32] u u_868 := Fr_tr F_u_43 G_u_868 rfl rfl
        have g_874 : (u_868.1 1).toInt = (u_43.1 1).toInt := by rw [G_u_868.1 1 rfl]
        have g_875 : (u_868.1 4).toInt = (u_43.1 4).toInt := by rw [G_u_868.1 4 rfl]
        have g_876 : (u_868.1 8).toInt = (u_43.1 8).toInt := by rw [G_u_868.1 8 rfl]
        have g_877 : (u_868.1 10).toInt = (u_43.1 10).toInt := by rw [G_u_868.1 10 rfl]
        have g_878 : (u_868.1 16).toInt = (u_43.1 16).toInt := by rw [G_u_868.1 16 rfl]
        have g_879 : (u_868.1 17).toInt = (u_43.1 17).toInt := by rw [G_u_868.1 17 rfl]
        have g_880 : (u_868.1 18).toInt = (u_43.1 18).toInt := by rw [G_u_868.1 18 rfl]
        have g_881 : (u_868.1 19).toInt = (u_43.1 19).toInt := by rw [G_u_868.1 19 rfl]
        have g_882 : (u_868.1 20).toInt = (u_43.1 20).toInt := by rw [G_u_868.1 20 rfl]
        have g_883 : (u_868.1 23).toInt = (u_43.1 23).toInt := by rw [G_u_868.1 23 rfl]
        have g_884 : (u_868.1 24).toInt = (u_43.1 24).toInt := by rw [G_u_868.1 24 rfl]
        exact ok_some ⟨I_u_868, F_u_868, (by have B_885 := IP_b I; have B_886 := IP_b I_u_868; omega), (by have B_887 := IP_b I_u_868; omega), (by have B_888 := IP_b I_u_868; have B_889 := IP_b I; omega), (by have B_890 := IP_b I_u_868; have B_891 := IP_b I; omega), (by have B_892 := IP_b I_u_868; have B_893 := IP_b I; omega)⟩
    · replace p_26 := p_26.resolve_left (fun q => c_40 (q.1.trans (by decide)))
      clear c_40
      refine ok_seq (fun u_895 h_894 => ?_)
      have I_u_895 : IP u_895 := by rw [h_894]; exact IP_s7 I_u_23 (by have B_896 := IP_b I_u_23; omega)
      have F_u_895 : Fr [2, 4, 5, 7, 8, 10, 11, 12, 13, 14, 15, 16, 17, 18, 19, 20, 21, 23, 24, 26, 27, 28, 29, 30] [10, 11, 12, 13, 14, 15, 16, 17, 18, 19, 20, 21, 22, 23, 25, 26, 27, 29, 30, 31, 32] u u_895 := by rw [h_894]; exact Fr_ss F_u_23 rfl rfl
      have g_897 : (u_895.1 7).toInt = (3 : Int32).toInt := by rw [h_894]; rfl
      have g_898 : (u_895.1 1).toInt = (u_23.1 1).toInt := by rw [h_894]; rfl
      have g_899 : (u_895.1 2).toInt = (u_23.1 2).toInt := by rw [h_894]; rfl
      have g_900 : (u_895.1 4).toInt = (u_23.1 4).toInt := by rw [h_894]; rfl
      have g_901 : (u_895.1 30).toInt = (u_23.1 30).toInt := by rw [h_894]; rfl
      have g_902 : (u_895.1 8).toInt = (u_23.1 8).toInt := by rw [h_894]; rfl
      have g_903 : (u_895.1 10).toInt = (u_23.1 10).toInt := by rw [h_894]; rfl
      have g_904 : (u_895.1 16).toInt = (u_23.1 16).toInt := by rw [h_894]; rfl
      have g_905 : (u_895.1 17).toInt = (u_23.1 17).toInt := by rw [h_894]; rfl
      have g_906 : (u_895.1 18).toInt = (u_23.1 18).toInt := by rw [h_894]; rfl
      have g_907 : (u_895.1 19).toInt = (u_23.1 19).toInt := by rw [h_894]; rfl
      have g_908 : (u_895.1 20).toInt = (u_23.1 20).toInt := by rw [h_894]; rfl
      have g_909 : (u_895.1 23).toInt = (u_23.1 23).toInt := by rw [h_894]; rfl
      have g_910 : (u_895.1 24).toInt = (u_23.1 24).toInt := by rw [h_894]; rfl
      refine ok_bP (kP_SqlReaderModel_need I_u_895 (by decide)) (fun u_912 z_911 => ?_)
      obtain ⟨I_u_912, G_u_912, p_913, p_914⟩ := z_911
      have F_u_912 : Fr [2, 4, 5, 7, 8, 10, 11, 12, 13, 14, 15, 16, 17, 18, 19, 20, 21, 23, 24, 26, 27, 28, 29, 30] [10, 11, 12, 13, 14, 15, 16, 17, 18, 19, 20, 21, 22, 23, 25, 26, 27, 29, 30, 31, 32] u u_912 := Fr_tr F_u_895 G_u_912 rfl rfl
      have g_915 : (u_912.1 1).toInt = (u_895.1 1).toInt := by rw [G_u_912.1 1 rfl]
      have g_916 : (u_912.1 4).toInt = (u_895.1 4).toInt := by rw [G_u_912.1 4 rfl]
      have g_917 : (u_912.1 7).toInt = (u_895.1 7).toInt := by rw [G_u_912.1 7 rfl]
      have g_918 : (u_912.1 8).toInt = (u_895.1 8).toInt := by rw [G_u_912.1 8 rfl]
      have g_919 : (u_912.1 10).toInt = (u_895.1 10).toInt := by rw [G_u_912.1 10 rfl]
      have g_920 : (u_912.1 16).toInt = (u_895.1 16).toInt := by rw [G_u_912.1 16 rfl]
      have g_921 : (u_912.1 17).toInt = (u_895.1 17).toInt := by rw [G_u_912.1 17 rfl]
      have g_922 : (u_912.1 18).toInt = (u_895.1 18).toInt := by rw [G_u_912.1 18 rfl]
      have g_923 : (u_912.1 19).toInt = (u_895.1 19).toInt := by rw [G_u_912.1 19 rfl]
      have g_924 : (u_912.1 20).toInt = (u_895.1 20).toInt := by rw [G_u_912.1 20 rfl]
      have g_925 : (u_912.1 23).toInt = (u_895.1 23).toInt := by rw [G_u_912.1 23 rfl]
      have g_926 : (u_912.1 24).toInt = (u_895.1 24).toInt := by rw [G_u_912.1 24 rfl]
      refine ok_bM (kP_SqlReaderModel_needName I_u_912 (by have FUe : FU = 100000 := rfl; have B_928 := IP_b I_u_912; have B_929 := IP_b I; omega)) (fun r_930 u_931 z_927 => ?_)
      obtain ⟨I_u_931, G_u_931, p_932, p_933, p_934, p_935⟩ := z_927
      have F_u_931 : Fr [2, 4, 5, 7, 8, 10, 11, 12, 13, 14, 15, 16, 17, 18, 19, 20, 21, 23, 24, 26, 27, 28, 29, 30] [10, 11, 12, 13, 14, 15, 16, 17, 18, 19, 20, 21, 22, 23, 25, 26, 27, 29, 30, 31, 32] u u_931 := Fr_tr F_u_912 G_u_931 rfl rfl
      have g_936 : (u_931.1 1).toInt = (u_912.1 1).toInt := by rw [G_u_931.1 1 rfl]
      have g_937 : (u_931.1 4).toInt = (u_912.1 4).toInt := by rw [G_u_931.1 4 rfl]
      have g_938 : (u_931.1 7).toInt = (u_912.1 7).toInt := by rw [G_u_931.1 7 rfl]
      have g_939 : (u_931.1 8).toInt = (u_912.1 8).toInt := by rw [G_u_931.1 8 rfl]
      have g_940 : (u_931.1 10).toInt = (u_912.1 10).toInt := by rw [G_u_931.1 10 rfl]
      have g_941 : (u_931.1 16).toInt = (u_912.1 16).toInt := by rw [G_u_931.1 16 rfl]
      have g_942 : (u_931.1 17).toInt = (u_912.1 17).toInt := by rw [G_u_931.1 17 rfl]
      have g_943 : (u_931.1 18).toInt = (u_912.1 18).toInt := by rw [G_u_931.1 18 rfl]
      have g_944 : (u_931.1 19).toInt = (u_912.1 19).toInt := by rw [G_u_931.1 19 rfl]
      have g_945 : (u_931.1 20).toInt = (u_912.1 20).toInt := by rw [G_u_931.1 20 rfl]
      have g_946 : (u_931.1 23).toInt = (u_912.1 23).toInt := by rw [G_u_931.1 23 rfl]
      have g_947 : (u_931.1 24).toInt = (u_912.1 24).toInt := by rw [G_u_931.1 24 rfl]
      have n_948 : 0 ≤ r_930.toInt := by have B_949 := IP_b I_u_912; omega
      refine ok_seq (fun u_951 h_950 => ?_)
      have I_u_951 : IP u_951 := by rw [h_950]; exact IP_s10 I_u_931 (by have B_952 := IP_b I_u_931; omega) (by have B_953 := IP_b I_u_931; omega) (by have B_954 := IP_b I_u_931; omega)
      have F_u_951 : Fr [2, 4, 5, 7, 8, 10, 11, 12, 13, 14, 15, 16, 17, 18, 19, 20, 21, 23, 24, 26, 27, 28, 29, 30] [10, 11, 12, 13, 14, 15, 16, 17, 18, 19, 20, 21, 22, 23, 25, 26, 27, 29, 30, 31, 32] u u_951 := by rw [h_950]; exact Fr_ss F_u_931 rfl rfl
      have g_955 : (ga u_951 1 r_930).toInt = (ga u_931 1 r_930).toInt := by rw [h_950]; rfl
      have g_956 : (u_951.1 10).toInt = (r_930 : Int32).toInt := by rw [h_950]; rfl
      have g_957 : (u_951.1 1).toInt = (u_931.1 1).toInt := by rw [h_950]; rfl
      have g_958 : (u_951.1 2).toInt = (u_931.1 2).toInt := by rw [h_950]; rfl
      have g_959 : (u_951.1 4).toInt = (u_931.1 4).toInt := by rw [h_950]; rfl
      have g_960 : (u_951.1 30).toInt = (u_931.1 30).toInt := by rw [h_950]; rfl
      have g_961 : (u_951.1 7).toInt = (u_931.1 7).toInt := by rw [h_950]; rfl
      have g_962 : (u_951.1 8).toInt = (u_931.1 8).toInt := by rw [h_950]; rfl
      have g_963 : (u_951.1 16).toInt = (u_931.1 16).toInt := by rw [h_950]; rfl
      have g_964 : (u_951.1 17).toInt = (u_931.1 17).toInt := by rw [h_950]; rfl
      have g_965 : (u_951.1 18).toInt = (u_931.1 18).toInt := by rw [h_950]; rfl
      have g_966 : (u_951.1 19).toInt = (u_931.1 19).toInt := by rw [h_950]; rfl
      have g_967 : (u_951.1 20).toInt = (u_931.1 20).toInt := by rw [h_950]; rfl
      have g_968 : (u_951.1 23).toInt = (u_931.1 23).toInt := by rw [h_950]; rfl
      have g_969 : (u_951.1 24).toInt = (u_931.1 24).toInt := by rw [h_950]; rfl
      exact ok_some ⟨I_u_951, F_u_951, (by have B_970 := IP_b I; have B_971 := IP_b I_u_951; omega), (by have B_972 := IP_b I_u_951; omega), (by have B_973 := IP_b I_u_951; have B_974 := IP_b I; omega), (by have B_975 := IP_b I_u_951; have B_976 := IP_b I; omega), (by have B_977 := IP_b I_u_951; have B_978 := IP_b I; omega)⟩
  · replace p_6 := p_6.resolve_left (fun q => c_20 (q.1.trans (by decide)))
    clear c_20
    refine ok_bP (kP_SqlReaderModel_readCreate I_u_3 (by have FUe : FU = 100000 := rfl; have B_980 := IP_b I_u_3; have B_981 := IP_b I; omega) (by have FUe : FU = 100000 := rfl; have B_982 := IP_b I_u_3; have B_983 := IP_b I; omega) (by have FUe : FU = 100000 := rfl; have B_984 := IP_b I_u_3; have B_985 := IP_b I; omega) (by have FUe : FU = 100000 := rfl; have B_986 := IP_b I_u_3; have B_987 := IP_b I; omega) (by have FUe : FU = 100000 := rfl; have B_988 := IP_b I_u_3; have B_989 := IP_b I; omega)) (fun u_990 z_979 => ?_)
    obtain ⟨I_u_990, G_u_990, p_991, p_992, p_993, p_994, p_995⟩ := z_979
    have F_u_990 : Fr [2, 4, 5, 7, 8, 10, 11, 12, 13, 14, 15, 16, 17, 18, 19, 20, 21, 23, 24, 26, 27, 28, 29, 30] [10, 11, 12, 13, 14, 15, 16, 17, 18, 19, 20, 21, 22, 23, 25, 26, 27, 29, 30, 31, 32] u u_990 := Fr_tr F_u_3 G_u_990 rfl rfl
    have g_996 : (u_990.1 1).toInt = (u_3.1 1).toInt := by rw [G_u_990.1 1 rfl]
    have g_997 : (u_990.1 4).toInt = (u_3.1 4).toInt := by rw [G_u_990.1 4 rfl]
    have g_998 : (u_990.1 8).toInt = (u_3.1 8).toInt := by rw [G_u_990.1 8 rfl]
    have g_999 : (u_990.1 16).toInt = (u_3.1 16).toInt := by rw [G_u_990.1 16 rfl]
    have g_1000 : (u_990.1 17).toInt = (u_3.1 17).toInt := by rw [G_u_990.1 17 rfl]
    have g_1001 : (u_990.1 18).toInt = (u_3.1 18).toInt := by rw [G_u_990.1 18 rfl]
    have g_1002 : (u_990.1 19).toInt = (u_3.1 19).toInt := by rw [G_u_990.1 19 rfl]
    have g_1003 : (u_990.1 20).toInt = (u_3.1 20).toInt := by rw [G_u_990.1 20 rfl]
    have g_1004 : (u_990.1 23).toInt = (u_3.1 23).toInt := by rw [G_u_990.1 23 rfl]
    exact ok_some ⟨I_u_990, F_u_990, (by have B_1005 := IP_b I; have B_1006 := IP_b I_u_990; omega), (by have B_1007 := IP_b I_u_990; omega), (by have B_1008 := IP_b I_u_990; have B_1009 := IP_b I; omega), (by have B_1010 := IP_b I_u_990; have B_1011 := IP_b I; omega), (by have B_1012 := IP_b I_u_990; have B_1013 := IP_b I; omega)⟩
