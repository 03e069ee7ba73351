theorem kP_SqlReaderModel_readQuery_J131 {u : St} (I : IP u) (h0 : (u.1 4).toInt ≤ 185000) (h1 : (u.1 2).toInt = 1 ∨ ((u.1 4).toInt ≤ 100000 + 40 * (u.1 30).toInt ∧ (u.1 30).toInt ≤ (u.1 1).toInt)) (h2 : (u.1 30).toInt ≤ 3800) : ok (mM_SqlReaderModel_readQuery_J131 u) (fun v => IP v ∧ Fr [2, 11, 30] [] u v ∧ (u.1 2).toInt ≤ (v.1 2).toInt ∧ (v.1 4).toInt ≤ 185000 ∧ ((v.1 2).toInt = 1 ∨ ((v.1 4).toInt ≤ 100000 + 40 * (v.1 30).toInt ∧ (v.1 30).toInt ≤ (u.1 1).toInt)) ∧ ((v.1 30).toInt ≤ (u.1 30).toInt + 1 ∨ (v.1 30).toInt ≤ (u.1 1).toInt + 1) ∧ ((v.1 2).toInt = 1 ∨ (u.1 30).toInt ≤ (v.1 30).toInt)) := by
  have l0 : (0 : Int32).toInt = 0 := by decide
  have l1 : (1 : Int32).toInt = 1 := by decide
  have l2 : (2 : Int32).toInt = 2 := by decide
  have l4 : (4 : Int32).toInt = 4 := by decide
  have l30 : (30 : Int32).toInt = 30 := by decide
  have l40 : (40 : Int32).toInt = 40 := by decide
  have l86 : (86 : Int32).toInt = 86 := by decide
  have l3800 : (3800 : Int32).toInt = 3800 := by decide
  have l3900 : (3900 : Int32).toInt = 3900 := by decide
  have l100000 : (100000 : Int32).toInt = 100000 := by decide
  have l185000 : (185000 : Int32).toInt = 185000 := by decide
  have l2147483647 : (2147483647 : Int32).toInt = 2147483647 := by decide
  rw [mM_SqlReaderModel_readQuery_J131]
  refine ok_bM (kP_SqlReaderModel_takes I (by decide)) (fun r_2 u_3 z_1 => ?_)
  obtain ⟨I_u_3, G_u_3, p_4, p_5, p_6⟩ := z_1
  have F_u_3 : Fr [2, 11, 30] [] u u_3 := Fr_tr (Fr_rfl u) G_u_3 rfl rfl
  have g_7 : (u_3.1 1).toInt = (u.1 1).toInt := by rw [G_u_3.1 1 rfl]
  have g_8 : (u_3.1 2).toInt = (u.1 2).toInt := by rw [G_u_3.1 2 rfl]
  have g_9 : (u_3.1 4).toInt = (u.1 4).toInt := by rw [G_u_3.1 4 rfl]
  refine ok_eq (fun c_10 c_10' => ?_) (fun c_10 => ?_)
  · refine ok_mono (kP_SqlReaderModel_readQuery_J174 I_u_3 (by have FUe : FU = 100000 := rfl; have B_11 := IP_b I_u_3; have B_12 := IP_b I; omega) (by have FUe : FU = 100000 := rfl; have B_13 := IP_b I_u_3; have B_14 := IP_b I; omega) (by have FUe : FU = 100000 := rfl; have B_15 := IP_b I_u_3; have B_16 := IP_b I; omega)) (fun u_18 z_17 => ?_)
    obtain ⟨I_u_18, G_u_18, p_19, p_20, p_21, p_22, p_23⟩ := z_17
    have F_u_18 : Fr [2, 11, 30] [] u u_18 := Fr_tr F_u_3 G_u_18 rfl rfl
    have g_24 : (u_18.1 1).toInt = (u_3.1 1).toInt := by rw [G_u_18.1 1 rfl]
    have g_25 : (u_18.1 4).toInt = (u_3.1 4).toInt := by rw [G_u_18.1 4 rfl]
    exact ⟨I_u_18, F_u_18, (by have B_26 := IP_b I; have B_27 := IP_b I_u_18; omega), (by have B_28 := IP_b I_u_18; omega), (by have B_29 := IP_b I_u_18; have B_30 := IP_b I; omega), (by have B_31 := IP_b I_u_18; have B_32 := IP_b I; omega), (by have B_33 := IP_b I_u_18; have B_34 := IP_b I; omega)⟩
  · refine ok_bM (kP_SqlReaderModel_needNumber I_u_3 (by have FUe : FU = 100000 := rfl; have B_36 := IP_b I_u_3; have B_37 := IP_b I; omega)) (fun r_38 u_39 z_35 => ?_)
    obtain ⟨I_u_39, G_u_39, p_40, p_41, p_42⟩ := z_35
    have F_u_39 : Fr [2, 11, 30] [] u u_39 := Fr_tr F_u_3 G_u_39 rfl rfl
    have g_43 : (u_39.1 1).toInt = (u_3.1 1).toInt := by rw [G_u_39.1 1 rfl]
    have g_44 : (u_39.1 4).toInt = (u_3.1 4).toInt := by rw [G_u_39.1 4 rfl]
    refine ok_seq (fun u_46 h_45 => ?_)
    have I_u_46 : IP u_46 := by rw [h_45]; exact I_u_39
    have F_u_46 : Fr [2, 11, 30] [] u u_46 := by rw [h_45]; exact Fr_sL F_u_39
    have g_47 : (u_46.1 1).toInt = (u_39.1 1).toInt := by rw [h_45]; rfl
    have g_48 : (u_46.1 2).toInt = (u_39.1 2).toInt := by rw [h_45]; rfl
    have g_49 : (u_46.1 4).toInt = (u_39.1 4).toInt := by rw [h_45]; rfl
    have g_50 : (u_46.1 30).toInt = (u_39.1 30).toInt := by rw [h_45]; rfl
    refine ok_le (fun c_51 => ?_) (fun c_51 => ?_)
    · refine ok_seq (fun u_53 h_52 => ?_)
      have I_u_53 : IP u_53 := by rw [h_52]; exact I_u_46
      have F_u_53 : Fr [2, 11, 30] [] u u_53 := by rw [h_52]; exact Fr_sL F_u_46
      have g_54 : (u_53.1 1).toInt = (u_46.1 1).toInt := by rw [h_52]; rfl
      have g_55 : (u_53.1 2).toInt = (u_46.1 2).toInt := by rw [h_52]; rfl
      have g_56 : (u_53.1 4).toInt = (u_46.1 4).toInt := by rw [h_52]; rfl
      have g_57 : (u_53.1 30).toInt = (u_46.1 30).toInt := by rw [h_52]; rfl
      refine ok_mono (kP_SqlReaderModel_readQuery_J174 I_u_53 (by have FUe : FU = 100000 := rfl; have B_58 := IP_b I_u_53; have B_59 := IP_b I; omega) (by have FUe : FU = 100000 := rfl; have B_60 := IP_b I_u_53; have B_61 := IP_b I; omega) (by have FUe : FU = 100000 := rfl; have B_62 := IP_b I_u_53; have B_63 := IP_b I; omega)) (fun u_65 z_64 => ?_)
      obtain ⟨I_u_65, G_u_65, p_66, p_67, p_68, p_69, p_70⟩ := z_64
      have F_u_65 : Fr [2, 11, 30] [] u u_65 := Fr_tr F_u_53 G_u_65 rfl rfl
      have g_71 : (u_65.1 1).toInt = (u_53.1 1).toInt := by rw [G_u_65.1 1 rfl]
      have g_72 : (u_65.1 4).toInt = (u_53.1 4).toInt := by rw [G_u_65.1 4 rfl]
      exact ⟨I_u_65, F_u_65, (by have B_73 := IP_b I; have B_74 := IP_b I_u_65; omega), (by have B_75 := IP_b I_u_65; omega), (by have B_76 := IP_b I_u_65; have B_77 := IP_b I; omega), (by have B_78 := IP_b I_u_65; have B_79 := IP_b I; omega), (by have B_80 := IP_b I_u_65; have B_81 := IP_b I; omega)⟩
    · refine ok_seq (fun u_83 h_82 => ?_)
      have I_u_83 : IP u_83 := by rw [h_82]; exact I_u_46
      have F_u_83 : Fr [2, 11, 30] [] u u_83 := by rw [h_82]; exact Fr_sL F_u_46
      have g_84 : (u_83.1 1).toInt = (u_46.1 1).toInt := by rw [h_82]; rfl
      have g_85 : (u_83.1 2).toInt = (u_46.1 2).toInt := by rw [h_82]; rfl
      have g_86 : (u_83.1 4).toInt = (u_46.1 4).toInt := by rw [h_82]; rfl
      have g_87 : (u_83.1 30).toInt = (u_46.1 30).toInt := by rw [h_82]; rfl
      refine ok_mono (kP_SqlReaderModel_readQuery_J174 I_u_83 (by have FUe : FU = 100000 := rfl; have B_88 := IP_b I_u_83; have B_89 := IP_b I; omega) (by have FUe : FU = 100000 := rfl; have B_90 := IP_b I_u_83; have B_91 := IP_b I; omega) (by have FUe : FU = 100000 := rfl; have B_92 := IP_b I_u_83; have B_93 := IP_b I; omega)) (fun u_95 z_94 => ?_)
      obtain ⟨I_u_95, G_u_95, p_96, p_97, p_98, p_99, p_100⟩ := z_94
      have F_u_95 : Fr [2, 11, 30] [] u u_95 := Fr_tr F_u_83 G_u_95 rfl rfl
      have g_101 : (u_95.1 1).toInt = (u_83.1 1).toInt := by rw [G_u_95.1 1 rfl]
      have g_102 : (u_95.1 4).toInt = (u_83.1 4).toInt := by rw [G_u_95.1 4 rfl]
      exact ⟨I_u_95, F_u_95, (by have B_103 := IP_b I; have B_104 := IP_b I_u_95; omega), (by have B_105 := IP_b I_u_95; omega), (by have B_106 := IP_b I_u_95; have B_107 := IP_b I; omega), (by have B_108 := IP_b I_u_95; have B_109 := IP_b I; omega), (by have B_110 := IP_b I_u_95; have B_111 := IP_b I; omega)⟩
theorem kP_SqlReaderModel_readQuery_J99 {u : St} (I : IP u) (h0 : (u.1 4).toInt ≤ 185000) (h1 : (u.1 2).toInt = 1 ∨ ((u.1 4).toInt ≤ 100000 + 40 * (u.1 30).toInt ∧ (u.1 30).toInt ≤ (u.1 1).toInt)) (h2 : (u.1 30).toInt ≤ 3800) (h3 : (u.1 17).toInt = 0) (h4 : (u.1 18).toInt = 0) (h5 : (u.1 2).toInt = 1 ∨ 1 ≤ (u.1 30).toInt) : ok (mM_SqlReaderModel_readQuery_J99 u) (fun v => IP v ∧ Fr [2, 4, 5, 11, 15, 17, 18, 28, 30] [10, 11, 12, 13, 14, 15, 16, 17, 18, 19, 20, 22, 23] u v ∧ (u.1 2).toInt ≤ (v.1 2).toInt ∧ (v.1 4).toInt ≤ 185000 ∧ ((v.1 2).toInt = 1 ∨ ((v.1 4).toInt ≤ 100000 + 40 * (v.1 30).toInt ∧ (v.1 30).toInt ≤ (u.1 1).toInt)) ∧ ((v.1 30).toInt ≤ (u.1 30).toInt + 2 ∨ (v.1 30).toInt ≤ (u.1 1).toInt + 2) ∧ ((v.1 2).toInt = 1 ∨ (u.1 30).toInt ≤ (v.1 30).toInt)) := by
  have l0 : (0 : Int32).toInt = 0 := by decide
  have l1 : (1 : Int32).toInt = 1 := by decide
  have l2 : (2 : Int32).toInt = 2 := by decide
  have l4 : (4 : Int32).toInt = 4 := by decide
  have l17 : (17 : Int32).toInt = 17 := by decide
  have l18 : (18 : Int32).toInt = 18 := by decide
  have l30 : (30 : Int32).toInt = 30 := by decide
  have l40 : (40 : Int32).toInt = 40 := by decide
  have l84 : (84 : Int32).toInt = 84 := by decide
  have l85 : (85 : Int32).toInt = 85 := by decide
  have l3800 : (3800 : Int32).toInt = 3800 := by decide
  have l100000 : (100000 : Int32).toInt = 100000 := by decide
  have l185000 : (185000 : Int32).toInt = 185000 := by decide
  rw [mM_SqlReaderModel_readQuery_J99]
  refine ok_bP (kP_SqlReaderModel_readWhere I (by have FUe : FU = 100000 := rfl; have B_2 := IP_b I; omega) (by have FUe : FU = 100000 := rfl; have B_3 := IP_b I; omega) (by have FUe : FU = 100000 := rfl; have B_4 := IP_b I; omega)) (fun u_5 z_1 => ?_)
  obtain ⟨I_u_5, G_u_5, p_6, p_7, p_8, p_9, p_10⟩ := z_1
  have F_u_5 : Fr [2, 4, 5, 11, 15, 17, 18, 28, 30] [10, 11, 12, 13, 14, 15, 16, 17, 18, 19, 20, 22, 23] u u_5 := Fr_tr (Fr_rfl u) G_u_5 rfl rfl
  have g_11 : (u_5.1 1).toInt = (u.1 1).toInt := by rw [G_u_5.1 1 rfl]
  have g_12 : (u_5.1 17).toInt = (u.1 17).toInt := by rw [G_u_5.1 17 rfl]
  have g_13 : (u_5.1 18).toInt = (u.1 18).toInt := by rw [G_u_5.1 18 rfl]
  refine ok_bM (kP_SqlReaderModel_takes I_u_5 (by decide)) (fun r_15 u_16 z_14 => ?_)
  obtain ⟨I_u_16, G_u_16, p_17, p_18, p_19⟩ := z_14
  have F_u_16 : Fr [2, 4, 5, 11, 15, 17, 18, 28, 30] [10, 11, 12, 13, 14, 15, 16, 17, 18, 19, 20, 22, 23] u u_16 := Fr_tr F_u_5 G_u_16 rfl rfl
  have g_20 : (u_16.1 1).toInt = (u_5.1 1).toInt := by rw [G_u_16.1 1 rfl]
  have g_21 : (u_16.1 2).toInt = (u_5.1 2).toInt := by rw [G_u_16.1 2 rfl]
  have g_22 : (u_16.1 4).toInt = (u_5.1 4).toInt := by rw [G_u_16.1 4 rfl]
  have g_23 : (u_16.1 17).toInt = (u_5.1 17).toInt := by rw [G_u_16.1 17 rfl]
  have g_24 : (u_16.1 18).toInt = (u_5.1 18).toInt := by rw [G_u_16.1 18 rfl]
  refine ok_eq (fun c_25 c_25' => ?_) (fun c_25 => ?_)
  · refine ok_bM (kP_SqlReaderModel_takes I_u_16 (by decide)) (fun r_27 u_28 z_26 => ?_)
    obtain ⟨I_u_28, G_u_28, p_29, p_30, p_31⟩ := z_26
    have F_u_28 : Fr [2, 4, 5, 11, 15, 17, 18, 28, 30] [10, 11, 12, 13, 14, 15, 16, 17, 18, 19, 20, 22, 23] u u_28 := Fr_tr F_u_16 G_u_28 rfl rfl
    have g_32 : (u_28.1 1).toInt = (u_16.1 1).toInt := by rw [G_u_28.1 1 rfl]
    have g_33 : (u_28.1 2).toInt = (u_16.1 2).toInt := by rw [G_u_28.1 2 rfl]
    have g_34 : (u_28.1 4).toInt = (u_16.1 4).toInt := by rw [G_u_28.1 4 rfl]
    have g_35 : (u_28.1 17).toInt = (u_16.1 17).toInt := by rw [G_u_28.1 17 rfl]
    have g_36 : (u_28.1 18).toInt = (u_16.1 18).toInt := by rw [G_u_28.1 18 rfl]
    refine ok_eq (fun c_37 c_37' => ?_) (fun c_37 => ?_)
    · refine ok_mono (kP_SqlReaderModel_readQuery_J131 I_u_28 (by have FUe : FU = 100000 := rfl; have B_38 := IP_b I_u_28; have B_39 := IP_b I; omega) (by have FUe : FU = 100000 := rfl; have B_40 := IP_b I_u_28; have B_41 := IP_b I; omega) (by have FUe : FU = 100000 := rfl; have B_42 := IP_b I_u_28; have B_43 := IP_b I; omega)) (fun u_45 z_44 => ?_)
      obtain ⟨I_u_45, G_u_45, p_46, p_47, p_48, p_49, p_50⟩ := z_44
      have F_u_45 : Fr [2, 4, 5, 11, 15, 17, 18, 28, 30] [10, 11, 12, 13, 14, 15, 16, 17, 18, 19, 20, 22, 23] u u_45 := Fr_tr F_u_28 G_u_45 rfl rfl
      have g_51 : (u_45.1 1).toInt = (u_28.1 1).toInt := by rw [G_u_45.1 1 rfl]
      have g_52 : (u_45.1 4).toInt = (u_28.1 4).toInt := by rw [G_u_45.1 4 rfl]
      have g_53 : (u_45.1 17).toInt = (u_28.1 17).toInt := by rw [G_u_45.1 17 rfl]
      have g_54 : (u_45.1 18).toInt = (u_28.1 18).toInt := by rw [G_u_45.1 18 rfl]
      exact ⟨I_u_45, F_u_45, (by have B_55 := IP_b I; have B_56 := IP_b I_u_45; omega), (by have B_57 := IP_b I_u_45; omega), (by have B_58 := IP_b I_u_45; have B_59 := IP_b I; omega), (by have B_60 := IP_b I_u_45; have B_61 := IP_b I; omega), (by have B_62 := IP_b I_u_45; have B_63 := IP_b I; omega)⟩
    · refine ok_bP (kP_SqlReaderModel_readOrders I_u_28 (by have FUe : FU = 100000 := rfl; have B_65 := IP_b I_u_28; have B_66 := IP_b I; omega) (by have FUe : FU = 100000 := rfl; have B_67 := IP_b I_u_28; have B_68 := IP_b I; omega) (by have FUe : FU = 100000 := rfl; have B_69 := IP_b I_u_28; have B_70 := IP_b I; omega) (by have FUe : FU = 100000 := rfl; have B_71 := IP_b I_u_28; have B_72 := IP_b I; omega) (by have FUe : FU = 100000 := rfl; have B_73 := IP_b I_u_28; have B_74 := IP_b I; omega)) (fun u_75 z_64 => ?_)
      obtain ⟨I_u_75, G_u_75, p_76, p_77, p_78, p_79, p_80⟩ := z_64
      have F_u_75 : Fr [2, 4, 5, 11, 15, 17, 18, 28, 30] [10, 11, 12, 13, 14, 15, 16, 17, 18, 19, 20, 22, 23] u u_75 := Fr_tr F_u_28 G_u_75 rfl rfl
      have g_81 : (u_75.1 1).toInt = (u_28.1 1).toInt := by rw [G_u_75.1 1 rfl]
      have g_82 : (u_75.1 4).toInt = (u_28.1 4).toInt := by rw [G_u_75.1 4 rfl]
      have g_83 : (u_75.1 17).toInt = (u_28.1 17).toInt := by rw [G_u_75.1 17 rfl]
      refine ok_mono (kP_SqlReaderModel_readQuery_J131 I_u_75 (by have FUe : FU = 100000 := rfl; have B_84 := IP_b I_u_75; have B_85 := IP_b I; omega) (by have FUe : FU = 100000 := rfl; have B_86 := IP_b I_u_75; have B_87 := IP_b I; omega) (by have FUe : FU = 100000 := rfl; have B_88 := IP_b I_u_75; have B_89 := IP_b I; omega)) (fun u_91 z_90 => ?_)
      obtain ⟨I_u_91, G_u_91, p_92, p_93, p_94, p_95, p_96⟩ := z_90
      have F_u_91 : Fr [2, 4, 5, 11, 15, 17, 18, 28, 30] [10, 11, 12, 13, 14, 15, 16, 17, 18, 19, 20, 22, 23] u u_91 := Fr_tr F_u_75 G_u_91 rfl rfl
      have g_97 : (u_91.1 1).toInt = (u_75.1 1).toInt := by rw [G_u_91.1 1 rfl]
      have g_98 : (u_91.1 4).toInt = (u_75.1 4).toInt := by rw [G_u_91.1 4 rfl]
      have g_99 : (u_91.1 17).toInt = (u_75.1 17).toInt := by rw [G_u_91.1 17 rfl]
      have g_100 : (u_91.1 18).toInt = (u_75.1 18).toInt := by rw [G_u_91.1 18 rfl]
      exact ⟨I_u_91, F_u_91, (by have B_101 := IP_b I; have B_102 := IP_b I_u_91; omega), (by have B_103 := IP_b I_u_91; omega), (by have B_104 := IP_b I_u_91; have B_105 := IP_b I; omega), (by have B_106 := IP_b I_u_91; have B_107 := IP_b I; omega), (by have B_108 := IP_b I_u_91; have B_109 := IP_b I; omega)⟩
  · refine ok_bP (kP_SqlReaderModel_readGroups I_u_16 (by have FUe : FU = 100000 := rfl; have B_111 := IP_b I_u_16; have B_112 := IP_b I; omega) (by have FUe : FU = 100000 := rfl; have B_113 := IP_b I_u_16; have B_114 := IP_b I; omega) (by have FUe : FU = 100000 := rfl; have B_115 := IP_b I_u_16; have B_116 := IP_b I; omega) (by have FUe : FU = 100000 := rfl; have B_117 := IP_b I_u_16; have B_118 := IP_b I; omega) (by have FUe : FU = 100000 := rfl; have B_119 := IP_b I_u_16; have B_120 := IP_b I; omega)) (fun u_121 z_110 => ?_)
    obtain ⟨I_u_121, G_u_121, p_122, p_123, p_124, p_125, p_126⟩ := z_110
    have F_u_121 : Fr [2, 4, 5, 11, 15, 17, 18, 28, 30] [10, 11, 12, 13, 14, 15, 16, 17, 18, 19, 20, 22, 23] u u_121 := Fr_tr F_u_16 G_u_121 rfl rfl
    have g_127 : (u_121.1 1).toInt = (u_16.1 1).toInt := by rw [G_u_121.1 1 rfl]
    have g_128 : (u_121.1 18).toInt = (u_16.1 18).toInt := by rw [G_u_121.1 18 rfl]
    refine ok_bM (kP_SqlReaderModel_takes I_u_121 (by decide)) (fun r_130 u_131 z_129 => ?_)
    obtain ⟨I_u_131, G_u_131, p_132, p_133, p_134⟩ := z_129
    have F_u_131 : Fr [2, 4, 5, 11, 15, 17, 18, 28, 30] [10, 11, 12, 13, 14, 15, 16, 17, 18, 19, 20, 22, 23] u u_131 := Fr_tr F_u_121 G_u_131 rfl rfl
    have g_135 : (u_131.1 1).toInt = (u_121.1 1).toInt := by rw [G_u_131.1 1 rfl]
    have g_136 : (u_131.1 2).toInt = (u_121.1 2).toInt := by rw [G_u_131.1 2 rfl]
    have g_137 : (u_131.1 4).toInt = (u_121.1 4).toInt := by rw [G_u_131.1 4 rfl]
    have g_138 : (u_131.1 17).toInt = (u_121.1 17).toInt := by rw [G_u_131.1 17 rfl]
    have g_139 : (u_131.1 18).toInt = (u_121.1 18).toInt := by rw [G_u_131.1 18 rfl]
    refine ok_eq (fun c_140 c_140' => ?_) (fun c_140 => ?_)
    · refine ok_mono (kP_SqlReaderModel_readQuery_J131 I_u_131 (by have FUe : FU = 100000 := rfl; have B_141 := IP_b I_u_131; have B_142 := IP_b I; omega) (by have FUe : FU = 100000 := rfl; have B_143 := IP_b I_u_131; have B_144 := IP_b I; omega) (by have FUe : FU = 100000 := rfl; have B_145 := IP_b I_u_131; have B_146 := IP_b I; omega)) (fun u_148 z_147 => ?_)
      obtain ⟨I_u_148, G_u_148, p_149, p_150, p_151, p_152, p_153⟩ := z_147
      have F_u_148 : Fr [2, 4, 5, 11, 15, 17, 18, 28, 30] [10, 11, 12, 13, 14, 15, 16, 17, 18, 19, 20, 22, 23] u u_148 := Fr_tr F_u_131 G_u_148 rfl rfl
      have g_154 : (u_148.1 1).toInt = (u_131.1 1).toInt := by rw [G_u_148.1 1 rfl]
      have g_155 : (u_148.1 4).toInt = (u_131.1 4).toInt := by rw [G_u_148.1 4 rfl]
      have g_156 : (u_148.1 17).toInt = (u_131.1 17).toInt := by rw [G_u_148.1 17 rfl]
      have g_157 : (u_148.1 18).toInt = (u_131.1 18).toInt := by rw [G_u_148.1 18 rfl]
      exact ⟨I_u_148, F_u_148, (by have B_158 := IP_b I; have B_159 := IP_b I_u_148; omega), (by have B_160 := IP_b I_u_148; omega), (by have B_161 := IP_b I_u_148; have B_162 := IP_b I; omega), (by have B_163 := IP_b I_u_148; have B_164 := IP_b I; omega), (by have B_165 := IP_b I_u_148; have B_166 := IP_b I; omega)⟩
    · refine ok_bP (kP_SqlReaderModel_readOrders I_u_131 (by have FUe : FU = 100000 := rfl; have B_168 := IP_b I_u_131; have B_169 := IP_b I; omega) (by have FUe : FU = 100000 := rfl; have B_170 := IP_b I_u_131; have B_171 := IP_b I; omega) (by have FUe : FU = 100000 := rfl; have B_172 := IP_b I_u_131; have B_173 := IP_b I; omega) (by have FUe : FU = 100000 := rfl; have B_174 := IP_b I_u_131; have B_175 := IP_b I; omega) (by have FUe : FU = 100000 := rfl; have B_176 := IP_b I_u_131; have B_177 := IP_b I; omega)) (fun u_178 z_167 => ?_)
      obtain ⟨I_u_178, G_u_178, p_179, p_180, p_181, p_182, p_183⟩ := z_167
      have F_u_178 : Fr [2, 4, 5, 11, 15, 17, 18, 28, 30] [10, 11, 12, 13, 14, 15, 16, 17, 18, 19, 20, 22, 23] u u_178 := Fr_tr F_u_131 G_u_178 rfl rfl
      have g_184 : (u_178.1 1).toInt = (u_131.1 1).toInt := by rw [G_u_178.1 1 rfl]
      have g_185 : (u_178.1 4).toInt = (u_131.1 4).toInt := by rw [G_u_178.1 4 rfl]
      have g_186 : (u_178.1 17).toInt = (u_131.1 17).toInt := by rw [G_u_178.1 17 rfl]
      refine ok_mono (kP_SqlReaderModel_readQuery_J131 I_u_178 (by have FUe : FU = 100000 := rfl; have B_187 := IP_b I_u_178; have B_188 := IP_b I; omega) (by have FUe : FU = 100000 := rfl; have B_189 := IP_b I_u_178; have B_190 := IP_b I; omega) (by have FUe : FU = 100000 := rfl; have B_191 := IP_b I_u_178; have B_192 := IP_b I; omega)) (fun u_194 z_193 => ?_)
      obtain ⟨I_u_194, G_u_194, p_195, p_196, p_197, p_198, p_199⟩ := z_193
      have F_u_194 : Fr [2, 4, 5, 11, 15, 17, 18, 28, 30] [10, 11, 12, 13, 14, 15, 16, 17, 18, 19, 20, 22, 23] u u_194 := Fr_tr F_u_178 G_u_194 rfl rfl
      have g_200 : (u_194.1 1).toInt = (u_178.1 1).toInt := by rw [G_u_194.1 1 rfl]
      have g_201 : (u_194.1 4).toInt = (u_178.1 4).toInt := by rw [G_u_194.1 4 rfl]
      have g_202 : (u_194.1 17).toInt = (u_178.1 17).toInt := by rw [G_u_194.1 17 rfl]
      have g_203 : (u_194.1 18).toInt = (u_178.1 18).toInt := by rw [G_u_194.1 18 rfl]
      exact ⟨I_u_194, F_u_194, (by have B_204 := IP_b I; have B_205 := IP_b I_u_194; omega), (by have B_206 := IP_b I_u_194; omega), (by have B_207 := IP_b I_u_194; have B_208 := IP_b I; omega), (by have B_209 := IP_b I_u_194; have B_210 := IP_b I; omega), (by have B_211 := IP_b I_u_194; have B_212 := IP_b I; omega)⟩
set_option maxHeartbeats 20000000 in
theorem kP_SqlReaderModel_readQuery_L24 : ∀ (n : Nat) {x1 : Int32} {u : St} (I : IP u) (h0 : (u.1 4).toInt ≤ 185000) (h1 : (u.1 2).toInt = 1 ∨ ((u.1 4).toInt ≤ 100000 + 40 * (u.1 30).toInt ∧ (u.1 30).toInt ≤ (u.1 1).toInt)) (h2 : (u.1 30).toInt ≤ 3800) (h3 : 0 ≤ x1.toInt) (h4 : x1.toInt ≤ 1) (h5 : (u.1 19).toInt ≤ 1000) (h6 : (u.1 2).toInt = 1 ∨ x1.toInt = 0 ∨ 2 * (u.1 19).toInt + 2 ≤ (u.1 30).toInt) (h7 : (u.1 17).toInt = 0) (h8 : (u.1 18).toInt = 0) (h9 : (u.1 2).toInt = 1 ∨ 1 ≤ (u.1 30).toInt) (hm : (2 * (2100 - (u.1 30).toInt) + x1.toInt).toNat < n), ok (mM_SqlReaderModel_readQuery_L24 n x1 u) (fun v => IP v ∧ Fr [2, 4, 5, 11, 15, 17, 18, 19, 28, 30] [10, 11, 12, 13, 14, 15, 16, 17, 18, 19, 20, 22, 23, 25, 26] u v ∧ (u.1 2).toInt ≤ (v.1 2).toInt ∧ (v.1 4).toInt ≤ 185000 ∧ ((v.1 2).toInt = 1 ∨ ((v.1 4).toInt ≤ 100000 + 40 * (v.1 30).toInt ∧ (v.1 30).toInt ≤ (u.1 1).toInt)) ∧ ((v.1 30).toInt ≤ (u.1 30).toInt + 3 ∨ (v.1 30).toInt ≤ (u.1 1).toInt + 3) ∧ ((v.1 2).toInt = 1 ∨ (u.1 30).toInt ≤ (v.1 30).toInt) ∧ ((u.1 2).toInt = 0 ∨ (v.1 30).toInt ≤ (u.1 30).toInt + 2 ∨ (v.1 30).toInt ≤ (u.1 1).toInt + 2)) := by
  intro n
  induction n with
  | zero => intro x1 u I h0 h1 h2 h3 h4 h5 h6 h7 h8 h9 hm; exact absurd hm (Nat.not_lt_zero _)
  | succ n ih =>
    intro x1 u I h0 h1 h2 h3 h4 h5 h6 h7 h8 h9 hm
    have l0 : (0 : Int32).toInt = 0 := by decide
    have l1 : (1 : Int32).toInt = 1 := by decide
    have l2 : (2 : Int32).toInt = 2 := by decide
    have l3 : (3 : Int32).toInt = 3 := by decide
    have l4 : (4 : Int32).toInt = 4 := by decide
    have l17 : (17 : Int32).toInt = 17 := by decide
    have l18 : (18 : Int32).toInt = 18 := by decide
    have l19 : (19 : Int32).toInt = 19 := by decide
    have l30 : (30 : Int32).toInt = 30 := by decide
    have l40 : (40 : Int32).toInt = 40 := by decide
    have l80 : (80 : Int32).toInt = 80 := by decide
    have l999 : (999 : Int32).toInt = 999 := by decide
    have l1000 : (1000 : Int32).toInt = 1000 := by decide
    have l2100 : (2100 : Int32).toInt = 2100 := by decide
    have l3800 : (3800 : Int32).toInt = 3800 := by decide
    have l3900 : (3900 : Int32).toInt = 3900 := by decide
    have l100000 : (100000 : Int32).toInt = 100000 := by decide
    have l185000 : (185000 : Int32).toInt = 185000 := by decide
    rw [mM_SqlReaderModel_readQuery_L24]
    refine ok_eq (fun c_1 c_1' => ?_) (fun c_1 => ?_)
    · refine ok_mono (kP_SqlReaderModel_readQuery_J99 I (by have FUe : FU = 100000 := rfl; have B_2 := IP_b I; omega) (by have FUe : FU = 100000 := rfl; have B_3 := IP_b I; omega) (by have FUe : FU = 100000 := rfl; have B_4 := IP_b I; omega) (by have FUe : FU = 100000 := rfl; have B_5 := IP_b I; omega) (by have FUe : FU = 100000 := rfl; have B_6 := IP_b I; omega) (by have FUe : FU = 100000 := rfl; have B_7 := IP_b I; omega)) (fun u_9 z_8 => ?_)
      obtain ⟨I_u_9, G_u_9, p_10, p_11, p_12, p_13, p_14⟩ := z_8
      have F_u_9 : Fr [2, 4, 5, 11, 15, 17, 18, 19, 28, 30] [10, 11, 12, 13, 14, 15, 16, 17, 18, 19, 20, 22, 23, 25, 26] u u_9 := Fr_tr (Fr_rfl u) G_u_9 rfl rfl
      have g_15 : (u_9.1 1).toInt = (u.1 1).toInt := by rw [G_u_9.1 1 rfl]
      have g_16 : (u_9.1 19).toInt = (u.1 19).toInt := by rw [G_u_9.1 19 rfl]
      exact ⟨I_u_9, F_u_9, (by have B_17 := IP_b I; have B_18 := IP_b I_u_9; omega), (by have B_19 := IP_b I_u_9; omega), (by have B_20 := IP_b I_u_9; have B_21 := IP_b I; omega), (by have B_22 := IP_b I_u_9; have B_23 := IP_b I; omega), (by have B_24 := IP_b I_u_9; have B_25 := IP_b I; omega), (by have B_26 := IP_b I; have B_27 := IP_b I_u_9; omega)⟩
    · refine ok_eq (fun c_28 c_28' => ?_) (fun c_28 => ?_)
      · refine ok_bM (kP_SqlReaderModel_needName I (by have FUe : FU = 100000 := rfl; have B_30 := IP_b I; omega)) (fun r_31 u_32 z_29 => ?_)
        obtain ⟨I_u_32, G_u_32, p_33, p_34, p_35, p_36⟩ := z_29
        have F_u_32 : Fr [2, 4, 5, 11, 15, 17, 18, 19, 28, 30] [10, 11, 12, 13, 14, 15, 16, 17, 18, 19, 20, 22, 23, 25, 26] u u_32 := Fr_tr (Fr_rfl u) G_u_32 rfl rfl
        have g_37 : (u_32.1 1).toInt = (u.1 1).toInt := by rw [G_u_32.1 1 rfl]
        have g_38 : (u_32.1 4).toInt = (u.1 4).toInt := by rw [G_u_32.1 4 rfl]
        have g_39 : (u_32.1 17).toInt = (u.1 17).toInt := by rw [G_u_32.1 17 rfl]
        have g_40 : (u_32.1 18).toInt = (u.1 18).toInt := by rw [G_u_32.1 18 rfl]
        have g_41 : (u_32.1 19).toInt = (u.1 19).toInt := by rw [G_u_32.1 19 rfl]
        refine ok_bP (kM_SqlReaderModel_isKind (IP_IB I_u_32) (by have FUe : FU = 100000 := rfl; have B_43 := IP_b I_u_32; have B_44 := IP_b I; omega)) (fun r_45 z_42 => ?_)
        obtain ⟨p_46, p_47, p_48⟩ := z_42
        refine ok_eq (fun c_49 c_49' => ?_) (fun c_49 => ?_)
        · rw [mM_SqlReaderModel_readQuery_J64]
          refine ok_bP (kP_SqlReaderModel_from I_u_32 (by have FUe : FU = 100000 := rfl; have B_51 := IP_b I_u_32; have B_52 := IP_b I; omega) (by have FUe : FU = 100000 := rfl; have B_53 := IP_b I_u_32; have B_54 := IP_b I; omega)) (fun u_55 z_50 => ?_)
          obtain ⟨I_u_55, G_u_55, p_56⟩ := z_50
          have F_u_55 : Fr [2, 4, 5, 11, 15, 17, 18, 19, 28, 30] [10, 11, 12, 13, 14, 15, 16, 17, 18, 19, 20, 22, 23, 25, 26] u u_55 := Fr_tr F_u_32 G_u_55 rfl rfl
          have g_57 : (u_55.1 1).toInt = (u_32.1 1).toInt := by rw [G_u_55.1 1 rfl]
          have g_58 : (u_55.1 2).toInt = (u_32.1 2).toInt := by rw [G_u_55.1 2 rfl]
          have g_59 : (u_55.1 4).toInt = (u_32.1 4).toInt := by rw [G_u_55.1 4 rfl]
          have g_60 : (u_55.1 30).toInt = (u_32.1 30).toInt := by rw [G_u_55.1 30 rfl]
          have g_61 : (u_55.1 17).toInt = (u_32.1 17).toInt := by rw [G_u_55.1 17 rfl]
          have g_62 : (u_55.1 18).toInt = (u_32.1 18).toInt := by rw [G_u_55.1 18 rfl]
          refine ok_eq (fun c_63 c_63' => ?_) (fun c_63 => ?_)
          · refine ok_seq (fun u_65 h_64 => ?_)
            have I_u_65 : IP u_65 := by rw [h_64]; exact IP_s30 I_u_55 (by have B_66 := IP_b I_u_55; omega) (by have B_67 := IP_b I_u_55; omega)
            have F_u_65 : Fr [2, 4, 5, 11, 15, 17, 18, 19, 28, 30] [10, 11, 12, 13, 14, 15, 16, 17, 18, 19, 20, 22, 23, 25, 26] u u_65 := by rw [h_64]; exact Fr_ss F_u_55 rfl rfl
            have g_68 : (u_65.1 30).toInt = ((u_55.1 30) : Int32).toInt := by rw [h_64]; rfl
            have g_69 : (u_65.1 1).toInt = (u_55.1 1).toInt := by rw [h_64]; rfl
            have g_70 : (u_65.1 2).toInt = (u_55.1 2).toInt := by rw [h_64]; rfl
            have g_71 : (u_65.1 4).toInt = (u_55.1 4).toInt := by rw [h_64]; rfl
            have g_72 : (u_65.1 17).toInt = (u_55.1 17).toInt := by rw [h_64]; rfl
            have g_73 : (u_65.1 18).toInt = (u_55.1 18).toInt := by rw [h_64]; rfl
            have g_74 : (u_65.1 19).toInt = (u_55.1 19).toInt := by rw [h_64]; rfl
            refine ok_bM (kP_SqlReaderModel_takes I_u_65 (by decide)) (fun r_76 u_77 z_75 => ?_)
            obtain ⟨I_u_77, G_u_77, p_78, p_79, p_80⟩ := z_75
            have F_u_77 : Fr [2, 4, 5, 11, 15, 17, 18, 19, 28, 30] [10, 11, 12, 13, 14, 15, 16, 17, 18, 19, 20, 22, 23, 25, 26] u u_77 := Fr_tr F_u_65 G_u_77 rfl rfl
            have g_81 : (u_77.1 1).toInt = (u_65.1 1).toInt := by rw [G_u_77.1 1 rfl]
            have g_82 : (u_77.1 2).toInt = (u_65.1 2).toInt := by rw [G_u_77.1 2 rfl]
            have g_83 : (u_77.1 4).toInt = (u_65.1 4).toInt := by rw [G_u_77.1 4 rfl]
            have g_84 : (u_77.1 17).toInt = (u_65.1 17).toInt := by rw [G_u_77.1 17 rfl]
            have g_85 : (u_77.1 18).toInt = (u_65.1 18).toInt := by rw [G_u_77.1 18 rfl]
            have g_86 : (u_77.1 19).toInt = (u_65.1 19).toInt := by rw [G_u_77.1 19 rfl]
            refine ok_mono (ih I_u_77 (by have B_87 := IP_b I_u_77; omega) (by have B_88 := IP_b I_u_77; omega) (by have B_89 := IP_b I_u_77; omega) (by have B_90 := IP_b I_u_77; omega) (by have B_91 := IP_b I_u_77; omega) (by have B_92 := IP_b I_u_77; omega) (by have B_93 := IP_b I_u_77; omega) (by have B_94 := IP_b I_u_77; omega) (by have B_95 := IP_b I_u_77; omega) (by have B_96 := IP_b I_u_77; omega) (by have B_97 := IP_b I_u_77; omega)) (fun u_99 z_98 => ?_)
            obtain ⟨I_u_99, G_u_99, p_100, p_101, p_102, p_103, p_104, p_105⟩ := z_98
            have F_u_99 : Fr [2, 4, 5, 11, 15, 17, 18, 19, 28, 30] [10, 11, 12, 13, 14, 15, 16, 17, 18, 19, 20, 22, 23, 25, 26] u u_99 := Fr_tr F_u_77 G_u_99 rfl rfl
            have g_106 : (u_99.1 1).toInt = (u_77.1 1).toInt := by rw [G_u_99.1 1 rfl]
            exact ⟨I_u_99, F_u_99, (by have B_107 := IP_b I; have B_108 := IP_b I_u_99; omega), (by have B_109 := IP_b I_u_99; omega), (by have B_110 := IP_b I_u_99; have B_111 := IP_b I; omega), (by have B_112 := IP_b I_u_99; have B_113 := IP_b I; omega), (by have B_114 := IP_b I_u_99; have B_115 := IP_b I; omega), (by have B_116 := IP_b I; have B_117 := IP_b I_u_99; omega)⟩
          · refine ok_seq (fun u_119 h_118 => ?_)
            try have e_120 : ((u_55.1 30) + 1 : Int32).toInt = ((u_55.1 30) : Int32).toInt + (1 : Int32).toInt := by have B_121 := IP_b I; have B_122 := IP_b I_u_55; exact add_i (by omega) (by omega)
            have I_u_119 : IP u_119 := by rw [h_118]; exact IP_s30 I_u_55 (by have B_123 := IP_b I_u_55; omega) (by have B_124 := IP_b I_u_55; omega)
            have F_u_119 : Fr [2, 4, 5, 11, 15, 17, 18, 19, 28, 30] [10, 11, 12, 13, 14, 15, 16, 17, 18, 19, 20, 22, 23, 25, 26] u u_119 := by rw [h_118]; exact Fr_ss F_u_55 rfl rfl
            try have e_125 : ((u_55.1 30) + 1 : Int32).toInt = ((u_55.1 30) : Int32).toInt + (1 : Int32).toInt := by have B_126 := IP_b I; have B_127 := IP_b I_u_55; exact add_i (by omega) (by omega)
            have g_128 : (u_119.1 30).toInt = (((u_55.1 30) + 1) : Int32).toInt := by rw [h_118]; rfl
            have g_129 : (u_119.1 1).toInt = (u_55.1 1).toInt := by rw [h_118]; rfl
            have g_130 : (u_119.1 2).toInt = (u_55.1 2).toInt := by rw [h_118]; rfl
            have g_131 : (u_119.1 4).toInt = (u_55.1 4).toInt := by rw [h_118]; rfl
            have g_132 : (u_119.1 17).toInt = (u_55.1 17).toInt := by rw [h_118]; rfl
            have g_133 : (u_119.1 18).toInt = (u_55.1 18).toInt := by rw [h_118]; rfl
            have g_134 : (u_119.1 19).toInt = (u_55.1 19).toInt := by rw [h_118]; rfl
            refine ok_bM (kP_SqlReaderModel_takes I_u_119 (by decide)) (fun r_136 u_137 z_135 => ?_)
            obtain ⟨I_u_137, G_u_137, p_138, p_139, p_140⟩ := z_135
            have F_u_137 : Fr [2, 4, 5, 11, 15, 17, 18, 19, 28, 30] [10, 11, 12, 13, 14, 15, 16, 17, 18, 19, 20, 22, 23, 25, 26] u u_137 := Fr_tr F_u_119 G_u_137 rfl rfl
            have g_141 : (u_137.1 1).toInt = (u_119.1 1).toInt := by rw [G_u_137.1 1 rfl]
            have g_142 : (u_137.1 2).toInt = (u_119.1 2).toInt := by rw [G_u_137.1 2 rfl]
            have g_143 : (u_137.1 4).toInt = (u_119.1 4).toInt := by rw [G_u_137.1 4 rfl]
            have g_144 : (u_137.1 17).toInt = (u_119.1 17).toInt := by rw [G_u_137.1 17 rfl]
            have g_145 : (u_137.1 18).toInt = (u_119.1 18).toInt := by rw [G_u_137.1 18 rfl]
            have g_146 : (u_137.1 19).toInt = (u_119.1 19).toInt := by rw [G_u_137.1 19 rfl]
            refine ok_mono (ih I_u_137 (by have B_147 := IP_b I_u_137; omega) (by have B_148 := IP_b I_u_137; omega) (by have B_149 := IP_b I_u_137; omega) (by have B_150 := IP_b I_u_137; omega) (by have B_151 := IP_b I_u_137; omega) (by have B_152 := IP_b I_u_137; omega) (by have B_153 := IP_b I_u_137; omega) (by have B_154 := IP_b I_u_137; omega) (by have B_155 := IP_b I_u_137; omega) (by have B_156 := IP_b I_u_137; omega) (by have B_157 := IP_b I_u_137; omega)) (fun u_159 z_158 => ?_)
            obtain ⟨I_u_159, G_u_159, p_160, p_161, p_162, p_163, p_164, p_165⟩ := z_158
            have F_u_159 : Fr [2, 4, 5, 11, 15, 17, 18, 19, 28, 30] [10, 11, 12, 13, 14, 15, 16, 17, 18, 19, 20, 22, 23, 25, 26] u u_159 := Fr_tr F_u_137 G_u_159 rfl rfl
            have g_166 : (u_159.1 1).toInt = (u_137.1 1).toInt := by rw [G_u_159.1 1 rfl]
            exact ⟨I_u_159, F_u_159, (by have B_167 := IP_b I; have B_168 := IP_b I_u_159; omega), (by have B_169 := IP_b I_u_159; omega), (by have B_170 := IP_b I_u_159; have B_171 := IP_b I; omega), (by have B_172 := IP_b I_u_159; have B_173 := IP_b I; omega), (by have B_174 := IP_b I_u_159; have B_175 := IP_b I; omega), (by have B_176 := IP_b I; have B_177 := IP_b I_u_159; omega)⟩
        · rw [mM_SqlReaderModel_readQuery_J64]
          refine ok_bP (kP_SqlReaderModel_from I_u_32 (by have FUe : FU = 100000 := rfl; have B_179 := IP_b I_u_32; have B_180 := IP_b I; omega) (by have FUe : FU = 100000 := rfl; have B_181 := IP_b I_u_32; have B_182 := IP_b I; omega)) (fun u_183 z_178 => ?_)
          obtain ⟨I_u_183, G_u_183, p_184⟩ := z_178
          have F_u_183 : Fr [2, 4, 5, 11, 15, 17, 18, 19, 28, 30] [10, 11, 12, 13, 14, 15, 16, 17, 18, 19, 20, 22, 23, 25, 26] u u_183 := Fr_tr F_u_32 G_u_183 rfl rfl
          have g_185 : (u_183.1 1).toInt = (u_32.1 1).toInt := by rw [G_u_183.1 1 rfl]
          have g_186 : (u_183.1 2).toInt = (u_32.1 2).toInt := by rw [G_u_183.1 2 rfl]
          have g_187 : (u_183.1 4).toInt = (u_32.1 4).toInt := by rw [G_u_183.1 4 rfl]
          have g_188 : (u_183.1 30).toInt = (u_32.1 30).toInt := by rw [G_u_183.1 30 rfl]
          have g_189 : (u_183.1 17).toInt = (u_32.1 17).toInt := by rw [G_u_183.1 17 rfl]
          have g_190 : (u_183.1 18).toInt = (u_32.1 18).toInt := by rw [G_u_183.1 18 rfl]
          refine ok_eq (fun c_191 c_191' => ?_) (fun c_191 => ?_)
          · refine ok_seq (fun u_193 h_192 => ?_)
            have I_u_193 : IP u_193 := by rw [h_192]; exact IP_s30 I_u_183 (by have B_194 := IP_b I_u_183; omega) (by have B_195 := IP_b I_u_183; omega)
            have F_u_193 : Fr [2, 4, 5, 11, 15, 17, 18, 19, 28, 30] [10, 11, 12, 13, 14, 15, 16, 17, 18, 19, 20, 22, 23, 25, 26] u u_193 := by rw [h_192]; exact Fr_ss F_u_183 rfl rfl
            have g_196 : (u_193.1 30).toInt = ((u_183.1 30) : Int32).toInt := by rw [h_192]; rfl
            have g_197 : (u_193.1 1).toInt = (u_183.1 1).toInt := by rw [h_192]; rfl
            have g_198 : (u_193.1 2).toInt = (u_183.1 2).toInt := by rw [h_192]; rfl
            have g_199 : (u_193.1 4).toInt = (u_183.1 4).toInt := by rw [h_192]; rfl
            have g_200 : (u_193.1 17).toInt = (u_183.1 17).toInt := by rw [h_192]; rfl
            have g_201 : (u_193.1 18).toInt = (u_183.1 18).toInt := by rw [h_192]; rfl
            have g_202 : (u_193.1 19).toInt = (u_183.1 19).toInt := by rw [h_192]; rfl
            refine ok_bM (kP_SqlReaderModel_takes I_u_193 (by decide)) (fun r_204 u_205 z_203 => ?_)
            obtain ⟨I_u_205, G_u_205, p_206, p_207, p_208⟩ := z_203
            have F_u_205 : Fr [2, 4, 5, 11, 15, 17, 18, 19, 28, 30] [10, 11, 12, 13, 14, 15, 16, 17, 18, 19, 20, 22, 23, 25, 26] u u_205 := Fr_tr F_u_193 G_u_205 rfl rfl
            have g_209 : (u_205.1 1).toInt = (u_193.1 1).toInt := by rw [G_u_205.1 1 rfl]
            have g_210 : (u_205.1 2).toInt = (u_193.1 2).toInt := by rw [G_u_205.1 2 rfl]
            have g_211 : (u_205.1 4).toInt = (u_193.1 4).toInt := by rw [G_u_205.1 4 rfl]
            have g_212 : (u_205.1 17).toInt = (u_193.1 17).toInt := by rw [G_u_205.1 17 rfl]
            have g_213 : (u_205.1 18).toInt = (u_193.1 18).toInt := by rw [G_u_205.1 18 rfl]
            have g_214 : (u_205.1 19).toInt = (u_193.1 19).toInt := by rw [G_u_205.1 19 rfl]
            refine ok_mono (ih I_u_205 (by have B_215 := IP_b I_u_205; omega) (by have B_216 := IP_b I_u_205; omega) (by have B_217 := IP_b I_u_205; omega) (by have B_218 := IP_b I_u_205; omega) (by have B_219 := IP_b I_u_205; omega) (by have B_220 := IP_b I_u_205; omega) (by have B_221 := IP_b I_u_205; omega) (by have B_222 := IP_b I_u_205; omega) (by have B_223 := IP_b I_u_205; omega) (by have B_224 := IP_b I_u_205; omega) (by have B_225 := IP_b I_u_205; omega)) (fun u_227 z_226 => ?_)
            obtain ⟨I_u_227, G_u_227, p_228, p_229, p_230, p_231, p_232, p_233⟩ := z_226
            have F_u_227 : Fr [2, 4, 5, 11, 15, 17, 18, 19, 28, 30] [10, 11, 12, 13, 14, 15, 16, 17, 18, 19, 20, 22, 23, 25, 26] u u_227 := Fr_tr F_u_205 G_u_227 rfl rfl
            have g_234 : (u_227.1 1).toInt = (u_205.1 1).toInt := by rw [G_u_227.1 1 rfl]
            exact ⟨I_u_227, F_u_227, (by have B_235 := IP_b I; have B_236 := IP_b I_u_227; omega), (by have B_237 := IP_b I_u_227; omega), (by have B_238 := IP_b I_u_227; have B_239 := IP_b I; omega), (by have B_240 := IP_b I_u_227; have B_241 := IP_b I; omega), (by have B_242 := IP_b I_u_227; have B_243 := IP_b I; omega), (by have B_244 := IP_b I; have B_245 := IP_b I_u_227; omega)⟩
          · refine ok_seq (fun u_247 h_246 => ?_)
            try have e_248 : ((u_183.1 30) + 1 : Int32).toInt = ((u_183.1 30) : Int32).toInt + (1 : Int32).toInt := by have B_249 := IP_b I; have B_250 := IP_b I_u_183; exact add_i (by omega) (by omega)
            have I_u_247 : IP u_247 := by rw [h_246]; exact IP_s30 I_u_183 (by have B_251 := IP_b I_u_183; omega) (by have B_252 := IP_b I_u_183; omega)
            have F_u_247 : Fr [2, 4, 5, 11, 15, 17, 18, 19, 28, 30] [10, 11, 12, 13, 14, 15, 16, 17, 18, 19, 20, 22, 23, 25, 26] u u_247 := by rw [h_246]; exact Fr_ss F_u_183 rfl rfl
            try have e_253 : ((u_183.1 30) + 1 : Int32).toInt = ((u_183.1 30) : Int32).toInt + (1 : Int32).toInt := by have B_254 := IP_b I; have B_255 := IP_b I_u_183; exact add_i (by omega) (by omega)
            have g_256 : (u_247.1 30).toInt = (((u_183.1 30) + 1) : Int32).toInt := by rw [h_246]; rfl
            have g_257 : (u_247.1 1).toInt = (u_183.1 1).toInt := by rw [h_246]; rfl
            have g_258 : (u_247.1 2).toInt = (u_183.1 2).toInt := by rw [h_246]; rfl
            have g_259 : (u_247.1 4).toInt = (u_183.1 4).toInt := by rw [h_246]; rfl
            have g_260 : (u_247.1 17).toInt = (u_183.1 17).toInt := by rw [h_246]; rfl
            have g_261 : (u_247.1 18).toInt = (u_183.1 18).toInt := by rw [h_246]; rfl
            have g_262 : (u_247.1 19).toInt = (u_183.1 19).toInt := by rw [h_246]; rfl
            refine ok_bM (kP_SqlReaderModel_takes I_u_247 (by decide)) (fun r_264 u_265 z_263 => ?_)
            obtain ⟨I_u_265, G_u_265, p_266, p_267, p_268⟩ := z_263
            have F_u_265 : Fr [2, 4, 5, 11, 15, 17, 18, 19, 28, 30] [10, 11, 12, 13, 14, 15, 16, 17, 18, 19, 20, 22, 23, 25, 26] u u_265 := Fr_tr F_u_247 G_u_265 rfl rfl
            have g_269 : (u_265.1 1).toInt = (u_247.1 1).toInt := by rw [G_u_265.1 1 rfl]
            have g_270 : (u_265.1 2).toInt = (u_247.1 2).toInt := by rw [G_u_265.1 2 rfl]
            have g_271 : (u_265.1 4).toInt = (u_247.1 4).toInt := by rw [G_u_265.1 4 rfl]
            have g_272 : (u_265.1 17).toInt = (u_247.1 17).toInt := by rw [G_u_265.1 17 rfl]
            have g_273 : (u_265.1 18).toInt = (u_247.1 18).toInt := by rw [G_u_265.1 18 rfl]
            have g_274 : (u_265.1 19).toInt = (u_247.1 19).toInt := by rw [G_u_265.1 19 rfl]
            refine ok_mono (ih I_u_265 (by have B_275 := IP_b I_u_265; omega) (by have B_276 := IP_b I_u_265; omega) (by have B_277 := IP_b I_u_265; omega) (by have B_278 := IP_b I_u_265; omega) (by have B_279 := IP_b I_u_265; omega) (by have B_280 := IP_b I_u_265; omega) (by have B_281 := IP_b I_u_265; omega) (by have B_282 := IP_b I_u_265; omega) (by have B_283 := IP_b I_u_265; omega) (by have B_284 := IP_b I_u_265; omega) (by have B_285 := IP_b I_u_265; omega)) (fun u_287 z_286 => ?_)
            obtain ⟨I_u_287, G_u_287, p_288, p_289, p_290, p_291, p_292, p_293⟩ := z_286
            have F_u_287 : Fr [2, 4, 5, 11, 15, 17, 18, 19, 28, 30] [10, 11, 12, 13, 14, 15, 16, 17, 18, 19, 20, 22, 23, 25, 26] u u_287 := Fr_tr F_u_265 G_u_287 rfl rfl
            have g_294 : (u_287.1 1).toInt = (u_265.1 1).toInt := by rw [G_u_287.1 1 rfl]
            exact ⟨I_u_287, F_u_287, (by have B_295 := IP_b I; have B_296 := IP_b I_u_287; omega), (by have B_297 := IP_b I_u_287; omega), (by have B_298 := IP_b I_u_287; have B_299 := IP_b I; omega), (by have B_300 := IP_b I_u_287; have B_301 := IP_b I; omega), (by have B_302 := IP_b I_u_287; have B_303 := IP_b I; omega), (by have B_304 := IP_b I; have B_305 := IP_b I_u_287; omega)⟩
      · refine ok_mono (kP_SqlReaderModel_readQuery_J99 I (by have FUe : FU = 100000 := rfl; have B_306 := IP_b I; omega) (by have FUe : FU = 100000 := rfl; have B_307 := IP_b I; omega) (by have FUe : FU = 100000 := rfl; have B_308 := IP_b I; omega) (by have FUe : FU = 100000 := rfl; have B_309 := IP_b I; omega) (by have FUe : FU = 100000 := rfl; have B_310 := IP_b I; omega) (by have FUe : FU = 100000 := rfl; have B_311 := IP_b I; omega)) (fun u_313 z_312 => ?_)
        obtain ⟨I_u_313, G_u_313, p_314, p_315, p_316, p_317, p_318⟩ := z_312
        have F_u_313 : Fr [2, 4, 5, 11, 15, 17, 18, 19, 28, 30] [10, 11, 12, 13, 14, 15, 16, 17, 18, 19, 20, 22, 23, 25, 26] u u_313 := Fr_tr (Fr_rfl u) G_u_313 rfl rfl
        have g_319 : (u_313.1 1).toInt = (u.1 1).toInt := by rw [G_u_313.1 1 rfl]
        have g_320 : (u_313.1 19).toInt = (u.1 19).toInt := by rw [G_u_313.1 19 rfl]
        exact ⟨I_u_313, F_u_313, (by have B_321 := IP_b I; have B_322 := IP_b I_u_313; omega), (by have B_323 := IP_b I_u_313; omega), (by have B_324 := IP_b I_u_313; have B_325 := IP_b I; omega), (by have B_326 := IP_b I_u_313; have B_327 := IP_b I; omega), (by have B_328 := IP_b I_u_313; have B_329 := IP_b I; omega), (by have B_330 := IP_b I; have B_331 := IP_b I_u_313; omega)⟩
theorem kP_SqlReaderModel_readQuery {u : St} (I : IP u) (h0 : (u.1 4).toInt ≤ 185000) (h1 : (u.1 2).toInt = 1 ∨ ((u.1 4).toInt ≤ 100000 + 40 * (u.1 30).toInt ∧ (u.1 30).toInt ≤ (u.1 1).toInt)) (h2 : (u.1 30).toInt ≤ 3800) (h3 : (u.1 16).toInt = 0) (h4 : (u.1 17).toInt = 0) (h5 : (u.1 18).toInt = 0) (h6 : (u.1 19).toInt = 0) (h7 : (u.1 2).toInt = 1 ∨ 1 ≤ (u.1 30).toInt) : ok (mM_SqlReaderModel_readQuery u) (fun v => IP v ∧ Fr [2, 4, 5, 11, 13, 14, 15, 16, 17, 18, 19, 28, 29, 30] [10, 11, 12, 13, 14, 15, 16, 17, 18, 19, 20, 21, 22, 23, 25, 26] u v ∧ (u.1 2).toInt ≤ (v.1 2).toInt ∧ (v.1 4).toInt ≤ 185000 ∧ ((v.1 2).toInt = 1 ∨ ((v.1 4).toInt ≤ 100000 + 40 * (v.1 30).toInt ∧ (v.1 30).toInt ≤ (u.1 1).toInt)) ∧ ((v.1 30).toInt ≤ (u.1 30).toInt + 3 ∨ (v.1 30).toInt ≤ (u.1 1).toInt + 3) ∧ ((v.1 2).toInt = 1 ∨ (u.1 30).toInt ≤ (v.1 30).toInt)) := by
  have l0 : (0 : Int32).toInt = 0 := by decide
  have l1 : (1 : Int32).toInt = 1 := by decide
  have l2 : (2 : Int32).toInt = 2 := by decide
  have l3 : (3 : Int32).toInt = 3 := by decide
  have l4 : (4 : Int32).toInt = 4 := by decide
  have l16 : (16 : Int32).toInt = 16 := by decide
  have l17 : (17 : Int32).toInt = 17 := by decide
  have l18 : (18 : Int32).toInt = 18 := by decide
  have l19 : (19 : Int32).toInt = 19 := by decide
  have l30 : (30 : Int32).toInt = 30 := by decide
  have l40 : (40 : Int32).toInt = 40 := by decide
  have l82 : (82 : Int32).toInt = 82 := by decide
  have l116 : (116 : Int32).toInt = 116 := by decide
  have l1000 : (1000 : Int32).toInt = 1000 := by decide
  have l2100 : (2100 : Int32).toInt = 2100 := by decide
  have l3800 : (3800 : Int32).toInt = 3800 := by decide
  have l100000 : (100000 : Int32).toInt = 100000 := by decide
  have l185000 : (185000 : Int32).toInt = 185000 := by decide
  rw [mM_SqlReaderModel_readQuery]
  refine ok_bM (kP_SqlReaderModel_takes I (by decide)) (fun r_2 u_3 z_1 => ?_)
  obtain ⟨I_u_3, G_u_3, p_4, p_5, p_6⟩ := z_1
  have F_u_3 : Fr [2, 4, 5, 11, 13, 14, 15, 16, 17, 18, 19, 28, 29, 30] [10, 11, 12, 13, 14, 15, 16, 17, 18, 19, 20, 21, 22, 23, 25, 26] u u_3 := Fr_tr (Fr_rfl u) G_u_3 rfl rfl
  have g_7 : (u_3.1 1).toInt = (u.1 1).toInt := by rw [G_u_3.1 1 rfl]
  have g_8 : (u_3.1 2).toInt = (u.1 2).toInt := by rw [G_u_3.1 2 rfl]
  have g_9 : (u_3.1 4).toInt = (u.1 4).toInt := by rw [G_u_3.1 4 rfl]
  have g_10 : (u_3.1 16).toInt = (u.1 16).toInt := by rw [G_u_3.1 16 rfl]
  have g_11 : (u_3.1 17).toInt = (u.1 17).toInt := by rw [G_u_3.1 17 rfl]
  have g_12 : (u_3.1 18).toInt = (u.1 18).toInt := by rw [G_u_3.1 18 rfl]
  have g_13 : (u_3.1 19).toInt = (u.1 19).toInt := by rw [G_u_3.1 19 rfl]
  refine ok_gd (zb_of (by omega) (by omega)) ?_
  refine ok_seq (fun u_15 h_14 => ?_)
  have I_u_15 : IP u_15 := by rw [h_14]; exact IP_s14 I_u_3 (by have B_16 := IP_b I_u_3; omega) (by have B_17 := IP_b I_u_3; omega)
  have F_u_15 : Fr [2, 4, 5, 11, 13, 14, 15, 16, 17, 18, 19, 28, 29, 30] [10, 11, 12, 13, 14, 15, 16, 17, 18, 19, 20, 21, 22, 23, 25, 26] u u_15 := by rw [h_14]; exact Fr_ss F_u_3 rfl rfl
  have g_18 : (u_15.1 14).toInt = (r_2 : Int32).toInt := by rw [h_14]; rfl
  have g_19 : (u_15.1 1).toInt = (u_3.1 1).toInt := by rw [h_14]; rfl
  have g_20 : (u_15.1 2).toInt = (u_3.1 2).toInt := by rw [h_14]; rfl
  have g_21 : (u_15.1 4).toInt = (u_3.1 4).toInt := by rw [h_14]; rfl
  have g_22 : (u_15.1 30).toInt = (u_3.1 30).toInt := by rw [h_14]; rfl
  have g_23 : (u_15.1 16).toInt = (u_3.1 16).toInt := by rw [h_14]; rfl
  have g_24 : (u_15.1 17).toInt = (u_3.1 17).toInt := by rw [h_14]; rfl
  have g_25 : (u_15.1 18).toInt = (u_3.1 18).toInt := by rw [h_14]; rfl
  have g_26 : (u_15.1 19).toInt = (u_3.1 19).toInt := by rw [h_14]; rfl
  refine ok_bP (kP_SqlReaderModel_readItems I_u_15 (by have FUe : FU = 100000 := rfl; have B_28 := IP_b I_u_15; have B_29 := IP_b I; omega) (by have FUe : FU = 100000 := rfl; have B_30 := IP_b I_u_15; have B_31 := IP_b I; omega) (by have FUe : FU = 100000 := rfl; have B_32 := IP_b I_u_15; have B_33 := IP_b I; omega) (by have FUe : FU = 100000 := rfl; have B_34 := IP_b I_u_15; have B_35 := IP_b I; omega) (by have FUe : FU = 100000 := rfl; have B_36 := IP_b I_u_15; have B_37 := IP_b I; omega)) (fun u_38 z_27 => ?_)
  obtain ⟨I_u_38, G_u_38, p_39, p_40, p_41, p_42, p_43⟩ := z_27
  have F_u_38 : Fr [2, 4, 5, 11, 13, 14, 15, 16, 17, 18, 19, 28, 29, 30] [10, 11, 12, 13, 14, 15, 16, 17, 18, 19, 20, 21, 22, 23, 25, 26] u u_38 := Fr_tr F_u_15 G_u_38 rfl rfl
  have g_44 : (u_38.1 1).toInt = (u_15.1 1).toInt := by rw [G_u_38.1 1 rfl]
  have g_45 : (u_38.1 17).toInt = (u_15.1 17).toInt := by rw [G_u_38.1 17 rfl]
  have g_46 : (u_38.1 18).toInt = (u_15.1 18).toInt := by rw [G_u_38.1 18 rfl]
  have g_47 : (u_38.1 19).toInt = (u_15.1 19).toInt := by rw [G_u_38.1 19 rfl]
  refine ok_bP (kP_SqlReaderModel_need I_u_38 (by decide)) (fun u_49 z_48 => ?_)
  obtain ⟨I_u_49, G_u_49, p_50, p_51⟩ := z_48
  have F_u_49 : Fr [2, 4, 5, 11, 13, 14, 15, 16, 17, 18, 19, 28, 29, 30] [10, 11, 12, 13, 14, 15, 16, 17, 18, 19, 20, 21, 22, 23, 25, 26] u u_49 := Fr_tr F_u_38 G_u_49 rfl rfl
  have g_52 : (u_49.1 1).toInt = (u_38.1 1).toInt := by rw [G_u_49.1 1 rfl]
  have g_53 : (u_49.1 4).toInt = (u_38.1 4).toInt := by rw [G_u_49.1 4 rfl]
  have g_54 : (u_49.1 16).toInt = (u_38.1 16).toInt := by rw [G_u_49.1 16 rfl]
  have g_55 : (u_49.1 17).toInt = (u_38.1 17).toInt := by rw [G_u_49.1 17 rfl]
  have g_56 : (u_49.1 18).toInt = (u_38.1 18).toInt := by rw [G_u_49.1 18 rfl]
  have g_57 : (u_49.1 19).toInt = (u_38.1 19).toInt := by rw [G_u_49.1 19 rfl]
  refine ok_mono (kP_SqlReaderModel_readQuery_L24 _ I_u_49 (by have FUe : FU = 100000 := rfl; have B_58 := IP_b I_u_49; have B_59 := IP_b I; omega) (by have FUe : FU = 100000 := rfl; have B_60 := IP_b I_u_49; have B_61 := IP_b I; omega) (by have FUe : FU = 100000 := rfl; have B_62 := IP_b I_u_49; have B_63 := IP_b I; omega) (by have FUe : FU = 100000 := rfl; have B_64 := IP_b I_u_49; have B_65 := IP_b I; omega) (by have FUe : FU = 100000 := rfl; have B_66 := IP_b I_u_49; have B_67 := IP_b I; omega) (by have FUe : FU = 100000 := rfl; have B_68 := IP_b I_u_49; have B_69 := IP_b I; omega) (by have FUe : FU = 100000 := rfl; have B_70 := IP_b I_u_49; have B_71 := IP_b I; omega) (by have FUe : FU = 100000 := rfl; have B_72 := IP_b I_u_49; have B_73 := IP_b I; omega) (by have FUe : FU = 100000 := rfl; have B_74 := IP_b I_u_49; have B_75 := IP_b I; omega) (by have FUe : FU = 100000 := rfl; have B_76 := IP_b I_u_49; have B_77 := IP_b I; omega) (by have FUe : FU = 100000 := rfl; have B_78 := IP_b I_u_49; have B_79 := IP_b I; omega)) (fun u_81 z_80 => ?_)
  obtain ⟨I_u_81, G_u_81, p_82, p_83, p_84, p_85, p_86, p_87⟩ := z_80
  have F_u_81 : Fr [2, 4, 5, 11, 13, 14, 15, 16, 17, 18, 19, 28, 29, 30] [10, 11, 12, 13, 14, 15, 16, 17, 18, 19, 20, 21, 22, 23, 25, 26] u u_81 := Fr_tr F_u_49 G_u_81 rfl rfl
  have g_88 : (u_81.1 1).toInt = (u_49.1 1).toInt := by rw [G_u_81.1 1 rfl]
  have g_89 : (u_81.1 16).toInt = (u_49.1 16).toInt := by rw [G_u_81.1 16 rfl]
  exact ⟨I_u_81, F_u_81, (by have B_90 := IP_b I; have B_91 := IP_b I_u_81; omega), (by have B_92 := IP_b I_u_81; omega), (by have B_93 := IP_b I_u_81; have B_94 := IP_b I; omega), (by have B_95 := IP_b I_u_81; have B_96 := IP_b I; omega), (by have B_97 := IP_b I_u_81; have B_98 := IP_b I; omega)⟩
set_option maxHeartbeats 20000000 in
theorem kP_SqlReaderModel_readRows_L24 {q2 : Int32 → St → Option (St)} {w : Nat} (hq : ∀ {x1 : Int32} {u : St} (I : IP u) (h0 : (u.1 4).toInt ≤ 185000) (h1 : (u.1 2).toInt = 1 ∨ ((u.1 4).toInt ≤ 100000 + 40 * (u.1 30).toInt ∧ (u.1 30).toInt ≤ (u.1 1).toInt)) (h2 : (u.1 30).toInt ≤ 3800) (h3 : 0 ≤ x1.toInt) (h4 : x1.toInt ≤ 1) (h5 : 0 ≤ (u.1 10).toInt) (h6 : (u.1 23).toInt ≤ 1000) (h7 : (u.1 2).toInt = 1 ∨ x1.toInt = 0 ∨ 2 * (u.1 23).toInt + 2 ≤ (u.1 30).toInt) (hm : (2 * (2100 - (u.1 30).toInt) + x1.toInt).toNat < w), ok (q2 x1 u) (fun v => IP v ∧ Fr [2, 4, 5, 21, 23, 28, 30] [10, 11, 12, 13, 14, 15, 16, 17, 18, 19, 20, 30] u v ∧ (u.1 2).toInt ≤ (v.1 2).toInt ∧ (v.1 4).toInt ≤ 185000 ∧ ((v.1 2).toInt = 1 ∨ ((v.1 4).toInt ≤ 100000 + 40 * (v.1 30).toInt ∧ (v.1 30).toInt ≤ (u.1 1).toInt)) ∧ ((v.1 30).toInt ≤ (u.1 30).toInt + 0 ∨ (v.1 30).toInt ≤ (u.1 1).toInt + 0) ∧ ((v.1 2).toInt = 1 ∨ (u.1 30).toInt ≤ (v.1 30).toInt))) : ∀ (n : Nat) {x2 : Int32} {x3 : Int32} {u : St} (I : IP u) (h0 : (u.1 4).toInt ≤ 185000) (h1 : (u.1 2).toInt = 1 ∨ ((u.1 4).toInt ≤ 100000 + 40 * (u.1 30).toInt ∧ (u.1 30).toInt ≤ (u.1 1).toInt)) (h2 : (u.1 30).toInt ≤ 3800) (h3 : 0 ≤ x3.toInt) (h4 : x3.toInt ≤ 1) (h5 : 0 ≤ (u.1 10).toInt) (h6 : 0 ≤ x2.toInt) (h7 : x2.toInt ≤ (u.1 23).toInt) (h8 : (u.1 23).toInt ≤ 1000) (h9 : (u.1 2).toInt = 1 ∨ x3.toInt = 0 ∨ 2 * (u.1 23).toInt + 2 ≤ (u.1 30).toInt) (h10 : (u.1 2).toInt = 1 ∨ 2 * (u.1 23).toInt + 1 ≤ (u.1 30).toInt) (h11 : (2 * (2100 - (u.1 30).toInt)).toNat < w) (hm : (2 * (2100 - (u.1 30).toInt) + x3.toInt).toNat < n), ok (mM_SqlReaderModel_readRows_L24 q2 n x2 x3 u) (fun v => IP v ∧ Fr [2, 4, 5, 21, 23, 28, 30] [10, 11, 12, 13, 14, 15, 16, 17, 18, 19, 20, 30] u v ∧ (u.1 2).toInt ≤ (v.1 2).toInt ∧ (v.1 4).toInt ≤ 185000 ∧ ((v.1 2).toInt = 1 ∨ ((v.1 4).toInt ≤ 100000 + 40 * (v.1 30).toInt ∧ (v.1 30).toInt ≤ (u.1 1).toInt)) ∧ ((v.1 30).toInt ≤ (u.1 30).toInt + 0 ∨ (v.1 30).toInt ≤ (u.1 1).toInt + 0) ∧ ((v.1 2).toInt = 1 ∨ (u.1 30).toInt ≤ (v.1 30).toInt)) := by
  intro n
  induction n with
  | zero => intro x2 x3 u I h0 h1 h2 h3 h4 h5 h6 h7 h8 h9 h10 h11 hm; exact absurd hm (Nat.not_lt_zero _)
  | succ n ih =>
    intro x2 x3 u I h0 h1 h2 h3 h4 h5 h6 h7 h8 h9 h10 h11 hm
    have l0 : (0 : Int32).toInt = 0 := by decide
    have l1 : (1 : Int32).toInt = 1 := by decide
    have l2 : (2 : Int32).toInt = 2 := by decide
    have l3 : (3 : Int32).toInt = 3 := by decide
    have l4 : (4 : Int32).toInt = 4 := by decide
    have l6 : (6 : Int32).toInt = 6 := by decide
    have l7 : (7 : Int32).toInt = 7 := by decide
    have l9 : (9 : Int32).toInt = 9 := by decide
    have l10 : (10 : Int32).toInt = 10 := by decide
    have l23 : (23 : Int32).toInt = 23 := by decide
    have l26 : (26 : Int32).toInt = 26 := by decide
    have l30 : (30 : Int32).toInt = 30 := by decide
    have l40 : (40 : Int32).toInt = 40 := by decide
    have l80 : (80 : Int32).toInt = 80 := by decide
    have l88 : (88 : Int32).toInt = 88 := by decide
    have l200 : (200 : Int32).toInt = 200 := by decide
    have l1000 : (1000 : Int32).toInt = 1000 := by decide
    have l2100 : (2100 : Int32).toInt = 2100 := by decide
    have l3800 : (3800 : Int32).toInt = 3800 := by decide
    have l100000 : (100000 : Int32).toInt = 100000 := by decide
    have l185000 : (185000 : Int32).toInt = 185000 := by decide
    rw [mM_SqlReaderModel_readRows_L24]
    refine ok_eq (fun c_1 c_1' => ?_) (fun c_1 => ?_)
    · rw [mM_SqlReaderModel_readRows_J87]
      refine ok_bP (kP_SqlReaderModel_need I (by decide)) (fun u_3 z_2 => ?_)
      obtain ⟨I_u_3, G_u_3, p_4, p_5⟩ := z_2
      have F_u_3 : Fr [2, 4, 5, 21, 23, 28, 30] [10, 11, 12, 13, 14, 15, 16, 17, 18, 19, 20, 30] u u_3 := Fr_tr (Fr_rfl u) G_u_3 rfl rfl
      have g_6 : (u_3.1 1).toInt = (u.1 1).toInt := by rw [G_u_3.1 1 rfl]
      have g_7 : (u_3.1 4).toInt = (u.1 4).toInt := by rw [G_u_3.1 4 rfl]
      have g_8 : (u_3.1 10).toInt = (u.1 10).toInt := by rw [G_u_3.1 10 rfl]
      have g_9 : (u_3.1 23).toInt = (u.1 23).toInt := by rw [G_u_3.1 23 rfl]
      have Q_u_3_23 : u_3.1 23 = u.1 23 := G_u_3.1 23 rfl
      have g_10 : (ga u_3 30 (u_3.1 23)).toInt = (ga u 30 (u.1 23)).toInt := by show (u_3.2.1 30 (u_3.1 23).toNatClampNeg).toInt = _; rw [G_u_3.2.1 30 rfl, G_u_3.1 23 rfl]; rfl
      refine ok_bP (kP_SqlReaderModel_note I_u_3 (by have FUe : FU = 100000 := rfl; have B_12 := IP_b I_u_3; have B_13 := IP_b I; omega) (by have FUe : FU = 100000 := rfl; have B_14 := IP_b I_u_3; have B_15 := IP_b I; omega) (by have FUe : FU = 100000 := rfl; have B_16 := IP_b I_u_3; have B_17 := IP_b I; omega) (by have FUe : FU = 100000 := rfl; have B_18 := IP_b I_u_3; have B_19 := IP_b I; omega) (by have FUe : FU = 100000 := rfl; have B_20 := IP_b I_u_3; have B_21 := IP_b I; omega)) (fun u_22 z_11 => ?_)
      obtain ⟨I_u_22, G_u_22⟩ := z_11
      have F_u_22 : Fr [2, 4, 5, 21, 23, 28, 30] [10, 11, 12, 13, 14, 15, 16, 17, 18, 19, 20, 30] u u_22 := Fr_tr F_u_3 G_u_22 rfl rfl
      have g_23 : (u_22.1 1).toInt = (u_3.1 1).toInt := by rw [G_u_22.1 1 rfl]
      have g_24 : (u_22.1 2).toInt = (u_3.1 2).toInt := by rw [G_u_22.1 2 rfl]
      have g_25 : (u_22.1 4).toInt = (u_3.1 4).toInt := by rw [G_u_22.1 4 rfl]
      have g_26 : (u_22.1 30).toInt = (u_3.1 30).toInt := by rw [G_u_22.1 30 rfl]
      have g_27 : (u_22.1 10).toInt = (u_3.1 10).toInt := by rw [G_u_22.1 10 rfl]
      have g_28 : (u_22.1 23).toInt = (u_3.1 23).toInt := by rw [G_u_22.1 23 rfl]
      have Q_u_22_23 : u_22.1 23 = u_3.1 23 := G_u_22.1 23 rfl
      have g_29 : (ga u_22 30 (u_22.1 23)).toInt = (ga u_3 30 (u_3.1 23)).toInt := by show (u_22.2.1 30 (u_22.1 23).toNatClampNeg).toInt = _; rw [G_u_22.2.1 30 rfl, G_u_22.1 23 rfl]; rfl
      refine ok_seq (fun u_31 h_30 => ?_)
      have I_u_31 : IP u_31 := by rw [h_30]; exact I_u_22
      have F_u_31 : Fr [2, 4, 5, 21, 23, 28, 30] [10, 11, 12, 13, 14, 15, 16, 17, 18, 19, 20, 30] u u_31 := by rw [h_30]; exact Fr_ss F_u_22 rfl rfl
      have Q_u_31_23 : u_31.1 23 = u_22.1 23 := by rw [h_30]; rfl
      have g_32 : (ga u_31 30 (u_31.1 23)).toInt = (ga u_22 30 (u_22.1 23)).toInt := by rw [h_30]; rfl
      have g_33 : (u_31.1 1).toInt = (u_22.1 1).toInt := by rw [h_30]; rfl
      have g_34 : (u_31.1 2).toInt = (u_22.1 2).toInt := by rw [h_30]; rfl
      have g_35 : (u_31.1 4).toInt = (u_22.1 4).toInt := by rw [h_30]; rfl
      have g_36 : (u_31.1 30).toInt = (u_22.1 30).toInt := by rw [h_30]; rfl
      have g_37 : (u_31.1 10).toInt = (u_22.1 10).toInt := by rw [h_30]; rfl
      have g_38 : (u_31.1 23).toInt = (u_22.1 23).toInt := by rw [h_30]; rfl
      refine ok_bM (kP_SqlReaderModel_takes I_u_31 (by decide)) (fun r_40 u_41 z_39 => ?_)
      obtain ⟨I_u_41, G_u_41, p_42, p_43, p_44⟩ := z_39
      have F_u_41 : Fr [2, 4, 5, 21, 23, 28, 30] [10, 11, 12, 13, 14, 15, 16, 17, 18, 19, 20, 30] u u_41 := Fr_tr F_u_31 G_u_41 rfl rfl
      have g_45 : (u_41.1 1).toInt = (u_31.1 1).toInt := by rw [G_u_41.1 1 rfl]
      have g_46 : (u_41.1 2).toInt = (u_31.1 2).toInt := by rw [G_u_41.1 2 rfl]
      have g_47 : (u_41.1 4).toInt = (u_31.1 4).toInt := by rw [G_u_41.1 4 rfl]
      have g_48 : (u_41.1 10).toInt = (u_31.1 10).toInt := by rw [G_u_41.1 10 rfl]
      have g_49 : (u_41.1 23).toInt = (u_31.1 23).toInt := by rw [G_u_41.1 23 rfl]
      have Q_u_41_23 : u_41.1 23 = u_31.1 23 := G_u_41.1 23 rfl
      have g_50 : (ga u_41 30 (u_41.1 23)).toInt = (ga u_31 30 (u_31.1 23)).toInt := by show (u_41.2.1 30 (u_41.1 23).toNatClampNeg).toInt = _; rw [G_u_41.2.1 30 rfl, G_u_41.1 23 rfl]; rfl
      refine ok_mono (hq I_u_41 (by have B_51 := IP_b I_u_41; omega) (by have B_52 := IP_b I_u_41; omega) (by have B_53 := IP_b I_u_41; omega) (by have B_54 := IP_b I_u_41; omega) (by have B_55 := IP_b I_u_41; omega) (by have B_56 := IP_b I_u_41; omega) (by have B_57 := IP_b I_u_41; omega) (by have B_58 := IP_b I_u_41; omega) (by have B_59 := IP_b I_u_41; omega)) (fun u_61 z_60 => ?_)
      obtain ⟨I_u_61, G_u_61, p_62, p_63, p_64, p_65, p_66⟩ := z_60
      have F_u_61 : Fr [2, 4, 5, 21, 23, 28, 30] [10, 11, 12, 13, 14, 15, 16, 17, 18, 19, 20, 30] u u_61 := Fr_tr F_u_41 G_u_61 rfl rfl
      have g_67 : (u_61.1 1).toInt = (u_41.1 1).toInt := by rw [G_u_61.1 1 rfl]
      have g_68 : (u_61.1 10).toInt = (u_41.1 10).toInt := by rw [G_u_61.1 10 rfl]
      exact ⟨I_u_61, F_u_61, (by have B_69 := IP_b I; have B_70 := IP_b I_u_61; omega), (by have B_71 := IP_b I_u_61; omega), (by have B_72 := IP_b I_u_61; have B_73 := IP_b I; omega), (by have B_74 := IP_b I_u_61; have B_75 := IP_b I; omega), (by have B_76 := IP_b I_u_61; have B_77 := IP_b I; omega)⟩
    · refine ok_eq (fun c_78 c_78' => ?_) (fun c_78 => ?_)
      · refine ok_bM (kP_SqlReaderModel_expression I (by have FUe : FU = 100000 := rfl; have B_80 := IP_b I; omega) (by have FUe : FU = 100000 := rfl; have B_81 := IP_b I; omega)) (fun r_82 u_83 z_79 => ?_)
        obtain ⟨I_u_83, G_u_83, p_84, p_85, p_86, p_87, p_88, p_89, p_90, p_91, p_92⟩ := z_79
        have F_u_83 : Fr [2, 4, 5, 21, 23, 28, 30] [10, 11, 12, 13, 14, 15, 16, 17, 18, 19, 20, 30] u u_83 := Fr_tr (Fr_rfl u) G_u_83 rfl rfl
        have g_93 : (u_83.1 1).toInt = (u.1 1).toInt := by rw [G_u_83.1 1 rfl]
        have g_94 : (u_83.1 10).toInt = (u.1 10).toInt := by rw [G_u_83.1 10 rfl]
        have g_95 : (u_83.1 23).toInt = (u.1 23).toInt := by rw [G_u_83.1 23 rfl]
        have Q_u_83_23 : u_83.1 23 = u.1 23 := G_u_83.1 23 rfl
        have g_96 : (ga u_83 30 (u_83.1 23)).toInt = (ga u 30 (u.1 23)).toInt := by show (u_83.2.1 30 (u_83.1 23).toNatClampNeg).toInt = _; rw [G_u_83.2.1 30 rfl, G_u_83.1 23 rfl]; rfl
        refine ok_gd (inb_of (by have B_97 := IP_b I; have B_98 := IP_b I_u_83; omega) (by have B_99 := IP_b I; have B_100 := IP_b I_u_83; omega)) ?_
        refine ok_seq (fun u_102 h_101 => ?_)
        have I_u_102 : IP u_102 := by rw [h_101]; exact I_u_83
        have F_u_102 : Fr [2, 4, 5, 21, 23, 28, 30] [10, 11, 12, 13, 14, 15, 16, 17, 18, 19, 20, 30] u u_102 := by rw [h_101]; exact Fr_sa F_u_83 rfl rfl rfl
        have Q_u_102_23 : u_102.1 23 = u_83.1 23 := by rw [h_101]; rfl
        have g_103 : (ga u_102 30 (u_102.1 23)).toInt = (r_82 : Int32).toInt := by rw [h_101]; show (upd (u_83.2.1 30) ((u.1 23)).toNatClampNeg r_82 (u_83.1 23).toNatClampNeg).toInt = _; rw [Q_u_83_23, pk_us]
        have g_104 : (u_102.1 1).toInt = (u_83.1 1).toInt := by rw [h_101]; rfl
        have g_105 : (u_102.1 2).toInt = (u_83.1 2).toInt := by rw [h_101]; rfl
        have g_106 : (u_102.1 4).toInt = (u_83.1 4).toInt := by rw [h_101]; rfl
        have g_107 : (u_102.1 30).toInt = (u_83.1 30).toInt := by rw [h_101]; rfl
        have g_108 : (u_102.1 10).toInt = (u_83.1 10).toInt := by rw [h_101]; rfl
        have g_109 : (u_102.1 23).toInt = (u_83.1 23).toInt := by rw [h_101]; rfl
        refine ok_gd (inb_of (by have B_110 := IP_b I_u_102; omega) (by have B_111 := IP_b I_u_102; omega)) ?_
        refine ok_bP (kP_SqlReaderModel_note I_u_102 (by have FUe : FU = 100000 := rfl; have B_113 := IP_b I_u_102; have B_114 := IP_b I; omega) (by have FUe : FU = 100000 := rfl; have B_115 := IP_b I_u_102; have B_116 := IP_b I; omega) (by have FUe : FU = 100000 := rfl; have B_117 := IP_b I_u_102; have B_118 := IP_b I; omega) (by have FUe : FU = 100000 := rfl; have B_119 := IP_b I_u_102; have B_120 := IP_b I; omega) (by have FUe : FU = 100000 := rfl; have B_121 := IP_b I_u_102; have B_122 := IP_b I; omega)) (fun u_123 z_112 => ?_)
        obtain ⟨I_u_123, G_u_123⟩ := z_112
        have F_u_123 : Fr [2, 4, 5, 21, 23, 28, 30] [10, 11, 12, 13, 14, 15, 16, 17, 18, 19, 20, 30] u u_123 := Fr_tr F_u_102 G_u_123 rfl rfl
        have g_124 : (u_123.1 1).toInt = (u_102.1 1).toInt := by rw [G_u_123.1 1 rfl]
        have g_125 : (u_123.1 2).toInt = (u_102.1 2).toInt := by rw [G_u_123.1 2 rfl]
        have g_126 : (u_123.1 4).toInt = (u_102.1 4).toInt := by rw [G_u_123.1 4 rfl]
        have g_127 : (u_123.1 30).toInt = (u_102.1 30).toInt := by rw [G_u_123.1 30 rfl]
        have g_128 : (u_123.1 10).toInt = (u_102.1 10).toInt := by rw [G_u_123.1 10 rfl]
        have g_129 : (u_123.1 23).toInt = (u_102.1 23).toInt := by rw [G_u_123.1 23 rfl]
        have Q_u_123_23 : u_123.1 23 = u_102.1 23 := G_u_123.1 23 rfl
        have g_130 : (ga u_123 30 (u_123.1 23)).toInt = (ga u_102 30 (u_102.1 23)).toInt := by show (u_123.2.1 30 (u_123.1 23).toNatClampNeg).toInt = _; rw [G_u_123.2.1 30 rfl, G_u_123.1 23 rfl]; rfl
        refine ok_seq (fun u_132 h_131 => ?_)
        try have e_133 : ((u_123.1 23) + 1 : Int32).toInt = ((u_123.1 23) : Int32).toInt + (1 : Int32).toInt := by have B_134 := IP_b I; have B_135 := IP_b I_u_123; exact add_i (by omega) (by omega)
        have I_u_132 : IP u_132 := by rw [h_131]; exact IP_s23 I_u_123 (by have B_136 := IP_b I_u_123; omega) (by have B_137 := IP_b I_u_123; omega)
        have F_u_132 : Fr [2, 4, 5, 21, 23, 28, 30] [10, 11, 12, 13, 14, 15, 16, 17, 18, 19, 20, 30] u u_132 := by rw [h_131]; exact Fr_ss F_u_123 rfl rfl
        try have e_138 : ((u_123.1 23) + 1 : Int32).toInt = ((u_123.1 23) : Int32).toInt + (1 : Int32).toInt := by have B_139 := IP_b I; have B_140 := IP_b I_u_123; exact add_i (by omega) (by omega)
        have g_141 : (u_132.1 23).toInt = (((u_123.1 23) + 1) : Int32).toInt := by rw [h_131]; rfl
        have g_142 : (u_132.1 1).toInt = (u_123.1 1).toInt := by rw [h_131]; rfl
        have g_143 : (u_132.1 2).toInt = (u_123.1 2).toInt := by rw [h_131]; rfl
        have g_144 : (u_132.1 4).toInt = (u_123.1 4).toInt := by rw [h_131]; rfl
        have g_145 : (u_132.1 30).toInt = (u_123.1 30).toInt := by rw [h_131]; rfl
        have g_146 : (u_132.1 10).toInt = (u_123.1 10).toInt := by rw [h_131]; rfl
        try have e_149 : (x2 + 1 : Int32).toInt = (x2 : Int32).toInt + (1 : Int32).toInt := by have B_150 := IP_b I; exact add_i (by omega) (by omega)
        refine ok_seq (fun y_148 h_147 => ?_)
        have h_147' : y_148.toInt = (x2 + 1 : Int32).toInt := by rw [h_147]
        refine ok_bM (kP_SqlReaderModel_takes I_u_132 (by decide)) (fun r_152 u_153 z_151 => ?_)
        obtain ⟨I_u_153, G_u_153, p_154, p_155, p_156⟩ := z_151
        have F_u_153 : Fr [2, 4, 5, 21, 23, 28, 30] [10, 11, 12, 13, 14, 15, 16, 17, 18, 19, 20, 30] u u_153 := Fr_tr F_u_132 G_u_153 rfl rfl
        have g_157 : (u_153.1 1).toInt = (u_132.1 1).toInt := by rw [G_u_153.1 1 rfl]
        have g_158 : (u_153.1 2).toInt = (u_132.1 2).toInt := by rw [G_u_153.1 2 rfl]
        have g_159 : (u_153.1 4).toInt = (u_132.1 4).toInt := by rw [G_u_153.1 4 rfl]
        have g_160 : (u_153.1 10).toInt = (u_132.1 10).toInt := by rw [G_u_153.1 10 rfl]
        have g_161 : (u_153.1 23).toInt = (u_132.1 23).toInt := by rw [G_u_153.1 23 rfl]
        have Q_u_153_23 : u_153.1 23 = u_132.1 23 := G_u_153.1 23 rfl
        have g_162 : (ga u_153 30 (u_153.1 23)).toInt = (ga u_132 30 (u_132.1 23)).toInt := by show (u_153.2.1 30 (u_153.1 23).toNatClampNeg).toInt = _; rw [G_u_153.2.1 30 rfl, G_u_153.1 23 rfl]; rfl
        refine ok_mono (ih I_u_153 (by have B_163 := IP_b I_u_153; omega) (by have B_164 := IP_b I_u_153; omega) (by have B_165 := IP_b I_u_153; omega) (by have B_166 := IP_b I_u_153; omega) (by have B_167 := IP_b I_u_153; omega) (by have B_168 := IP_b I_u_153; omega) (by have B_169 := IP_b I_u_153; omega) (by have B_170 := IP_b I_u_153; omega) (by have B_171 := IP_b I_u_153; omega) (by have B_172 := IP_b I_u_153; omega) (by have B_173 := IP_b I_u_153; omega) (by have B_174 := IP_b I_u_153; omega) (by have B_175 := IP_b I_u_153; omega)) (fun u_177 z_176 => ?_)
        obtain ⟨I_u_177, G_u_177, p_178, p_179, p_180, p_181, p_182⟩ := z_176
        have F_u_177 : Fr [2, 4, 5, 21, 23, 28, 30] [10, 11, 12, 13, 14, 15, 16, 17, 18, 19, 20, 30] u u_177 := Fr_tr F_u_153 G_u_177 rfl rfl
        have g_183 : (u_177.1 1).toInt = (u_153.1 1).toInt := by rw [G_u_177.1 1 rfl]
        have g_184 : (u_177.1 10).toInt = (u_153.1 10).toInt := by rw [G_u_177.1 10 rfl]
        exact ⟨I_u_177, F_u_177, (by have B_185 := IP_b I; have B_186 := IP_b I_u_177; omega), (by have B_187 := IP_b I_u_177; omega), (by have B_188 := IP_b I_u_177; have B_189 := IP_b I; omega), (by have B_190 := IP_b I_u_177; have B_191 := IP_b I; omega), (by have B_192 := IP_b I_u_177; have B_193 := IP_b I; omega)⟩
      · rw [mM_SqlReaderModel_readRows_J87]
        refine ok_bP (kP_SqlReaderModel_need I (by decide)) (fun u_195 z_194 => ?_)
        obtain ⟨I_u_195, G_u_195, p_196, p_197⟩ := z_194
        have F_u_195 : Fr [2, 4, 5, 21, 23, 28, 30] [10, 11, 12, 13, 14, 15, 16, 17, 18, 19, 20, 30] u u_195 := Fr_tr (Fr_rfl u) G_u_195 rfl rfl
        have g_198 : (u_195.1 1).toInt = (u.1 1).toInt := by rw [G_u_195.1 1 rfl]
        have g_199 : (u_195.1 4).toInt = (u.1 4).toInt := by rw [G_u_195.1 4 rfl]
        have g_200 : (u_195.1 10).toInt = (u.1 10).toInt := by rw [G_u_195.1 10 rfl]
        have g_201 : (u_195.1 23).toInt = (u.1 23).toInt := by rw [G_u_195.1 23 rfl]
        have Q_u_195_23 : u_195.1 23 = u.1 23 := G_u_195.1 23 rfl
        have g_202 : (ga u_195 30 (u_195.1 23)).toInt = (ga u 30 (u.1 23)).toInt := by show (u_195.2.1 30 (u_195.1 23).toNatClampNeg).toInt = _; rw [G_u_195.2.1 30 rfl, G_u_195.1 23 rfl]; rfl
        refine ok_bP (kP_SqlReaderModel_note I_u_195 (by have FUe : FU = 100000 := rfl; have B_204 := IP_b I_u_195; have B_205 := IP_b I; omega) (by have FUe : FU = 100000 := rfl; have B_206 := IP_b I_u_195; have B_207 := IP_b I; omega) (by have FUe : FU = 100000 := rfl; have B_208 := IP_b I_u_195; have B_209 := IP_b I; omega) (by have FUe : FU = 100000 := rfl; have B_210 := IP_b I_u_195; have B_211 := IP_b I; omega) (by have FUe : FU = 100000 := rfl; have B_212 := IP_b I_u_195; have B_213 := IP_b I; omega)) (fun u_214 z_203 => ?_)
        obtain ⟨I_u_214, G_u_214⟩ := z_203
        have F_u_214 : Fr [2, 4, 5, 21, 23, 28, 30] [10, 11, 12, 13, 14, 15, 16, 17, 18, 19, 20, 30] u u_214 := Fr_tr F_u_195 G_u_214 rfl rfl
        have g_215 : (u_214.1 1).toInt = (u_195.1 1).toInt := by rw [G_u_214.1 1 rfl]
        have g_216 : (u_214.1 2).toInt = (u_195.1 2).toInt := by rw [G_u_214.1 2 rfl]
        have g_217 : (u_214.1 4).toInt = (u_195.1 4).toInt := by rw [G_u_214.1 4 rfl]
        have g_218 : (u_214.1 30).toInt = (u_195.1 30).toInt := by rw [G_u_214.1 30 rfl]
        have g_219 : (u_214.1 10).toInt = (u_195.1 10).toInt := by rw [G_u_214.1 10 rfl]
        have g_220 : (u_214.1 23).toInt = (u_195.1 23).toInt := by rw [G_u_214.1 23 rfl]
        have Q_u_214_23 : u_214.1 23 = u_195.1 23 := G_u_214.1 23 rfl
        have g_221 : (ga u_214 30 (u_214.1 23)).toInt = (ga u_195 30 (u_195.1 23)).toInt := by show (u_214.2.1 30 (u_214.1 23).toNatClampNeg).toInt = _; rw [G_u_214.2.1 30 rfl, G_u_214.1 23 rfl]; rfl
        refine ok_seq (fun u_223 h_222 => ?_)
        have I_u_223 : IP u_223 := by rw [h_222]; exact I_u_214
        have F_u_223 : Fr [2, 4, 5, 21, 23, 28, 30] [10, 11, 12, 13, 14, 15, 16, 17, 18, 19, 20, 30] u u_223 := by rw [h_222]; exact Fr_ss F_u_214 rfl rfl
        have Q_u_223_23 : u_223.1 23 = u_214.1 23 := by rw [h_222]; rfl
        have g_224 : (ga u_223 30 (u_223.1 23)).toInt = (ga u_214 30 (u_214.1 23)).toInt := by rw [h_222]; rfl
        have g_225 : (u_223.1 1).toInt = (u_214.1 1).toInt := by rw [h_222]; rfl
        have g_226 : (u_223.1 2).toInt = (u_214.1 2).toInt := by rw [h_222]; rfl
        have g_227 : (u_223.1 4).toInt = (u_214.1 4).toInt := by rw [h_222]; rfl
        have g_228 : (u_223.1 30).toInt = (u_214.1 30).toInt := by rw [h_222]; rfl
        have g_229 : (u_223.1 10).toInt = (u_214.1 10).toInt := by rw [h_222]; rfl
        have g_230 : (u_223.1 23).toInt = (u_214.1 23).toInt := by rw [h_222]; rfl
        refine ok_bM (kP_SqlReaderModel_takes I_u_223 (by decide)) (fun r_232 u_233 z_231 => ?_)
        obtain ⟨I_u_233, G_u_233, p_234, p_235, p_236⟩ := z_231
        have F_u_233 : Fr [2, 4, 5, 21, 23, 28, 30] [10, 11, 12, 13, 14, 15, 16, 17, 18, 19, 20, 30] u u_233 := Fr_tr F_u_223 G_u_233 rfl rfl
        have g_237 : (u_233.1 1).toInt = (u_223.1 1).toInt := by rw [G_u_233.1 1 rfl]
        have g_238 : (u_233.1 2).toInt = (u_223.1 2).toInt := by rw [G_u_233.1 2 rfl]
        have g_239 : (u_233.1 4).toInt = (u_223.1 4).toInt := by rw [G_u_233.1 4 rfl]
        have g_240 : (u_233.1 10).toInt = (u_223.1 10).toInt := by rw [G_u_233.1 10 rfl]
        have g_241 : (u_233.1 23).toInt = (u_223.1 23).toInt := by rw [G_u_233.1 23 rfl]
        have Q_u_233_23 : u_233.1 23 = u_223.1 23 := G_u_233.1 23 rfl
        have g_242 : (ga u_233 30 (u_233.1 23)).toInt = (ga u_223 30 (u_223.1 23)).toInt := by show (u_233.2.1 30 (u_233.1 23).toNatClampNeg).toInt = _; rw [G_u_233.2.1 30 rfl, G_u_233.1 23 rfl]; rfl
        refine ok_mono (hq I_u_233 (by have B_243 := IP_b I_u_233; omega) (by have B_244 := IP_b I_u_233; omega) (by have B_245 := IP_b I_u_233; omega) (by have B_246 := IP_b I_u_233; omega) (by have B_247 := IP_b I_u_233; omega) (by have B_248 := IP_b I_u_233; omega) (by have B_249 := IP_b I_u_233; omega) (by have B_250 := IP_b I_u_233; omega) (by have B_251 := IP_b I_u_233; omega)) (fun u_253 z_252 => ?_)
        obtain ⟨I_u_253, G_u_253, p_254, p_255, p_256, p_257, p_258⟩ := z_252
        have F_u_253 : Fr [2, 4, 5, 21, 23, 28, 30] [10, 11, 12, 13, 14, 15, 16, 17, 18, 19, 20, 30] u u_253 := Fr_tr F_u_233 G_u_253 rfl rfl
        have g_259 : (u_253.1 1).toInt = (u_233.1 1).toInt := by rw [G_u_253.1 1 rfl]
        have g_260 : (u_253.1 10).toInt = (u_233.1 10).toInt := by rw [G_u_253.1 10 rfl]
        exact ⟨I_u_253, F_u_253, (by have B_261 := IP_b I; have B_262 := IP_b I_u_253; omega), (by have B_263 := IP_b I_u_253; omega), (by have B_264 := IP_b I_u_253; have B_265 := IP_b I; omega), (by have B_266 := IP_b I_u_253; have B_267 := IP_b I; omega), (by have B_268 := IP_b I_u_253; have B_269 := IP_b I; omega)⟩
