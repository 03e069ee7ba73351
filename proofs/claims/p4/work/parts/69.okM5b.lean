theorem kP_SqlReaderModel_readBegin {u : St} (I : IP u) (h0 : (u.1 4).toInt ≤ 185000) (h1 : (u.1 2).toInt = 1 ∨ ((u.1 4).toInt ≤ 100000 + 40 * (u.1 30).toInt ∧ (u.1 30).toInt ≤ (u.1 1).toInt)) (h2 : (u.1 30).toInt ≤ 3800) : ok (mM_SqlReaderModel_readBegin u) (fun v => IP v ∧ Fr [2, 7, 11, 30] [] u v ∧ (u.1 2).toInt ≤ (v.1 2).toInt ∧ (v.1 4).toInt ≤ 185000 ∧ ((v.1 2).toInt = 1 ∨ ((v.1 4).toInt ≤ 100000 + 40 * (v.1 30).toInt ∧ (v.1 30).toInt ≤ (u.1 1).toInt)) ∧ ((v.1 30).toInt ≤ (u.1 30).toInt + 0 ∨ (v.1 30).toInt ≤ (u.1 1).toInt + 0) ∧ ((v.1 2).toInt = 1 ∨ (u.1 30).toInt ≤ (v.1 30).toInt)) := by
  have l0 : (0 : Int32).toInt = 0 := by decide
  have l1 : (1 : Int32).toInt = 1 := by decide
  have l2 : (2 : Int32).toInt = 2 := by decide
  have l4 : (4 : Int32).toInt = 4 := by decide
  have l9 : (9 : Int32).toInt = 9 := by decide
  have l30 : (30 : Int32).toInt = 30 := by decide
  have l40 : (40 : Int32).toInt = 40 := by decide
  have l133 : (133 : Int32).toInt = 133 := by decide
  have l134 : (134 : Int32).toInt = 134 := by decide
  have l135 : (135 : Int32).toInt = 135 := by decide
  have l136 : (136 : Int32).toInt = 136 := by decide
  have l100000 : (100000 : Int32).toInt = 100000 := by decide
  have l185000 : (185000 : Int32).toInt = 185000 := by decide
  rw [mM_SqlReaderModel_readBegin]
  refine ok_seq (fun u_2 h_1 => ?_)
  have I_u_2 : IP u_2 := by rw [h_1]; exact IP_s7 I (by have B_3 := IP_b I; omega)
  have F_u_2 : Fr [2, 7, 11, 30] [] u u_2 := by rw [h_1]; exact Fr_ss (Fr_rfl u) rfl rfl
  have g_4 : (u_2.1 7).toInt = (9 : Int32).toInt := by rw [h_1]; rfl
  have g_5 : (u_2.1 1).toInt = (u.1 1).toInt := by rw [h_1]; rfl
  have g_6 : (u_2.1 2).toInt = (u.1 2).toInt := by rw [h_1]; rfl
  have g_7 : (u_2.1 4).toInt = (u.1 4).toInt := by rw [h_1]; rfl
  have g_8 : (u_2.1 30).toInt = (u.1 30).toInt := by rw [h_1]; rfl
  refine ok_bM (kP_SqlReaderModel_takes I_u_2 (by decide)) (fun r_10 u_11 z_9 => ?_)
  obtain ⟨I_u_11, G_u_11, p_12, p_13, p_14⟩ := z_9
  have F_u_11 : Fr [2, 7, 11, 30] [] u u_11 := Fr_tr F_u_2 G_u_11 rfl rfl
  have g_15 : (u_11.1 1).toInt = (u_2.1 1).toInt := by rw [G_u_11.1 1 rfl]
  have g_16 : (u_11.1 2).toInt = (u_2.1 2).toInt := by rw [G_u_11.1 2 rfl]
  have g_17 : (u_11.1 4).toInt = (u_2.1 4).toInt := by rw [G_u_11.1 4 rfl]
  refine ok_eq (fun c_18 c_18' => ?_) (fun c_18 => ?_)
  · refine ok_bM (kP_SqlReaderModel_takes I_u_11 (by decide)) (fun r_20 u_21 z_19 => ?_)
    obtain ⟨I_u_21, G_u_21, p_22, p_23, p_24⟩ := z_19
    have F_u_21 : Fr [2, 7, 11, 30] [] u u_21 := Fr_tr F_u_11 G_u_21 rfl rfl
    have g_25 : (u_21.1 1).toInt = (u_11.1 1).toInt := by rw [G_u_21.1 1 rfl]
    have g_26 : (u_21.1 2).toInt = (u_11.1 2).toInt := by rw [G_u_21.1 2 rfl]
    have g_27 : (u_21.1 4).toInt = (u_11.1 4).toInt := by rw [G_u_21.1 4 rfl]
    refine ok_eq (fun c_28 c_28' => ?_) (fun c_28 => ?_)
    · refine ok_bM (kP_SqlReaderModel_takes I_u_21 (by decide)) (fun r_30 u_31 z_29 => ?_)
      obtain ⟨I_u_31, G_u_31, p_32, p_33, p_34⟩ := z_29
      have F_u_31 : Fr [2, 7, 11, 30] [] u u_31 := Fr_tr F_u_21 G_u_31 rfl rfl
      have g_35 : (u_31.1 1).toInt = (u_21.1 1).toInt := by rw [G_u_31.1 1 rfl]
      have g_36 : (u_31.1 2).toInt = (u_21.1 2).toInt := by rw [G_u_31.1 2 rfl]
      have g_37 : (u_31.1 4).toInt = (u_21.1 4).toInt := by rw [G_u_31.1 4 rfl]
      refine ok_eq (fun c_38 c_38' => ?_) (fun c_38 => ?_)
      · exact ok_some ⟨I_u_31, F_u_31, (by have B_39 := IP_b I; have B_40 := IP_b I_u_31; omega), (by have B_41 := IP_b I_u_31; omega), (by have B_42 := IP_b I_u_31; have B_43 := IP_b I; omega), (by have B_44 := IP_b I_u_31; have B_45 := IP_b I; omega), (by have B_46 := IP_b I_u_31; have B_47 := IP_b I; omega)⟩
      · refine ok_seq (fun u_49 h_48 => ?_)
        have I_u_49 : IP u_49 := by rw [h_48]; exact I_u_31
        have F_u_49 : Fr [2, 7, 11, 30] [] u u_49 := by rw [h_48]; exact Fr_ss F_u_31 rfl rfl
        have g_50 : (u_49.1 1).toInt = (u_31.1 1).toInt := by rw [h_48]; rfl
        have g_51 : (u_49.1 2).toInt = (u_31.1 2).toInt := by rw [h_48]; rfl
        have g_52 : (u_49.1 4).toInt = (u_31.1 4).toInt := by rw [h_48]; rfl
        have g_53 : (u_49.1 30).toInt = (u_31.1 30).toInt := by rw [h_48]; rfl
        exact ok_some ⟨I_u_49, F_u_49, (by have B_54 := IP_b I; have B_55 := IP_b I_u_49; omega), (by have B_56 := IP_b I_u_49; omega), (by have B_57 := IP_b I_u_49; have B_58 := IP_b I; omega), (by have B_59 := IP_b I_u_49; have B_60 := IP_b I; omega), (by have B_61 := IP_b I_u_49; have B_62 := IP_b I; omega)⟩
    · refine ok_bP (kP_SqlReaderModel_need I_u_21 (by decide)) (fun u_64 z_63 => ?_)
      obtain ⟨I_u_64, G_u_64, p_65, p_66⟩ := z_63
      have F_u_64 : Fr [2, 7, 11, 30] [] u u_64 := Fr_tr F_u_21 G_u_64 rfl rfl
      have g_67 : (u_64.1 1).toInt = (u_21.1 1).toInt := by rw [G_u_64.1 1 rfl]
      have g_68 : (u_64.1 4).toInt = (u_21.1 4).toInt := by rw [G_u_64.1 4 rfl]
      refine ok_seq (fun u_70 h_69 => ?_)
      have I_u_70 : IP u_70 := by rw [h_69]; exact I_u_64
      have F_u_70 : Fr [2, 7, 11, 30] [] u u_70 := by rw [h_69]; exact Fr_ss F_u_64 rfl rfl
      have g_71 : (u_70.1 1).toInt = (u_64.1 1).toInt := by rw [h_69]; rfl
      have g_72 : (u_70.1 2).toInt = (u_64.1 2).toInt := by rw [h_69]; rfl
      have g_73 : (u_70.1 4).toInt = (u_64.1 4).toInt := by rw [h_69]; rfl
      have g_74 : (u_70.1 30).toInt = (u_64.1 30).toInt := by rw [h_69]; rfl
      exact ok_some ⟨I_u_70, F_u_70, (by have B_75 := IP_b I; have B_76 := IP_b I_u_70; omega), (by have B_77 := IP_b I_u_70; omega), (by have B_78 := IP_b I_u_70; have B_79 := IP_b I; omega), (by have B_80 := IP_b I_u_70; have B_81 := IP_b I; omega), (by have B_82 := IP_b I_u_70; have B_83 := IP_b I; omega)⟩
  · refine ok_bP (kP_SqlReaderModel_need I_u_11 (by decide)) (fun u_85 z_84 => ?_)
    obtain ⟨I_u_85, G_u_85, p_86, p_87⟩ := z_84
    have F_u_85 : Fr [2, 7, 11, 30] [] u u_85 := Fr_tr F_u_11 G_u_85 rfl rfl
    have g_88 : (u_85.1 1).toInt = (u_11.1 1).toInt := by rw [G_u_85.1 1 rfl]
    have g_89 : (u_85.1 4).toInt = (u_11.1 4).toInt := by rw [G_u_85.1 4 rfl]
    exact ok_some ⟨I_u_85, F_u_85, (by have B_90 := IP_b I; have B_91 := IP_b I_u_85; omega), (by have B_92 := IP_b I_u_85; omega), (by have B_93 := IP_b I_u_85; have B_94 := IP_b I; omega), (by have B_95 := IP_b I_u_85; have B_96 := IP_b I; omega), (by have B_97 := IP_b I_u_85; have B_98 := IP_b I; omega)⟩
set_option maxHeartbeats 20000000 in
theorem kP_SqlReaderModel_readItems_L44 : ∀ (n : Nat) {x1 : Int32} {u : St} (I : IP u) (h0 : (u.1 4).toInt ≤ 185000) (h1 : (u.1 2).toInt = 1 ∨ ((u.1 4).toInt ≤ 100000 + 40 * (u.1 30).toInt ∧ (u.1 30).toInt ≤ (u.1 1).toInt)) (h2 : (u.1 30).toInt ≤ 3800) (h3 : 0 ≤ x1.toInt) (h4 : x1.toInt ≤ 1) (h5 : (u.1 16).toInt ≤ 1001) (h6 : (u.1 2).toInt = 1 ∨ x1.toInt = 0 ∨ 2 * (u.1 16).toInt + 1 ≤ (u.1 30).toInt) (hm : (2 * (2100 - (u.1 30).toInt) + x1.toInt).toNat < n), ok (mM_SqlReaderModel_readItems_L44 n x1 u) (fun v => IP v ∧ Fr [2, 4, 5, 16, 28, 29, 30] [10, 11, 12, 13, 14, 15, 16, 17, 18, 19, 20, 21] u v ∧ (u.1 2).toInt ≤ (v.1 2).toInt ∧ (v.1 4).toInt ≤ 185000 ∧ ((v.1 2).toInt = 1 ∨ ((v.1 4).toInt ≤ 100000 + 40 * (v.1 30).toInt ∧ (v.1 30).toInt ≤ (u.1 1).toInt)) ∧ ((v.1 30).toInt ≤ (u.1 30).toInt + 0 ∨ (v.1 30).toInt ≤ (u.1 1).toInt + 0) ∧ ((v.1 2).toInt = 1 ∨ (u.1 30).toInt ≤ (v.1 30).toInt)) := by
  intro n
  induction n with
  | zero => intro x1 u I h0 h1 h2 h3 h4 h5 h6 hm; exact absurd hm (Nat.not_lt_zero _)
  | succ n ih =>
    intro x1 u I h0 h1 h2 h3 h4 h5 h6 hm
    have l0 : (0 : Int32).toInt = 0 := by decide
    have l1 : (1 : Int32).toInt = 1 := by decide
    have l2 : (2 : Int32).toInt = 2 := by decide
    have l3 : (3 : Int32).toInt = 3 := by decide
    have l4 : (4 : Int32).toInt = 4 := by decide
    have l6 : (6 : Int32).toInt = 6 := by decide
    have l7 : (7 : Int32).toInt = 7 := by decide
    have l9 : (9 : Int32).toInt = 9 := by decide
    have l10 : (10 : Int32).toInt = 10 := by decide
    have l16 : (16 : Int32).toInt = 16 := by decide
    have l26 : (26 : Int32).toInt = 26 := by decide
    have l30 : (30 : Int32).toInt = 30 := by decide
    have l40 : (40 : Int32).toInt = 40 := by decide
    have l80 : (80 : Int32).toInt = 80 := by decide
    have l200 : (200 : Int32).toInt = 200 := by decide
    have l1001 : (1001 : Int32).toInt = 1001 := by decide
    have l2100 : (2100 : Int32).toInt = 2100 := by decide
    have l3800 : (3800 : Int32).toInt = 3800 := by decide
    have l100000 : (100000 : Int32).toInt = 100000 := by decide
    have l185000 : (185000 : Int32).toInt = 185000 := by decide
    rw [mM_SqlReaderModel_readItems_L44]
    refine ok_eq (fun c_1 c_1' => ?_) (fun c_1 => ?_)
    · refine ok_seq (fun u_3 h_2 => ?_)
      have I_u_3 : IP u_3 := by rw [h_2]; exact IP_s29 I (by have B_4 := IP_b I; omega) (by have B_5 := IP_b I; omega)
      have F_u_3 : Fr [2, 4, 5, 16, 28, 29, 30] [10, 11, 12, 13, 14, 15, 16, 17, 18, 19, 20, 21] u u_3 := by rw [h_2]; exact Fr_ss (Fr_rfl u) rfl rfl
      have Q_u_3_16 : u_3.1 16 = u.1 16 := by rw [h_2]; rfl
      have g_6 : (ga u_3 21 (u_3.1 16)).toInt = (ga u 21 (u.1 16)).toInt := by rw [h_2]; rfl
      have g_7 : (u_3.1 29).toInt = (0 : Int32).toInt := by rw [h_2]; rfl
      have g_8 : (u_3.1 1).toInt = (u.1 1).toInt := by rw [h_2]; rfl
      have g_9 : (u_3.1 2).toInt = (u.1 2).toInt := by rw [h_2]; rfl
      have g_10 : (u_3.1 4).toInt = (u.1 4).toInt := by rw [h_2]; rfl
      have g_11 : (u_3.1 30).toInt = (u.1 30).toInt := by rw [h_2]; rfl
      have g_12 : (u_3.1 16).toInt = (u.1 16).toInt := by rw [h_2]; rfl
      exact ok_some ⟨I_u_3, F_u_3, (by have B_13 := IP_b I; have B_14 := IP_b I_u_3; omega), (by have B_15 := IP_b I_u_3; omega), (by have B_16 := IP_b I_u_3; have B_17 := IP_b I; omega), (by have B_18 := IP_b I_u_3; have B_19 := IP_b I; omega), (by have B_20 := IP_b I_u_3; have B_21 := IP_b I; omega)⟩
    · refine ok_eq (fun c_22 c_22' => ?_) (fun c_22 => ?_)
      · refine ok_bM (kP_SqlReaderModel_expression I (by have FUe : FU = 100000 := rfl; have B_24 := IP_b I; omega) (by have FUe : FU = 100000 := rfl; have B_25 := IP_b I; omega)) (fun r_26 u_27 z_23 => ?_)
        obtain ⟨I_u_27, G_u_27, p_28, p_29, p_30, p_31, p_32, p_33, p_34, p_35, p_36⟩ := z_23
        have F_u_27 : Fr [2, 4, 5, 16, 28, 29, 30] [10, 11, 12, 13, 14, 15, 16, 17, 18, 19, 20, 21] u u_27 := Fr_tr (Fr_rfl u) G_u_27 rfl rfl
        have g_37 : (u_27.1 1).toInt = (u.1 1).toInt := by rw [G_u_27.1 1 rfl]
        have g_38 : (u_27.1 16).toInt = (u.1 16).toInt := by rw [G_u_27.1 16 rfl]
        have Q_u_27_16 : u_27.1 16 = u.1 16 := G_u_27.1 16 rfl
        have g_39 : (ga u_27 21 (u_27.1 16)).toInt = (ga u 21 (u.1 16)).toInt := by show (u_27.2.1 21 (u_27.1 16).toNatClampNeg).toInt = _; rw [G_u_27.2.1 21 rfl, G_u_27.1 16 rfl]; rfl
        refine ok_le (fun c_40 => ?_) (fun c_40 => ?_)
        · rw [mM_SqlReaderModel_readItems_J91]
          refine ok_seq (fun u_42 h_41 => ?_)
          try have e_43 : ((u_27.1 16) + 1 : Int32).toInt = ((u_27.1 16) : Int32).toInt + (1 : Int32).toInt := by have B_44 := IP_b I; have B_45 := IP_b I_u_27; exact add_i (by omega) (by omega)
          have I_u_42 : IP u_42 := by rw [h_41]; exact IP_s16 I_u_27 (by have B_46 := IP_b I_u_27; omega) (by have B_47 := IP_b I_u_27; omega)
          have F_u_42 : Fr [2, 4, 5, 16, 28, 29, 30] [10, 11, 12, 13, 14, 15, 16, 17, 18, 19, 20, 21] u u_42 := by rw [h_41]; exact Fr_ss F_u_27 rfl rfl
          try have e_48 : ((u_27.1 16) + 1 : Int32).toInt = ((u_27.1 16) : Int32).toInt + (1 : Int32).toInt := by have B_49 := IP_b I; have B_50 := IP_b I_u_27; exact add_i (by omega) (by omega)
          have g_51 : (u_42.1 16).toInt = (((u_27.1 16) + 1) : Int32).toInt := by rw [h_41]; rfl
          have g_52 : (u_42.1 1).toInt = (u_27.1 1).toInt := by rw [h_41]; rfl
          have g_53 : (u_42.1 2).toInt = (u_27.1 2).toInt := by rw [h_41]; rfl
          have g_54 : (u_42.1 4).toInt = (u_27.1 4).toInt := by rw [h_41]; rfl
          have g_55 : (u_42.1 30).toInt = (u_27.1 30).toInt := by rw [h_41]; rfl
          refine ok_bM (kP_SqlReaderModel_takes I_u_42 (by decide)) (fun r_57 u_58 z_56 => ?_)
          obtain ⟨I_u_58, G_u_58, p_59, p_60, p_61⟩ := z_56
          have F_u_58 : Fr [2, 4, 5, 16, 28, 29, 30] [10, 11, 12, 13, 14, 15, 16, 17, 18, 19, 20, 21] u u_58 := Fr_tr F_u_42 G_u_58 rfl rfl
          have g_62 : (u_58.1 1).toInt = (u_42.1 1).toInt := by rw [G_u_58.1 1 rfl]
          have g_63 : (u_58.1 2).toInt = (u_42.1 2).toInt := by rw [G_u_58.1 2 rfl]
          have g_64 : (u_58.1 4).toInt = (u_42.1 4).toInt := by rw [G_u_58.1 4 rfl]
          have g_65 : (u_58.1 16).toInt = (u_42.1 16).toInt := by rw [G_u_58.1 16 rfl]
          have Q_u_58_16 : u_58.1 16 = u_42.1 16 := G_u_58.1 16 rfl
          have g_66 : (ga u_58 21 (u_58.1 16)).toInt = (ga u_42 21 (u_42.1 16)).toInt := by show (u_58.2.1 21 (u_58.1 16).toNatClampNeg).toInt = _; rw [G_u_58.2.1 21 rfl, G_u_58.1 16 rfl]; rfl
          refine ok_mono (ih I_u_58 (by have B_67 := IP_b I_u_58; omega) (by have B_68 := IP_b I_u_58; omega) (by have B_69 := IP_b I_u_58; omega) (by have B_70 := IP_b I_u_58; omega) (by have B_71 := IP_b I_u_58; omega) (by have B_72 := IP_b I_u_58; omega) (by have B_73 := IP_b I_u_58; omega) (by have B_74 := IP_b I_u_58; omega)) (fun u_76 z_75 => ?_)
          obtain ⟨I_u_76, G_u_76, p_77, p_78, p_79, p_80, p_81⟩ := z_75
          have F_u_76 : Fr [2, 4, 5, 16, 28, 29, 30] [10, 11, 12, 13, 14, 15, 16, 17, 18, 19, 20, 21] u u_76 := Fr_tr F_u_58 G_u_76 rfl rfl
          have g_82 : (u_76.1 1).toInt = (u_58.1 1).toInt := by rw [G_u_76.1 1 rfl]
          exact ⟨I_u_76, F_u_76, (by have B_83 := IP_b I; have B_84 := IP_b I_u_76; omega), (by have B_85 := IP_b I_u_76; omega), (by have B_86 := IP_b I_u_76; have B_87 := IP_b I; omega), (by have B_88 := IP_b I_u_76; have B_89 := IP_b I; omega), (by have B_90 := IP_b I_u_76; have B_91 := IP_b I; omega)⟩
        · refine ok_gd (inb_of (by have B_92 := IP_b I_u_27; omega) (by have B_93 := IP_b I_u_27; omega)) ?_
          refine ok_seq (fun u_95 h_94 => ?_)
          have I_u_95 : IP u_95 := by rw [h_94]; exact IP_a21 I_u_27 (by have B_96 := IP_b I_u_27; omega)
          have F_u_95 : Fr [2, 4, 5, 16, 28, 29, 30] [10, 11, 12, 13, 14, 15, 16, 17, 18, 19, 20, 21] u u_95 := by rw [h_94]; exact Fr_sa F_u_27 rfl rfl rfl
          have Q_u_95_16 : u_95.1 16 = u_27.1 16 := by rw [h_94]; rfl
          have g_97 : (ga u_95 21 (u_95.1 16)).toInt = (r_26 : Int32).toInt := by rw [h_94]; show (upd (u_27.2.1 21) ((u_27.1 16)).toNatClampNeg r_26 (u_27.1 16).toNatClampNeg).toInt = _; rw [pk_us]
          have g_98 : (u_95.1 1).toInt = (u_27.1 1).toInt := by rw [h_94]; rfl
          have g_99 : (u_95.1 2).toInt = (u_27.1 2).toInt := by rw [h_94]; rfl
          have g_100 : (u_95.1 4).toInt = (u_27.1 4).toInt := by rw [h_94]; rfl
          have g_101 : (u_95.1 30).toInt = (u_27.1 30).toInt := by rw [h_94]; rfl
          have g_102 : (u_95.1 16).toInt = (u_27.1 16).toInt := by rw [h_94]; rfl
          refine ok_bP (kP_SqlReaderModel_note I_u_95 (by have FUe : FU = 100000 := rfl; have B_104 := IP_b I_u_95; have B_105 := IP_b I; omega) (by have FUe : FU = 100000 := rfl; have B_106 := IP_b I_u_95; have B_107 := IP_b I; omega) (by have FUe : FU = 100000 := rfl; have B_108 := IP_b I_u_95; have B_109 := IP_b I; omega) (by have FUe : FU = 100000 := rfl; have B_110 := IP_b I_u_95; have B_111 := IP_b I; omega) (by have FUe : FU = 100000 := rfl; have B_112 := IP_b I_u_95; have B_113 := IP_b I; omega)) (fun u_114 z_103 => ?_)
          obtain ⟨I_u_114, G_u_114⟩ := z_103
          have F_u_114 : Fr [2, 4, 5, 16, 28, 29, 30] [10, 11, 12, 13, 14, 15, 16, 17, 18, 19, 20, 21] u u_114 := Fr_tr F_u_95 G_u_114 rfl rfl
          have g_115 : (u_114.1 1).toInt = (u_95.1 1).toInt := by rw [G_u_114.1 1 rfl]
          have g_116 : (u_114.1 2).toInt = (u_95.1 2).toInt := by rw [G_u_114.1 2 rfl]
          have g_117 : (u_114.1 4).toInt = (u_95.1 4).toInt := by rw [G_u_114.1 4 rfl]
          have g_118 : (u_114.1 30).toInt = (u_95.1 30).toInt := by rw [G_u_114.1 30 rfl]
          have g_119 : (u_114.1 16).toInt = (u_95.1 16).toInt := by rw [G_u_114.1 16 rfl]
          have Q_u_114_16 : u_114.1 16 = u_95.1 16 := G_u_114.1 16 rfl
          have g_120 : (ga u_114 21 (u_114.1 16)).toInt = (ga u_95 21 (u_95.1 16)).toInt := by show (u_114.2.1 21 (u_114.1 16).toNatClampNeg).toInt = _; rw [G_u_114.2.1 21 rfl, G_u_114.1 16 rfl]; rfl
          rw [mM_SqlReaderModel_readItems_J91]
          refine ok_seq (fun u_122 h_121 => ?_)
          try have e_123 : ((u_114.1 16) + 1 : Int32).toInt = ((u_114.1 16) : Int32).toInt + (1 : Int32).toInt := by have B_124 := IP_b I; have B_125 := IP_b I_u_114; exact add_i (by omega) (by omega)
          have I_u_122 : IP u_122 := by rw [h_121]; exact IP_s16 I_u_114 (by have B_126 := IP_b I_u_114; omega) (by have B_127 := IP_b I_u_114; omega)
          have F_u_122 : Fr [2, 4, 5, 16, 28, 29, 30] [10, 11, 12, 13, 14, 15, 16, 17, 18, 19, 20, 21] u u_122 := by rw [h_121]; exact Fr_ss F_u_114 rfl rfl
          try have e_128 : ((u_114.1 16) + 1 : Int32).toInt = ((u_114.1 16) : Int32).toInt + (1 : Int32).toInt := by have B_129 := IP_b I; have B_130 := IP_b I_u_114; exact add_i (by omega) (by omega)
          have g_131 : (u_122.1 16).toInt = (((u_114.1 16) + 1) : Int32).toInt := by rw [h_121]; rfl
          have g_132 : (u_122.1 1).toInt = (u_114.1 1).toInt := by rw [h_121]; rfl
          have g_133 : (u_122.1 2).toInt = (u_114.1 2).toInt := by rw [h_121]; rfl
          have g_134 : (u_122.1 4).toInt = (u_114.1 4).toInt := by rw [h_121]; rfl
          have g_135 : (u_122.1 30).toInt = (u_114.1 30).toInt := by rw [h_121]; rfl
          refine ok_bM (kP_SqlReaderModel_takes I_u_122 (by decide)) (fun r_137 u_138 z_136 => ?_)
          obtain ⟨I_u_138, G_u_138, p_139, p_140, p_141⟩ := z_136
          have F_u_138 : Fr [2, 4, 5, 16, 28, 29, 30] [10, 11, 12, 13, 14, 15, 16, 17, 18, 19, 20, 21] u u_138 := Fr_tr F_u_122 G_u_138 rfl rfl
          have g_142 : (u_138.1 1).toInt = (u_122.1 1).toInt := by rw [G_u_138.1 1 rfl]
          have g_143 : (u_138.1 2).toInt = (u_122.1 2).toInt := by rw [G_u_138.1 2 rfl]
          have g_144 : (u_138.1 4).toInt = (u_122.1 4).toInt := by rw [G_u_138.1 4 rfl]
          have g_145 : (u_138.1 16).toInt = (u_122.1 16).toInt := by rw [G_u_138.1 16 rfl]
          have Q_u_138_16 : u_138.1 16 = u_122.1 16 := G_u_138.1 16 rfl
          have g_146 : (ga u_138 21 (u_138.1 16)).toInt = (ga u_122 21 (u_122.1 16)).toInt := by show (u_138.2.1 21 (u_138.1 16).toNatClampNeg).toInt = _; rw [G_u_138.2.1 21 rfl, G_u_138.1 16 rfl]; rfl
          refine ok_mono (ih I_u_138 (by have B_147 := IP_b I_u_138; omega) (by have B_148 := IP_b I_u_138; omega) (by have B_149 := IP_b I_u_138; omega) (by have B_150 := IP_b I_u_138; omega) (by have B_151 := IP_b I_u_138; omega) (by have B_152 := IP_b I_u_138; omega) (by have B_153 := IP_b I_u_138; omega) (by have B_154 := IP_b I_u_138; omega)) (fun u_156 z_155 => ?_)
          obtain ⟨I_u_156, G_u_156, p_157, p_158, p_159, p_160, p_161⟩ := z_155
          have F_u_156 : Fr [2, 4, 5, 16, 28, 29, 30] [10, 11, 12, 13, 14, 15, 16, 17, 18, 19, 20, 21] u u_156 := Fr_tr F_u_138 G_u_156 rfl rfl
          have g_162 : (u_156.1 1).toInt = (u_138.1 1).toInt := by rw [G_u_156.1 1 rfl]
          exact ⟨I_u_156, F_u_156, (by have B_163 := IP_b I; have B_164 := IP_b I_u_156; omega), (by have B_165 := IP_b I_u_156; omega), (by have B_166 := IP_b I_u_156; have B_167 := IP_b I; omega), (by have B_168 := IP_b I_u_156; have B_169 := IP_b I; omega), (by have B_170 := IP_b I_u_156; have B_171 := IP_b I; omega)⟩
      · refine ok_seq (fun u_173 h_172 => ?_)
        have I_u_173 : IP u_173 := by rw [h_172]; exact IP_s29 I (by have B_174 := IP_b I; omega) (by have B_175 := IP_b I; omega)
        have F_u_173 : Fr [2, 4, 5, 16, 28, 29, 30] [10, 11, 12, 13, 14, 15, 16, 17, 18, 19, 20, 21] u u_173 := by rw [h_172]; exact Fr_ss (Fr_rfl u) rfl rfl
        have Q_u_173_16 : u_173.1 16 = u.1 16 := by rw [h_172]; rfl
        have g_176 : (ga u_173 21 (u_173.1 16)).toInt = (ga u 21 (u.1 16)).toInt := by rw [h_172]; rfl
        have g_177 : (u_173.1 29).toInt = (0 : Int32).toInt := by rw [h_172]; rfl
        have g_178 : (u_173.1 1).toInt = (u.1 1).toInt := by rw [h_172]; rfl
        have g_179 : (u_173.1 2).toInt = (u.1 2).toInt := by rw [h_172]; rfl
        have g_180 : (u_173.1 4).toInt = (u.1 4).toInt := by rw [h_172]; rfl
        have g_181 : (u_173.1 30).toInt = (u.1 30).toInt := by rw [h_172]; rfl
        have g_182 : (u_173.1 16).toInt = (u.1 16).toInt := by rw [h_172]; rfl
        exact ok_some ⟨I_u_173, F_u_173, (by have B_183 := IP_b I; have B_184 := IP_b I_u_173; omega), (by have B_185 := IP_b I_u_173; omega), (by have B_186 := IP_b I_u_173; have B_187 := IP_b I; omega), (by have B_188 := IP_b I_u_173; have B_189 := IP_b I; omega), (by have B_190 := IP_b I_u_173; have B_191 := IP_b I; omega)⟩
theorem kP_SqlReaderModel_readItems {u : St} (I : IP u) (h0 : (u.1 4).toInt ≤ 185000) (h1 : (u.1 2).toInt = 1 ∨ ((u.1 4).toInt ≤ 100000 + 40 * (u.1 30).toInt ∧ (u.1 30).toInt ≤ (u.1 1).toInt)) (h2 : (u.1 30).toInt ≤ 3800) (h3 : (u.1 16).toInt = 0) (h4 : (u.1 2).toInt = 1 ∨ 1 ≤ (u.1 30).toInt) : ok (mM_SqlReaderModel_readItems u) (fun v => IP v ∧ Fr [2, 4, 5, 13, 16, 28, 29, 30] [10, 11, 12, 13, 14, 15, 16, 17, 18, 19, 20, 21] u v ∧ (u.1 2).toInt ≤ (v.1 2).toInt ∧ (v.1 4).toInt ≤ 185000 ∧ ((v.1 2).toInt = 1 ∨ ((v.1 4).toInt ≤ 100000 + 40 * (v.1 30).toInt ∧ (v.1 30).toInt ≤ (u.1 1).toInt)) ∧ ((v.1 30).toInt ≤ (u.1 30).toInt + 0 ∨ (v.1 30).toInt ≤ (u.1 1).toInt + 0) ∧ ((v.1 2).toInt = 1 ∨ (u.1 30).toInt ≤ (v.1 30).toInt)) := by
  have l0 : (0 : Int32).toInt = 0 := by decide
  have l1 : (1 : Int32).toInt = 1 := by decide
  have l2 : (2 : Int32).toInt = 2 := by decide
  have l3 : (3 : Int32).toInt = 3 := by decide
  have l4 : (4 : Int32).toInt = 4 := by decide
  have l6 : (6 : Int32).toInt = 6 := by decide
  have l7 : (7 : Int32).toInt = 7 := by decide
  have l9 : (9 : Int32).toInt = 9 := by decide
  have l10 : (10 : Int32).toInt = 10 := by decide
  have l13 : (13 : Int32).toInt = 13 := by decide
  have l16 : (16 : Int32).toInt = 16 := by decide
  have l26 : (26 : Int32).toInt = 26 := by decide
  have l30 : (30 : Int32).toInt = 30 := by decide
  have l40 : (40 : Int32).toInt = 40 := by decide
  have l106 : (106 : Int32).toInt = 106 := by decide
  have l200 : (200 : Int32).toInt = 200 := by decide
  have l1001 : (1001 : Int32).toInt = 1001 := by decide
  have l2100 : (2100 : Int32).toInt = 2100 := by decide
  have l3800 : (3800 : Int32).toInt = 3800 := by decide
  have l100000 : (100000 : Int32).toInt = 100000 := by decide
  have l185000 : (185000 : Int32).toInt = 185000 := by decide
  rw [mM_SqlReaderModel_readItems]
  refine ok_seq (fun u_2 h_1 => ?_)
  have I_u_2 : IP u_2 := by rw [h_1]; exact IP_s29 I (by have B_3 := IP_b I; omega) (by have B_4 := IP_b I; omega)
  have F_u_2 : Fr [2, 4, 5, 13, 16, 28, 29, 30] [10, 11, 12, 13, 14, 15, 16, 17, 18, 19, 20, 21] u u_2 := by rw [h_1]; exact Fr_ss (Fr_rfl u) rfl rfl
  have g_5 : (u_2.1 29).toInt = (1 : Int32).toInt := by rw [h_1]; rfl
  have g_6 : (u_2.1 1).toInt = (u.1 1).toInt := by rw [h_1]; rfl
  have g_7 : (u_2.1 2).toInt = (u.1 2).toInt := by rw [h_1]; rfl
  have g_8 : (u_2.1 4).toInt = (u.1 4).toInt := by rw [h_1]; rfl
  have g_9 : (u_2.1 30).toInt = (u.1 30).toInt := by rw [h_1]; rfl
  have g_10 : (u_2.1 16).toInt = (u.1 16).toInt := by rw [h_1]; rfl
  refine ok_bM (kP_SqlReaderModel_takes I_u_2 (by decide)) (fun r_12 u_13 z_11 => ?_)
  obtain ⟨I_u_13, G_u_13, p_14, p_15, p_16⟩ := z_11
  have F_u_13 : Fr [2, 4, 5, 13, 16, 28, 29, 30] [10, 11, 12, 13, 14, 15, 16, 17, 18, 19, 20, 21] u u_13 := Fr_tr F_u_2 G_u_13 rfl rfl
  have g_17 : (u_13.1 1).toInt = (u_2.1 1).toInt := by rw [G_u_13.1 1 rfl]
  have g_18 : (u_13.1 2).toInt = (u_2.1 2).toInt := by rw [G_u_13.1 2 rfl]
  have g_19 : (u_13.1 4).toInt = (u_2.1 4).toInt := by rw [G_u_13.1 4 rfl]
  have g_20 : (u_13.1 16).toInt = (u_2.1 16).toInt := by rw [G_u_13.1 16 rfl]
  refine ok_gd (zb_of (by omega) (by omega)) ?_
  refine ok_seq (fun u_22 h_21 => ?_)
  have I_u_22 : IP u_22 := by rw [h_21]; exact IP_s13 I_u_13 (by have B_23 := IP_b I_u_13; omega) (by have B_24 := IP_b I_u_13; omega)
  have F_u_22 : Fr [2, 4, 5, 13, 16, 28, 29, 30] [10, 11, 12, 13, 14, 15, 16, 17, 18, 19, 20, 21] u u_22 := by rw [h_21]; exact Fr_ss F_u_13 rfl rfl
  have g_25 : (u_22.1 13).toInt = (r_12 : Int32).toInt := by rw [h_21]; rfl
  have g_26 : (u_22.1 1).toInt = (u_13.1 1).toInt := by rw [h_21]; rfl
  have g_27 : (u_22.1 2).toInt = (u_13.1 2).toInt := by rw [h_21]; rfl
  have g_28 : (u_22.1 4).toInt = (u_13.1 4).toInt := by rw [h_21]; rfl
  have g_29 : (u_22.1 30).toInt = (u_13.1 30).toInt := by rw [h_21]; rfl
  have g_30 : (u_22.1 16).toInt = (u_13.1 16).toInt := by rw [h_21]; rfl
  refine ok_eq (fun c_31 c_31' => ?_) (fun c_31 => ?_)
  · rw [mM_SqlReaderModel_readItems_J31]
    refine ok_eq (fun c_32 c_32' => ?_) (fun c_32 => ?_)
    · refine ok_mono (kP_SqlReaderModel_readItems_L44 _ I_u_22 (by have FUe : FU = 100000 := rfl; have B_33 := IP_b I_u_22; have B_34 := IP_b I; omega) (by have FUe : FU = 100000 := rfl; have B_35 := IP_b I_u_22; have B_36 := IP_b I; omega) (by have FUe : FU = 100000 := rfl; have B_37 := IP_b I_u_22; have B_38 := IP_b I; omega) (by have FUe : FU = 100000 := rfl; have B_39 := IP_b I_u_22; have B_40 := IP_b I; omega) (by have FUe : FU = 100000 := rfl; have B_41 := IP_b I_u_22; have B_42 := IP_b I; omega) (by have FUe : FU = 100000 := rfl; have B_43 := IP_b I_u_22; have B_44 := IP_b I; omega) (by have FUe : FU = 100000 := rfl; have B_45 := IP_b I_u_22; have B_46 := IP_b I; omega) (by have FUe : FU = 100000 := rfl; have B_47 := IP_b I_u_22; have B_48 := IP_b I; omega)) (fun u_50 z_49 => ?_)
      obtain ⟨I_u_50, G_u_50, p_51, p_52, p_53, p_54, p_55⟩ := z_49
      have F_u_50 : Fr [2, 4, 5, 13, 16, 28, 29, 30] [10, 11, 12, 13, 14, 15, 16, 17, 18, 19, 20, 21] u u_50 := Fr_tr F_u_22 G_u_50 rfl rfl
      have g_56 : (u_50.1 1).toInt = (u_22.1 1).toInt := by rw [G_u_50.1 1 rfl]
      exact ⟨I_u_50, F_u_50, (by have B_57 := IP_b I; have B_58 := IP_b I_u_50; omega), (by have B_59 := IP_b I_u_50; omega), (by have B_60 := IP_b I_u_50; have B_61 := IP_b I; omega), (by have B_62 := IP_b I_u_50; have B_63 := IP_b I; omega), (by have B_64 := IP_b I_u_50; have B_65 := IP_b I; omega)⟩
    · refine ok_mono (kP_SqlReaderModel_readItems_L44 _ I_u_22 (by have FUe : FU = 100000 := rfl; have B_66 := IP_b I_u_22; have B_67 := IP_b I; omega) (by have FUe : FU = 100000 := rfl; have B_68 := IP_b I_u_22; have B_69 := IP_b I; omega) (by have FUe : FU = 100000 := rfl; have B_70 := IP_b I_u_22; have B_71 := IP_b I; omega) (by have FUe : FU = 100000 := rfl; have B_72 := IP_b I_u_22; have B_73 := IP_b I; omega) (by have FUe : FU = 100000 := rfl; have B_74 := IP_b I_u_22; have B_75 := IP_b I; omega) (by have FUe : FU = 100000 := rfl; have B_76 := IP_b I_u_22; have B_77 := IP_b I; omega) (by have FUe : FU = 100000 := rfl; have B_78 := IP_b I_u_22; have B_79 := IP_b I; omega) (by have FUe : FU = 100000 := rfl; have B_80 := IP_b I_u_22; have B_81 := IP_b I; omega)) (fun u_83 z_82 => ?_)
      obtain ⟨I_u_83, G_u_83, p_84, p_85, p_86, p_87, p_88⟩ := z_82
      have F_u_83 : Fr [2, 4, 5, 13, 16, 28, 29, 30] [10, 11, 12, 13, 14, 15, 16, 17, 18, 19, 20, 21] u u_83 := Fr_tr F_u_22 G_u_83 rfl rfl
      have g_89 : (u_83.1 1).toInt = (u_22.1 1).toInt := by rw [G_u_83.1 1 rfl]
      exact ⟨I_u_83, F_u_83, (by have B_90 := IP_b I; have B_91 := IP_b I_u_83; omega), (by have B_92 := IP_b I_u_83; omega), (by have B_93 := IP_b I_u_83; have B_94 := IP_b I; omega), (by have B_95 := IP_b I_u_83; have B_96 := IP_b I; omega), (by have B_97 := IP_b I_u_83; have B_98 := IP_b I; omega)⟩
  · refine ok_bP (kP_SqlReaderModel_note I_u_22 (by have FUe : FU = 100000 := rfl; have B_100 := IP_b I_u_22; have B_101 := IP_b I; omega) (by have FUe : FU = 100000 := rfl; have B_102 := IP_b I_u_22; have B_103 := IP_b I; omega) (by have FUe : FU = 100000 := rfl; have B_104 := IP_b I_u_22; have B_105 := IP_b I; omega) (by have FUe : FU = 100000 := rfl; have B_106 := IP_b I_u_22; have B_107 := IP_b I; omega) (by have FUe : FU = 100000 := rfl; have B_108 := IP_b I_u_22; have B_109 := IP_b I; omega)) (fun u_110 z_99 => ?_)
    obtain ⟨I_u_110, G_u_110⟩ := z_99
    have F_u_110 : Fr [2, 4, 5, 13, 16, 28, 29, 30] [10, 11, 12, 13, 14, 15, 16, 17, 18, 19, 20, 21] u u_110 := Fr_tr F_u_22 G_u_110 rfl rfl
    have g_111 : (u_110.1 1).toInt = (u_22.1 1).toInt := by rw [G_u_110.1 1 rfl]
    have g_112 : (u_110.1 2).toInt = (u_22.1 2).toInt := by rw [G_u_110.1 2 rfl]
    have g_113 : (u_110.1 4).toInt = (u_22.1 4).toInt := by rw [G_u_110.1 4 rfl]
    have g_114 : (u_110.1 30).toInt = (u_22.1 30).toInt := by rw [G_u_110.1 30 rfl]
    have g_115 : (u_110.1 16).toInt = (u_22.1 16).toInt := by rw [G_u_110.1 16 rfl]
    rw [mM_SqlReaderModel_readItems_J31]
    refine ok_eq (fun c_116 c_116' => ?_) (fun c_116 => ?_)
    · refine ok_mono (kP_SqlReaderModel_readItems_L44 _ I_u_110 (by have FUe : FU = 100000 := rfl; have B_117 := IP_b I_u_110; have B_118 := IP_b I; omega) (by have FUe : FU = 100000 := rfl; have B_119 := IP_b I_u_110; have B_120 := IP_b I; omega) (by have FUe : FU = 100000 := rfl; have B_121 := IP_b I_u_110; have B_122 := IP_b I; omega) (by have FUe : FU = 100000 := rfl; have B_123 := IP_b I_u_110; have B_124 := IP_b I; omega) (by have FUe : FU = 100000 := rfl; have B_125 := IP_b I_u_110; have B_126 := IP_b I; omega) (by have FUe : FU = 100000 := rfl; have B_127 := IP_b I_u_110; have B_128 := IP_b I; omega) (by have FUe : FU = 100000 := rfl; have B_129 := IP_b I_u_110; have B_130 := IP_b I; omega) (by have FUe : FU = 100000 := rfl; have B_131 := IP_b I_u_110; have B_132 := IP_b I; omega)) (fun u_134 z_133 => ?_)
      obtain ⟨I_u_134, G_u_134, p_135, p_136, p_137, p_138, p_139⟩ := z_133
      have F_u_134 : Fr [2, 4, 5, 13, 16, 28, 29, 30] [10, 11, 12, 13, 14, 15, 16, 17, 18, 19, 20, 21] u u_134 := Fr_tr F_u_110 G_u_134 rfl rfl
      have g_140 : (u_134.1 1).toInt = (u_110.1 1).toInt := by rw [G_u_134.1 1 rfl]
      exact ⟨I_u_134, F_u_134, (by have B_141 := IP_b I; have B_142 := IP_b I_u_134; omega), (by have B_143 := IP_b I_u_134; omega), (by have B_144 := IP_b I_u_134; have B_145 := IP_b I; omega), (by have B_146 := IP_b I_u_134; have B_147 := IP_b I; omega), (by have B_148 := IP_b I_u_134; have B_149 := IP_b I; omega)⟩
    · refine ok_mono (kP_SqlReaderModel_readItems_L44 _ I_u_110 (by have FUe : FU = 100000 := rfl; have B_150 := IP_b I_u_110; have B_151 := IP_b I; omega) (by have FUe : FU = 100000 := rfl; have B_152 := IP_b I_u_110; have B_153 := IP_b I; omega) (by have FUe : FU = 100000 := rfl; have B_154 := IP_b I_u_110; have B_155 := IP_b I; omega) (by have FUe : FU = 100000 := rfl; have B_156 := IP_b I_u_110; have B_157 := IP_b I; omega) (by have FUe : FU = 100000 := rfl; have B_158 := IP_b I_u_110; have B_159 := IP_b I; omega) (by have FUe : FU = 100000 := rfl; have B_160 := IP_b I_u_110; have B_161 := IP_b I; omega) (by have FUe : FU = 100000 := rfl; have B_162 := IP_b I_u_110; have B_163 := IP_b I; omega) (by have FUe : FU = 100000 := rfl; have B_164 := IP_b I_u_110; have B_165 := IP_b I; omega)) (fun u_167 z_166 => ?_)
      obtain ⟨I_u_167, G_u_167, p_168, p_169, p_170, p_171, p_172⟩ := z_166
      have F_u_167 : Fr [2, 4, 5, 13, 16, 28, 29, 30] [10, 11, 12, 13, 14, 15, 16, 17, 18, 19, 20, 21] u u_167 := Fr_tr F_u_110 G_u_167 rfl rfl
      have g_173 : (u_167.1 1).toInt = (u_110.1 1).toInt := by rw [G_u_167.1 1 rfl]
      exact ⟨I_u_167, F_u_167, (by have B_174 := IP_b I; have B_175 := IP_b I_u_167; omega), (by have B_176 := IP_b I_u_167; omega), (by have B_177 := IP_b I_u_167; have B_178 := IP_b I; omega), (by have B_179 := IP_b I_u_167; have B_180 := IP_b I; omega), (by have B_181 := IP_b I_u_167; have B_182 := IP_b I; omega)⟩
theorem kP_SqlReaderModel_readGroups_J70 {q9 : Int32 → St → Option (St)} {w : Nat} (hq : ∀ {x1 : Int32} {u : St} (I : IP u) (h0 : (u.1 4).toInt ≤ 185000) (h1 : (u.1 2).toInt = 1 ∨ ((u.1 4).toInt ≤ 100000 + 40 * (u.1 30).toInt ∧ (u.1 30).toInt ≤ (u.1 1).toInt)) (h2 : (u.1 30).toInt ≤ 3800) (h3 : 0 ≤ x1.toInt) (h4 : x1.toInt ≤ 1) (h5 : (u.1 17).toInt ≤ 1001) (h6 : (u.1 2).toInt = 1 ∨ x1.toInt = 0 ∨ 2 * (u.1 17).toInt + 1 ≤ (u.1 30).toInt) (hm : (2 * (2100 - (u.1 30).toInt) + x1.toInt).toNat < w), ok (q9 x1 u) (fun v => IP v ∧ Fr [2, 4, 5, 17, 28, 30] [10, 11, 12, 13, 14, 15, 16, 17, 18, 19, 20, 22] u v ∧ (u.1 2).toInt ≤ (v.1 2).toInt ∧ (v.1 4).toInt ≤ 185000 ∧ ((v.1 2).toInt = 1 ∨ ((v.1 4).toInt ≤ 100000 + 40 * (v.1 30).toInt ∧ (v.1 30).toInt ≤ (u.1 1).toInt)) ∧ ((v.1 30).toInt ≤ (u.1 30).toInt + 0 ∨ (v.1 30).toInt ≤ (u.1 1).toInt + 0) ∧ ((v.1 2).toInt = 1 ∨ (u.1 30).toInt ≤ (v.1 30).toInt))) {x2 : Int32} {s1 : Int32} {u : St} (I : IP u) (h0 : (u.1 4).toInt ≤ 185000) (h1 : (u.1 2).toInt = 1 ∨ ((u.1 4).toInt ≤ 100000 + 40 * (u.1 30).toInt ∧ (u.1 30).toInt ≤ (u.1 1).toInt)) (h2 : (u.1 30).toInt ≤ 3800) (h3 : 0 ≤ s1.toInt) (h4 : s1.toInt ≤ 1) (h5 : (u.1 2).toInt ≤ s1.toInt) (h6 : (u.1 17).toInt ≤ 1000) (h7 : s1.toInt = 1 ∨ 2 * (u.1 17).toInt + 1 ≤ (u.1 30).toInt) (h8 : 0 ≤ x2.toInt) (h9 : x2.toInt ≤ (u.1 1).toInt) (h10 : (u.1 30).toInt ≤ x2.toInt) (h11 : (2 * (2100 - (u.1 30).toInt)).toNat < w) : ok (mM_SqlReaderModel_readGroups_J70 q9 x2 s1 u) (fun v => IP v ∧ Fr [2, 4, 5, 17, 28, 30] [10, 11, 12, 13, 14, 15, 16, 17, 18, 19, 20, 22] u v ∧ (u.1 2).toInt ≤ (v.1 2).toInt ∧ (v.1 4).toInt ≤ 185000 ∧ ((v.1 2).toInt = 1 ∨ ((v.1 4).toInt ≤ 100000 + 40 * (v.1 30).toInt ∧ (v.1 30).toInt ≤ (u.1 1).toInt)) ∧ ((v.1 30).toInt ≤ (u.1 30).toInt + 0 ∨ (v.1 30).toInt ≤ (u.1 1).toInt + 0) ∧ ((v.1 2).toInt = 1 ∨ (u.1 30).toInt ≤ (v.1 30).toInt) ∧ ((u.1 2).toInt = 0 ∨ (v.1 30).toInt ≤ (u.1 30).toInt + 0 ∨ (v.1 30).toInt ≤ (u.1 1).toInt + 0)) := by
  have l0 : (0 : Int32).toInt = 0 := by decide
  have l1 : (1 : Int32).toInt = 1 := by decide
  have l2 : (2 : Int32).toInt = 2 := by decide
  have l4 : (4 : Int32).toInt = 4 := by decide
  have l8 : (8 : Int32).toInt = 8 := by decide
  have l17 : (17 : Int32).toInt = 17 := by decide
  have l30 : (30 : Int32).toInt = 30 := by decide
  have l40 : (40 : Int32).toInt = 40 := by decide
  have l80 : (80 : Int32).toInt = 80 := by decide
  have l200 : (200 : Int32).toInt = 200 := by decide
  have l1001 : (1001 : Int32).toInt = 1001 := by decide
  have l2100 : (2100 : Int32).toInt = 2100 := by decide
  have l3800 : (3800 : Int32).toInt = 3800 := by decide
  have l100000 : (100000 : Int32).toInt = 100000 := by decide
  have l185000 : (185000 : Int32).toInt = 185000 := by decide
  rw [mM_SqlReaderModel_readGroups_J70]
  refine ok_gd (zb_of (by omega) (by omega)) ?_
  refine ok_seq (fun u_2 h_1 => ?_)
  have I_u_2 : IP u_2 := by rw [h_1]; exact IP_bad I (by have B_3 := IP_b I; omega) (by have B_4 := IP_b I; omega) (by have B_5 := IP_b I; omega)
  have F_u_2 : Fr [2, 4, 5, 17, 28, 30] [10, 11, 12, 13, 14, 15, 16, 17, 18, 19, 20, 22] u u_2 := by rw [h_1]; exact Fr_ss (Fr_rfl u) rfl rfl
  have Q_u_2_17 : u_2.1 17 = u.1 17 := by rw [h_1]; rfl
  have g_6 : (ga u_2 22 (u_2.1 17)).toInt = (ga u 22 (u.1 17)).toInt := by rw [h_1]; rfl
  have g_7 : (u_2.1 2).toInt = (s1 : Int32).toInt := by rw [h_1]; rfl
  have g_8 : (u_2.1 1).toInt = (u.1 1).toInt := by rw [h_1]; rfl
  have g_9 : (u_2.1 4).toInt = (u.1 4).toInt := by rw [h_1]; rfl
  have g_10 : (u_2.1 30).toInt = (u.1 30).toInt := by rw [h_1]; rfl
  have g_11 : (u_2.1 17).toInt = (u.1 17).toInt := by rw [h_1]; rfl
  refine ok_bM (kP_partX I_u_2 (by decide) (by decide) (by have B_13 := IP_b I_u_2; omega) (by have B_14 := IP_b I_u_2; omega) (by have B_15 := IP_b I_u_2; omega) (by have B_16 := IP_b I_u_2; omega) (by have B_17 := IP_b I_u_2; omega) (by have B_18 := IP_b I_u_2; omega)) (fun r_19 u_20 z_12 => ?_)
  obtain ⟨I_u_20, G_u_20, p_21, p_22, p_23, p_24, p_25, p_26, p_27⟩ := z_12
  have F_u_20 : Fr [2, 4, 5, 17, 28, 30] [10, 11, 12, 13, 14, 15, 16, 17, 18, 19, 20, 22] u u_20 := Fr_tr F_u_2 G_u_20 rfl rfl
  have g_28 : (u_20.1 1).toInt = (u_2.1 1).toInt := by rw [G_u_20.1 1 rfl]
  have g_29 : (u_20.1 30).toInt = (u_2.1 30).toInt := by rw [G_u_20.1 30 rfl]
  have g_30 : (u_20.1 17).toInt = (u_2.1 17).toInt := by rw [G_u_20.1 17 rfl]
  have Q_u_20_17 : u_20.1 17 = u_2.1 17 := G_u_20.1 17 rfl
  have g_31 : (ga u_20 22 (u_20.1 17)).toInt = (ga u_2 22 (u_2.1 17)).toInt := by show (u_20.2.1 22 (u_20.1 17).toNatClampNeg).toInt = _; rw [G_u_20.2.1 22 rfl, G_u_20.1 17 rfl]; rfl
  refine ok_seq (fun u_33 h_32 => ?_)
  have I_u_33 : IP u_33 := by rw [h_32]; exact IP_s30 I_u_20 (by have B_34 := IP_b I_u_20; omega) (by have B_35 := IP_b I_u_20; omega)
  have F_u_33 : Fr [2, 4, 5, 17, 28, 30] [10, 11, 12, 13, 14, 15, 16, 17, 18, 19, 20, 22] u u_33 := by rw [h_32]; exact Fr_ss F_u_20 rfl rfl
  have Q_u_33_17 : u_33.1 17 = u_20.1 17 := by rw [h_32]; rfl
  have g_36 : (ga u_33 22 (u_33.1 17)).toInt = (ga u_20 22 (u_20.1 17)).toInt := by rw [h_32]; rfl
  have g_37 : (u_33.1 30).toInt = (x2 : Int32).toInt := by rw [h_32]; rfl
  have g_38 : (u_33.1 1).toInt = (u_20.1 1).toInt := by rw [h_32]; rfl
  have g_39 : (u_33.1 2).toInt = (u_20.1 2).toInt := by rw [h_32]; rfl
  have g_40 : (u_33.1 4).toInt = (u_20.1 4).toInt := by rw [h_32]; rfl
  have g_41 : (u_33.1 17).toInt = (u_20.1 17).toInt := by rw [h_32]; rfl
  refine ok_le (fun c_42 => ?_) (fun c_42 => ?_)
  · rw [mM_SqlReaderModel_readGroups_J111]
    refine ok_seq (fun u_44 h_43 => ?_)
    try have e_45 : ((u_33.1 17) + 1 : Int32).toInt = ((u_33.1 17) : Int32).toInt + (1 : Int32).toInt := by have B_46 := IP_b I; have B_47 := IP_b I_u_33; exact add_i (by omega) (by omega)
    have I_u_44 : IP u_44 := by rw [h_43]; exact IP_s17 I_u_33 (by have B_48 := IP_b I_u_33; omega) (by have B_49 := IP_b I_u_33; omega)
    have F_u_44 : Fr [2, 4, 5, 17, 28, 30] [10, 11, 12, 13, 14, 15, 16, 17, 18, 19, 20, 22] u u_44 := by rw [h_43]; exact Fr_ss F_u_33 rfl rfl
    try have e_50 : ((u_33.1 17) + 1 : Int32).toInt = ((u_33.1 17) : Int32).toInt + (1 : Int32).toInt := by have B_51 := IP_b I; have B_52 := IP_b I_u_33; exact add_i (by omega) (by omega)
    have g_53 : (u_44.1 17).toInt = (((u_33.1 17) + 1) : Int32).toInt := by rw [h_43]; rfl
    have g_54 : (u_44.1 1).toInt = (u_33.1 1).toInt := by rw [h_43]; rfl
    have g_55 : (u_44.1 2).toInt = (u_33.1 2).toInt := by rw [h_43]; rfl
    have g_56 : (u_44.1 4).toInt = (u_33.1 4).toInt := by rw [h_43]; rfl
    have g_57 : (u_44.1 30).toInt = (u_33.1 30).toInt := by rw [h_43]; rfl
    refine ok_bM (kP_SqlReaderModel_takes I_u_44 (by decide)) (fun r_59 u_60 z_58 => ?_)
    obtain ⟨I_u_60, G_u_60, p_61, p_62, p_63⟩ := z_58
    have F_u_60 : Fr [2, 4, 5, 17, 28, 30] [10, 11, 12, 13, 14, 15, 16, 17, 18, 19, 20, 22] u u_60 := Fr_tr F_u_44 G_u_60 rfl rfl
    have g_64 : (u_60.1 1).toInt = (u_44.1 1).toInt := by rw [G_u_60.1 1 rfl]
    have g_65 : (u_60.1 2).toInt = (u_44.1 2).toInt := by rw [G_u_60.1 2 rfl]
    have g_66 : (u_60.1 4).toInt = (u_44.1 4).toInt := by rw [G_u_60.1 4 rfl]
    have g_67 : (u_60.1 17).toInt = (u_44.1 17).toInt := by rw [G_u_60.1 17 rfl]
    have Q_u_60_17 : u_60.1 17 = u_44.1 17 := G_u_60.1 17 rfl
    have g_68 : (ga u_60 22 (u_60.1 17)).toInt = (ga u_44 22 (u_44.1 17)).toInt := by show (u_60.2.1 22 (u_60.1 17).toNatClampNeg).toInt = _; rw [G_u_60.2.1 22 rfl, G_u_60.1 17 rfl]; rfl
    refine ok_mono (hq I_u_60 (by have B_69 := IP_b I_u_60; omega) (by have B_70 := IP_b I_u_60; omega) (by have B_71 := IP_b I_u_60; omega) (by have B_72 := IP_b I_u_60; omega) (by have B_73 := IP_b I_u_60; omega) (by have B_74 := IP_b I_u_60; omega) (by have B_75 := IP_b I_u_60; omega) (by have B_76 := IP_b I_u_60; omega)) (fun u_78 z_77 => ?_)
    obtain ⟨I_u_78, G_u_78, p_79, p_80, p_81, p_82, p_83⟩ := z_77
    have F_u_78 : Fr [2, 4, 5, 17, 28, 30] [10, 11, 12, 13, 14, 15, 16, 17, 18, 19, 20, 22] u u_78 := Fr_tr F_u_60 G_u_78 rfl rfl
    have g_84 : (u_78.1 1).toInt = (u_60.1 1).toInt := by rw [G_u_78.1 1 rfl]
    exact ⟨I_u_78, F_u_78, (by have B_85 := IP_b I; have B_86 := IP_b I_u_78; omega), (by have B_87 := IP_b I_u_78; omega), (by have B_88 := IP_b I_u_78; have B_89 := IP_b I; omega), (by have B_90 := IP_b I_u_78; have B_91 := IP_b I; omega), (by have B_92 := IP_b I_u_78; have B_93 := IP_b I; omega), (by have B_94 := IP_b I; have B_95 := IP_b I_u_78; omega)⟩
  · refine ok_gd (inb_of (by have B_96 := IP_b I_u_33; omega) (by have B_97 := IP_b I_u_33; omega)) ?_
    refine ok_seq (fun u_99 h_98 => ?_)
    have I_u_99 : IP u_99 := by rw [h_98]; exact IP_a22 I_u_33 (by have B_100 := IP_b I_u_33; omega)
    have F_u_99 : Fr [2, 4, 5, 17, 28, 30] [10, 11, 12, 13, 14, 15, 16, 17, 18, 19, 20, 22] u u_99 := by rw [h_98]; exact Fr_sa F_u_33 rfl rfl rfl
    have Q_u_99_17 : u_99.1 17 = u_33.1 17 := by rw [h_98]; rfl
    have g_101 : (ga u_99 22 (u_99.1 17)).toInt = (r_19 : Int32).toInt := by rw [h_98]; show (upd (u_33.2.1 22) ((u_33.1 17)).toNatClampNeg r_19 (u_33.1 17).toNatClampNeg).toInt = _; rw [pk_us]
    have g_102 : (u_99.1 1).toInt = (u_33.1 1).toInt := by rw [h_98]; rfl
    have g_103 : (u_99.1 2).toInt = (u_33.1 2).toInt := by rw [h_98]; rfl
    have g_104 : (u_99.1 4).toInt = (u_33.1 4).toInt := by rw [h_98]; rfl
    have g_105 : (u_99.1 30).toInt = (u_33.1 30).toInt := by rw [h_98]; rfl
    have g_106 : (u_99.1 17).toInt = (u_33.1 17).toInt := by rw [h_98]; rfl
    rw [mM_SqlReaderModel_readGroups_J111]
    refine ok_seq (fun u_108 h_107 => ?_)
    try have e_109 : ((u_99.1 17) + 1 : Int32).toInt = ((u_99.1 17) : Int32).toInt + (1 : Int32).toInt := by have B_110 := IP_b I; have B_111 := IP_b I_u_99; exact add_i (by omega) (by omega)
    have I_u_108 : IP u_108 := by rw [h_107]; exact IP_s17 I_u_99 (by have B_112 := IP_b I_u_99; omega) (by have B_113 := IP_b I_u_99; omega)
    have F_u_108 : Fr [2, 4, 5, 17, 28, 30] [10, 11, 12, 13, 14, 15, 16, 17, 18, 19, 20, 22] u u_108 := by rw [h_107]; exact Fr_ss F_u_99 rfl rfl
    try have e_114 : ((u_99.1 17) + 1 : Int32).toInt = ((u_99.1 17) : Int32).toInt + (1 : Int32).toInt := by have B_115 := IP_b I; have B_116 := IP_b I_u_99; exact add_i (by omega) (by omega)
    have g_117 : (u_108.1 17).toInt = (((u_99.1 17) + 1) : Int32).toInt := by rw [h_107]; rfl
    have g_118 : (u_108.1 1).toInt = (u_99.1 1).toInt := by rw [h_107]; rfl
    have g_119 : (u_108.1 2).toInt = (u_99.1 2).toInt := by rw [h_107]; rfl
    have g_120 : (u_108.1 4).toInt = (u_99.1 4).toInt := by rw [h_107]; rfl
    have g_121 : (u_108.1 30).toInt = (u_99.1 30).toInt := by rw [h_107]; rfl
    refine ok_bM (kP_SqlReaderModel_takes I_u_108 (by decide)) (fun r_123 u_124 z_122 => ?_)
    obtain ⟨I_u_124, G_u_124, p_125, p_126, p_127⟩ := z_122
    have F_u_124 : Fr [2, 4, 5, 17, 28, 30] [10, 11, 12, 13, 14, 15, 16, 17, 18, 19, 20, 22] u u_124 := Fr_tr F_u_108 G_u_124 rfl rfl
    have g_128 : (u_124.1 1).toInt = (u_108.1 1).toInt := by rw [G_u_124.1 1 rfl]
    have g_129 : (u_124.1 2).toInt = (u_108.1 2).toInt := by rw [G_u_124.1 2 rfl]
    have g_130 : (u_124.1 4).toInt = (u_108.1 4).toInt := by rw [G_u_124.1 4 rfl]
    have g_131 : (u_124.1 17).toInt = (u_108.1 17).toInt := by rw [G_u_124.1 17 rfl]
    have Q_u_124_17 : u_124.1 17 = u_108.1 17 := G_u_124.1 17 rfl
    have g_132 : (ga u_124 22 (u_124.1 17)).toInt = (ga u_108 22 (u_108.1 17)).toInt := by show (u_124.2.1 22 (u_124.1 17).toNatClampNeg).toInt = _; rw [G_u_124.2.1 22 rfl, G_u_124.1 17 rfl]; rfl
    refine ok_mono (hq I_u_124 (by have B_133 := IP_b I_u_124; omega) (by have B_134 := IP_b I_u_124; omega) (by have B_135 := IP_b I_u_124; omega) (by have B_136 := IP_b I_u_124; omega) (by have B_137 := IP_b I_u_124; omega) (by have B_138 := IP_b I_u_124; omega) (by have B_139 := IP_b I_u_124; omega) (by have B_140 := IP_b I_u_124; omega)) (fun u_142 z_141 => ?_)
    obtain ⟨I_u_142, G_u_142, p_143, p_144, p_145, p_146, p_147⟩ := z_141
    have F_u_142 : Fr [2, 4, 5, 17, 28, 30] [10, 11, 12, 13, 14, 15, 16, 17, 18, 19, 20, 22] u u_142 := Fr_tr F_u_124 G_u_142 rfl rfl
    have g_148 : (u_142.1 1).toInt = (u_124.1 1).toInt := by rw [G_u_142.1 1 rfl]
    exact ⟨I_u_142, F_u_142, (by have B_149 := IP_b I; have B_150 := IP_b I_u_142; omega), (by have B_151 := IP_b I_u_142; omega), (by have B_152 := IP_b I_u_142; have B_153 := IP_b I; omega), (by have B_154 := IP_b I_u_142; have B_155 := IP_b I; omega), (by have B_156 := IP_b I_u_142; have B_157 := IP_b I; omega), (by have B_158 := IP_b I; have B_159 := IP_b I_u_142; omega)⟩
set_option maxHeartbeats 20000000 in
theorem kP_SqlReaderModel_readGroups_L9 : ∀ (n : Nat) {x1 : Int32} {u : St} (I : IP u) (h0 : (u.1 4).toInt ≤ 185000) (h1 : (u.1 2).toInt = 1 ∨ ((u.1 4).toInt ≤ 100000 + 40 * (u.1 30).toInt ∧ (u.1 30).toInt ≤ (u.1 1).toInt)) (h2 : (u.1 30).toInt ≤ 3800) (h3 : 0 ≤ x1.toInt) (h4 : x1.toInt ≤ 1) (h5 : (u.1 17).toInt ≤ 1001) (h6 : (u.1 2).toInt = 1 ∨ x1.toInt = 0 ∨ 2 * (u.1 17).toInt + 1 ≤ (u.1 30).toInt) (hm : (2 * (2100 - (u.1 30).toInt) + x1.toInt).toNat < n), ok (mM_SqlReaderModel_readGroups_L9 n x1 u) (fun v => IP v ∧ Fr [2, 4, 5, 17, 28, 30] [10, 11, 12, 13, 14, 15, 16, 17, 18, 19, 20, 22] u v ∧ (u.1 2).toInt ≤ (v.1 2).toInt ∧ (v.1 4).toInt ≤ 185000 ∧ ((v.1 2).toInt = 1 ∨ ((v.1 4).toInt ≤ 100000 + 40 * (v.1 30).toInt ∧ (v.1 30).toInt ≤ (u.1 1).toInt)) ∧ ((v.1 30).toInt ≤ (u.1 30).toInt + 0 ∨ (v.1 30).toInt ≤ (u.1 1).toInt + 0) ∧ ((v.1 2).toInt = 1 ∨ (u.1 30).toInt ≤ (v.1 30).toInt)) := by
  intro n
  induction n with
  | zero => intro x1 u I h0 h1 h2 h3 h4 h5 h6 hm; exact absurd hm (Nat.not_lt_zero _)
  | succ n ih =>
    intro x1 u I h0 h1 h2 h3 h4 h5 h6 hm
    have l0 : (0 : Int32).toInt = 0 := by decide
    have l1 : (1 : Int32).toInt = 1 := by decide
    have l2 : (2 : Int32).toInt = 2 := by decide
    have l3 : (3 : Int32).toInt = 3 := by decide
    have l4 : (4 : Int32).toInt = 4 := by decide
    have l17 : (17 : Int32).toInt = 17 := by decide
    have l30 : (30 : Int32).toInt = 30 := by decide
    have l40 : (40 : Int32).toInt = 40 := by decide
    have l1000 : (1000 : Int32).toInt = 1000 := by decide
    have l2100 : (2100 : Int32).toInt = 2100 := by decide
    have l3800 : (3800 : Int32).toInt = 3800 := by decide
    have l100000 : (100000 : Int32).toInt = 100000 := by decide
    have l185000 : (185000 : Int32).toInt = 185000 := by decide
    rw [mM_SqlReaderModel_readGroups_L9]
    refine ok_eq (fun c_1 c_1' => ?_) (fun c_1 => ?_)
    · exact ok_some ⟨I, (Fr_rfl u), (by have B_2 := IP_b I; omega), (by have B_3 := IP_b I; omega), (by have B_4 := IP_b I; omega), (by have B_5 := IP_b I; omega), (by have B_6 := IP_b I; omega)⟩
    · refine ok_eq (fun c_7 c_7' => ?_) (fun c_7 => ?_)
      · refine ok_bP (kM_SqlReaderModel_reach (IP_IW I)) (fun r_9 z_8 => ?_)
        obtain ⟨p_10, p_11, p_12⟩ := z_8
        refine ok_eq (fun c_13 c_13' => ?_) (fun c_13 => ?_)
        · refine ok_bP (kM_SqlReaderModel_isKind (IP_IB I) (by have FUe : FU = 100000 := rfl; have B_15 := IP_b I; omega)) (fun r_16 z_14 => ?_)
          obtain ⟨p_17, p_18, p_19⟩ := z_14
          refine ok_eq (fun c_20 c_20' => ?_) (fun c_20 => ?_)
          · refine ok_mono (kP_SqlReaderModel_readGroups_J70 ih I (by have FUe : FU = 100000 := rfl; have B_21 := IP_b I; omega) (by have FUe : FU = 100000 := rfl; have B_22 := IP_b I; omega) (by have FUe : FU = 100000 := rfl; have B_23 := IP_b I; omega) (by have FUe : FU = 100000 := rfl; have B_24 := IP_b I; omega) (by have FUe : FU = 100000 := rfl; have B_25 := IP_b I; omega) (by have FUe : FU = 100000 := rfl; have B_26 := IP_b I; omega) (by have FUe : FU = 100000 := rfl; have B_27 := IP_b I; omega) (by have FUe : FU = 100000 := rfl; have B_28 := IP_b I; omega) (by have FUe : FU = 100000 := rfl; have B_29 := IP_b I; omega) (by have FUe : FU = 100000 := rfl; have B_30 := IP_b I; omega) (by have FUe : FU = 100000 := rfl; have B_31 := IP_b I; omega) (by have FUe : FU = 100000 := rfl; have B_32 := IP_b I; omega)) (fun u_34 z_33 => ?_)
            obtain ⟨I_u_34, G_u_34, p_35, p_36, p_37, p_38, p_39, p_40⟩ := z_33
            have F_u_34 : Fr [2, 4, 5, 17, 28, 30] [10, 11, 12, 13, 14, 15, 16, 17, 18, 19, 20, 22] u u_34 := Fr_tr (Fr_rfl u) G_u_34 rfl rfl
            have g_41 : (u_34.1 1).toInt = (u.1 1).toInt := by rw [G_u_34.1 1 rfl]
            exact ⟨I_u_34, F_u_34, (by have B_42 := IP_b I; have B_43 := IP_b I_u_34; omega), (by have B_44 := IP_b I_u_34; omega), (by have B_45 := IP_b I_u_34; have B_46 := IP_b I; omega), (by have B_47 := IP_b I_u_34; have B_48 := IP_b I; omega), (by have B_49 := IP_b I_u_34; have B_50 := IP_b I; omega)⟩
          · try have e_51 : ((u.1 30) + 1 : Int32).toInt = ((u.1 30) : Int32).toInt + (1 : Int32).toInt := by have B_52 := IP_b I; exact add_i (by omega) (by omega)
            refine ok_eq (fun c_53 c_53' => ?_) (fun c_53 => ?_)
            · refine ok_mono (kP_SqlReaderModel_readGroups_J70 ih I (by have FUe : FU = 100000 := rfl; have B_54 := IP_b I; omega) (by have FUe : FU = 100000 := rfl; have B_55 := IP_b I; omega) (by have FUe : FU = 100000 := rfl; have B_56 := IP_b I; omega) (by have FUe : FU = 100000 := rfl; have B_57 := IP_b I; omega) (by have FUe : FU = 100000 := rfl; have B_58 := IP_b I; omega) (by have FUe : FU = 100000 := rfl; have B_59 := IP_b I; omega) (by have FUe : FU = 100000 := rfl; have B_60 := IP_b I; omega) (by have FUe : FU = 100000 := rfl; have B_61 := IP_b I; omega) (by have FUe : FU = 100000 := rfl; have B_62 := IP_b I; omega) (by have FUe : FU = 100000 := rfl; have B_63 := IP_b I; omega) (by have FUe : FU = 100000 := rfl; have B_64 := IP_b I; omega) (by have FUe : FU = 100000 := rfl; have B_65 := IP_b I; omega)) (fun u_67 z_66 => ?_)
              obtain ⟨I_u_67, G_u_67, p_68, p_69, p_70, p_71, p_72, p_73⟩ := z_66
              have F_u_67 : Fr [2, 4, 5, 17, 28, 30] [10, 11, 12, 13, 14, 15, 16, 17, 18, 19, 20, 22] u u_67 := Fr_tr (Fr_rfl u) G_u_67 rfl rfl
              have g_74 : (u_67.1 1).toInt = (u.1 1).toInt := by rw [G_u_67.1 1 rfl]
              exact ⟨I_u_67, F_u_67, (by have B_75 := IP_b I; have B_76 := IP_b I_u_67; omega), (by have B_77 := IP_b I_u_67; omega), (by have B_78 := IP_b I_u_67; have B_79 := IP_b I; omega), (by have B_80 := IP_b I_u_67; have B_81 := IP_b I; omega), (by have B_82 := IP_b I_u_67; have B_83 := IP_b I; omega)⟩
            · try have e_84 : ((u.1 30) + 3 : Int32).toInt = ((u.1 30) : Int32).toInt + (3 : Int32).toInt := by have B_85 := IP_b I; exact add_i (by omega) (by omega)
              refine ok_eq (fun c_86 c_86' => ?_) (fun c_86 => ?_)
              · refine ok_mono (kP_SqlReaderModel_readGroups_J70 ih I (by have FUe : FU = 100000 := rfl; have B_87 := IP_b I; omega) (by have FUe : FU = 100000 := rfl; have B_88 := IP_b I; omega) (by have FUe : FU = 100000 := rfl; have B_89 := IP_b I; omega) (by have FUe : FU = 100000 := rfl; have B_90 := IP_b I; omega) (by have FUe : FU = 100000 := rfl; have B_91 := IP_b I; omega) (by have FUe : FU = 100000 := rfl; have B_92 := IP_b I; omega) (by have FUe : FU = 100000 := rfl; have B_93 := IP_b I; omega) (by have FUe : FU = 100000 := rfl; have B_94 := IP_b I; omega) (by have FUe : FU = 100000 := rfl; have B_95 := IP_b I; omega) (by have FUe : FU = 100000 := rfl; have B_96 := IP_b I; omega) (by have FUe : FU = 100000 := rfl; have B_97 := IP_b I; omega) (by have FUe : FU = 100000 := rfl; have B_98 := IP_b I; omega)) (fun u_100 z_99 => ?_)
                obtain ⟨I_u_100, G_u_100, p_101, p_102, p_103, p_104, p_105, p_106⟩ := z_99
                have F_u_100 : Fr [2, 4, 5, 17, 28, 30] [10, 11, 12, 13, 14, 15, 16, 17, 18, 19, 20, 22] u u_100 := Fr_tr (Fr_rfl u) G_u_100 rfl rfl
                have g_107 : (u_100.1 1).toInt = (u.1 1).toInt := by rw [G_u_100.1 1 rfl]
                exact ⟨I_u_100, F_u_100, (by have B_108 := IP_b I; have B_109 := IP_b I_u_100; omega), (by have B_110 := IP_b I_u_100; omega), (by have B_111 := IP_b I_u_100; have B_112 := IP_b I; omega), (by have B_113 := IP_b I_u_100; have B_114 := IP_b I; omega), (by have B_115 := IP_b I_u_100; have B_116 := IP_b I; omega)⟩
              · refine ok_mono (kP_SqlReaderModel_readGroups_J70 ih I (by have FUe : FU = 100000 := rfl; have B_117 := IP_b I; omega) (by have FUe : FU = 100000 := rfl; have B_118 := IP_b I; omega) (by have FUe : FU = 100000 := rfl; have B_119 := IP_b I; omega) (by have FUe : FU = 100000 := rfl; have B_120 := IP_b I; omega) (by have FUe : FU = 100000 := rfl; have B_121 := IP_b I; omega) (by have FUe : FU = 100000 := rfl; have B_122 := IP_b I; omega) (by have FUe : FU = 100000 := rfl; have B_123 := IP_b I; omega) (by have FUe : FU = 100000 := rfl; have B_124 := IP_b I; omega) (by have FUe : FU = 100000 := rfl; have B_125 := IP_b I; omega) (by have FUe : FU = 100000 := rfl; have B_126 := IP_b I; omega) (by have FUe : FU = 100000 := rfl; have B_127 := IP_b I; omega) (by have FUe : FU = 100000 := rfl; have B_128 := IP_b I; omega)) (fun u_130 z_129 => ?_)
                obtain ⟨I_u_130, G_u_130, p_131, p_132, p_133, p_134, p_135, p_136⟩ := z_129
                have F_u_130 : Fr [2, 4, 5, 17, 28, 30] [10, 11, 12, 13, 14, 15, 16, 17, 18, 19, 20, 22] u u_130 := Fr_tr (Fr_rfl u) G_u_130 rfl rfl
                have g_137 : (u_130.1 1).toInt = (u.1 1).toInt := by rw [G_u_130.1 1 rfl]
                exact ⟨I_u_130, F_u_130, (by have B_138 := IP_b I; have B_139 := IP_b I_u_130; omega), (by have B_140 := IP_b I_u_130; omega), (by have B_141 := IP_b I_u_130; have B_142 := IP_b I; omega), (by have B_143 := IP_b I_u_130; have B_144 := IP_b I; omega), (by have B_145 := IP_b I_u_130; have B_146 := IP_b I; omega)⟩
        · refine ok_mono (kP_SqlReaderModel_readGroups_J70 ih I (by have FUe : FU = 100000 := rfl; have B_147 := IP_b I; omega) (by have FUe : FU = 100000 := rfl; have B_148 := IP_b I; omega) (by have FUe : FU = 100000 := rfl; have B_149 := IP_b I; omega) (by have FUe : FU = 100000 := rfl; have B_150 := IP_b I; omega) (by have FUe : FU = 100000 := rfl; have B_151 := IP_b I; omega) (by have FUe : FU = 100000 := rfl; have B_152 := IP_b I; omega) (by have FUe : FU = 100000 := rfl; have B_153 := IP_b I; omega) (by have FUe : FU = 100000 := rfl; have B_154 := IP_b I; omega) (by have FUe : FU = 100000 := rfl; have B_155 := IP_b I; omega) (by have FUe : FU = 100000 := rfl; have B_156 := IP_b I; omega) (by have FUe : FU = 100000 := rfl; have B_157 := IP_b I; omega) (by have FUe : FU = 100000 := rfl; have B_158 := IP_b I; omega)) (fun u_160 z_159 => ?_)
          obtain ⟨I_u_160, G_u_160, p_161, p_162, p_163, p_164, p_165, p_166⟩ := z_159
          have F_u_160 : Fr [2, 4, 5, 17, 28, 30] [10, 11, 12, 13, 14, 15, 16, 17, 18, 19, 20, 22] u u_160 := Fr_tr (Fr_rfl u) G_u_160 rfl rfl
          have g_167 : (u_160.1 1).toInt = (u.1 1).toInt := by rw [G_u_160.1 1 rfl]
          exact ⟨I_u_160, F_u_160, (by have B_168 := IP_b I; have B_169 := IP_b I_u_160; omega), (by have B_170 := IP_b I_u_160; omega), (by have B_171 := IP_b I_u_160; have B_172 := IP_b I; omega), (by have B_173 := IP_b I_u_160; have B_174 := IP_b I; omega), (by have B_175 := IP_b I_u_160; have B_176 := IP_b I; omega)⟩
      · exact ok_some ⟨I, (Fr_rfl u), (by have B_177 := IP_b I; omega), (by have B_178 := IP_b I; omega), (by have B_179 := IP_b I; omega), (by have B_180 := IP_b I; omega), (by have B_181 := IP_b I; omega)⟩
theorem kP_SqlReaderModel_readGroups {u : St} (I : IP u) (h0 : (u.1 4).toInt ≤ 185000) (h1 : (u.1 2).toInt = 1 ∨ ((u.1 4).toInt ≤ 100000 + 40 * (u.1 30).toInt ∧ (u.1 30).toInt ≤ (u.1 1).toInt)) (h2 : (u.1 30).toInt ≤ 3800) (h3 : (u.1 17).toInt = 0) (h4 : (u.1 2).toInt = 1 ∨ 1 ≤ (u.1 30).toInt) : ok (mM_SqlReaderModel_readGroups u) (fun v => IP v ∧ Fr [2, 4, 5, 17, 28, 30] [10, 11, 12, 13, 14, 15, 16, 17, 18, 19, 20, 22] u v ∧ (u.1 2).toInt ≤ (v.1 2).toInt ∧ (v.1 4).toInt ≤ 185000 ∧ ((v.1 2).toInt = 1 ∨ ((v.1 4).toInt ≤ 100000 + 40 * (v.1 30).toInt ∧ (v.1 30).toInt ≤ (u.1 1).toInt)) ∧ ((v.1 30).toInt ≤ (u.1 30).toInt + 0 ∨ (v.1 30).toInt ≤ (u.1 1).toInt + 0) ∧ ((v.1 2).toInt = 1 ∨ (u.1 30).toInt ≤ (v.1 30).toInt)) := by
  have l0 : (0 : Int32).toInt = 0 := by decide
  have l1 : (1 : Int32).toInt = 1 := by decide
  have l2 : (2 : Int32).toInt = 2 := by decide
  have l4 : (4 : Int32).toInt = 4 := by decide
  have l17 : (17 : Int32).toInt = 17 := by decide
  have l30 : (30 : Int32).toInt = 30 := by decide
  have l40 : (40 : Int32).toInt = 40 := by decide
  have l117 : (117 : Int32).toInt = 117 := by decide
  have l1001 : (1001 : Int32).toInt = 1001 := by decide
  have l2100 : (2100 : Int32).toInt = 2100 := by decide
  have l3800 : (3800 : Int32).toInt = 3800 := by decide
  have l100000 : (100000 : Int32).toInt = 100000 := by decide
  have l185000 : (185000 : Int32).toInt = 185000 := by decide
  rw [mM_SqlReaderModel_readGroups]
  refine ok_bP (kP_SqlReaderModel_need I (by decide)) (fun u_2 z_1 => ?_)
  obtain ⟨I_u_2, G_u_2, p_3, p_4⟩ := z_1
  have F_u_2 : Fr [2, 4, 5, 17, 28, 30] [10, 11, 12, 13, 14, 15, 16, 17, 18, 19, 20, 22] u u_2 := Fr_tr (Fr_rfl u) G_u_2 rfl rfl
  have g_5 : (u_2.1 1).toInt = (u.1 1).toInt := by rw [G_u_2.1 1 rfl]
  have g_6 : (u_2.1 4).toInt = (u.1 4).toInt := by rw [G_u_2.1 4 rfl]
  have g_7 : (u_2.1 17).toInt = (u.1 17).toInt := by rw [G_u_2.1 17 rfl]
  refine ok_mono (kP_SqlReaderModel_readGroups_L9 _ I_u_2 (by have FUe : FU = 100000 := rfl; have B_8 := IP_b I_u_2; have B_9 := IP_b I; omega) (by have FUe : FU = 100000 := rfl; have B_10 := IP_b I_u_2; have B_11 := IP_b I; omega) (by have FUe : FU = 100000 := rfl; have B_12 := IP_b I_u_2; have B_13 := IP_b I; omega) (by have FUe : FU = 100000 := rfl; have B_14 := IP_b I_u_2; have B_15 := IP_b I; omega) (by have FUe : FU = 100000 := rfl; have B_16 := IP_b I_u_2; have B_17 := IP_b I; omega) (by have FUe : FU = 100000 := rfl; have B_18 := IP_b I_u_2; have B_19 := IP_b I; omega) (by have FUe : FU = 100000 := rfl; have B_20 := IP_b I_u_2; have B_21 := IP_b I; omega) (by have FUe : FU = 100000 := rfl; have B_22 := IP_b I_u_2; have B_23 := IP_b I; omega)) (fun u_25 z_24 => ?_)
  obtain ⟨I_u_25, G_u_25, p_26, p_27, p_28, p_29, p_30⟩ := z_24
  have F_u_25 : Fr [2, 4, 5, 17, 28, 30] [10, 11, 12, 13, 14, 15, 16, 17, 18, 19, 20, 22] u u_25 := Fr_tr F_u_2 G_u_25 rfl rfl
  have g_31 : (u_25.1 1).toInt = (u_2.1 1).toInt := by rw [G_u_25.1 1 rfl]
  exact ⟨I_u_25, F_u_25, (by have B_32 := IP_b I; have B_33 := IP_b I_u_25; omega), (by have B_34 := IP_b I_u_25; omega), (by have B_35 := IP_b I_u_25; have B_36 := IP_b I; omega), (by have B_37 := IP_b I_u_25; have B_38 := IP_b I; omega), (by have B_39 := IP_b I_u_25; have B_40 := IP_b I; omega)⟩
theorem kP_SqlReaderModel_readQuery_J174 {u : St} (I : IP u) (h0 : (u.1 4).toInt ≤ 185000) (h1 : (u.1 2).toInt = 1 ∨ ((u.1 4).toInt ≤ 100000 + 40 * (u.1 30).toInt ∧ (u.1 30).toInt ≤ (u.1 1).toInt)) (h2 : (u.1 30).toInt ≤ 3800) : ok (mM_SqlReaderModel_readQuery_J174 u) (fun v => IP v ∧ Fr [2, 11, 30] [] u v ∧ (u.1 2).toInt ≤ (v.1 2).toInt ∧ (v.1 4).toInt ≤ 185000 ∧ ((v.1 2).toInt = 1 ∨ ((v.1 4).toInt ≤ 100000 + 40 * (v.1 30).toInt ∧ (v.1 30).toInt ≤ (u.1 1).toInt)) ∧ ((v.1 30).toInt ≤ (u.1 30).toInt + 0 ∨ (v.1 30).toInt ≤ (u.1 1).toInt + 0) ∧ ((v.1 2).toInt = 1 ∨ (u.1 30).toInt ≤ (v.1 30).toInt)) := by
  have l0 : (0 : Int32).toInt = 0 := by decide
  have l1 : (1 : Int32).toInt = 1 := by decide
  have l2 : (2 : Int32).toInt = 2 := by decide
  have l4 : (4 : Int32).toInt = 4 := by decide
  have l11 : (11 : Int32).toInt = 11 := by decide
  have l30 : (30 : Int32).toInt = 30 := by decide
  have l40 : (40 : Int32).toInt = 40 := by decide
  have l87 : (87 : Int32).toInt = 87 := by decide
  have l119 : (119 : Int32).toInt = 119 := by decide
  have l120 : (120 : Int32).toInt = 120 := by decide
  have l100000 : (100000 : Int32).toInt = 100000 := by decide
  have l185000 : (185000 : Int32).toInt = 185000 := by decide
  rw [mM_SqlReaderModel_readQuery_J174]
  refine ok_bM (kP_SqlReaderModel_takes I (by decide)) (fun r_2 u_3 z_1 => ?_)
  obtain ⟨I_u_3, G_u_3, p_4, p_5, p_6⟩ := z_1
  have F_u_3 : Fr [2, 11, 30] [] u u_3 := Fr_tr (Fr_rfl u) G_u_3 rfl rfl
  have g_7 : (u_3.1 1).toInt = (u.1 1).toInt := by rw [G_u_3.1 1 rfl]
  have g_8 : (u_3.1 2).toInt = (u.1 2).toInt := by rw [G_u_3.1 2 rfl]
  have g_9 : (u_3.1 4).toInt = (u.1 4).toInt := by rw [G_u_3.1 4 rfl]
  refine ok_eq (fun c_10 c_10' => ?_) (fun c_10 => ?_)
  · exact ok_some ⟨I_u_3, F_u_3, (by have B_11 := IP_b I; have B_12 := IP_b I_u_3; omega), (by have B_13 := IP_b I_u_3; omega), (by have B_14 := IP_b I_u_3; have B_15 := IP_b I; omega), (by have B_16 := IP_b I_u_3; have B_17 := IP_b I; omega), (by have B_18 := IP_b I_u_3; have B_19 := IP_b I; omega)⟩
  · refine ok_bM (kP_SqlReaderModel_takes I_u_3 (by decide)) (fun r_21 u_22 z_20 => ?_)
    obtain ⟨I_u_22, G_u_22, p_23, p_24, p_25⟩ := z_20
    have F_u_22 : Fr [2, 11, 30] [] u u_22 := Fr_tr F_u_3 G_u_22 rfl rfl
    have g_26 : (u_22.1 1).toInt = (u_3.1 1).toInt := by rw [G_u_22.1 1 rfl]
    have g_27 : (u_22.1 2).toInt = (u_3.1 2).toInt := by rw [G_u_22.1 2 rfl]
    have g_28 : (u_22.1 4).toInt = (u_3.1 4).toInt := by rw [G_u_22.1 4 rfl]
    refine ok_eq (fun c_29 c_29' => ?_) (fun c_29 => ?_)
    · refine ok_bM (kP_SqlReaderModel_takes I_u_22 (by decide)) (fun r_31 u_32 z_30 => ?_)
      obtain ⟨I_u_32, G_u_32, p_33, p_34, p_35⟩ := z_30
      have F_u_32 : Fr [2, 11, 30] [] u u_32 := Fr_tr F_u_22 G_u_32 rfl rfl
      have g_36 : (u_32.1 1).toInt = (u_22.1 1).toInt := by rw [G_u_32.1 1 rfl]
      have g_37 : (u_32.1 2).toInt = (u_22.1 2).toInt := by rw [G_u_32.1 2 rfl]
      have g_38 : (u_32.1 4).toInt = (u_22.1 4).toInt := by rw [G_u_32.1 4 rfl]
      refine ok_eq (fun c_39 c_39' => ?_) (fun c_39 => ?_)
      · rw [mM_SqlReaderModel_readQuery_J214]
        refine ok_seq (fun u_41 h_40 => ?_)
        have I_u_41 : IP u_41 := by rw [h_40]; exact I_u_32
        have F_u_41 : Fr [2, 11, 30] [] u u_41 := by rw [h_40]; exact Fr_ss F_u_32 rfl rfl
        have g_42 : (u_41.1 1).toInt = (u_32.1 1).toInt := by rw [h_40]; rfl
        have g_43 : (u_41.1 2).toInt = (u_32.1 2).toInt := by rw [h_40]; rfl
        have g_44 : (u_41.1 4).toInt = (u_32.1 4).toInt := by rw [h_40]; rfl
        have g_45 : (u_41.1 30).toInt = (u_32.1 30).toInt := by rw [h_40]; rfl
        refine ok_eq (fun c_46 c_46' => ?_) (fun c_46 => ?_)
        · refine ok_eq (fun c_47 c_47' => ?_) (fun c_47 => ?_)
          · refine ok_seq (fun u_49 h_48 => ?_)
            have I_u_49 : IP u_49 := by rw [h_48]; exact IP_bad I_u_41 (by have B_50 := IP_b I_u_41; omega) (by have B_51 := IP_b I_u_41; omega) (by have B_52 := IP_b I_u_41; omega)
            have F_u_49 : Fr [2, 11, 30] [] u u_49 := by rw [h_48]; exact Fr_ss F_u_41 rfl rfl
            have g_53 : (u_49.1 2).toInt = (1 : Int32).toInt := by rw [h_48]; rfl
            have g_54 : (u_49.1 1).toInt = (u_41.1 1).toInt := by rw [h_48]; rfl
            have g_55 : (u_49.1 4).toInt = (u_41.1 4).toInt := by rw [h_48]; rfl
            have g_56 : (u_49.1 30).toInt = (u_41.1 30).toInt := by rw [h_48]; rfl
            exact ok_some ⟨I_u_49, F_u_49, (by have B_57 := IP_b I; have B_58 := IP_b I_u_49; omega), (by have B_59 := IP_b I_u_49; omega), (by have B_60 := IP_b I_u_49; have B_61 := IP_b I; omega), (by have B_62 := IP_b I_u_49; have B_63 := IP_b I; omega), (by have B_64 := IP_b I_u_49; have B_65 := IP_b I; omega)⟩
          · refine ok_seq (fun u_67 h_66 => ?_)
            have I_u_67 : IP u_67 := by rw [h_66]; exact IP_bad I_u_41 (by have B_68 := IP_b I_u_41; omega) (by have B_69 := IP_b I_u_41; omega) (by have B_70 := IP_b I_u_41; omega)
            have F_u_67 : Fr [2, 11, 30] [] u u_67 := by rw [h_66]; exact Fr_ss F_u_41 rfl rfl
            have g_71 : (u_67.1 2).toInt = (0 : Int32).toInt := by rw [h_66]; rfl
            have g_72 : (u_67.1 1).toInt = (u_41.1 1).toInt := by rw [h_66]; rfl
            have g_73 : (u_67.1 4).toInt = (u_41.1 4).toInt := by rw [h_66]; rfl
            have g_74 : (u_67.1 30).toInt = (u_41.1 30).toInt := by rw [h_66]; rfl
            exact ok_some ⟨I_u_67, F_u_67, (by have B_75 := IP_b I; have B_76 := IP_b I_u_67; omega), (by have B_77 := IP_b I_u_67; omega), (by have B_78 := IP_b I_u_67; have B_79 := IP_b I; omega), (by have B_80 := IP_b I_u_67; have B_81 := IP_b I; omega), (by have B_82 := IP_b I_u_67; have B_83 := IP_b I; omega)⟩
        · refine ok_seq (fun u_85 h_84 => ?_)
          have I_u_85 : IP u_85 := by rw [h_84]; exact IP_bad I_u_41 (by have B_86 := IP_b I_u_41; omega) (by have B_87 := IP_b I_u_41; omega) (by have B_88 := IP_b I_u_41; omega)
          have F_u_85 : Fr [2, 11, 30] [] u u_85 := by rw [h_84]; exact Fr_ss F_u_41 rfl rfl
          have g_89 : (u_85.1 2).toInt = (1 : Int32).toInt := by rw [h_84]; rfl
          have g_90 : (u_85.1 1).toInt = (u_41.1 1).toInt := by rw [h_84]; rfl
          have g_91 : (u_85.1 4).toInt = (u_41.1 4).toInt := by rw [h_84]; rfl
          have g_92 : (u_85.1 30).toInt = (u_41.1 30).toInt := by rw [h_84]; rfl
          exact ok_some ⟨I_u_85, F_u_85, (by have B_93 := IP_b I; have B_94 := IP_b I_u_85; omega), (by have B_95 := IP_b I_u_85; omega), (by have B_96 := IP_b I_u_85; have B_97 := IP_b I; omega), (by have B_98 := IP_b I_u_85; have B_99 := IP_b I; omega), (by have B_100 := IP_b I_u_85; have B_101 := IP_b I; omega)⟩
      · rw [mM_SqlReaderModel_readQuery_J214]
        refine ok_seq (fun u_103 h_102 => ?_)
        have I_u_103 : IP u_103 := by rw [h_102]; exact I_u_32
        have F_u_103 : Fr [2, 11, 30] [] u u_103 := by rw [h_102]; exact Fr_ss F_u_32 rfl rfl
        have g_104 : (u_103.1 1).toInt = (u_32.1 1).toInt := by rw [h_102]; rfl
        have g_105 : (u_103.1 2).toInt = (u_32.1 2).toInt := by rw [h_102]; rfl
        have g_106 : (u_103.1 4).toInt = (u_32.1 4).toInt := by rw [h_102]; rfl
        have g_107 : (u_103.1 30).toInt = (u_32.1 30).toInt := by rw [h_102]; rfl
        refine ok_eq (fun c_108 c_108' => ?_) (fun c_108 => ?_)
        · refine ok_eq (fun c_109 c_109' => ?_) (fun c_109 => ?_)
          · refine ok_seq (fun u_111 h_110 => ?_)
            have I_u_111 : IP u_111 := by rw [h_110]; exact IP_bad I_u_103 (by have B_112 := IP_b I_u_103; omega) (by have B_113 := IP_b I_u_103; omega) (by have B_114 := IP_b I_u_103; omega)
            have F_u_111 : Fr [2, 11, 30] [] u u_111 := by rw [h_110]; exact Fr_ss F_u_103 rfl rfl
            have g_115 : (u_111.1 2).toInt = (1 : Int32).toInt := by rw [h_110]; rfl
            have g_116 : (u_111.1 1).toInt = (u_103.1 1).toInt := by rw [h_110]; rfl
            have g_117 : (u_111.1 4).toInt = (u_103.1 4).toInt := by rw [h_110]; rfl
            have g_118 : (u_111.1 30).toInt = (u_103.1 30).toInt := by rw [h_110]; rfl
            exact ok_some ⟨I_u_111, F_u_111, (by have B_119 := IP_b I; have B_120 := IP_b I_u_111; omega), (by have B_121 := IP_b I_u_111; omega), (by have B_122 := IP_b I_u_111; have B_123 := IP_b I; omega), (by have B_124 := IP_b I_u_111; have B_125 := IP_b I; omega), (by have B_126 := IP_b I_u_111; have B_127 := IP_b I; omega)⟩
          · refine ok_seq (fun u_129 h_128 => ?_)
            have I_u_129 : IP u_129 := by rw [h_128]; exact IP_bad I_u_103 (by have B_130 := IP_b I_u_103; omega) (by have B_131 := IP_b I_u_103; omega) (by have B_132 := IP_b I_u_103; omega)
            have F_u_129 : Fr [2, 11, 30] [] u u_129 := by rw [h_128]; exact Fr_ss F_u_103 rfl rfl
            have g_133 : (u_129.1 2).toInt = (0 : Int32).toInt := by rw [h_128]; rfl
            have g_134 : (u_129.1 1).toInt = (u_103.1 1).toInt := by rw [h_128]; rfl
            have g_135 : (u_129.1 4).toInt = (u_103.1 4).toInt := by rw [h_128]; rfl
            have g_136 : (u_129.1 30).toInt = (u_103.1 30).toInt := by rw [h_128]; rfl
            exact ok_some ⟨I_u_129, F_u_129, (by have B_137 := IP_b I; have B_138 := IP_b I_u_129; omega), (by have B_139 := IP_b I_u_129; omega), (by have B_140 := IP_b I_u_129; have B_141 := IP_b I; omega), (by have B_142 := IP_b I_u_129; have B_143 := IP_b I; omega), (by have B_144 := IP_b I_u_129; have B_145 := IP_b I; omega)⟩
        · refine ok_seq (fun u_147 h_146 => ?_)
          have I_u_147 : IP u_147 := by rw [h_146]; exact IP_bad I_u_103 (by have B_148 := IP_b I_u_103; omega) (by have B_149 := IP_b I_u_103; omega) (by have B_150 := IP_b I_u_103; omega)
          have F_u_147 : Fr [2, 11, 30] [] u u_147 := by rw [h_146]; exact Fr_ss F_u_103 rfl rfl
          have g_151 : (u_147.1 2).toInt = (1 : Int32).toInt := by rw [h_146]; rfl
          have g_152 : (u_147.1 1).toInt = (u_103.1 1).toInt := by rw [h_146]; rfl
          have g_153 : (u_147.1 4).toInt = (u_103.1 4).toInt := by rw [h_146]; rfl
          have g_154 : (u_147.1 30).toInt = (u_103.1 30).toInt := by rw [h_146]; rfl
          exact ok_some ⟨I_u_147, F_u_147, (by have B_155 := IP_b I; have B_156 := IP_b I_u_147; omega), (by have B_157 := IP_b I_u_147; omega), (by have B_158 := IP_b I_u_147; have B_159 := IP_b I; omega), (by have B_160 := IP_b I_u_147; have B_161 := IP_b I; omega), (by have B_162 := IP_b I_u_147; have B_163 := IP_b I; omega)⟩
    · rw [mM_SqlReaderModel_readQuery_J214]
      refine ok_seq (fun u_165 h_164 => ?_)
      have I_u_165 : IP u_165 := by rw [h_164]; exact I_u_22
      have F_u_165 : Fr [2, 11, 30] [] u u_165 := by rw [h_164]; exact Fr_ss F_u_22 rfl rfl
      have g_166 : (u_165.1 1).toInt = (u_22.1 1).toInt := by rw [h_164]; rfl
      have g_167 : (u_165.1 2).toInt = (u_22.1 2).toInt := by rw [h_164]; rfl
      have g_168 : (u_165.1 4).toInt = (u_22.1 4).toInt := by rw [h_164]; rfl
      have g_169 : (u_165.1 30).toInt = (u_22.1 30).toInt := by rw [h_164]; rfl
      refine ok_eq (fun c_170 c_170' => ?_) (fun c_170 => ?_)
      · refine ok_eq (fun c_171 c_171' => ?_) (fun c_171 => ?_)
        · refine ok_seq (fun u_173 h_172 => ?_)
          have I_u_173 : IP u_173 := by rw [h_172]; exact IP_bad I_u_165 (by have B_174 := IP_b I_u_165; omega) (by have B_175 := IP_b I_u_165; omega) (by have B_176 := IP_b I_u_165; omega)
          have F_u_173 : Fr [2, 11, 30] [] u u_173 := by rw [h_172]; exact Fr_ss F_u_165 rfl rfl
          have g_177 : (u_173.1 2).toInt = (1 : Int32).toInt := by rw [h_172]; rfl
          have g_178 : (u_173.1 1).toInt = (u_165.1 1).toInt := by rw [h_172]; rfl
          have g_179 : (u_173.1 4).toInt = (u_165.1 4).toInt := by rw [h_172]; rfl
          have g_180 : (u_173.1 30).toInt = (u_165.1 30).toInt := by rw [h_172]; rfl
          exact ok_some ⟨I_u_173, F_u_173, (by have B_181 := IP_b I; have B_182 := IP_b I_u_173; omega), (by have B_183 := IP_b I_u_173; omega), (by have B_184 := IP_b I_u_173; have B_185 := IP_b I; omega), (by have B_186 := IP_b I_u_173; have B_187 := IP_b I; omega), (by have B_188 := IP_b I_u_173; have B_189 := IP_b I; omega)⟩
        · refine ok_seq (fun u_191 h_190 => ?_)
          have I_u_191 : IP u_191 := by rw [h_190]; exact IP_bad I_u_165 (by have B_192 := IP_b I_u_165; omega) (by have B_193 := IP_b I_u_165; omega) (by have B_194 := IP_b I_u_165; omega)
          have F_u_191 : Fr [2, 11, 30] [] u u_191 := by rw [h_190]; exact Fr_ss F_u_165 rfl rfl
          have g_195 : (u_191.1 2).toInt = (0 : Int32).toInt := by rw [h_190]; rfl
          have g_196 : (u_191.1 1).toInt = (u_165.1 1).toInt := by rw [h_190]; rfl
          have g_197 : (u_191.1 4).toInt = (u_165.1 4).toInt := by rw [h_190]; rfl
          have g_198 : (u_191.1 30).toInt = (u_165.1 30).toInt := by rw [h_190]; rfl
          exact ok_some ⟨I_u_191, F_u_191, (by have B_199 := IP_b I; have B_200 := IP_b I_u_191; omega), (by have B_201 := IP_b I_u_191; omega), (by have B_202 := IP_b I_u_191; have B_203 := IP_b I; omega), (by have B_204 := IP_b I_u_191; have B_205 := IP_b I; omega), (by have B_206 := IP_b I_u_191; have B_207 := IP_b I; omega)⟩
      · refine ok_seq (fun u_209 h_208 => ?_)
        have I_u_209 : IP u_209 := by rw [h_208]; exact IP_bad I_u_165 (by have B_210 := IP_b I_u_165; omega) (by have B_211 := IP_b I_u_165; omega) (by have B_212 := IP_b I_u_165; omega)
        have F_u_209 : Fr [2, 11, 30] [] u u_209 := by rw [h_208]; exact Fr_ss F_u_165 rfl rfl
        have g_213 : (u_209.1 2).toInt = (1 : Int32).toInt := by rw [h_208]; rfl
        have g_214 : (u_209.1 1).toInt = (u_165.1 1).toInt := by rw [h_208]; rfl
        have g_215 : (u_209.1 4).toInt = (u_165.1 4).toInt := by rw [h_208]; rfl
        have g_216 : (u_209.1 30).toInt = (u_165.1 30).toInt := by rw [h_208]; rfl
        exact ok_some ⟨I_u_209, F_u_209, (by have B_217 := IP_b I; have B_218 := IP_b I_u_209; omega), (by have B_219 := IP_b I_u_209; omega), (by have B_220 := IP_b I_u_209; have B_221 := IP_b I; omega), (by have B_222 := IP_b I_u_209; have B_223 := IP_b I; omega), (by have B_224 := IP_b I_u_209; have B_225 := IP_b I; omega)⟩
