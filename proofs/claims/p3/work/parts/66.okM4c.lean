theorem kP_SqlReaderModel_chain_o {rc : Nat → Int32 → Int32 → Int32 → Int32 → Int32 → Int32 → St → Option (Int32 × St)} {n : Nat} (R : RMn rc n) {B : Int} {x1 : Int32} {x2 : Int32} {x3 : Int32} {x4 : Int32} {u : St} (I : IP u) (h0 : 0 ≤ x2.toInt) (h1 : x2.toInt ≤ 4000) (h2 : x3.toInt ≤ (u.1 1).toInt) (h3 : 0 ≤ x4.toInt) (h4 : x4.toInt ≤ 4000) (h5 : (u.1 4).toInt ≤ B) (h6 : 100000 ≤ B) (h7 : B + 32 * (x3.toInt - x2.toInt) + 16 ≤ 190000) (h8 : B ≤ 189990) (h9 : x2.toInt < x3.toInt) (h10 : x4.toInt ≤ 20) (h11 : (u.1 2).toInt = 0) (h12 : x1.toInt = 0 ∨ x1.toInt = 1 ∨ (4 ≤ x1.toInt ∧ x1.toInt ≤ 6)) (h13 : 18 * (21 - x4.toInt) - 2 * x1.toInt ≤ (n : Int) + 1) : okM (mM_SqlReaderModel_chain_o rc x1 x2 x3 x4 u) (fun r v => IP v ∧ Fr [2, 4, 5, 28] [10, 11, 12, 13, 14, 15, 16, 17, 18, 19, 20] u v ∧ (u.1 2).toInt ≤ (v.1 2).toInt ∧ ((u.1 4).toInt ≤ (v.1 4).toInt ∨ 200 < (v.1 4).toInt) ∧ r.toInt ≤ (v.1 4).toInt - 1 + 300000 * (v.1 2).toInt ∧ (v.1 4).toInt - 1 ≤ r.toInt + 300000 * (v.1 2).toInt ∧ 0 ≤ r.toInt ∧ (v.1 4).toInt ≤ B + 32 * ((x3.toInt - x2.toInt).toNat : Int) + 8 ∧ x2.toInt + 1 ≤ x3.toInt + 300000 * (v.1 2).toInt ∧ (v.1 4).toInt ≤ (u.1 4).toInt + 300000 * (1 - (u.1 2).toInt) ∧ (u.1 4).toInt ≤ (v.1 4).toInt + 300000 * (1 - (u.1 2).toInt)) := by
  have lm1 : (-1 : Int32).toInt = -1 := by decide
  have l0 : (0 : Int32).toInt = 0 := by decide
  have l1 : (1 : Int32).toInt = 1 := by decide
  have l2 : (2 : Int32).toInt = 2 := by decide
  have l4 : (4 : Int32).toInt = 4 := by decide
  have l6 : (6 : Int32).toInt = 6 := by decide
  have l8 : (8 : Int32).toInt = 8 := by decide
  have l11 : (11 : Int32).toInt = 11 := by decide
  have l18 : (18 : Int32).toInt = 18 := by decide
  have l20 : (20 : Int32).toInt = 20 := by decide
  have l21 : (21 : Int32).toInt = 21 := by decide
  have l27 : (27 : Int32).toInt = 27 := by decide
  have l32 : (32 : Int32).toInt = 32 := by decide
  have l200 : (200 : Int32).toInt = 200 := by decide
  have l2003 : (2003 : Int32).toInt = 2003 := by decide
  have l100000 : (100000 : Int32).toInt = 100000 := by decide
  have l189984 : (189984 : Int32).toInt = 189984 := by decide
  have l300000 : (300000 : Int32).toInt = 300000 := by decide
  rw [mM_SqlReaderModel_chain_o]
  refine okM_eq (fun c_1 c_1' => ?_) (fun c_1 => ?_)
  · refine okM_mono (kP_SqlReaderModel_chain_L32 (B := B) R _ I (by have FUe : FU = 100000 := rfl; have B_2 := IP_p I; omega) (by have FUe : FU = 100000 := rfl; have B_3 := IP_p I; omega) (by have FUe : FU = 100000 := rfl; have B_4 := IP_p I; omega) (by have FUe : FU = 100000 := rfl; have B_5 := IP_p I; omega) (by have FUe : FU = 100000 := rfl; have B_6 := IP_p I; omega) (by have FUe : FU = 100000 := rfl; have B_7 := IP_p I; omega) (by have FUe : FU = 100000 := rfl; have B_8 := IP_p I; omega) (by have FUe : FU = 100000 := rfl; have B_9 := IP_p I; omega) (by have FUe : FU = 100000 := rfl; have B_10 := IP_p I; omega) (by have FUe : FU = 100000 := rfl; have B_11 := IP_p I; omega) (by have FUe : FU = 100000 := rfl; have B_12 := IP_p I; omega) (by have FUe : FU = 100000 := rfl; have B_13 := IP_p I; omega) (by have FUe : FU = 100000 := rfl; have B_14 := IP_p I; omega) (by have FUe : FU = 100000 := rfl; have B_15 := IP_p I; omega) (by have FUe : FU = 100000 := rfl; have B_16 := IP_p I; omega) (by have FUe : FU = 100000 := rfl; have B_17 := IP_p I; omega) (by have FUe : FU = 100000 := rfl; have B_18 := IP_p I; omega) (by have FUe : FU = 100000 := rfl; have B_19 := IP_p I; omega) (by have FUe : FU = 100000 := rfl; have B_20 := IP_p I; omega) (by have FUe : FU = 100000 := rfl; have B_21 := IP_p I; omega) (by have FUe : FU = 100000 := rfl; have B_22 := IP_p I; omega)) (fun r_24 u_25 z_23 => ?_)
    obtain ⟨I_u_25, G_u_25, p_26, p_27, p_28, p_29, p_30, p_31⟩ := z_23
    have F_u_25 : Fr [2, 4, 5, 28] [10, 11, 12, 13, 14, 15, 16, 17, 18, 19, 20] u u_25 := Fr_tr (Fr_rfl u) G_u_25 rfl rfl
    have g_32 : (u_25.1 1).toInt = (u.1 1).toInt := by rw [G_u_25.1 1 rfl]
    exact ⟨I_u_25, F_u_25, (by have B_33 := IP_p I; have B_34 := IP_p I_u_25; omega), (by have B_35 := IP_p I; have B_36 := IP_p I_u_25; omega), (by have B_37 := IP_p I_u_25; omega), (by have B_38 := IP_p I_u_25; omega), (by omega), (by have B_39 := IP_p I_u_25; omega), (by have B_40 := IP_p I_u_25; omega), (by have B_41 := IP_p I_u_25; have B_42 := IP_p I; omega), (by have B_43 := IP_p I; have B_44 := IP_p I_u_25; omega)⟩
  · try have e_47 : (x1 + 1 : Int32).toInt = (x1 : Int32).toInt + (1 : Int32).toInt := by have B_48 := IP_p I; exact add_i (by omega) (by omega)
    refine okM_seq (fun y_46 h_45 => ?_)
    have h_45' : y_46.toInt = ((x1 + 1) : Int32).toInt := by rw [h_45]
    refine okM_mono (kP_SqlReaderModel_chain_L32 (B := B) R _ I (by have FUe : FU = 100000 := rfl; have B_49 := IP_p I; omega) (by have FUe : FU = 100000 := rfl; have B_50 := IP_p I; omega) (by have FUe : FU = 100000 := rfl; have B_51 := IP_p I; omega) (by have FUe : FU = 100000 := rfl; have B_52 := IP_p I; omega) (by have FUe : FU = 100000 := rfl; have B_53 := IP_p I; omega) (by have FUe : FU = 100000 := rfl; have B_54 := IP_p I; omega) (by have FUe : FU = 100000 := rfl; have B_55 := IP_p I; omega) (by have FUe : FU = 100000 := rfl; have B_56 := IP_p I; omega) (by have FUe : FU = 100000 := rfl; have B_57 := IP_p I; omega) (by have FUe : FU = 100000 := rfl; have B_58 := IP_p I; omega) (by have FUe : FU = 100000 := rfl; have B_59 := IP_p I; omega) (by have FUe : FU = 100000 := rfl; have B_60 := IP_p I; omega) (by have FUe : FU = 100000 := rfl; have B_61 := IP_p I; omega) (by have FUe : FU = 100000 := rfl; have B_62 := IP_p I; omega) (by have FUe : FU = 100000 := rfl; have B_63 := IP_p I; omega) (by have FUe : FU = 100000 := rfl; have B_64 := IP_p I; omega) (by have FUe : FU = 100000 := rfl; have B_65 := IP_p I; omega) (by have FUe : FU = 100000 := rfl; have B_66 := IP_p I; omega) (by have FUe : FU = 100000 := rfl; have B_67 := IP_p I; omega) (by have FUe : FU = 100000 := rfl; have B_68 := IP_p I; omega) (by have FUe : FU = 100000 := rfl; have B_69 := IP_p I; omega)) (fun r_71 u_72 z_70 => ?_)
    obtain ⟨I_u_72, G_u_72, p_73, p_74, p_75, p_76, p_77, p_78⟩ := z_70
    have F_u_72 : Fr [2, 4, 5, 28] [10, 11, 12, 13, 14, 15, 16, 17, 18, 19, 20] u u_72 := Fr_tr (Fr_rfl u) G_u_72 rfl rfl
    have g_79 : (u_72.1 1).toInt = (u.1 1).toInt := by rw [G_u_72.1 1 rfl]
    exact ⟨I_u_72, F_u_72, (by have B_80 := IP_p I; have B_81 := IP_p I_u_72; omega), (by have B_82 := IP_p I; have B_83 := IP_p I_u_72; omega), (by have B_84 := IP_p I_u_72; omega), (by have B_85 := IP_p I_u_72; omega), (by omega), (by have B_86 := IP_p I_u_72; omega), (by have B_87 := IP_p I_u_72; omega), (by have B_88 := IP_p I_u_72; have B_89 := IP_p I; omega), (by have B_90 := IP_p I; have B_91 := IP_p I_u_72; omega)⟩
set_option maxHeartbeats 20000000 in
theorem kP_SqlReaderModel_primary_J70 {rc : Nat → Int32 → Int32 → Int32 → Int32 → Int32 → Int32 → St → Option (Int32 × St)} {n : Nat} (R : RMn rc n) {B : Int} {x1 : Int32} {x2 : Int32} {x3 : Int32} {x4 : Int32} {s0 : Int32} {u : St} (I : IP u) (h0 : 0 ≤ x1.toInt) (h1 : x1.toInt ≤ 4000) (h2 : x2.toInt ≤ (u.1 1).toInt) (h3 : 0 ≤ x3.toInt) (h4 : x3.toInt ≤ 4000) (h5 : (u.1 4).toInt ≤ B) (h6 : 100000 ≤ B) (h7 : B + 32 * (x2.toInt - x1.toInt) + 16 ≤ 190000) (h8 : B ≤ 189990) (h9 : x1.toInt < x2.toInt) (h10 : x3.toInt ≤ 20) (h11 : (u.1 2).toInt = 0) (h12 : 18 * (21 - x3.toInt) - 16 ≤ (n : Int) + 1) (h13 : 6 ≤ x4.toInt) (h14 : x4.toInt ≤ 9) : okM (mM_SqlReaderModel_primary_J70 rc x1 x2 x3 x4 s0 u) (fun r v => IP v ∧ Fr [2, 4, 5, 28] [10, 11, 12, 13, 14, 15, 16, 17, 18, 19, 20] u v ∧ (u.1 2).toInt ≤ (v.1 2).toInt ∧ ((u.1 4).toInt ≤ (v.1 4).toInt ∨ 200 < (v.1 4).toInt) ∧ r.toInt ≤ (v.1 4).toInt - 1 + 300000 * (v.1 2).toInt ∧ (v.1 4).toInt - 1 ≤ r.toInt + 300000 * (v.1 2).toInt ∧ 0 ≤ r.toInt ∧ (v.1 4).toInt ≤ B + 32 * ((x2.toInt - x1.toInt).toNat : Int) + 8 ∧ x1.toInt + 1 ≤ x2.toInt + 300000 * (v.1 2).toInt ∧ (v.1 4).toInt ≤ (u.1 4).toInt + 300000 * (1 - (u.1 2).toInt) ∧ (u.1 4).toInt ≤ (v.1 4).toInt + 300000 * (1 - (u.1 2).toInt)) := by
  have lm1 : (-1 : Int32).toInt = -1 := by decide
  have l0 : (0 : Int32).toInt = 0 := by decide
  have l1 : (1 : Int32).toInt = 1 := by decide
  have l2 : (2 : Int32).toInt = 2 := by decide
  have l4 : (4 : Int32).toInt = 4 := by decide
  have l5 : (5 : Int32).toInt = 5 := by decide
  have l6 : (6 : Int32).toInt = 6 := by decide
  have l8 : (8 : Int32).toInt = 8 := by decide
  have l9 : (9 : Int32).toInt = 9 := by decide
  have l16 : (16 : Int32).toInt = 16 := by decide
  have l17 : (17 : Int32).toInt = 17 := by decide
  have l18 : (18 : Int32).toInt = 18 := by decide
  have l21 : (21 : Int32).toInt = 21 := by decide
  have l22 : (22 : Int32).toInt = 22 := by decide
  have l28 : (28 : Int32).toInt = 28 := by decide
  have l29 : (29 : Int32).toInt = 29 := by decide
  have l32 : (32 : Int32).toInt = 32 := by decide
  have l79 : (79 : Int32).toInt = 79 := by decide
  have l200 : (200 : Int32).toInt = 200 := by decide
  have l2000 : (2000 : Int32).toInt = 2000 := by decide
  have l4000 : (4000 : Int32).toInt = 4000 := by decide
  have l100000 : (100000 : Int32).toInt = 100000 := by decide
  have l189990 : (189990 : Int32).toInt = 189990 := by decide
  have l190000 : (190000 : Int32).toInt = 190000 := by decide
  have l199000 : (199000 : Int32).toInt = 199000 := by decide
  have l300000 : (300000 : Int32).toInt = 300000 := by decide
  rw [mM_SqlReaderModel_primary_J70]
  refine okM_eq (fun c_1 c_1' => ?_) (fun c_1 => ?_)
  · refine okM_eq (fun c_2 c_2' => ?_) (fun c_2 => ?_)
    · rw [mM_SqlReaderModel_primary_J119]
      refine okM_gd (by decide) ?_
      refine okM_seq (fun u_4 h_3 => ?_)
      have I_u_4 : IP u_4 := by rw [h_3]; exact IP_bad I (by have B_5 := IP_b I; omega) (by have B_6 := IP_b I; omega) (by have B_7 := IP_b I; omega)
      have F_u_4 : Fr [2, 4, 5, 28] [10, 11, 12, 13, 14, 15, 16, 17, 18, 19, 20] u u_4 := by rw [h_3]; exact Fr_ss (Fr_rfl u) rfl rfl
      have g_8 : (u_4.1 2).toInt = (1 : Int32).toInt := by rw [h_3]; rfl
      have g_9 : (u_4.1 1).toInt = (u.1 1).toInt := by rw [h_3]; rfl
      have g_10 : (u_4.1 4).toInt = (u.1 4).toInt := by rw [h_3]; rfl
      refine okM_eq (fun c_11 c_11' => ?_) (fun c_11 => ?_)
      · refine okM_eq (fun c_12 c_12' => ?_) (fun c_12 => ?_)
        · try have e_13 : (x1 + 2 : Int32).toInt = (x1 : Int32).toInt + (2 : Int32).toInt := by have B_14 := IP_p I; exact add_i (by omega) (by omega)
          try have e_15 : (x2 - 1 : Int32).toInt = (x2 : Int32).toInt - (1 : Int32).toInt := by have B_16 := IP_p I; exact sub_i (by omega) (by omega)
          try have e_17 : (x3 + 1 : Int32).toInt = (x3 : Int32).toInt + (1 : Int32).toInt := by have B_18 := IP_p I; exact add_i (by omega) (by omega)
          refine okM_bM (R.2.2.2.2.2 (B := B) I_u_4 (by have B_20 := IP_p I_u_4; omega) (by have B_21 := IP_p I_u_4; omega) (by have B_22 := IP_p I_u_4; omega) (by have B_23 := IP_p I_u_4; omega) (by have B_24 := IP_p I_u_4; omega) (by have B_25 := IP_p I_u_4; omega) (by have B_26 := IP_p I_u_4; omega) (by have B_27 := IP_p I_u_4; omega) (by have B_28 := IP_p I_u_4; omega) (by have B_29 := IP_p I_u_4; omega) (by have B_30 := IP_p I_u_4; omega) (by have B_31 := IP_p I_u_4; omega) (by have B_32 := IP_p I_u_4; omega) (by have B_33 := IP_p I_u_4; omega)) (fun r_34 u_35 z_19 => ?_)
          obtain ⟨I_u_35, G_u_35, p_36, p_37, p_38, p_39, p_40, p_41, p_42, p_43, p_44⟩ := z_19
          have F_u_35 : Fr [2, 4, 5, 28] [10, 11, 12, 13, 14, 15, 16, 17, 18, 19, 20] u u_35 := Fr_tr F_u_4 G_u_35 rfl rfl
          have g_45 : (u_35.1 1).toInt = (u_4.1 1).toInt := by rw [G_u_35.1 1 rfl]
          refine okM_bM (kP_SqlReaderModel_add I_u_35 (by have FUe : FU = 100000 := rfl; have B_47 := IP_p I_u_35; have B_48 := IP_p I; omega) (by have FUe : FU = 100000 := rfl; have B_49 := IP_p I_u_35; have B_50 := IP_p I; omega) (by have FUe : FU = 100000 := rfl; have B_51 := IP_p I_u_35; have B_52 := IP_p I; omega) (by have FUe : FU = 100000 := rfl; have B_53 := IP_p I_u_35; have B_54 := IP_p I; omega) (by have FUe : FU = 100000 := rfl; have B_55 := IP_p I_u_35; have B_56 := IP_p I; omega) (by have FUe : FU = 100000 := rfl; have B_57 := IP_p I_u_35; have B_58 := IP_p I; omega) (by have FUe : FU = 100000 := rfl; have B_59 := IP_p I_u_35; have B_60 := IP_p I; omega)) (fun r_61 u_62 z_46 => ?_)
          obtain ⟨I_u_62, G_u_62, p_63, p_64, p_65⟩ := z_46
          have F_u_62 : Fr [2, 4, 5, 28] [10, 11, 12, 13, 14, 15, 16, 17, 18, 19, 20] u u_62 := Fr_tr F_u_35 G_u_62 rfl rfl
          have g_66 : (u_62.1 1).toInt = (u_35.1 1).toInt := by rw [G_u_62.1 1 rfl]
          have g_67 : (u_62.1 2).toInt = (u_35.1 2).toInt := by rw [G_u_62.1 2 rfl]
          exact okM_some ⟨I_u_62, F_u_62, (by have B_68 := IP_p I; have B_69 := IP_p I_u_62; omega), (by have B_70 := IP_p I; have B_71 := IP_p I_u_62; omega), (by have B_72 := IP_p I_u_62; omega), (by have B_73 := IP_p I_u_62; omega), (by omega), (by have B_74 := IP_p I_u_62; omega), (by have B_75 := IP_p I_u_62; omega), (by have B_76 := IP_p I_u_62; have B_77 := IP_p I; omega), (by have B_78 := IP_p I; have B_79 := IP_p I_u_62; omega)⟩
        · refine okM_bM (kP_SqlReaderModel_add I_u_4 (by have FUe : FU = 100000 := rfl; have B_81 := IP_p I_u_4; have B_82 := IP_p I; omega) (by have FUe : FU = 100000 := rfl; have B_83 := IP_p I_u_4; have B_84 := IP_p I; omega) (by have FUe : FU = 100000 := rfl; have B_85 := IP_p I_u_4; have B_86 := IP_p I; omega) (by have FUe : FU = 100000 := rfl; have B_87 := IP_p I_u_4; have B_88 := IP_p I; omega) (by have FUe : FU = 100000 := rfl; have B_89 := IP_p I_u_4; have B_90 := IP_p I; omega) (by have FUe : FU = 100000 := rfl; have B_91 := IP_p I_u_4; have B_92 := IP_p I; omega) (by have FUe : FU = 100000 := rfl; have B_93 := IP_p I_u_4; have B_94 := IP_p I; omega)) (fun r_95 u_96 z_80 => ?_)
          obtain ⟨I_u_96, G_u_96, p_97, p_98, p_99⟩ := z_80
          have F_u_96 : Fr [2, 4, 5, 28] [10, 11, 12, 13, 14, 15, 16, 17, 18, 19, 20] u u_96 := Fr_tr F_u_4 G_u_96 rfl rfl
          have g_100 : (u_96.1 1).toInt = (u_4.1 1).toInt := by rw [G_u_96.1 1 rfl]
          have g_101 : (u_96.1 2).toInt = (u_4.1 2).toInt := by rw [G_u_96.1 2 rfl]
          exact okM_some ⟨I_u_96, F_u_96, (by have B_102 := IP_p I; have B_103 := IP_p I_u_96; omega), (by have B_104 := IP_p I; have B_105 := IP_p I_u_96; omega), (by have B_106 := IP_p I_u_96; omega), (by have B_107 := IP_p I_u_96; omega), (by omega), (by have B_108 := IP_p I_u_96; omega), (by have B_109 := IP_p I_u_96; omega), (by have B_110 := IP_p I_u_96; have B_111 := IP_p I; omega), (by have B_112 := IP_p I; have B_113 := IP_p I_u_96; omega)⟩
      · refine okM_bM (kP_SqlReaderModel_add I_u_4 (by have FUe : FU = 100000 := rfl; have B_115 := IP_p I_u_4; have B_116 := IP_p I; omega) (by have FUe : FU = 100000 := rfl; have B_117 := IP_p I_u_4; have B_118 := IP_p I; omega) (by have FUe : FU = 100000 := rfl; have B_119 := IP_p I_u_4; have B_120 := IP_p I; omega) (by have FUe : FU = 100000 := rfl; have B_121 := IP_p I_u_4; have B_122 := IP_p I; omega) (by have FUe : FU = 100000 := rfl; have B_123 := IP_p I_u_4; have B_124 := IP_p I; omega) (by have FUe : FU = 100000 := rfl; have B_125 := IP_p I_u_4; have B_126 := IP_p I; omega) (by have FUe : FU = 100000 := rfl; have B_127 := IP_p I_u_4; have B_128 := IP_p I; omega)) (fun r_129 u_130 z_114 => ?_)
        obtain ⟨I_u_130, G_u_130, p_131, p_132, p_133⟩ := z_114
        have F_u_130 : Fr [2, 4, 5, 28] [10, 11, 12, 13, 14, 15, 16, 17, 18, 19, 20] u u_130 := Fr_tr F_u_4 G_u_130 rfl rfl
        have g_134 : (u_130.1 1).toInt = (u_4.1 1).toInt := by rw [G_u_130.1 1 rfl]
        have g_135 : (u_130.1 2).toInt = (u_4.1 2).toInt := by rw [G_u_130.1 2 rfl]
        exact okM_some ⟨I_u_130, F_u_130, (by have B_136 := IP_p I; have B_137 := IP_p I_u_130; omega), (by have B_138 := IP_p I; have B_139 := IP_p I_u_130; omega), (by have B_140 := IP_p I_u_130; omega), (by have B_141 := IP_p I_u_130; omega), (by omega), (by have B_142 := IP_p I_u_130; omega), (by have B_143 := IP_p I_u_130; omega), (by have B_144 := IP_p I_u_130; have B_145 := IP_p I; omega), (by have B_146 := IP_p I; have B_147 := IP_p I_u_130; omega)⟩
    · try have e_148 : (x1 + 1 : Int32).toInt = (x1 : Int32).toInt + (1 : Int32).toInt := by have B_149 := IP_p I; exact add_i (by omega) (by omega)
      refine okM_bP (kM_SqlReaderModel_is (IP_IW I) (by decide) (by have FUe : FU = 100000 := rfl; have B_151 := IP_p I; omega)) (fun r_152 z_150 => ?_)
      obtain ⟨p_153, p_154, p_155⟩ := z_150
      refine okM_eq (fun c_156 c_156' => ?_) (fun c_156 => ?_)
      · rw [mM_SqlReaderModel_primary_J119]
        refine okM_gd (by decide) ?_
        refine okM_seq (fun u_158 h_157 => ?_)
        have I_u_158 : IP u_158 := by rw [h_157]; exact IP_bad I (by have B_159 := IP_b I; omega) (by have B_160 := IP_b I; omega) (by have B_161 := IP_b I; omega)
        have F_u_158 : Fr [2, 4, 5, 28] [10, 11, 12, 13, 14, 15, 16, 17, 18, 19, 20] u u_158 := by rw [h_157]; exact Fr_ss (Fr_rfl u) rfl rfl
        have g_162 : (u_158.1 2).toInt = (1 : Int32).toInt := by rw [h_157]; rfl
        have g_163 : (u_158.1 1).toInt = (u.1 1).toInt := by rw [h_157]; rfl
        have g_164 : (u_158.1 4).toInt = (u.1 4).toInt := by rw [h_157]; rfl
        refine okM_eq (fun c_165 c_165' => ?_) (fun c_165 => ?_)
        · refine okM_eq (fun c_166 c_166' => ?_) (fun c_166 => ?_)
          · try have e_167 : (x1 + 2 : Int32).toInt = (x1 : Int32).toInt + (2 : Int32).toInt := by have B_168 := IP_p I; exact add_i (by omega) (by omega)
            try have e_169 : (x2 - 1 : Int32).toInt = (x2 : Int32).toInt - (1 : Int32).toInt := by have B_170 := IP_p I; exact sub_i (by omega) (by omega)
            try have e_171 : (x3 + 1 : Int32).toInt = (x3 : Int32).toInt + (1 : Int32).toInt := by have B_172 := IP_p I; exact add_i (by omega) (by omega)
            refine okM_bM (R.2.2.2.2.2 (B := B) I_u_158 (by have B_174 := IP_p I_u_158; omega) (by have B_175 := IP_p I_u_158; omega) (by have B_176 := IP_p I_u_158; omega) (by have B_177 := IP_p I_u_158; omega) (by have B_178 := IP_p I_u_158; omega) (by have B_179 := IP_p I_u_158; omega) (by have B_180 := IP_p I_u_158; omega) (by have B_181 := IP_p I_u_158; omega) (by have B_182 := IP_p I_u_158; omega) (by have B_183 := IP_p I_u_158; omega) (by have B_184 := IP_p I_u_158; omega) (by have B_185 := IP_p I_u_158; omega) (by have B_186 := IP_p I_u_158; omega) (by have B_187 := IP_p I_u_158; omega)) (fun r_188 u_189 z_173 => ?_)
            obtain ⟨I_u_189, G_u_189, p_190, p_191, p_192, p_193, p_194, p_195, p_196, p_197, p_198⟩ := z_173
            have F_u_189 : Fr [2, 4, 5, 28] [10, 11, 12, 13, 14, 15, 16, 17, 18, 19, 20] u u_189 := Fr_tr F_u_158 G_u_189 rfl rfl
            have g_199 : (u_189.1 1).toInt = (u_158.1 1).toInt := by rw [G_u_189.1 1 rfl]
            refine okM_bM (kP_SqlReaderModel_add I_u_189 (by have FUe : FU = 100000 := rfl; have B_201 := IP_p I_u_189; have B_202 := IP_p I; omega) (by have FUe : FU = 100000 := rfl; have B_203 := IP_p I_u_189; have B_204 := IP_p I; omega) (by have FUe : FU = 100000 := rfl; have B_205 := IP_p I_u_189; have B_206 := IP_p I; omega) (by have FUe : FU = 100000 := rfl; have B_207 := IP_p I_u_189; have B_208 := IP_p I; omega) (by have FUe : FU = 100000 := rfl; have B_209 := IP_p I_u_189; have B_210 := IP_p I; omega) (by have FUe : FU = 100000 := rfl; have B_211 := IP_p I_u_189; have B_212 := IP_p I; omega) (by have FUe : FU = 100000 := rfl; have B_213 := IP_p I_u_189; have B_214 := IP_p I; omega)) (fun r_215 u_216 z_200 => ?_)
            obtain ⟨I_u_216, G_u_216, p_217, p_218, p_219⟩ := z_200
            have F_u_216 : Fr [2, 4, 5, 28] [10, 11, 12, 13, 14, 15, 16, 17, 18, 19, 20] u u_216 := Fr_tr F_u_189 G_u_216 rfl rfl
            have g_220 : (u_216.1 1).toInt = (u_189.1 1).toInt := by rw [G_u_216.1 1 rfl]
            have g_221 : (u_216.1 2).toInt = (u_189.1 2).toInt := by rw [G_u_216.1 2 rfl]
            exact okM_some ⟨I_u_216, F_u_216, (by have B_222 := IP_p I; have B_223 := IP_p I_u_216; omega), (by have B_224 := IP_p I; have B_225 := IP_p I_u_216; omega), (by have B_226 := IP_p I_u_216; omega), (by have B_227 := IP_p I_u_216; omega), (by omega), (by have B_228 := IP_p I_u_216; omega), (by have B_229 := IP_p I_u_216; omega), (by have B_230 := IP_p I_u_216; have B_231 := IP_p I; omega), (by have B_232 := IP_p I; have B_233 := IP_p I_u_216; omega)⟩
          · refine okM_bM (kP_SqlReaderModel_add I_u_158 (by have FUe : FU = 100000 := rfl; have B_235 := IP_p I_u_158; have B_236 := IP_p I; omega) (by have FUe : FU = 100000 := rfl; have B_237 := IP_p I_u_158; have B_238 := IP_p I; omega) (by have FUe : FU = 100000 := rfl; have B_239 := IP_p I_u_158; have B_240 := IP_p I; omega) (by have FUe : FU = 100000 := rfl; have B_241 := IP_p I_u_158; have B_242 := IP_p I; omega) (by have FUe : FU = 100000 := rfl; have B_243 := IP_p I_u_158; have B_244 := IP_p I; omega) (by have FUe : FU = 100000 := rfl; have B_245 := IP_p I_u_158; have B_246 := IP_p I; omega) (by have FUe : FU = 100000 := rfl; have B_247 := IP_p I_u_158; have B_248 := IP_p I; omega)) (fun r_249 u_250 z_234 => ?_)
            obtain ⟨I_u_250, G_u_250, p_251, p_252, p_253⟩ := z_234
            have F_u_250 : Fr [2, 4, 5, 28] [10, 11, 12, 13, 14, 15, 16, 17, 18, 19, 20] u u_250 := Fr_tr F_u_158 G_u_250 rfl rfl
            have g_254 : (u_250.1 1).toInt = (u_158.1 1).toInt := by rw [G_u_250.1 1 rfl]
            have g_255 : (u_250.1 2).toInt = (u_158.1 2).toInt := by rw [G_u_250.1 2 rfl]
            exact okM_some ⟨I_u_250, F_u_250, (by have B_256 := IP_p I; have B_257 := IP_p I_u_250; omega), (by have B_258 := IP_p I; have B_259 := IP_p I_u_250; omega), (by have B_260 := IP_p I_u_250; omega), (by have B_261 := IP_p I_u_250; omega), (by omega), (by have B_262 := IP_p I_u_250; omega), (by have B_263 := IP_p I_u_250; omega), (by have B_264 := IP_p I_u_250; have B_265 := IP_p I; omega), (by have B_266 := IP_p I; have B_267 := IP_p I_u_250; omega)⟩
        · refine okM_bM (kP_SqlReaderModel_add I_u_158 (by have FUe : FU = 100000 := rfl; have B_269 := IP_p I_u_158; have B_270 := IP_p I; omega) (by have FUe : FU = 100000 := rfl; have B_271 := IP_p I_u_158; have B_272 := IP_p I; omega) (by have FUe : FU = 100000 := rfl; have B_273 := IP_p I_u_158; have B_274 := IP_p I; omega) (by have FUe : FU = 100000 := rfl; have B_275 := IP_p I_u_158; have B_276 := IP_p I; omega) (by have FUe : FU = 100000 := rfl; have B_277 := IP_p I_u_158; have B_278 := IP_p I; omega) (by have FUe : FU = 100000 := rfl; have B_279 := IP_p I_u_158; have B_280 := IP_p I; omega) (by have FUe : FU = 100000 := rfl; have B_281 := IP_p I_u_158; have B_282 := IP_p I; omega)) (fun r_283 u_284 z_268 => ?_)
          obtain ⟨I_u_284, G_u_284, p_285, p_286, p_287⟩ := z_268
          have F_u_284 : Fr [2, 4, 5, 28] [10, 11, 12, 13, 14, 15, 16, 17, 18, 19, 20] u u_284 := Fr_tr F_u_158 G_u_284 rfl rfl
          have g_288 : (u_284.1 1).toInt = (u_158.1 1).toInt := by rw [G_u_284.1 1 rfl]
          have g_289 : (u_284.1 2).toInt = (u_158.1 2).toInt := by rw [G_u_284.1 2 rfl]
          exact okM_some ⟨I_u_284, F_u_284, (by have B_290 := IP_p I; have B_291 := IP_p I_u_284; omega), (by have B_292 := IP_p I; have B_293 := IP_p I_u_284; omega), (by have B_294 := IP_p I_u_284; omega), (by have B_295 := IP_p I_u_284; omega), (by omega), (by have B_296 := IP_p I_u_284; omega), (by have B_297 := IP_p I_u_284; omega), (by have B_298 := IP_p I_u_284; have B_299 := IP_p I; omega), (by have B_300 := IP_p I; have B_301 := IP_p I_u_284; omega)⟩
      · try have e_302 : (x1 + 1 : Int32).toInt = (x1 : Int32).toInt + (1 : Int32).toInt := by have B_303 := IP_p I; exact add_i (by omega) (by omega)
        refine okM_bP (kM_SqlReaderModel_closing (IP_IW I) (by have FUe : FU = 100000 := rfl; have B_305 := IP_p I; omega) (by have FUe : FU = 100000 := rfl; have B_306 := IP_p I; omega) (by have FUe : FU = 100000 := rfl; have B_307 := IP_p I; omega)) (fun r_308 z_304 => ?_)
        have p_309 := z_304
        try have e_310 : (x2 - 1 : Int32).toInt = (x2 : Int32).toInt - (1 : Int32).toInt := by have B_311 := IP_p I; exact sub_i (by omega) (by omega)
        refine okM_eq (fun c_312 c_312' => ?_) (fun c_312 => ?_)
        · rw [mM_SqlReaderModel_primary_J119]
          refine okM_gd (by decide) ?_
          refine okM_seq (fun u_314 h_313 => ?_)
          have I_u_314 : IP u_314 := by rw [h_313]; exact IP_bad I (by have B_315 := IP_b I; omega) (by have B_316 := IP_b I; omega) (by have B_317 := IP_b I; omega)
          have F_u_314 : Fr [2, 4, 5, 28] [10, 11, 12, 13, 14, 15, 16, 17, 18, 19, 20] u u_314 := by rw [h_313]; exact Fr_ss (Fr_rfl u) rfl rfl
          have g_318 : (u_314.1 2).toInt = (0 : Int32).toInt := by rw [h_313]; rfl
          have g_319 : (u_314.1 1).toInt = (u.1 1).toInt := by rw [h_313]; rfl
          have g_320 : (u_314.1 4).toInt = (u.1 4).toInt := by rw [h_313]; rfl
          refine okM_eq (fun c_321 c_321' => ?_) (fun c_321 => ?_)
          · refine okM_eq (fun c_322 c_322' => ?_) (fun c_322 => ?_)
            · try have e_323 : (x1 + 2 : Int32).toInt = (x1 : Int32).toInt + (2 : Int32).toInt := by have B_324 := IP_p I; exact add_i (by omega) (by omega)
              try have e_325 : (x2 - 1 : Int32).toInt = (x2 : Int32).toInt - (1 : Int32).toInt := by have B_326 := IP_p I; exact sub_i (by omega) (by omega)
              try have e_327 : (x3 + 1 : Int32).toInt = (x3 : Int32).toInt + (1 : Int32).toInt := by have B_328 := IP_p I; exact add_i (by omega) (by omega)
              refine okM_bM (R.2.2.2.2.2 (B := B) I_u_314 (by have B_330 := IP_p I_u_314; omega) (by have B_331 := IP_p I_u_314; omega) (by have B_332 := IP_p I_u_314; omega) (by have B_333 := IP_p I_u_314; omega) (by have B_334 := IP_p I_u_314; omega) (by have B_335 := IP_p I_u_314; omega) (by have B_336 := IP_p I_u_314; omega) (by have B_337 := IP_p I_u_314; omega) (by have B_338 := IP_p I_u_314; omega) (by have B_339 := IP_p I_u_314; omega) (by have B_340 := IP_p I_u_314; omega) (by have B_341 := IP_p I_u_314; omega) (by have B_342 := IP_p I_u_314; omega) (by have B_343 := IP_p I_u_314; omega)) (fun r_344 u_345 z_329 => ?_)
              obtain ⟨I_u_345, G_u_345, p_346, p_347, p_348, p_349, p_350, p_351, p_352, p_353, p_354⟩ := z_329
              have F_u_345 : Fr [2, 4, 5, 28] [10, 11, 12, 13, 14, 15, 16, 17, 18, 19, 20] u u_345 := Fr_tr F_u_314 G_u_345 rfl rfl
              have g_355 : (u_345.1 1).toInt = (u_314.1 1).toInt := by rw [G_u_345.1 1 rfl]
              refine okM_bM (kP_SqlReaderModel_add I_u_345 (by have FUe : FU = 100000 := rfl; have B_357 := IP_p I_u_345; have B_358 := IP_p I; omega) (by have FUe : FU = 100000 := rfl; have B_359 := IP_p I_u_345; have B_360 := IP_p I; omega) (by have FUe : FU = 100000 := rfl; have B_361 := IP_p I_u_345; have B_362 := IP_p I; omega) (by have FUe : FU = 100000 := rfl; have B_363 := IP_p I_u_345; have B_364 := IP_p I; omega) (by have FUe : FU = 100000 := rfl; have B_365 := IP_p I_u_345; have B_366 := IP_p I; omega) (by have FUe : FU = 100000 := rfl; have B_367 := IP_p I_u_345; have B_368 := IP_p I; omega) (by have FUe : FU = 100000 := rfl; have B_369 := IP_p I_u_345; have B_370 := IP_p I; omega)) (fun r_371 u_372 z_356 => ?_)
              obtain ⟨I_u_372, G_u_372, p_373, p_374, p_375⟩ := z_356
              have F_u_372 : Fr [2, 4, 5, 28] [10, 11, 12, 13, 14, 15, 16, 17, 18, 19, 20] u u_372 := Fr_tr F_u_345 G_u_372 rfl rfl
              have g_376 : (u_372.1 1).toInt = (u_345.1 1).toInt := by rw [G_u_372.1 1 rfl]
              have g_377 : (u_372.1 2).toInt = (u_345.1 2).toInt := by rw [G_u_372.1 2 rfl]
              exact okM_some ⟨I_u_372, F_u_372, (by have B_378 := IP_p I; have B_379 := IP_p I_u_372; omega), (by have B_380 := IP_p I; have B_381 := IP_p I_u_372; omega), (by have B_382 := IP_p I_u_372; omega), (by have B_383 := IP_p I_u_372; omega), (by omega), (by have B_384 := IP_p I_u_372; omega), (by have B_385 := IP_p I_u_372; omega), (by have B_386 := IP_p I_u_372; have B_387 := IP_p I; omega), (by have B_388 := IP_p I; have B_389 := IP_p I_u_372; omega)⟩
            · refine okM_bM (kP_SqlReaderModel_add I_u_314 (by have FUe : FU = 100000 := rfl; have B_391 := IP_p I_u_314; have B_392 := IP_p I; omega) (by have FUe : FU = 100000 := rfl; have B_393 := IP_p I_u_314; have B_394 := IP_p I; omega) (by have FUe : FU = 100000 := rfl; have B_395 := IP_p I_u_314; have B_396 := IP_p I; omega) (by have FUe : FU = 100000 := rfl; have B_397 := IP_p I_u_314; have B_398 := IP_p I; omega) (by have FUe : FU = 100000 := rfl; have B_399 := IP_p I_u_314; have B_400 := IP_p I; omega) (by have FUe : FU = 100000 := rfl; have B_401 := IP_p I_u_314; have B_402 := IP_p I; omega) (by have FUe : FU = 100000 := rfl; have B_403 := IP_p I_u_314; have B_404 := IP_p I; omega)) (fun r_405 u_406 z_390 => ?_)
              obtain ⟨I_u_406, G_u_406, p_407, p_408, p_409⟩ := z_390
              have F_u_406 : Fr [2, 4, 5, 28] [10, 11, 12, 13, 14, 15, 16, 17, 18, 19, 20] u u_406 := Fr_tr F_u_314 G_u_406 rfl rfl
              have g_410 : (u_406.1 1).toInt = (u_314.1 1).toInt := by rw [G_u_406.1 1 rfl]
              have g_411 : (u_406.1 2).toInt = (u_314.1 2).toInt := by rw [G_u_406.1 2 rfl]
              exact okM_some ⟨I_u_406, F_u_406, (by have B_412 := IP_p I; have B_413 := IP_p I_u_406; omega), (by have B_414 := IP_p I; have B_415 := IP_p I_u_406; omega), (by have B_416 := IP_p I_u_406; omega), (by have B_417 := IP_p I_u_406; omega), (by omega), (by have B_418 := IP_p I_u_406; omega), (by have B_419 := IP_p I_u_406; omega), (by have B_420 := IP_p I_u_406; have B_421 := IP_p I; omega), (by have B_422 := IP_p I; have B_423 := IP_p I_u_406; omega)⟩
          · refine okM_bM (kP_SqlReaderModel_add I_u_314 (by have FUe : FU = 100000 := rfl; have B_425 := IP_p I_u_314; have B_426 := IP_p I; omega) (by have FUe : FU = 100000 := rfl; have B_427 := IP_p I_u_314; have B_428 := IP_p I; omega) (by have FUe : FU = 100000 := rfl; have B_429 := IP_p I_u_314; have B_430 := IP_p I; omega) (by have FUe : FU = 100000 := rfl; have B_431 := IP_p I_u_314; have B_432 := IP_p I; omega) (by have FUe : FU = 100000 := rfl; have B_433 := IP_p I_u_314; have B_434 := IP_p I; omega) (by have FUe : FU = 100000 := rfl; have B_435 := IP_p I_u_314; have B_436 := IP_p I; omega) (by have FUe : FU = 100000 := rfl; have B_437 := IP_p I_u_314; have B_438 := IP_p I; omega)) (fun r_439 u_440 z_424 => ?_)
            obtain ⟨I_u_440, G_u_440, p_441, p_442, p_443⟩ := z_424
            have F_u_440 : Fr [2, 4, 5, 28] [10, 11, 12, 13, 14, 15, 16, 17, 18, 19, 20] u u_440 := Fr_tr F_u_314 G_u_440 rfl rfl
            have g_444 : (u_440.1 1).toInt = (u_314.1 1).toInt := by rw [G_u_440.1 1 rfl]
            have g_445 : (u_440.1 2).toInt = (u_314.1 2).toInt := by rw [G_u_440.1 2 rfl]
            exact okM_some ⟨I_u_440, F_u_440, (by have B_446 := IP_p I; have B_447 := IP_p I_u_440; omega), (by have B_448 := IP_p I; have B_449 := IP_p I_u_440; omega), (by have B_450 := IP_p I_u_440; omega), (by have B_451 := IP_p I_u_440; omega), (by omega), (by have B_452 := IP_p I_u_440; omega), (by have B_453 := IP_p I_u_440; omega), (by have B_454 := IP_p I_u_440; have B_455 := IP_p I; omega), (by have B_456 := IP_p I; have B_457 := IP_p I_u_440; omega)⟩
        · rw [mM_SqlReaderModel_primary_J119]
          refine okM_gd (by decide) ?_
          refine okM_seq (fun u_459 h_458 => ?_)
          have I_u_459 : IP u_459 := by rw [h_458]; exact IP_bad I (by have B_460 := IP_b I; omega) (by have B_461 := IP_b I; omega) (by have B_462 := IP_b I; omega)
          have F_u_459 : Fr [2, 4, 5, 28] [10, 11, 12, 13, 14, 15, 16, 17, 18, 19, 20] u u_459 := by rw [h_458]; exact Fr_ss (Fr_rfl u) rfl rfl
          have g_463 : (u_459.1 2).toInt = (1 : Int32).toInt := by rw [h_458]; rfl
          have g_464 : (u_459.1 1).toInt = (u.1 1).toInt := by rw [h_458]; rfl
          have g_465 : (u_459.1 4).toInt = (u.1 4).toInt := by rw [h_458]; rfl
          refine okM_eq (fun c_466 c_466' => ?_) (fun c_466 => ?_)
          · refine okM_eq (fun c_467 c_467' => ?_) (fun c_467 => ?_)
            · try have e_468 : (x1 + 2 : Int32).toInt = (x1 : Int32).toInt + (2 : Int32).toInt := by have B_469 := IP_p I; exact add_i (by omega) (by omega)
              try have e_470 : (x2 - 1 : Int32).toInt = (x2 : Int32).toInt - (1 : Int32).toInt := by have B_471 := IP_p I; exact sub_i (by omega) (by omega)
              try have e_472 : (x3 + 1 : Int32).toInt = (x3 : Int32).toInt + (1 : Int32).toInt := by have B_473 := IP_p I; exact add_i (by omega) (by omega)
              refine okM_bM (R.2.2.2.2.2 (B := B) I_u_459 (by have B_475 := IP_p I_u_459; omega) (by have B_476 := IP_p I_u_459; omega) (by have B_477 := IP_p I_u_459; omega) (by have B_478 := IP_p I_u_459; omega) (by have B_479 := IP_p I_u_459; omega) (by have B_480 := IP_p I_u_459; omega) (by have B_481 := IP_p I_u_459; omega) (by have B_482 := IP_p I_u_459; omega) (by have B_483 := IP_p I_u_459; omega) (by have B_484 := IP_p I_u_459; omega) (by have B_485 := IP_p I_u_459; omega) (by have B_486 := IP_p I_u_459; omega) (by have B_487 := IP_p I_u_459; omega) (by have B_488 := IP_p I_u_459; omega)) (fun r_489 u_490 z_474 => ?_)
              obtain ⟨I_u_490, G_u_490, p_491, p_492, p_493, p_494, p_495, p_496, p_497, p_498, p_499⟩ := z_474
              have F_u_490 : Fr [2, 4, 5, 28] [10, 11, 12, 13, 14, 15, 16, 17, 18, 19, 20] u u_490 := Fr_tr F_u_459 G_u_490 rfl rfl
              have g_500 : (u_490.1 1).toInt = (u_459.1 1).toInt := by rw [G_u_490.1 1 rfl]
              refine okM_bM (kP_SqlReaderModel_add I_u_490 (by have FUe : FU = 100000 := rfl; have B_502 := IP_p I_u_490; have B_503 := IP_p I; omega) (by have FUe : FU = 100000 := rfl; have B_504 := IP_p I_u_490; have B_505 := IP_p I; omega) (by have FUe : FU = 100000 := rfl; have B_506 := IP_p I_u_490; have B_507 := IP_p I; omega) (by have FUe : FU = 100000 := rfl; have B_508 := IP_p I_u_490; have B_509 := IP_p I; omega) (by have FUe : FU = 100000 := rfl; have B_510 := IP_p I_u_490; have B_511 := IP_p I; omega) (by have FUe : FU = 100000 := rfl; have B_512 := IP_p I_u_490; have B_513 := IP_p I; omega) (by have FUe : FU = 100000 := rfl; have B_514 := IP_p I_u_490; have B_515 := IP_p I; omega)) (fun r_516 u_517 z_501 => ?_)
              obtain ⟨I_u_517, G_u_517, p_518, p_519, p_520⟩ := z_501
              have F_u_517 : Fr [2, 4, 5, 28] [10, 11, 12, 13, 14, 15, 16, 17, 18, 19, 20] u u_517 := Fr_tr F_u_490 G_u_517 rfl rfl
              have g_521 : (u_517.1 1).toInt = (u_490.1 1).toInt := by rw [G_u_517.1 1 rfl]
              have g_522 : (u_517.1 2).toInt = (u_490.1 2).toInt := by rw [G_u_517.1 2 rfl]
              exact okM_some ⟨I_u_517, F_u_517, (by have B_523 := IP_p I; have B_524 := IP_p I_u_517; omega), (by have B_525 := IP_p I; have B_526 := IP_p I_u_517; omega), (by have B_527 := IP_p I_u_517; omega), (by have B_528 := IP_p I_u_517; omega), (by omega), (by have B_529 := IP_p I_u_517; omega), (by have B_530 := IP_p I_u_517; omega), (by have B_531 := IP_p I_u_517; have B_532 := IP_p I; omega), (by have B_533 := IP_p I; have B_534 := IP_p I_u_517; omega)⟩
            · refine okM_bM (kP_SqlReaderModel_add I_u_459 (by have FUe : FU = 100000 := rfl; have B_536 := IP_p I_u_459; have B_537 := IP_p I; omega) (by have FUe : FU = 100000 := rfl; have B_538 := IP_p I_u_459; have B_539 := IP_p I; omega) (by have FUe : FU = 100000 := rfl; have B_540 := IP_p I_u_459; have B_541 := IP_p I; omega) (by have FUe : FU = 100000 := rfl; have B_542 := IP_p I_u_459; have B_543 := IP_p I; omega) (by have FUe : FU = 100000 := rfl; have B_544 := IP_p I_u_459; have B_545 := IP_p I; omega) (by have FUe : FU = 100000 := rfl; have B_546 := IP_p I_u_459; have B_547 := IP_p I; omega) (by have FUe : FU = 100000 := rfl; have B_548 := IP_p I_u_459; have B_549 := IP_p I; omega)) (fun r_550 u_551 z_535 => ?_)
              obtain ⟨I_u_551, G_u_551, p_552, p_553, p_554⟩ := z_535
              have F_u_551 : Fr [2, 4, 5, 28] [10, 11, 12, 13, 14, 15, 16, 17, 18, 19, 20] u u_551 := Fr_tr F_u_459 G_u_551 rfl rfl
              have g_555 : (u_551.1 1).toInt = (u_459.1 1).toInt := by rw [G_u_551.1 1 rfl]
              have g_556 : (u_551.1 2).toInt = (u_459.1 2).toInt := by rw [G_u_551.1 2 rfl]
              exact okM_some ⟨I_u_551, F_u_551, (by have B_557 := IP_p I; have B_558 := IP_p I_u_551; omega), (by have B_559 := IP_p I; have B_560 := IP_p I_u_551; omega), (by have B_561 := IP_p I_u_551; omega), (by have B_562 := IP_p I_u_551; omega), (by omega), (by have B_563 := IP_p I_u_551; omega), (by have B_564 := IP_p I_u_551; omega), (by have B_565 := IP_p I_u_551; have B_566 := IP_p I; omega), (by have B_567 := IP_p I; have B_568 := IP_p I_u_551; omega)⟩
          · refine okM_bM (kP_SqlReaderModel_add I_u_459 (by have FUe : FU = 100000 := rfl; have B_570 := IP_p I_u_459; have B_571 := IP_p I; omega) (by have FUe : FU = 100000 := rfl; have B_572 := IP_p I_u_459; have B_573 := IP_p I; omega) (by have FUe : FU = 100000 := rfl; have B_574 := IP_p I_u_459; have B_575 := IP_p I; omega) (by have FUe : FU = 100000 := rfl; have B_576 := IP_p I_u_459; have B_577 := IP_p I; omega) (by have FUe : FU = 100000 := rfl; have B_578 := IP_p I_u_459; have B_579 := IP_p I; omega) (by have FUe : FU = 100000 := rfl; have B_580 := IP_p I_u_459; have B_581 := IP_p I; omega) (by have FUe : FU = 100000 := rfl; have B_582 := IP_p I_u_459; have B_583 := IP_p I; omega)) (fun r_584 u_585 z_569 => ?_)
            obtain ⟨I_u_585, G_u_585, p_586, p_587, p_588⟩ := z_569
            have F_u_585 : Fr [2, 4, 5, 28] [10, 11, 12, 13, 14, 15, 16, 17, 18, 19, 20] u u_585 := Fr_tr F_u_459 G_u_585 rfl rfl
            have g_589 : (u_585.1 1).toInt = (u_459.1 1).toInt := by rw [G_u_585.1 1 rfl]
            have g_590 : (u_585.1 2).toInt = (u_459.1 2).toInt := by rw [G_u_585.1 2 rfl]
            exact okM_some ⟨I_u_585, F_u_585, (by have B_591 := IP_p I; have B_592 := IP_p I_u_585; omega), (by have B_593 := IP_p I; have B_594 := IP_p I_u_585; omega), (by have B_595 := IP_p I_u_585; omega), (by have B_596 := IP_p I_u_585; omega), (by omega), (by have B_597 := IP_p I_u_585; omega), (by have B_598 := IP_p I_u_585; omega), (by have B_599 := IP_p I_u_585; have B_600 := IP_p I; omega), (by have B_601 := IP_p I; have B_602 := IP_p I_u_585; omega)⟩
  · rw [mM_SqlReaderModel_primary_J119]
    refine okM_gd (by decide) ?_
    refine okM_seq (fun u_604 h_603 => ?_)
    have I_u_604 : IP u_604 := by rw [h_603]; exact IP_bad I (by have B_605 := IP_b I; omega) (by have B_606 := IP_b I; omega) (by have B_607 := IP_b I; omega)
    have F_u_604 : Fr [2, 4, 5, 28] [10, 11, 12, 13, 14, 15, 16, 17, 18, 19, 20] u u_604 := by rw [h_603]; exact Fr_ss (Fr_rfl u) rfl rfl
    have g_608 : (u_604.1 2).toInt = (1 : Int32).toInt := by rw [h_603]; rfl
    have g_609 : (u_604.1 1).toInt = (u.1 1).toInt := by rw [h_603]; rfl
    have g_610 : (u_604.1 4).toInt = (u.1 4).toInt := by rw [h_603]; rfl
    refine okM_eq (fun c_611 c_611' => ?_) (fun c_611 => ?_)
    · refine okM_eq (fun c_612 c_612' => ?_) (fun c_612 => ?_)
      · try have e_613 : (x1 + 2 : Int32).toInt = (x1 : Int32).toInt + (2 : Int32).toInt := by have B_614 := IP_p I; exact add_i (by omega) (by omega)
        try have e_615 : (x2 - 1 : Int32).toInt = (x2 : Int32).toInt - (1 : Int32).toInt := by have B_616 := IP_p I; exact sub_i (by omega) (by omega)
        try have e_617 : (x3 + 1 : Int32).toInt = (x3 : Int32).toInt + (1 : Int32).toInt := by have B_618 := IP_p I; exact add_i (by omega) (by omega)
        refine okM_bM (R.2.2.2.2.2 (B := B) I_u_604 (by have B_620 := IP_p I_u_604; omega) (by have B_621 := IP_p I_u_604; omega) (by have B_622 := IP_p I_u_604; omega) (by have B_623 := IP_p I_u_604; omega) (by have B_624 := IP_p I_u_604; omega) (by have B_625 := IP_p I_u_604; omega) (by have B_626 := IP_p I_u_604; omega) (by have B_627 := IP_p I_u_604; omega) (by have B_628 := IP_p I_u_604; omega) (by have B_629 := IP_p I_u_604; omega) (by have B_630 := IP_p I_u_604; omega) (by have B_631 := IP_p I_u_604; omega) (by have B_632 := IP_p I_u_604; omega) (by have B_633 := IP_p I_u_604; omega)) (fun r_634 u_635 z_619 => ?_)
        obtain ⟨I_u_635, G_u_635, p_636, p_637, p_638, p_639, p_640, p_641, p_642, p_643, p_644⟩ := z_619
        have F_u_635 : Fr [2, 4, 5, 28] [10, 11, 12, 13, 14, 15, 16, 17, 18, 19, 20] u u_635 := Fr_tr F_u_604 G_u_635 rfl rfl
        have g_645 : (u_635.1 1).toInt = (u_604.1 1).toInt := by rw [G_u_635.1 1 rfl]
        refine okM_bM (kP_SqlReaderModel_add I_u_635 (by have FUe : FU = 100000 := rfl; have B_647 := IP_p I_u_635; have B_648 := IP_p I; omega) (by have FUe : FU = 100000 := rfl; have B_649 := IP_p I_u_635; have B_650 := IP_p I; omega) (by have FUe : FU = 100000 := rfl; have B_651 := IP_p I_u_635; have B_652 := IP_p I; omega) (by have FUe : FU = 100000 := rfl; have B_653 := IP_p I_u_635; have B_654 := IP_p I; omega) (by have FUe : FU = 100000 := rfl; have B_655 := IP_p I_u_635; have B_656 := IP_p I; omega) (by have FUe : FU = 100000 := rfl; have B_657 := IP_p I_u_635; have B_658 := IP_p I; omega) (by have FUe : FU = 100000 := rfl; have B_659 := IP_p I_u_635; have B_660 := IP_p I; omega)) (fun r_661 u_662 z_646 => ?_)
        obtain ⟨I_u_662, G_u_662, p_663, p_664, p_665⟩ := z_646
        have F_u_662 : Fr [2, 4, 5, 28] [10, 11, 12, 13, 14, 15, 16, 17, 18, 19, 20] u u_662 := Fr_tr F_u_635 G_u_662 rfl rfl
        have g_666 : (u_662.1 1).toInt = (u_635.1 1).toInt := by rw [G_u_662.1 1 rfl]
        have g_667 : (u_662.1 2).toInt = (u_635.1 2).toInt := by rw [G_u_662.1 2 rfl]
        exact okM_some ⟨I_u_662, F_u_662, (by have B_668 := IP_p I; have B_669 := IP_p I_u_662; omega), (by have B_670 := IP_p I; have B_671 := IP_p I_u_662; omega), (by have B_672 := IP_p I_u_662; omega), (by have B_673 := IP_p I_u_662; omega), (by omega), (by have B_674 := IP_p I_u_662; omega), (by have B_675 := IP_p I_u_662; omega), (by have B_676 := IP_p I_u_662; have B_677 := IP_p I; omega), (by have B_678 := IP_p I; have B_679 := IP_p I_u_662; omega)⟩
      · refine okM_bM (kP_SqlReaderModel_add I_u_604 (by have FUe : FU = 100000 := rfl; have B_681 := IP_p I_u_604; have B_682 := IP_p I; omega) (by have FUe : FU = 100000 := rfl; have B_683 := IP_p I_u_604; have B_684 := IP_p I; omega) (by have FUe : FU = 100000 := rfl; have B_685 := IP_p I_u_604; have B_686 := IP_p I; omega) (by have FUe : FU = 100000 := rfl; have B_687 := IP_p I_u_604; have B_688 := IP_p I; omega) (by have FUe : FU = 100000 := rfl; have B_689 := IP_p I_u_604; have B_690 := IP_p I; omega) (by have FUe : FU = 100000 := rfl; have B_691 := IP_p I_u_604; have B_692 := IP_p I; omega) (by have FUe : FU = 100000 := rfl; have B_693 := IP_p I_u_604; have B_694 := IP_p I; omega)) (fun r_695 u_696 z_680 => ?_)
        obtain ⟨I_u_696, G_u_696, p_697, p_698, p_699⟩ := z_680
        have F_u_696 : Fr [2, 4, 5, 28] [10, 11, 12, 13, 14, 15, 16, 17, 18, 19, 20] u u_696 := Fr_tr F_u_604 G_u_696 rfl rfl
        have g_700 : (u_696.1 1).toInt = (u_604.1 1).toInt := by rw [G_u_696.1 1 rfl]
        have g_701 : (u_696.1 2).toInt = (u_604.1 2).toInt := by rw [G_u_696.1 2 rfl]
        exact okM_some ⟨I_u_696, F_u_696, (by have B_702 := IP_p I; have B_703 := IP_p I_u_696; omega), (by have B_704 := IP_p I; have B_705 := IP_p I_u_696; omega), (by have B_706 := IP_p I_u_696; omega), (by have B_707 := IP_p I_u_696; omega), (by omega), (by have B_708 := IP_p I_u_696; omega), (by have B_709 := IP_p I_u_696; omega), (by have B_710 := IP_p I_u_696; have B_711 := IP_p I; omega), (by have B_712 := IP_p I; have B_713 := IP_p I_u_696; omega)⟩
    · refine okM_bM (kP_SqlReaderModel_add I_u_604 (by have FUe : FU = 100000 := rfl; have B_715 := IP_p I_u_604; have B_716 := IP_p I; omega) (by have FUe : FU = 100000 := rfl; have B_717 := IP_p I_u_604; have B_718 := IP_p I; omega) (by have FUe : FU = 100000 := rfl; have B_719 := IP_p I_u_604; have B_720 := IP_p I; omega) (by have FUe : FU = 100000 := rfl; have B_721 := IP_p I_u_604; have B_722 := IP_p I; omega) (by have FUe : FU = 100000 := rfl; have B_723 := IP_p I_u_604; have B_724 := IP_p I; omega) (by have FUe : FU = 100000 := rfl; have B_725 := IP_p I_u_604; have B_726 := IP_p I; omega) (by have FUe : FU = 100000 := rfl; have B_727 := IP_p I_u_604; have B_728 := IP_p I; omega)) (fun r_729 u_730 z_714 => ?_)
      obtain ⟨I_u_730, G_u_730, p_731, p_732, p_733⟩ := z_714
      have F_u_730 : Fr [2, 4, 5, 28] [10, 11, 12, 13, 14, 15, 16, 17, 18, 19, 20] u u_730 := Fr_tr F_u_604 G_u_730 rfl rfl
      have g_734 : (u_730.1 1).toInt = (u_604.1 1).toInt := by rw [G_u_730.1 1 rfl]
      have g_735 : (u_730.1 2).toInt = (u_604.1 2).toInt := by rw [G_u_730.1 2 rfl]
      exact okM_some ⟨I_u_730, F_u_730, (by have B_736 := IP_p I; have B_737 := IP_p I_u_730; omega), (by have B_738 := IP_p I; have B_739 := IP_p I_u_730; omega), (by have B_740 := IP_p I_u_730; omega), (by have B_741 := IP_p I_u_730; omega), (by omega), (by have B_742 := IP_p I_u_730; omega), (by have B_743 := IP_p I_u_730; omega), (by have B_744 := IP_p I_u_730; have B_745 := IP_p I; omega), (by have B_746 := IP_p I; have B_747 := IP_p I_u_730; omega)⟩
set_option maxHeartbeats 20000000 in
theorem kP_SqlReaderModel_primary_J263 {rc : Nat → Int32 → Int32 → Int32 → Int32 → Int32 → Int32 → St → Option (Int32 × St)} {B : Int} {x1 : Int32} {x2 : Int32} {s0 : Int32} {u : St} (I : IP u) (h0 : 0 ≤ x1.toInt) (h1 : x1.toInt ≤ 4000) (h2 : x2.toInt ≤ (u.1 1).toInt) (h3 : x1.toInt < x2.toInt) (h4 : (u.1 2).toInt = 0) (h5 : s0.toInt = 0 ∨ x2.toInt = x1.toInt + 3) (h6 : (u.1 4).toInt ≤ B) (h7 : 100000 ≤ B) (h8 : B + 32 * (x2.toInt - x1.toInt) + 16 ≤ 190000) : okM (mM_SqlReaderModel_primary_J263 rc x1 x2 s0 u) (fun r v => IP v ∧ Fr [2, 4, 5, 28] [10, 11, 12, 13, 14, 15, 16, 17, 18, 19, 20] u v ∧ (u.1 2).toInt ≤ (v.1 2).toInt ∧ ((u.1 4).toInt ≤ (v.1 4).toInt ∨ 200 < (v.1 4).toInt) ∧ r.toInt ≤ (v.1 4).toInt - 1 + 300000 * (v.1 2).toInt ∧ (v.1 4).toInt - 1 ≤ r.toInt + 300000 * (v.1 2).toInt ∧ 0 ≤ r.toInt ∧ (v.1 4).toInt ≤ B + 32 * ((x2.toInt - x1.toInt).toNat : Int) + 8 ∧ x1.toInt + 1 ≤ x2.toInt + 300000 * (v.1 2).toInt ∧ (v.1 4).toInt ≤ (u.1 4).toInt + 300000 * (1 - (u.1 2).toInt) ∧ (u.1 4).toInt ≤ (v.1 4).toInt + 300000 * (1 - (u.1 2).toInt)) := by
  have lm1 : (-1 : Int32).toInt = -1 := by decide
  have l0 : (0 : Int32).toInt = 0 := by decide
  have l1 : (1 : Int32).toInt = 1 := by decide
  have l2 : (2 : Int32).toInt = 2 := by decide
  have l4 : (4 : Int32).toInt = 4 := by decide
  have l8 : (8 : Int32).toInt = 8 := by decide
  have l32 : (32 : Int32).toInt = 32 := by decide
  have l200 : (200 : Int32).toInt = 200 := by decide
  have l199000 : (199000 : Int32).toInt = 199000 := by decide
  have l300000 : (300000 : Int32).toInt = 300000 := by decide
  rw [mM_SqlReaderModel_primary_J263]
  refine okM_eq (fun c_1 c_1' => ?_) (fun c_1 => ?_)
  · refine okM_eq (fun c_2 c_2' => ?_) (fun c_2 => ?_)
    · try have e_3 : (x1 + 1 : Int32).toInt = (x1 : Int32).toInt + (1 : Int32).toInt := by have B_4 := IP_p I; exact add_i (by omega) (by omega)
      refine okM_eq (fun c_5 c_5' => ?_) (fun c_5 => ?_)
      · rw [mM_SqlReaderModel_primary_J290]
        refine okM_gd (by decide) ?_
        refine okM_seq (fun u_7 h_6 => ?_)
        have I_u_7 : IP u_7 := by rw [h_6]; exact IP_bad I (by have B_8 := IP_b I; omega) (by have B_9 := IP_b I; omega) (by have B_10 := IP_b I; omega)
        have F_u_7 : Fr [2, 4, 5, 28] [10, 11, 12, 13, 14, 15, 16, 17, 18, 19, 20] u u_7 := by rw [h_6]; exact Fr_ss (Fr_rfl u) rfl rfl
        have g_11 : (u_7.1 2).toInt = (0 : Int32).toInt := by rw [h_6]; rfl
        have g_12 : (u_7.1 1).toInt = (u.1 1).toInt := by rw [h_6]; rfl
        have g_13 : (u_7.1 4).toInt = (u.1 4).toInt := by rw [h_6]; rfl
        refine okM_eq (fun c_14 c_14' => ?_) (fun c_14 => ?_)
        · rw [mM_SqlReaderModel_primary_J304]
          refine okM_eq (fun c_15 c_15' => ?_) (fun c_15 => ?_)
          · refine okM_bM (kP_SqlReaderModel_place I_u_7 (by have FUe : FU = 100000 := rfl; have B_17 := IP_p I_u_7; have B_18 := IP_p I; omega) (by have FUe : FU = 100000 := rfl; have B_19 := IP_p I_u_7; have B_20 := IP_p I; omega) (by have FUe : FU = 100000 := rfl; have B_21 := IP_p I_u_7; have B_22 := IP_p I; omega) (by have FUe : FU = 100000 := rfl; have B_23 := IP_p I_u_7; have B_24 := IP_p I; omega) (by have FUe : FU = 100000 := rfl; have B_25 := IP_p I_u_7; have B_26 := IP_p I; omega)) (fun r_27 u_28 z_16 => ?_)
            obtain ⟨I_u_28, G_u_28, p_29, p_30, p_31⟩ := z_16
            have F_u_28 : Fr [2, 4, 5, 28] [10, 11, 12, 13, 14, 15, 16, 17, 18, 19, 20] u u_28 := Fr_tr F_u_7 G_u_28 rfl rfl
            have g_32 : (u_28.1 1).toInt = (u_7.1 1).toInt := by rw [G_u_28.1 1 rfl]
            have g_33 : (u_28.1 2).toInt = (u_7.1 2).toInt := by rw [G_u_28.1 2 rfl]
            exact okM_some ⟨I_u_28, F_u_28, (by have B_34 := IP_p I; have B_35 := IP_p I_u_28; omega), (by have B_36 := IP_p I; have B_37 := IP_p I_u_28; omega), (by have B_38 := IP_p I_u_28; omega), (by have B_39 := IP_p I_u_28; omega), (by omega), (by have B_40 := IP_p I_u_28; omega), (by have B_41 := IP_p I_u_28; omega), (by have B_42 := IP_p I_u_28; have B_43 := IP_p I; omega), (by have B_44 := IP_p I; have B_45 := IP_p I_u_28; omega)⟩
          · try have e_46 : (x1 + 2 : Int32).toInt = (x1 : Int32).toInt + (2 : Int32).toInt := by have B_47 := IP_p I; exact add_i (by omega) (by omega)
            refine okM_bM (kP_SqlReaderModel_place I_u_7 (by have FUe : FU = 100000 := rfl; have B_49 := IP_p I_u_7; have B_50 := IP_p I; omega) (by have FUe : FU = 100000 := rfl; have B_51 := IP_p I_u_7; have B_52 := IP_p I; omega) (by have FUe : FU = 100000 := rfl; have B_53 := IP_p I_u_7; have B_54 := IP_p I; omega) (by have FUe : FU = 100000 := rfl; have B_55 := IP_p I_u_7; have B_56 := IP_p I; omega) (by have FUe : FU = 100000 := rfl; have B_57 := IP_p I_u_7; have B_58 := IP_p I; omega)) (fun r_59 u_60 z_48 => ?_)
            obtain ⟨I_u_60, G_u_60, p_61, p_62, p_63⟩ := z_48
            have F_u_60 : Fr [2, 4, 5, 28] [10, 11, 12, 13, 14, 15, 16, 17, 18, 19, 20] u u_60 := Fr_tr F_u_7 G_u_60 rfl rfl
            have g_64 : (u_60.1 1).toInt = (u_7.1 1).toInt := by rw [G_u_60.1 1 rfl]
            have g_65 : (u_60.1 2).toInt = (u_7.1 2).toInt := by rw [G_u_60.1 2 rfl]
            exact okM_some ⟨I_u_60, F_u_60, (by have B_66 := IP_p I; have B_67 := IP_p I_u_60; omega), (by have B_68 := IP_p I; have B_69 := IP_p I_u_60; omega), (by have B_70 := IP_p I_u_60; omega), (by have B_71 := IP_p I_u_60; omega), (by omega), (by have B_72 := IP_p I_u_60; omega), (by have B_73 := IP_p I_u_60; omega), (by have B_74 := IP_p I_u_60; have B_75 := IP_p I; omega), (by have B_76 := IP_p I; have B_77 := IP_p I_u_60; omega)⟩
        · rw [mM_SqlReaderModel_primary_J304]
          refine okM_eq (fun c_78 c_78' => ?_) (fun c_78 => ?_)
          · refine okM_bM (kP_SqlReaderModel_place I_u_7 (by have FUe : FU = 100000 := rfl; have B_80 := IP_p I_u_7; have B_81 := IP_p I; omega) (by have FUe : FU = 100000 := rfl; have B_82 := IP_p I_u_7; have B_83 := IP_p I; omega) (by have FUe : FU = 100000 := rfl; have B_84 := IP_p I_u_7; have B_85 := IP_p I; omega) (by have FUe : FU = 100000 := rfl; have B_86 := IP_p I_u_7; have B_87 := IP_p I; omega) (by have FUe : FU = 100000 := rfl; have B_88 := IP_p I_u_7; have B_89 := IP_p I; omega)) (fun r_90 u_91 z_79 => ?_)
            obtain ⟨I_u_91, G_u_91, p_92, p_93, p_94⟩ := z_79
            have F_u_91 : Fr [2, 4, 5, 28] [10, 11, 12, 13, 14, 15, 16, 17, 18, 19, 20] u u_91 := Fr_tr F_u_7 G_u_91 rfl rfl
            have g_95 : (u_91.1 1).toInt = (u_7.1 1).toInt := by rw [G_u_91.1 1 rfl]
            have g_96 : (u_91.1 2).toInt = (u_7.1 2).toInt := by rw [G_u_91.1 2 rfl]
            exact okM_some ⟨I_u_91, F_u_91, (by have B_97 := IP_p I; have B_98 := IP_p I_u_91; omega), (by have B_99 := IP_p I; have B_100 := IP_p I_u_91; omega), (by have B_101 := IP_p I_u_91; omega), (by have B_102 := IP_p I_u_91; omega), (by omega), (by have B_103 := IP_p I_u_91; omega), (by have B_104 := IP_p I_u_91; omega), (by have B_105 := IP_p I_u_91; have B_106 := IP_p I; omega), (by have B_107 := IP_p I; have B_108 := IP_p I_u_91; omega)⟩
          · try have e_109 : (x1 + 2 : Int32).toInt = (x1 : Int32).toInt + (2 : Int32).toInt := by have B_110 := IP_p I; exact add_i (by omega) (by omega)
            refine okM_bM (kP_SqlReaderModel_place I_u_7 (by have FUe : FU = 100000 := rfl; have B_112 := IP_p I_u_7; have B_113 := IP_p I; omega) (by have FUe : FU = 100000 := rfl; have B_114 := IP_p I_u_7; have B_115 := IP_p I; omega) (by have FUe : FU = 100000 := rfl; have B_116 := IP_p I_u_7; have B_117 := IP_p I; omega) (by have FUe : FU = 100000 := rfl; have B_118 := IP_p I_u_7; have B_119 := IP_p I; omega) (by have FUe : FU = 100000 := rfl; have B_120 := IP_p I_u_7; have B_121 := IP_p I; omega)) (fun r_122 u_123 z_111 => ?_)
            obtain ⟨I_u_123, G_u_123, p_124, p_125, p_126⟩ := z_111
            have F_u_123 : Fr [2, 4, 5, 28] [10, 11, 12, 13, 14, 15, 16, 17, 18, 19, 20] u u_123 := Fr_tr F_u_7 G_u_123 rfl rfl
            have g_127 : (u_123.1 1).toInt = (u_7.1 1).toInt := by rw [G_u_123.1 1 rfl]
            have g_128 : (u_123.1 2).toInt = (u_7.1 2).toInt := by rw [G_u_123.1 2 rfl]
            exact okM_some ⟨I_u_123, F_u_123, (by have B_129 := IP_p I; have B_130 := IP_p I_u_123; omega), (by have B_131 := IP_p I; have B_132 := IP_p I_u_123; omega), (by have B_133 := IP_p I_u_123; omega), (by have B_134 := IP_p I_u_123; omega), (by omega), (by have B_135 := IP_p I_u_123; omega), (by have B_136 := IP_p I_u_123; omega), (by have B_137 := IP_p I_u_123; have B_138 := IP_p I; omega), (by have B_139 := IP_p I; have B_140 := IP_p I_u_123; omega)⟩
      · rw [mM_SqlReaderModel_primary_J290]
        refine okM_gd (by decide) ?_
        refine okM_seq (fun u_142 h_141 => ?_)
        have I_u_142 : IP u_142 := by rw [h_141]; exact IP_bad I (by have B_143 := IP_b I; omega) (by have B_144 := IP_b I; omega) (by have B_145 := IP_b I; omega)
        have F_u_142 : Fr [2, 4, 5, 28] [10, 11, 12, 13, 14, 15, 16, 17, 18, 19, 20] u u_142 := by rw [h_141]; exact Fr_ss (Fr_rfl u) rfl rfl
        have g_146 : (u_142.1 2).toInt = (1 : Int32).toInt := by rw [h_141]; rfl
        have g_147 : (u_142.1 1).toInt = (u.1 1).toInt := by rw [h_141]; rfl
        have g_148 : (u_142.1 4).toInt = (u.1 4).toInt := by rw [h_141]; rfl
        refine okM_eq (fun c_149 c_149' => ?_) (fun c_149 => ?_)
        · rw [mM_SqlReaderModel_primary_J304]
          refine okM_eq (fun c_150 c_150' => ?_) (fun c_150 => ?_)
          · refine okM_bM (kP_SqlReaderModel_place I_u_142 (by have FUe : FU = 100000 := rfl; have B_152 := IP_p I_u_142; have B_153 := IP_p I; omega) (by have FUe : FU = 100000 := rfl; have B_154 := IP_p I_u_142; have B_155 := IP_p I; omega) (by have FUe : FU = 100000 := rfl; have B_156 := IP_p I_u_142; have B_157 := IP_p I; omega) (by have FUe : FU = 100000 := rfl; have B_158 := IP_p I_u_142; have B_159 := IP_p I; omega) (by have FUe : FU = 100000 := rfl; have B_160 := IP_p I_u_142; have B_161 := IP_p I; omega)) (fun r_162 u_163 z_151 => ?_)
            obtain ⟨I_u_163, G_u_163, p_164, p_165, p_166⟩ := z_151
            have F_u_163 : Fr [2, 4, 5, 28] [10, 11, 12, 13, 14, 15, 16, 17, 18, 19, 20] u u_163 := Fr_tr F_u_142 G_u_163 rfl rfl
            have g_167 : (u_163.1 1).toInt = (u_142.1 1).toInt := by rw [G_u_163.1 1 rfl]
            have g_168 : (u_163.1 2).toInt = (u_142.1 2).toInt := by rw [G_u_163.1 2 rfl]
            exact okM_some ⟨I_u_163, F_u_163, (by have B_169 := IP_p I; have B_170 := IP_p I_u_163; omega), (by have B_171 := IP_p I; have B_172 := IP_p I_u_163; omega), (by have B_173 := IP_p I_u_163; omega), (by have B_174 := IP_p I_u_163; omega), (by omega), (by have B_175 := IP_p I_u_163; omega), (by have B_176 := IP_p I_u_163; omega), (by have B_177 := IP_p I_u_163; have B_178 := IP_p I; omega), (by have B_179 := IP_p I; have B_180 := IP_p I_u_163; omega)⟩
          · try have e_181 : (x1 + 2 : Int32).toInt = (x1 : Int32).toInt + (2 : Int32).toInt := by have B_182 := IP_p I; exact add_i (by omega) (by omega)
            refine okM_bM (kP_SqlReaderModel_place I_u_142 (by have FUe : FU = 100000 := rfl; have B_184 := IP_p I_u_142; have B_185 := IP_p I; omega) (by have FUe : FU = 100000 := rfl; have B_186 := IP_p I_u_142; have B_187 := IP_p I; omega) (by have FUe : FU = 100000 := rfl; have B_188 := IP_p I_u_142; have B_189 := IP_p I; omega) (by have FUe : FU = 100000 := rfl; have B_190 := IP_p I_u_142; have B_191 := IP_p I; omega) (by have FUe : FU = 100000 := rfl; have B_192 := IP_p I_u_142; have B_193 := IP_p I; omega)) (fun r_194 u_195 z_183 => ?_)
            obtain ⟨I_u_195, G_u_195, p_196, p_197, p_198⟩ := z_183
            have F_u_195 : Fr [2, 4, 5, 28] [10, 11, 12, 13, 14, 15, 16, 17, 18, 19, 20] u u_195 := Fr_tr F_u_142 G_u_195 rfl rfl
            have g_199 : (u_195.1 1).toInt = (u_142.1 1).toInt := by rw [G_u_195.1 1 rfl]
            have g_200 : (u_195.1 2).toInt = (u_142.1 2).toInt := by rw [G_u_195.1 2 rfl]
            exact okM_some ⟨I_u_195, F_u_195, (by have B_201 := IP_p I; have B_202 := IP_p I_u_195; omega), (by have B_203 := IP_p I; have B_204 := IP_p I_u_195; omega), (by have B_205 := IP_p I_u_195; omega), (by have B_206 := IP_p I_u_195; omega), (by omega), (by have B_207 := IP_p I_u_195; omega), (by have B_208 := IP_p I_u_195; omega), (by have B_209 := IP_p I_u_195; have B_210 := IP_p I; omega), (by have B_211 := IP_p I; have B_212 := IP_p I_u_195; omega)⟩
        · rw [mM_SqlReaderModel_primary_J304]
          refine okM_eq (fun c_213 c_213' => ?_) (fun c_213 => ?_)
          · refine okM_bM (kP_SqlReaderModel_place I_u_142 (by have FUe : FU = 100000 := rfl; have B_215 := IP_p I_u_142; have B_216 := IP_p I; omega) (by have FUe : FU = 100000 := rfl; have B_217 := IP_p I_u_142; have B_218 := IP_p I; omega) (by have FUe : FU = 100000 := rfl; have B_219 := IP_p I_u_142; have B_220 := IP_p I; omega) (by have FUe : FU = 100000 := rfl; have B_221 := IP_p I_u_142; have B_222 := IP_p I; omega) (by have FUe : FU = 100000 := rfl; have B_223 := IP_p I_u_142; have B_224 := IP_p I; omega)) (fun r_225 u_226 z_214 => ?_)
            obtain ⟨I_u_226, G_u_226, p_227, p_228, p_229⟩ := z_214
            have F_u_226 : Fr [2, 4, 5, 28] [10, 11, 12, 13, 14, 15, 16, 17, 18, 19, 20] u u_226 := Fr_tr F_u_142 G_u_226 rfl rfl
            have g_230 : (u_226.1 1).toInt = (u_142.1 1).toInt := by rw [G_u_226.1 1 rfl]
            have g_231 : (u_226.1 2).toInt = (u_142.1 2).toInt := by rw [G_u_226.1 2 rfl]
            exact okM_some ⟨I_u_226, F_u_226, (by have B_232 := IP_p I; have B_233 := IP_p I_u_226; omega), (by have B_234 := IP_p I; have B_235 := IP_p I_u_226; omega), (by have B_236 := IP_p I_u_226; omega), (by have B_237 := IP_p I_u_226; omega), (by omega), (by have B_238 := IP_p I_u_226; omega), (by have B_239 := IP_p I_u_226; omega), (by have B_240 := IP_p I_u_226; have B_241 := IP_p I; omega), (by have B_242 := IP_p I; have B_243 := IP_p I_u_226; omega)⟩
          · try have e_244 : (x1 + 2 : Int32).toInt = (x1 : Int32).toInt + (2 : Int32).toInt := by have B_245 := IP_p I; exact add_i (by omega) (by omega)
            refine okM_bM (kP_SqlReaderModel_place I_u_142 (by have FUe : FU = 100000 := rfl; have B_247 := IP_p I_u_142; have B_248 := IP_p I; omega) (by have FUe : FU = 100000 := rfl; have B_249 := IP_p I_u_142; have B_250 := IP_p I; omega) (by have FUe : FU = 100000 := rfl; have B_251 := IP_p I_u_142; have B_252 := IP_p I; omega) (by have FUe : FU = 100000 := rfl; have B_253 := IP_p I_u_142; have B_254 := IP_p I; omega) (by have FUe : FU = 100000 := rfl; have B_255 := IP_p I_u_142; have B_256 := IP_p I; omega)) (fun r_257 u_258 z_246 => ?_)
            obtain ⟨I_u_258, G_u_258, p_259, p_260, p_261⟩ := z_246
            have F_u_258 : Fr [2, 4, 5, 28] [10, 11, 12, 13, 14, 15, 16, 17, 18, 19, 20] u u_258 := Fr_tr F_u_142 G_u_258 rfl rfl
            have g_262 : (u_258.1 1).toInt = (u_142.1 1).toInt := by rw [G_u_258.1 1 rfl]
            have g_263 : (u_258.1 2).toInt = (u_142.1 2).toInt := by rw [G_u_258.1 2 rfl]
            exact okM_some ⟨I_u_258, F_u_258, (by have B_264 := IP_p I; have B_265 := IP_p I_u_258; omega), (by have B_266 := IP_p I; have B_267 := IP_p I_u_258; omega), (by have B_268 := IP_p I_u_258; omega), (by have B_269 := IP_p I_u_258; omega), (by omega), (by have B_270 := IP_p I_u_258; omega), (by have B_271 := IP_p I_u_258; omega), (by have B_272 := IP_p I_u_258; have B_273 := IP_p I; omega), (by have B_274 := IP_p I; have B_275 := IP_p I_u_258; omega)⟩
    · rw [mM_SqlReaderModel_primary_J290]
      refine okM_gd (by decide) ?_
      refine okM_seq (fun u_277 h_276 => ?_)
      have I_u_277 : IP u_277 := by rw [h_276]; exact IP_bad I (by have B_278 := IP_b I; omega) (by have B_279 := IP_b I; omega) (by have B_280 := IP_b I; omega)
      have F_u_277 : Fr [2, 4, 5, 28] [10, 11, 12, 13, 14, 15, 16, 17, 18, 19, 20] u u_277 := by rw [h_276]; exact Fr_ss (Fr_rfl u) rfl rfl
      have g_281 : (u_277.1 2).toInt = (0 : Int32).toInt := by rw [h_276]; rfl
      have g_282 : (u_277.1 1).toInt = (u.1 1).toInt := by rw [h_276]; rfl
      have g_283 : (u_277.1 4).toInt = (u.1 4).toInt := by rw [h_276]; rfl
      refine okM_eq (fun c_284 c_284' => ?_) (fun c_284 => ?_)
      · rw [mM_SqlReaderModel_primary_J304]
        refine okM_eq (fun c_285 c_285' => ?_) (fun c_285 => ?_)
        · refine okM_bM (kP_SqlReaderModel_place I_u_277 (by have FUe : FU = 100000 := rfl; have B_287 := IP_p I_u_277; have B_288 := IP_p I; omega) (by have FUe : FU = 100000 := rfl; have B_289 := IP_p I_u_277; have B_290 := IP_p I; omega) (by have FUe : FU = 100000 := rfl; have B_291 := IP_p I_u_277; have B_292 := IP_p I; omega) (by have FUe : FU = 100000 := rfl; have B_293 := IP_p I_u_277; have B_294 := IP_p I; omega) (by have FUe : FU = 100000 := rfl; have B_295 := IP_p I_u_277; have B_296 := IP_p I; omega)) (fun r_297 u_298 z_286 => ?_)
          obtain ⟨I_u_298, G_u_298, p_299, p_300, p_301⟩ := z_286
          have F_u_298 : Fr [2, 4, 5, 28] [10, 11, 12, 13, 14, 15, 16, 17, 18, 19, 20] u u_298 := Fr_tr F_u_277 G_u_298 rfl rfl
          have g_302 : (u_298.1 1).toInt = (u_277.1 1).toInt := by rw [G_u_298.1 1 rfl]
          have g_303 : (u_298.1 2).toInt = (u_277.1 2).toInt := by rw [G_u_298.1 2 rfl]
          exact okM_some ⟨I_u_298, F_u_298, (by have B_304 := IP_p I; have B_305 := IP_p I_u_298; omega), (by have B_306 := IP_p I; have B_307 := IP_p I_u_298; omega), (by have B_308 := IP_p I_u_298; omega), (by have B_309 := IP_p I_u_298; omega), (by omega), (by have B_310 := IP_p I_u_298; omega), (by have B_311 := IP_p I_u_298; omega), (by have B_312 := IP_p I_u_298; have B_313 := IP_p I; omega), (by have B_314 := IP_p I; have B_315 := IP_p I_u_298; omega)⟩
        · try have e_316 : (x1 + 2 : Int32).toInt = (x1 : Int32).toInt + (2 : Int32).toInt := by have B_317 := IP_p I; exact add_i (by omega) (by omega)
          refine okM_bM (kP_SqlReaderModel_place I_u_277 (by have FUe : FU = 100000 := rfl; have B_319 := IP_p I_u_277; have B_320 := IP_p I; omega) (by have FUe : FU = 100000 := rfl; have B_321 := IP_p I_u_277; have B_322 := IP_p I; omega) (by have FUe : FU = 100000 := rfl; have B_323 := IP_p I_u_277; have B_324 := IP_p I; omega) (by have FUe : FU = 100000 := rfl; have B_325 := IP_p I_u_277; have B_326 := IP_p I; omega) (by have FUe : FU = 100000 := rfl; have B_327 := IP_p I_u_277; have B_328 := IP_p I; omega)) (fun r_329 u_330 z_318 => ?_)
          obtain ⟨I_u_330, G_u_330, p_331, p_332, p_333⟩ := z_318
          have F_u_330 : Fr [2, 4, 5, 28] [10, 11, 12, 13, 14, 15, 16, 17, 18, 19, 20] u u_330 := Fr_tr F_u_277 G_u_330 rfl rfl
          have g_334 : (u_330.1 1).toInt = (u_277.1 1).toInt := by rw [G_u_330.1 1 rfl]
          have g_335 : (u_330.1 2).toInt = (u_277.1 2).toInt := by rw [G_u_330.1 2 rfl]
          exact okM_some ⟨I_u_330, F_u_330, (by have B_336 := IP_p I; have B_337 := IP_p I_u_330; omega), (by have B_338 := IP_p I; have B_339 := IP_p I_u_330; omega), (by have B_340 := IP_p I_u_330; omega), (by have B_341 := IP_p I_u_330; omega), (by omega), (by have B_342 := IP_p I_u_330; omega), (by have B_343 := IP_p I_u_330; omega), (by have B_344 := IP_p I_u_330; have B_345 := IP_p I; omega), (by have B_346 := IP_p I; have B_347 := IP_p I_u_330; omega)⟩
      · rw [mM_SqlReaderModel_primary_J304]
        refine okM_eq (fun c_348 c_348' => ?_) (fun c_348 => ?_)
        · refine okM_bM (kP_SqlReaderModel_place I_u_277 (by have FUe : FU = 100000 := rfl; have B_350 := IP_p I_u_277; have B_351 := IP_p I; omega) (by have FUe : FU = 100000 := rfl; have B_352 := IP_p I_u_277; have B_353 := IP_p I; omega) (by have FUe : FU = 100000 := rfl; have B_354 := IP_p I_u_277; have B_355 := IP_p I; omega) (by have FUe : FU = 100000 := rfl; have B_356 := IP_p I_u_277; have B_357 := IP_p I; omega) (by have FUe : FU = 100000 := rfl; have B_358 := IP_p I_u_277; have B_359 := IP_p I; omega)) (fun r_360 u_361 z_349 => ?_)
          obtain ⟨I_u_361, G_u_361, p_362, p_363, p_364⟩ := z_349
          have F_u_361 : Fr [2, 4, 5, 28] [10, 11, 12, 13, 14, 15, 16, 17, 18, 19, 20] u u_361 := Fr_tr F_u_277 G_u_361 rfl rfl
          have g_365 : (u_361.1 1).toInt = (u_277.1 1).toInt := by rw [G_u_361.1 1 rfl]
          have g_366 : (u_361.1 2).toInt = (u_277.1 2).toInt := by rw [G_u_361.1 2 rfl]
          exact okM_some ⟨I_u_361, F_u_361, (by have B_367 := IP_p I; have B_368 := IP_p I_u_361; omega), (by have B_369 := IP_p I; have B_370 := IP_p I_u_361; omega), (by have B_371 := IP_p I_u_361; omega), (by have B_372 := IP_p I_u_361; omega), (by omega), (by have B_373 := IP_p I_u_361; omega), (by have B_374 := IP_p I_u_361; omega), (by have B_375 := IP_p I_u_361; have B_376 := IP_p I; omega), (by have B_377 := IP_p I; have B_378 := IP_p I_u_361; omega)⟩
        · try have e_379 : (x1 + 2 : Int32).toInt = (x1 : Int32).toInt + (2 : Int32).toInt := by have B_380 := IP_p I; exact add_i (by omega) (by omega)
          refine okM_bM (kP_SqlReaderModel_place I_u_277 (by have FUe : FU = 100000 := rfl; have B_382 := IP_p I_u_277; have B_383 := IP_p I; omega) (by have FUe : FU = 100000 := rfl; have B_384 := IP_p I_u_277; have B_385 := IP_p I; omega) (by have FUe : FU = 100000 := rfl; have B_386 := IP_p I_u_277; have B_387 := IP_p I; omega) (by have FUe : FU = 100000 := rfl; have B_388 := IP_p I_u_277; have B_389 := IP_p I; omega) (by have FUe : FU = 100000 := rfl; have B_390 := IP_p I_u_277; have B_391 := IP_p I; omega)) (fun r_392 u_393 z_381 => ?_)
          obtain ⟨I_u_393, G_u_393, p_394, p_395, p_396⟩ := z_381
          have F_u_393 : Fr [2, 4, 5, 28] [10, 11, 12, 13, 14, 15, 16, 17, 18, 19, 20] u u_393 := Fr_tr F_u_277 G_u_393 rfl rfl
          have g_397 : (u_393.1 1).toInt = (u_277.1 1).toInt := by rw [G_u_393.1 1 rfl]
          have g_398 : (u_393.1 2).toInt = (u_277.1 2).toInt := by rw [G_u_393.1 2 rfl]
          exact okM_some ⟨I_u_393, F_u_393, (by have B_399 := IP_p I; have B_400 := IP_p I_u_393; omega), (by have B_401 := IP_p I; have B_402 := IP_p I_u_393; omega), (by have B_403 := IP_p I_u_393; omega), (by have B_404 := IP_p I_u_393; omega), (by omega), (by have B_405 := IP_p I_u_393; omega), (by have B_406 := IP_p I_u_393; omega), (by have B_407 := IP_p I_u_393; have B_408 := IP_p I; omega), (by have B_409 := IP_p I; have B_410 := IP_p I_u_393; omega)⟩
  · rw [mM_SqlReaderModel_primary_J290]
    refine okM_gd (by decide) ?_
    refine okM_seq (fun u_412 h_411 => ?_)
    have I_u_412 : IP u_412 := by rw [h_411]; exact IP_bad I (by have B_413 := IP_b I; omega) (by have B_414 := IP_b I; omega) (by have B_415 := IP_b I; omega)
    have F_u_412 : Fr [2, 4, 5, 28] [10, 11, 12, 13, 14, 15, 16, 17, 18, 19, 20] u u_412 := by rw [h_411]; exact Fr_ss (Fr_rfl u) rfl rfl
    have g_416 : (u_412.1 2).toInt = (1 : Int32).toInt := by rw [h_411]; rfl
    have g_417 : (u_412.1 1).toInt = (u.1 1).toInt := by rw [h_411]; rfl
    have g_418 : (u_412.1 4).toInt = (u.1 4).toInt := by rw [h_411]; rfl
    refine okM_eq (fun c_419 c_419' => ?_) (fun c_419 => ?_)
    · rw [mM_SqlReaderModel_primary_J304]
      refine okM_eq (fun c_420 c_420' => ?_) (fun c_420 => ?_)
      · refine okM_bM (kP_SqlReaderModel_place I_u_412 (by have FUe : FU = 100000 := rfl; have B_422 := IP_p I_u_412; have B_423 := IP_p I; omega) (by have FUe : FU = 100000 := rfl; have B_424 := IP_p I_u_412; have B_425 := IP_p I; omega) (by have FUe : FU = 100000 := rfl; have B_426 := IP_p I_u_412; have B_427 := IP_p I; omega) (by have FUe : FU = 100000 := rfl; have B_428 := IP_p I_u_412; have B_429 := IP_p I; omega) (by have FUe : FU = 100000 := rfl; have B_430 := IP_p I_u_412; have B_431 := IP_p I; omega)) (fun r_432 u_433 z_421 => ?_)
        obtain ⟨I_u_433, G_u_433, p_434, p_435, p_436⟩ := z_421
        have F_u_433 : Fr [2, 4, 5, 28] [10, 11, 12, 13, 14, 15, 16, 17, 18, 19, 20] u u_433 := Fr_tr F_u_412 G_u_433 rfl rfl
        have g_437 : (u_433.1 1).toInt = (u_412.1 1).toInt := by rw [G_u_433.1 1 rfl]
        have g_438 : (u_433.1 2).toInt = (u_412.1 2).toInt := by rw [G_u_433.1 2 rfl]
        exact okM_some ⟨I_u_433, F_u_433, (by have B_439 := IP_p I; have B_440 := IP_p I_u_433; omega), (by have B_441 := IP_p I; have B_442 := IP_p I_u_433; omega), (by have B_443 := IP_p I_u_433; omega), (by have B_444 := IP_p I_u_433; omega), (by omega), (by have B_445 := IP_p I_u_433; omega), (by have B_446 := IP_p I_u_433; omega), (by have B_447 := IP_p I_u_433; have B_448 := IP_p I; omega), (by have B_449 := IP_p I; have B_450 := IP_p I_u_433; omega)⟩
      · try have e_451 : (x1 + 2 : Int32).toInt = (x1 : Int32).toInt + (2 : Int32).toInt := by have B_452 := IP_p I; exact add_i (by omega) (by omega)
        refine okM_bM (kP_SqlReaderModel_place I_u_412 (by have FUe : FU = 100000 := rfl; have B_454 := IP_p I_u_412; have B_455 := IP_p I; omega) (by have FUe : FU = 100000 := rfl; have B_456 := IP_p I_u_412; have B_457 := IP_p I; omega) (by have FUe : FU = 100000 := rfl; have B_458 := IP_p I_u_412; have B_459 := IP_p I; omega) (by have FUe : FU = 100000 := rfl; have B_460 := IP_p I_u_412; have B_461 := IP_p I; omega) (by have FUe : FU = 100000 := rfl; have B_462 := IP_p I_u_412; have B_463 := IP_p I; omega)) (fun r_464 u_465 z_453 => ?_)
        obtain ⟨I_u_465, G_u_465, p_466, p_467, p_468⟩ := z_453
        have F_u_465 : Fr [2, 4, 5, 28] [10, 11, 12, 13, 14, 15, 16, 17, 18, 19, 20] u u_465 := Fr_tr F_u_412 G_u_465 rfl rfl
        have g_469 : (u_465.1 1).toInt = (u_412.1 1).toInt := by rw [G_u_465.1 1 rfl]
        have g_470 : (u_465.1 2).toInt = (u_412.1 2).toInt := by rw [G_u_465.1 2 rfl]
        exact okM_some ⟨I_u_465, F_u_465, (by have B_471 := IP_p I; have B_472 := IP_p I_u_465; omega), (by have B_473 := IP_p I; have B_474 := IP_p I_u_465; omega), (by have B_475 := IP_p I_u_465; omega), (by have B_476 := IP_p I_u_465; omega), (by omega), (by have B_477 := IP_p I_u_465; omega), (by have B_478 := IP_p I_u_465; omega), (by have B_479 := IP_p I_u_465; have B_480 := IP_p I; omega), (by have B_481 := IP_p I; have B_482 := IP_p I_u_465; omega)⟩
    · rw [mM_SqlReaderModel_primary_J304]
      refine okM_eq (fun c_483 c_483' => ?_) (fun c_483 => ?_)
      · refine okM_bM (kP_SqlReaderModel_place I_u_412 (by have FUe : FU = 100000 := rfl; have B_485 := IP_p I_u_412; have B_486 := IP_p I; omega) (by have FUe : FU = 100000 := rfl; have B_487 := IP_p I_u_412; have B_488 := IP_p I; omega) (by have FUe : FU = 100000 := rfl; have B_489 := IP_p I_u_412; have B_490 := IP_p I; omega) (by have FUe : FU = 100000 := rfl; have B_491 := IP_p I_u_412; have B_492 := IP_p I; omega) (by have FUe : FU = 100000 := rfl; have B_493 := IP_p I_u_412; have B_494 := IP_p I; omega)) (fun r_495 u_496 z_484 => ?_)
        obtain ⟨I_u_496, G_u_496, p_497, p_498, p_499⟩ := z_484
        have F_u_496 : Fr [2, 4, 5, 28] [10, 11, 12, 13, 14, 15, 16, 17, 18, 19, 20] u u_496 := Fr_tr F_u_412 G_u_496 rfl rfl
        have g_500 : (u_496.1 1).toInt = (u_412.1 1).toInt := by rw [G_u_496.1 1 rfl]
        have g_501 : (u_496.1 2).toInt = (u_412.1 2).toInt := by rw [G_u_496.1 2 rfl]
        exact okM_some ⟨I_u_496, F_u_496, (by have B_502 := IP_p I; have B_503 := IP_p I_u_496; omega), (by have B_504 := IP_p I; have B_505 := IP_p I_u_496; omega), (by have B_506 := IP_p I_u_496; omega), (by have B_507 := IP_p I_u_496; omega), (by omega), (by have B_508 := IP_p I_u_496; omega), (by have B_509 := IP_p I_u_496; omega), (by have B_510 := IP_p I_u_496; have B_511 := IP_p I; omega), (by have B_512 := IP_p I; have B_513 := IP_p I_u_496; omega)⟩
      · try have e_514 : (x1 + 2 : Int32).toInt = (x1 : Int32).toInt + (2 : Int32).toInt := by have B_515 := IP_p I; exact add_i (by omega) (by omega)
        refine okM_bM (kP_SqlReaderModel_place I_u_412 (by have FUe : FU = 100000 := rfl; have B_517 := IP_p I_u_412; have B_518 := IP_p I; omega) (by have FUe : FU = 100000 := rfl; have B_519 := IP_p I_u_412; have B_520 := IP_p I; omega) (by have FUe : FU = 100000 := rfl; have B_521 := IP_p I_u_412; have B_522 := IP_p I; omega) (by have FUe : FU = 100000 := rfl; have B_523 := IP_p I_u_412; have B_524 := IP_p I; omega) (by have FUe : FU = 100000 := rfl; have B_525 := IP_p I_u_412; have B_526 := IP_p I; omega)) (fun r_527 u_528 z_516 => ?_)
        obtain ⟨I_u_528, G_u_528, p_529, p_530, p_531⟩ := z_516
        have F_u_528 : Fr [2, 4, 5, 28] [10, 11, 12, 13, 14, 15, 16, 17, 18, 19, 20] u u_528 := Fr_tr F_u_412 G_u_528 rfl rfl
        have g_532 : (u_528.1 1).toInt = (u_412.1 1).toInt := by rw [G_u_528.1 1 rfl]
        have g_533 : (u_528.1 2).toInt = (u_412.1 2).toInt := by rw [G_u_528.1 2 rfl]
        exact okM_some ⟨I_u_528, F_u_528, (by have B_534 := IP_p I; have B_535 := IP_p I_u_528; omega), (by have B_536 := IP_p I; have B_537 := IP_p I_u_528; omega), (by have B_538 := IP_p I_u_528; omega), (by have B_539 := IP_p I_u_528; omega), (by omega), (by have B_540 := IP_p I_u_528; omega), (by have B_541 := IP_p I_u_528; omega), (by have B_542 := IP_p I_u_528; have B_543 := IP_p I; omega), (by have B_544 := IP_p I; have B_545 := IP_p I_u_528; omega)⟩
