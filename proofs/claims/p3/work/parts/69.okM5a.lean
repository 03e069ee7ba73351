theorem kP_SqlReaderModel_takes {k1 : Nat} {u : St} (I : IP u) (h0 : stok k1 = true) : okM (mM_SqlReaderModel_takes k1 u) (fun r v => IP v ∧ Fr [30] [] u v ∧ 0 ≤ r.toInt ∧ r.toInt ≤ 1 ∧ ((r.toInt = 0 ∧ (v.1 30).toInt = (u.1 30).toInt) ∨ (r.toInt = 1 ∧ (v.1 30).toInt = (u.1 30).toInt + 1 ∧ (u.1 30).toInt < (u.1 1).toInt))) := by
  have l0 : (0 : Int32).toInt = 0 := by decide
  have l1 : (1 : Int32).toInt = 1 := by decide
  have l30 : (30 : Int32).toInt = 30 := by decide
  rw [mM_SqlReaderModel_takes]
  refine okM_bP (kM_SqlReaderModel_is (IP_IW I) h0 (by have FUe : FU = 100000 := rfl; have B_2 := IP_b I; omega)) (fun r_3 z_1 => ?_)
  obtain ⟨p_4, p_5, p_6⟩ := z_1
  refine okM_eq (fun c_7 c_7' => ?_) (fun c_7 => ?_)
  · refine okM_seq (fun u_9 h_8 => ?_)
    have I_u_9 : IP u_9 := by rw [h_8]; exact IP_s30 I (by have B_10 := IP_b I; omega) (by have B_11 := IP_b I; omega)
    have F_u_9 : Fr [30] [] u u_9 := by rw [h_8]; exact Fr_ss (Fr_rfl u) rfl rfl
    have g_12 : (u_9.1 30).toInt = ((u.1 30) : Int32).toInt := by rw [h_8]; rfl
    have g_13 : (u_9.1 1).toInt = (u.1 1).toInt := by rw [h_8]; rfl
    have g_14 : (u_9.1 2).toInt = (u.1 2).toInt := by rw [h_8]; rfl
    have g_15 : (u_9.1 4).toInt = (u.1 4).toInt := by rw [h_8]; rfl
    refine okM_gd (zb_of (by omega) (by omega)) ?_
    exact okM_some ⟨I_u_9, F_u_9, (by omega), (by omega), (by have B_16 := IP_b I_u_9; have B_17 := IP_b I; omega)⟩
  · refine okM_seq (fun u_19 h_18 => ?_)
    try have e_20 : ((u.1 30) + 1 : Int32).toInt = ((u.1 30) : Int32).toInt + (1 : Int32).toInt := by have B_21 := IP_b I; exact add_i (by omega) (by omega)
    have I_u_19 : IP u_19 := by rw [h_18]; exact IP_s30 I (by have B_22 := IP_b I; omega) (by have B_23 := IP_b I; omega)
    have F_u_19 : Fr [30] [] u u_19 := by rw [h_18]; exact Fr_ss (Fr_rfl u) rfl rfl
    try have e_24 : ((u.1 30) + 1 : Int32).toInt = ((u.1 30) : Int32).toInt + (1 : Int32).toInt := by have B_25 := IP_b I; exact add_i (by omega) (by omega)
    have g_26 : (u_19.1 30).toInt = (((u.1 30) + 1) : Int32).toInt := by rw [h_18]; rfl
    have g_27 : (u_19.1 1).toInt = (u.1 1).toInt := by rw [h_18]; rfl
    have g_28 : (u_19.1 2).toInt = (u.1 2).toInt := by rw [h_18]; rfl
    have g_29 : (u_19.1 4).toInt = (u.1 4).toInt := by rw [h_18]; rfl
    refine okM_gd (zb_of (by omega) (by omega)) ?_
    exact okM_some ⟨I_u_19, F_u_19, (by omega), (by omega), (by have B_30 := IP_b I_u_19; have B_31 := IP_b I; omega)⟩
theorem kP_SqlReaderModel_need {k1 : Nat} {u : St} (I : IP u) (h0 : stok k1 = true) : ok (mM_SqlReaderModel_need k1 u) (fun v => IP v ∧ Fr [2, 30] [] u v ∧ (u.1 2).toInt ≤ (v.1 2).toInt ∧ (((v.1 30).toInt = (u.1 30).toInt ∧ (v.1 2).toInt = 1) ∨ ((v.1 30).toInt = (u.1 30).toInt + 1 ∧ (u.1 30).toInt < (u.1 1).toInt ∧ (v.1 2).toInt = (u.1 2).toInt))) := by
  have l0 : (0 : Int32).toInt = 0 := by decide
  have l1 : (1 : Int32).toInt = 1 := by decide
  have l2 : (2 : Int32).toInt = 2 := by decide
  have l30 : (30 : Int32).toInt = 30 := by decide
  rw [mM_SqlReaderModel_need]
  refine ok_bM (kP_SqlReaderModel_takes I h0) (fun r_2 u_3 z_1 => ?_)
  obtain ⟨I_u_3, G_u_3, p_4, p_5, p_6⟩ := z_1
  have F_u_3 : Fr [2, 30] [] u u_3 := Fr_tr (Fr_rfl u) G_u_3 rfl rfl
  have g_7 : (u_3.1 1).toInt = (u.1 1).toInt := by rw [G_u_3.1 1 rfl]
  have g_8 : (u_3.1 2).toInt = (u.1 2).toInt := by rw [G_u_3.1 2 rfl]
  have g_9 : (u_3.1 4).toInt = (u.1 4).toInt := by rw [G_u_3.1 4 rfl]
  refine ok_eq (fun c_10 c_10' => ?_) (fun c_10 => ?_)
  · refine ok_seq (fun u_12 h_11 => ?_)
    have I_u_12 : IP u_12 := by rw [h_11]; exact IP_bad I_u_3 (by have B_13 := IP_b I_u_3; omega) (by have B_14 := IP_b I_u_3; omega) (by have B_15 := IP_b I_u_3; omega)
    have F_u_12 : Fr [2, 30] [] u u_12 := by rw [h_11]; exact Fr_ss F_u_3 rfl rfl
    have g_16 : (u_12.1 2).toInt = (1 : Int32).toInt := by rw [h_11]; rfl
    have g_17 : (u_12.1 1).toInt = (u_3.1 1).toInt := by rw [h_11]; rfl
    have g_18 : (u_12.1 4).toInt = (u_3.1 4).toInt := by rw [h_11]; rfl
    have g_19 : (u_12.1 30).toInt = (u_3.1 30).toInt := by rw [h_11]; rfl
    exact ok_some ⟨I_u_12, F_u_12, (by have B_20 := IP_b I; have B_21 := IP_b I_u_12; omega), (by have B_22 := IP_b I_u_12; have B_23 := IP_b I; omega)⟩
  · refine ok_eq (fun c_24 c_24' => ?_) (fun c_24 => ?_)
    · refine ok_seq (fun u_26 h_25 => ?_)
      have I_u_26 : IP u_26 := by rw [h_25]; exact IP_bad I_u_3 (by have B_27 := IP_b I_u_3; omega) (by have B_28 := IP_b I_u_3; omega) (by have B_29 := IP_b I_u_3; omega)
      have F_u_26 : Fr [2, 30] [] u u_26 := by rw [h_25]; exact Fr_ss F_u_3 rfl rfl
      have g_30 : (u_26.1 2).toInt = (0 : Int32).toInt := by rw [h_25]; rfl
      have g_31 : (u_26.1 1).toInt = (u_3.1 1).toInt := by rw [h_25]; rfl
      have g_32 : (u_26.1 4).toInt = (u_3.1 4).toInt := by rw [h_25]; rfl
      have g_33 : (u_26.1 30).toInt = (u_3.1 30).toInt := by rw [h_25]; rfl
      exact ok_some ⟨I_u_26, F_u_26, (by have B_34 := IP_b I; have B_35 := IP_b I_u_26; omega), (by have B_36 := IP_b I_u_26; have B_37 := IP_b I; omega)⟩
    · refine ok_seq (fun u_39 h_38 => ?_)
      have I_u_39 : IP u_39 := by rw [h_38]; exact IP_bad I_u_3 (by have B_40 := IP_b I_u_3; omega) (by have B_41 := IP_b I_u_3; omega) (by have B_42 := IP_b I_u_3; omega)
      have F_u_39 : Fr [2, 30] [] u u_39 := by rw [h_38]; exact Fr_ss F_u_3 rfl rfl
      have g_43 : (u_39.1 2).toInt = (1 : Int32).toInt := by rw [h_38]; rfl
      have g_44 : (u_39.1 1).toInt = (u_3.1 1).toInt := by rw [h_38]; rfl
      have g_45 : (u_39.1 4).toInt = (u_3.1 4).toInt := by rw [h_38]; rfl
      have g_46 : (u_39.1 30).toInt = (u_3.1 30).toInt := by rw [h_38]; rfl
      exact ok_some ⟨I_u_39, F_u_39, (by have B_47 := IP_b I; have B_48 := IP_b I_u_39; omega), (by have B_49 := IP_b I_u_39; have B_50 := IP_b I; omega)⟩
theorem kP_SqlReaderModel_readWhere {u : St} (I : IP u) (h0 : (u.1 4).toInt ≤ 185000) (h1 : (u.1 2).toInt = 1 ∨ ((u.1 4).toInt ≤ 100000 + 40 * (u.1 30).toInt ∧ (u.1 30).toInt ≤ (u.1 1).toInt)) (h2 : (u.1 30).toInt ≤ 3800) : ok (mM_SqlReaderModel_readWhere u) (fun v => IP v ∧ Fr [2, 4, 5, 15, 28, 30] [10, 11, 12, 13, 14, 15, 16, 17, 18, 19, 20] u v ∧ (u.1 2).toInt ≤ (v.1 2).toInt ∧ (v.1 4).toInt ≤ 185000 ∧ ((v.1 2).toInt = 1 ∨ ((v.1 4).toInt ≤ 100000 + 40 * (v.1 30).toInt ∧ (v.1 30).toInt ≤ (u.1 1).toInt)) ∧ ((v.1 30).toInt ≤ (u.1 30).toInt + 0 ∨ (v.1 30).toInt ≤ (u.1 1).toInt + 0) ∧ ((v.1 2).toInt = 1 ∨ (u.1 30).toInt ≤ (v.1 30).toInt)) := by
  have l0 : (0 : Int32).toInt = 0 := by decide
  have l1 : (1 : Int32).toInt = 1 := by decide
  have l2 : (2 : Int32).toInt = 2 := by decide
  have l3 : (3 : Int32).toInt = 3 := by decide
  have l4 : (4 : Int32).toInt = 4 := by decide
  have l6 : (6 : Int32).toInt = 6 := by decide
  have l7 : (7 : Int32).toInt = 7 := by decide
  have l9 : (9 : Int32).toInt = 9 := by decide
  have l10 : (10 : Int32).toInt = 10 := by decide
  have l15 : (15 : Int32).toInt = 15 := by decide
  have l26 : (26 : Int32).toInt = 26 := by decide
  have l30 : (30 : Int32).toInt = 30 := by decide
  have l40 : (40 : Int32).toInt = 40 := by decide
  have l83 : (83 : Int32).toInt = 83 := by decide
  have l200 : (200 : Int32).toInt = 200 := by decide
  have l100000 : (100000 : Int32).toInt = 100000 := by decide
  have l185000 : (185000 : Int32).toInt = 185000 := by decide
  rw [mM_SqlReaderModel_readWhere]
  refine ok_bM (kP_SqlReaderModel_takes I (by decide)) (fun r_2 u_3 z_1 => ?_)
  obtain ⟨I_u_3, G_u_3, p_4, p_5, p_6⟩ := z_1
  have F_u_3 : Fr [2, 4, 5, 15, 28, 30] [10, 11, 12, 13, 14, 15, 16, 17, 18, 19, 20] u u_3 := Fr_tr (Fr_rfl u) G_u_3 rfl rfl
  have g_7 : (u_3.1 1).toInt = (u.1 1).toInt := by rw [G_u_3.1 1 rfl]
  have g_8 : (u_3.1 2).toInt = (u.1 2).toInt := by rw [G_u_3.1 2 rfl]
  have g_9 : (u_3.1 4).toInt = (u.1 4).toInt := by rw [G_u_3.1 4 rfl]
  have g_10 : (u_3.1 15).toInt = (u.1 15).toInt := by rw [G_u_3.1 15 rfl]
  refine ok_eq (fun c_11 c_11' => ?_) (fun c_11 => ?_)
  · exact ok_some ⟨I_u_3, F_u_3, (by have B_12 := IP_b I; have B_13 := IP_b I_u_3; omega), (by have B_14 := IP_b I_u_3; omega), (by have B_15 := IP_b I_u_3; have B_16 := IP_b I; omega), (by have B_17 := IP_b I_u_3; have B_18 := IP_b I; omega), (by have B_19 := IP_b I_u_3; have B_20 := IP_b I; omega)⟩
  · refine ok_bM (kP_SqlReaderModel_expression I_u_3 (by have FUe : FU = 100000 := rfl; have B_22 := IP_b I_u_3; have B_23 := IP_b I; omega) (by have FUe : FU = 100000 := rfl; have B_24 := IP_b I_u_3; have B_25 := IP_b I; omega)) (fun r_26 u_27 z_21 => ?_)
    obtain ⟨I_u_27, G_u_27, p_28, p_29, p_30, p_31, p_32, p_33, p_34, p_35, p_36⟩ := z_21
    have F_u_27 : Fr [2, 4, 5, 15, 28, 30] [10, 11, 12, 13, 14, 15, 16, 17, 18, 19, 20] u u_27 := Fr_tr F_u_3 G_u_27 rfl rfl
    have g_37 : (u_27.1 1).toInt = (u_3.1 1).toInt := by rw [G_u_27.1 1 rfl]
    have g_38 : (u_27.1 15).toInt = (u_3.1 15).toInt := by rw [G_u_27.1 15 rfl]
    refine ok_seq (fun u_40 h_39 => ?_)
    have I_u_40 : IP u_40 := by rw [h_39]; exact I_u_27
    have F_u_40 : Fr [2, 4, 5, 15, 28, 30] [10, 11, 12, 13, 14, 15, 16, 17, 18, 19, 20] u u_40 := by rw [h_39]; exact Fr_ss F_u_27 rfl rfl
    have g_41 : (u_40.1 15).toInt = (r_26 : Int32).toInt := by rw [h_39]; rfl
    have g_42 : (u_40.1 1).toInt = (u_27.1 1).toInt := by rw [h_39]; rfl
    have g_43 : (u_40.1 2).toInt = (u_27.1 2).toInt := by rw [h_39]; rfl
    have g_44 : (u_40.1 4).toInt = (u_27.1 4).toInt := by rw [h_39]; rfl
    have g_45 : (u_40.1 30).toInt = (u_27.1 30).toInt := by rw [h_39]; rfl
    refine ok_bP (kP_SqlReaderModel_note I_u_40 (by have FUe : FU = 100000 := rfl; have B_47 := IP_b I_u_40; have B_48 := IP_b I; omega) (by have FUe : FU = 100000 := rfl; have B_49 := IP_b I_u_40; have B_50 := IP_b I; omega) (by have FUe : FU = 100000 := rfl; have B_51 := IP_b I_u_40; have B_52 := IP_b I; omega) (by have FUe : FU = 100000 := rfl; have B_53 := IP_b I_u_40; have B_54 := IP_b I; omega) (by have FUe : FU = 100000 := rfl; have B_55 := IP_b I_u_40; have B_56 := IP_b I; omega)) (fun u_57 z_46 => ?_)
    obtain ⟨I_u_57, G_u_57⟩ := z_46
    have F_u_57 : Fr [2, 4, 5, 15, 28, 30] [10, 11, 12, 13, 14, 15, 16, 17, 18, 19, 20] u u_57 := Fr_tr F_u_40 G_u_57 rfl rfl
    have g_58 : (u_57.1 1).toInt = (u_40.1 1).toInt := by rw [G_u_57.1 1 rfl]
    have g_59 : (u_57.1 2).toInt = (u_40.1 2).toInt := by rw [G_u_57.1 2 rfl]
    have g_60 : (u_57.1 4).toInt = (u_40.1 4).toInt := by rw [G_u_57.1 4 rfl]
    have g_61 : (u_57.1 30).toInt = (u_40.1 30).toInt := by rw [G_u_57.1 30 rfl]
    have g_62 : (u_57.1 15).toInt = (u_40.1 15).toInt := by rw [G_u_57.1 15 rfl]
    exact ok_some ⟨I_u_57, F_u_57, (by have B_63 := IP_b I; have B_64 := IP_b I_u_57; omega), (by have B_65 := IP_b I_u_57; omega), (by have B_66 := IP_b I_u_57; have B_67 := IP_b I; omega), (by have B_68 := IP_b I_u_57; have B_69 := IP_b I; omega), (by have B_70 := IP_b I_u_57; have B_71 := IP_b I; omega)⟩
theorem kP_SqlReaderModel_readValues_L18 : ∀ (n : Nat) {x1 : Int32} {u : St} (I : IP u) (h0 : (u.1 4).toInt ≤ 185000) (h1 : (u.1 2).toInt = 1 ∨ ((u.1 4).toInt ≤ 100000 + 40 * (u.1 30).toInt ∧ (u.1 30).toInt ≤ (u.1 1).toInt)) (h2 : (u.1 30).toInt ≤ 3800) (h3 : 0 ≤ x1.toInt) (h4 : x1.toInt ≤ 1) (h5 : (u.1 23).toInt ≤ 1000) (h6 : (u.1 2).toInt = 1 ∨ x1.toInt = 0 ∨ 2 * (u.1 23).toInt + 2 ≤ (u.1 30).toInt) (hm : (2 * (2100 - (u.1 30).toInt) + x1.toInt).toNat < n), ok (mM_SqlReaderModel_readValues_L18 n x1 u) (fun v => IP v ∧ Fr [2, 4, 5, 23, 28, 30] [10, 11, 12, 13, 14, 15, 16, 17, 18, 19, 20, 30] u v ∧ (u.1 2).toInt ≤ (v.1 2).toInt ∧ (v.1 4).toInt ≤ 185000 ∧ ((v.1 2).toInt = 1 ∨ ((v.1 4).toInt ≤ 100000 + 40 * (v.1 30).toInt ∧ (v.1 30).toInt ≤ (u.1 1).toInt)) ∧ ((v.1 30).toInt ≤ (u.1 30).toInt + 0 ∨ (v.1 30).toInt ≤ (u.1 1).toInt + 0) ∧ ((v.1 2).toInt = 1 ∨ (u.1 30).toInt ≤ (v.1 30).toInt)) := by
  intro n
  induction n with
  | zero => intro x1 u I h0 h1 h2 h3 h4 h5 h6 hm; exact absurd hm (Nat.not_lt_zero _)
  | succ n ih =>
    intro x1 u I h0 h1 h2 h3 h4 h5 h6 hm
    have l0 : (0 : Int32).toInt = 0 := by decide
    have l1 : (1 : Int32).toInt = 1 := by decide
    have l2 : (2 : Int32).toInt = 2 := by decide
    have l4 : (4 : Int32).toInt = 4 := by decide
    have l23 : (23 : Int32).toInt = 23 := by decide
    have l30 : (30 : Int32).toInt = 30 := by decide
    have l40 : (40 : Int32).toInt = 40 := by decide
    have l80 : (80 : Int32).toInt = 80 := by decide
    have l88 : (88 : Int32).toInt = 88 := by decide
    have l1000 : (1000 : Int32).toInt = 1000 := by decide
    have l2100 : (2100 : Int32).toInt = 2100 := by decide
    have l3800 : (3800 : Int32).toInt = 3800 := by decide
    have l100000 : (100000 : Int32).toInt = 100000 := by decide
    have l185000 : (185000 : Int32).toInt = 185000 := by decide
    rw [mM_SqlReaderModel_readValues_L18]
    refine ok_eq (fun c_1 c_1' => ?_) (fun c_1 => ?_)
    · refine ok_bP (kP_SqlReaderModel_need I (by decide)) (fun u_3 z_2 => ?_)
      obtain ⟨I_u_3, G_u_3, p_4, p_5⟩ := z_2
      have F_u_3 : Fr [2, 4, 5, 23, 28, 30] [10, 11, 12, 13, 14, 15, 16, 17, 18, 19, 20, 30] u u_3 := Fr_tr (Fr_rfl u) G_u_3 rfl rfl
      have g_6 : (u_3.1 1).toInt = (u.1 1).toInt := by rw [G_u_3.1 1 rfl]
      have g_7 : (u_3.1 4).toInt = (u.1 4).toInt := by rw [G_u_3.1 4 rfl]
      have g_8 : (u_3.1 23).toInt = (u.1 23).toInt := by rw [G_u_3.1 23 rfl]
      have Q_u_3_23 : u_3.1 23 = u.1 23 := G_u_3.1 23 rfl
      have g_9 : (ga u_3 30 (u_3.1 23)).toInt = (ga u 30 (u.1 23)).toInt := by show (u_3.2.1 30 (u_3.1 23).toNatClampNeg).toInt = _; rw [G_u_3.2.1 30 rfl, G_u_3.1 23 rfl]; rfl
      exact ok_some ⟨I_u_3, F_u_3, (by have B_10 := IP_b I; have B_11 := IP_b I_u_3; omega), (by have B_12 := IP_b I_u_3; omega), (by have B_13 := IP_b I_u_3; have B_14 := IP_b I; omega), (by have B_15 := IP_b I_u_3; have B_16 := IP_b I; omega), (by have B_17 := IP_b I_u_3; have B_18 := IP_b I; omega)⟩
    · refine ok_eq (fun c_19 c_19' => ?_) (fun c_19 => ?_)
      · refine ok_bM (kP_SqlReaderModel_expression I (by have FUe : FU = 100000 := rfl; have B_21 := IP_b I; omega) (by have FUe : FU = 100000 := rfl; have B_22 := IP_b I; omega)) (fun r_23 u_24 z_20 => ?_)
        obtain ⟨I_u_24, G_u_24, p_25, p_26, p_27, p_28, p_29, p_30, p_31, p_32, p_33⟩ := z_20
        have F_u_24 : Fr [2, 4, 5, 23, 28, 30] [10, 11, 12, 13, 14, 15, 16, 17, 18, 19, 20, 30] u u_24 := Fr_tr (Fr_rfl u) G_u_24 rfl rfl
        have g_34 : (u_24.1 1).toInt = (u.1 1).toInt := by rw [G_u_24.1 1 rfl]
        have g_35 : (u_24.1 23).toInt = (u.1 23).toInt := by rw [G_u_24.1 23 rfl]
        have Q_u_24_23 : u_24.1 23 = u.1 23 := G_u_24.1 23 rfl
        have g_36 : (ga u_24 30 (u_24.1 23)).toInt = (ga u 30 (u.1 23)).toInt := by show (u_24.2.1 30 (u_24.1 23).toNatClampNeg).toInt = _; rw [G_u_24.2.1 30 rfl, G_u_24.1 23 rfl]; rfl
        refine ok_gd (inb_of (by have B_37 := IP_b I; have B_38 := IP_b I_u_24; omega) (by have B_39 := IP_b I; have B_40 := IP_b I_u_24; omega)) ?_
        refine ok_seq (fun u_42 h_41 => ?_)
        have I_u_42 : IP u_42 := by rw [h_41]; exact I_u_24
        have F_u_42 : Fr [2, 4, 5, 23, 28, 30] [10, 11, 12, 13, 14, 15, 16, 17, 18, 19, 20, 30] u u_42 := by rw [h_41]; exact Fr_sa F_u_24 rfl rfl rfl
        have Q_u_42_23 : u_42.1 23 = u_24.1 23 := by rw [h_41]; rfl
        have g_43 : (ga u_42 30 (u_42.1 23)).toInt = (r_23 : Int32).toInt := by rw [h_41]; show (upd (u_24.2.1 30) ((u.1 23)).toNatClampNeg r_23 (u_24.1 23).toNatClampNeg).toInt = _; rw [Q_u_24_23, pk_us]
        have g_44 : (u_42.1 1).toInt = (u_24.1 1).toInt := by rw [h_41]; rfl
        have g_45 : (u_42.1 2).toInt = (u_24.1 2).toInt := by rw [h_41]; rfl
        have g_46 : (u_42.1 4).toInt = (u_24.1 4).toInt := by rw [h_41]; rfl
        have g_47 : (u_42.1 30).toInt = (u_24.1 30).toInt := by rw [h_41]; rfl
        have g_48 : (u_42.1 23).toInt = (u_24.1 23).toInt := by rw [h_41]; rfl
        refine ok_seq (fun u_50 h_49 => ?_)
        try have e_51 : ((u_42.1 23) + 1 : Int32).toInt = ((u_42.1 23) : Int32).toInt + (1 : Int32).toInt := by have B_52 := IP_b I; have B_53 := IP_b I_u_42; exact add_i (by omega) (by omega)
        have I_u_50 : IP u_50 := by rw [h_49]; exact IP_s23 I_u_42 (by have B_54 := IP_b I_u_42; omega) (by have B_55 := IP_b I_u_42; omega)
        have F_u_50 : Fr [2, 4, 5, 23, 28, 30] [10, 11, 12, 13, 14, 15, 16, 17, 18, 19, 20, 30] u u_50 := by rw [h_49]; exact Fr_ss F_u_42 rfl rfl
        try have e_56 : ((u_42.1 23) + 1 : Int32).toInt = ((u_42.1 23) : Int32).toInt + (1 : Int32).toInt := by have B_57 := IP_b I; have B_58 := IP_b I_u_42; exact add_i (by omega) (by omega)
        have g_59 : (u_50.1 23).toInt = (((u_42.1 23) + 1) : Int32).toInt := by rw [h_49]; rfl
        have g_60 : (u_50.1 1).toInt = (u_42.1 1).toInt := by rw [h_49]; rfl
        have g_61 : (u_50.1 2).toInt = (u_42.1 2).toInt := by rw [h_49]; rfl
        have g_62 : (u_50.1 4).toInt = (u_42.1 4).toInt := by rw [h_49]; rfl
        have g_63 : (u_50.1 30).toInt = (u_42.1 30).toInt := by rw [h_49]; rfl
        refine ok_bM (kP_SqlReaderModel_takes I_u_50 (by decide)) (fun r_65 u_66 z_64 => ?_)
        obtain ⟨I_u_66, G_u_66, p_67, p_68, p_69⟩ := z_64
        have F_u_66 : Fr [2, 4, 5, 23, 28, 30] [10, 11, 12, 13, 14, 15, 16, 17, 18, 19, 20, 30] u u_66 := Fr_tr F_u_50 G_u_66 rfl rfl
        have g_70 : (u_66.1 1).toInt = (u_50.1 1).toInt := by rw [G_u_66.1 1 rfl]
        have g_71 : (u_66.1 2).toInt = (u_50.1 2).toInt := by rw [G_u_66.1 2 rfl]
        have g_72 : (u_66.1 4).toInt = (u_50.1 4).toInt := by rw [G_u_66.1 4 rfl]
        have g_73 : (u_66.1 23).toInt = (u_50.1 23).toInt := by rw [G_u_66.1 23 rfl]
        have Q_u_66_23 : u_66.1 23 = u_50.1 23 := G_u_66.1 23 rfl
        have g_74 : (ga u_66 30 (u_66.1 23)).toInt = (ga u_50 30 (u_50.1 23)).toInt := by show (u_66.2.1 30 (u_66.1 23).toNatClampNeg).toInt = _; rw [G_u_66.2.1 30 rfl, G_u_66.1 23 rfl]; rfl
        refine ok_mono (ih I_u_66 (by have B_75 := IP_b I_u_66; omega) (by have B_76 := IP_b I_u_66; omega) (by have B_77 := IP_b I_u_66; omega) (by have B_78 := IP_b I_u_66; omega) (by have B_79 := IP_b I_u_66; omega) (by have B_80 := IP_b I_u_66; omega) (by have B_81 := IP_b I_u_66; omega) (by have B_82 := IP_b I_u_66; omega)) (fun u_84 z_83 => ?_)
        obtain ⟨I_u_84, G_u_84, p_85, p_86, p_87, p_88, p_89⟩ := z_83
        have F_u_84 : Fr [2, 4, 5, 23, 28, 30] [10, 11, 12, 13, 14, 15, 16, 17, 18, 19, 20, 30] u u_84 := Fr_tr F_u_66 G_u_84 rfl rfl
        have g_90 : (u_84.1 1).toInt = (u_66.1 1).toInt := by rw [G_u_84.1 1 rfl]
        exact ⟨I_u_84, F_u_84, (by have B_91 := IP_b I; have B_92 := IP_b I_u_84; omega), (by have B_93 := IP_b I_u_84; omega), (by have B_94 := IP_b I_u_84; have B_95 := IP_b I; omega), (by have B_96 := IP_b I_u_84; have B_97 := IP_b I; omega), (by have B_98 := IP_b I_u_84; have B_99 := IP_b I; omega)⟩
      · refine ok_bP (kP_SqlReaderModel_need I (by decide)) (fun u_101 z_100 => ?_)
        obtain ⟨I_u_101, G_u_101, p_102, p_103⟩ := z_100
        have F_u_101 : Fr [2, 4, 5, 23, 28, 30] [10, 11, 12, 13, 14, 15, 16, 17, 18, 19, 20, 30] u u_101 := Fr_tr (Fr_rfl u) G_u_101 rfl rfl
        have g_104 : (u_101.1 1).toInt = (u.1 1).toInt := by rw [G_u_101.1 1 rfl]
        have g_105 : (u_101.1 4).toInt = (u.1 4).toInt := by rw [G_u_101.1 4 rfl]
        have g_106 : (u_101.1 23).toInt = (u.1 23).toInt := by rw [G_u_101.1 23 rfl]
        have Q_u_101_23 : u_101.1 23 = u.1 23 := G_u_101.1 23 rfl
        have g_107 : (ga u_101 30 (u_101.1 23)).toInt = (ga u 30 (u.1 23)).toInt := by show (u_101.2.1 30 (u_101.1 23).toNatClampNeg).toInt = _; rw [G_u_101.2.1 30 rfl, G_u_101.1 23 rfl]; rfl
        exact ok_some ⟨I_u_101, F_u_101, (by have B_108 := IP_b I; have B_109 := IP_b I_u_101; omega), (by have B_110 := IP_b I_u_101; omega), (by have B_111 := IP_b I_u_101; have B_112 := IP_b I; omega), (by have B_113 := IP_b I_u_101; have B_114 := IP_b I; omega), (by have B_115 := IP_b I_u_101; have B_116 := IP_b I; omega)⟩
theorem kP_SqlReaderModel_readNamed {x1 : Int32} {u : St} (I : IP u) (h0 : (u.1 4).toInt ≤ 185000) (h1 : (u.1 2).toInt = 1 ∨ ((u.1 4).toInt ≤ 100000 + 40 * (u.1 30).toInt ∧ (u.1 30).toInt ≤ (u.1 1).toInt)) (h2 : (u.1 30).toInt ≤ 3800) (h3 : x1.toInt ≠ 5) : ok (mM_SqlReaderModel_readNamed x1 u) (fun v => IP v ∧ Fr [2, 7, 12, 30] [] u v ∧ (u.1 2).toInt ≤ (v.1 2).toInt ∧ (v.1 4).toInt ≤ 185000 ∧ ((v.1 2).toInt = 1 ∨ ((v.1 4).toInt ≤ 100000 + 40 * (v.1 30).toInt ∧ (v.1 30).toInt ≤ (u.1 1).toInt)) ∧ ((v.1 30).toInt ≤ (u.1 30).toInt + 1 ∨ (v.1 30).toInt ≤ (u.1 1).toInt + 1) ∧ ((v.1 2).toInt = 1 ∨ (u.1 30).toInt ≤ (v.1 30).toInt)) := by
  have l1 : (1 : Int32).toInt = 1 := by decide
  have l2 : (2 : Int32).toInt = 2 := by decide
  have l4 : (4 : Int32).toInt = 4 := by decide
  have l30 : (30 : Int32).toInt = 30 := by decide
  have l40 : (40 : Int32).toInt = 40 := by decide
  have l3900 : (3900 : Int32).toInt = 3900 := by decide
  have l100000 : (100000 : Int32).toInt = 100000 := by decide
  have l185000 : (185000 : Int32).toInt = 185000 := by decide
  rw [mM_SqlReaderModel_readNamed]
  refine ok_seq (fun u_2 h_1 => ?_)
  have I_u_2 : IP u_2 := by rw [h_1]; exact IP_s7 I (by have B_3 := IP_b I; omega)
  have F_u_2 : Fr [2, 7, 12, 30] [] u u_2 := by rw [h_1]; exact Fr_ss (Fr_rfl u) rfl rfl
  have g_4 : (u_2.1 7).toInt = (x1 : Int32).toInt := by rw [h_1]; rfl
  have g_5 : (u_2.1 1).toInt = (u.1 1).toInt := by rw [h_1]; rfl
  have g_6 : (u_2.1 2).toInt = (u.1 2).toInt := by rw [h_1]; rfl
  have g_7 : (u_2.1 4).toInt = (u.1 4).toInt := by rw [h_1]; rfl
  have g_8 : (u_2.1 30).toInt = (u.1 30).toInt := by rw [h_1]; rfl
  refine ok_bM (kP_SqlReaderModel_needName I_u_2 (by have FUe : FU = 100000 := rfl; have B_10 := IP_b I_u_2; have B_11 := IP_b I; omega)) (fun r_12 u_13 z_9 => ?_)
  obtain ⟨I_u_13, G_u_13, p_14, p_15, p_16, p_17⟩ := z_9
  have F_u_13 : Fr [2, 7, 12, 30] [] u u_13 := Fr_tr F_u_2 G_u_13 rfl rfl
  have g_18 : (u_13.1 1).toInt = (u_2.1 1).toInt := by rw [G_u_13.1 1 rfl]
  have g_19 : (u_13.1 4).toInt = (u_2.1 4).toInt := by rw [G_u_13.1 4 rfl]
  refine ok_seq (fun u_21 h_20 => ?_)
  have I_u_21 : IP u_21 := by rw [h_20]; exact IP_s12 I_u_13 (by have B_22 := IP_b I_u_13; omega) (by have B_23 := IP_b I_u_13; omega) (by have B_24 := IP_b I_u_13; omega)
  have F_u_21 : Fr [2, 7, 12, 30] [] u u_21 := by rw [h_20]; exact Fr_ss F_u_13 rfl rfl
  have g_25 : (u_21.1 12).toInt = (r_12 : Int32).toInt := by rw [h_20]; rfl
  have g_26 : (u_21.1 1).toInt = (u_13.1 1).toInt := by rw [h_20]; rfl
  have g_27 : (u_21.1 2).toInt = (u_13.1 2).toInt := by rw [h_20]; rfl
  have g_28 : (u_21.1 4).toInt = (u_13.1 4).toInt := by rw [h_20]; rfl
  have g_29 : (u_21.1 30).toInt = (u_13.1 30).toInt := by rw [h_20]; rfl
  exact ok_some ⟨I_u_21, F_u_21, (by have B_30 := IP_b I; have B_31 := IP_b I_u_21; omega), (by have B_32 := IP_b I_u_21; omega), (by have B_33 := IP_b I_u_21; have B_34 := IP_b I; omega), (by have B_35 := IP_b I_u_21; have B_36 := IP_b I; omega), (by have B_37 := IP_b I_u_21; have B_38 := IP_b I; omega)⟩
theorem kP_SqlReaderModel_readValues {u : St} (I : IP u) (h0 : (u.1 4).toInt ≤ 185000) (h1 : (u.1 2).toInt = 1 ∨ ((u.1 4).toInt ≤ 100000 + 40 * (u.1 30).toInt ∧ (u.1 30).toInt ≤ (u.1 1).toInt)) (h2 : (u.1 30).toInt ≤ 3800) (h3 : (u.1 23).toInt = 0) (h4 : (u.1 2).toInt = 1 ∨ 1 ≤ (u.1 30).toInt) : ok (mM_SqlReaderModel_readValues u) (fun v => IP v ∧ Fr [2, 4, 5, 7, 12, 23, 28, 30] [10, 11, 12, 13, 14, 15, 16, 17, 18, 19, 20, 30] u v ∧ (u.1 2).toInt ≤ (v.1 2).toInt ∧ (v.1 4).toInt ≤ 185000 ∧ ((v.1 2).toInt = 1 ∨ ((v.1 4).toInt ≤ 100000 + 40 * (v.1 30).toInt ∧ (v.1 30).toInt ≤ (u.1 1).toInt)) ∧ ((v.1 30).toInt ≤ (u.1 30).toInt + 1 ∨ (v.1 30).toInt ≤ (u.1 1).toInt + 1) ∧ ((v.1 2).toInt = 1 ∨ (u.1 30).toInt ≤ (v.1 30).toInt)) := by
  have l0 : (0 : Int32).toInt = 0 := by decide
  have l1 : (1 : Int32).toInt = 1 := by decide
  have l2 : (2 : Int32).toInt = 2 := by decide
  have l4 : (4 : Int32).toInt = 4 := by decide
  have l5 : (5 : Int32).toInt = 5 := by decide
  have l17 : (17 : Int32).toInt = 17 := by decide
  have l23 : (23 : Int32).toInt = 23 := by decide
  have l30 : (30 : Int32).toInt = 30 := by decide
  have l40 : (40 : Int32).toInt = 40 := by decide
  have l79 : (79 : Int32).toInt = 79 := by decide
  have l1000 : (1000 : Int32).toInt = 1000 := by decide
  have l2100 : (2100 : Int32).toInt = 2100 := by decide
  have l3800 : (3800 : Int32).toInt = 3800 := by decide
  have l100000 : (100000 : Int32).toInt = 100000 := by decide
  have l185000 : (185000 : Int32).toInt = 185000 := by decide
  rw [mM_SqlReaderModel_readValues]
  refine ok_bP (kP_SqlReaderModel_readNamed I (by have FUe : FU = 100000 := rfl; have B_2 := IP_b I; omega) (by have FUe : FU = 100000 := rfl; have B_3 := IP_b I; omega) (by have FUe : FU = 100000 := rfl; have B_4 := IP_b I; omega) (by have FUe : FU = 100000 := rfl; have B_5 := IP_b I; omega)) (fun u_6 z_1 => ?_)
  obtain ⟨I_u_6, G_u_6, p_7, p_8, p_9, p_10, p_11⟩ := z_1
  have F_u_6 : Fr [2, 4, 5, 7, 12, 23, 28, 30] [10, 11, 12, 13, 14, 15, 16, 17, 18, 19, 20, 30] u u_6 := Fr_tr (Fr_rfl u) G_u_6 rfl rfl
  have g_12 : (u_6.1 1).toInt = (u.1 1).toInt := by rw [G_u_6.1 1 rfl]
  have g_13 : (u_6.1 4).toInt = (u.1 4).toInt := by rw [G_u_6.1 4 rfl]
  have g_14 : (u_6.1 23).toInt = (u.1 23).toInt := by rw [G_u_6.1 23 rfl]
  refine ok_bM (kP_SqlReaderModel_takes I_u_6 (by decide)) (fun r_16 u_17 z_15 => ?_)
  obtain ⟨I_u_17, G_u_17, p_18, p_19, p_20⟩ := z_15
  have F_u_17 : Fr [2, 4, 5, 7, 12, 23, 28, 30] [10, 11, 12, 13, 14, 15, 16, 17, 18, 19, 20, 30] u u_17 := Fr_tr F_u_6 G_u_17 rfl rfl
  have g_21 : (u_17.1 1).toInt = (u_6.1 1).toInt := by rw [G_u_17.1 1 rfl]
  have g_22 : (u_17.1 2).toInt = (u_6.1 2).toInt := by rw [G_u_17.1 2 rfl]
  have g_23 : (u_17.1 4).toInt = (u_6.1 4).toInt := by rw [G_u_17.1 4 rfl]
  have g_24 : (u_17.1 23).toInt = (u_6.1 23).toInt := by rw [G_u_17.1 23 rfl]
  refine ok_eq (fun c_25 c_25' => ?_) (fun c_25 => ?_)
  · exact ok_some ⟨I_u_17, F_u_17, (by have B_26 := IP_b I; have B_27 := IP_b I_u_17; omega), (by have B_28 := IP_b I_u_17; omega), (by have B_29 := IP_b I_u_17; have B_30 := IP_b I; omega), (by have B_31 := IP_b I_u_17; have B_32 := IP_b I; omega), (by have B_33 := IP_b I_u_17; have B_34 := IP_b I; omega)⟩
  · refine ok_mono (kP_SqlReaderModel_readValues_L18 _ I_u_17 (by have FUe : FU = 100000 := rfl; have B_35 := IP_b I_u_17; have B_36 := IP_b I; omega) (by have FUe : FU = 100000 := rfl; have B_37 := IP_b I_u_17; have B_38 := IP_b I; omega) (by have FUe : FU = 100000 := rfl; have B_39 := IP_b I_u_17; have B_40 := IP_b I; omega) (by have FUe : FU = 100000 := rfl; have B_41 := IP_b I_u_17; have B_42 := IP_b I; omega) (by have FUe : FU = 100000 := rfl; have B_43 := IP_b I_u_17; have B_44 := IP_b I; omega) (by have FUe : FU = 100000 := rfl; have B_45 := IP_b I_u_17; have B_46 := IP_b I; omega) (by have FUe : FU = 100000 := rfl; have B_47 := IP_b I_u_17; have B_48 := IP_b I; omega) (by have FUe : FU = 100000 := rfl; have B_49 := IP_b I_u_17; have B_50 := IP_b I; omega)) (fun u_52 z_51 => ?_)
    obtain ⟨I_u_52, G_u_52, p_53, p_54, p_55, p_56, p_57⟩ := z_51
    have F_u_52 : Fr [2, 4, 5, 7, 12, 23, 28, 30] [10, 11, 12, 13, 14, 15, 16, 17, 18, 19, 20, 30] u u_52 := Fr_tr F_u_17 G_u_52 rfl rfl
    have g_58 : (u_52.1 1).toInt = (u_17.1 1).toInt := by rw [G_u_52.1 1 rfl]
    exact ⟨I_u_52, F_u_52, (by have B_59 := IP_b I; have B_60 := IP_b I_u_52; omega), (by have B_61 := IP_b I_u_52; omega), (by have B_62 := IP_b I_u_52; have B_63 := IP_b I; omega), (by have B_64 := IP_b I_u_52; have B_65 := IP_b I; omega), (by have B_66 := IP_b I_u_52; have B_67 := IP_b I; omega)⟩
theorem kP_SqlReaderModel_needNumber {u : St} (I : IP u) (h0 : (u.1 30).toInt ≤ 3900) : okM (mM_SqlReaderModel_needNumber u) (fun r v => IP v ∧ Fr [2, 30] [] u v ∧ (u.1 2).toInt ≤ (v.1 2).toInt ∧ (v.1 30).toInt = (u.1 30).toInt + 1 ∧ ((v.1 2).toInt = 1 ∨ (u.1 30).toInt < (u.1 1).toInt)) := by
  have l0 : (0 : Int32).toInt = 0 := by decide
  have l1 : (1 : Int32).toInt = 1 := by decide
  have l2 : (2 : Int32).toInt = 2 := by decide
  have l3 : (3 : Int32).toInt = 3 := by decide
  have l30 : (30 : Int32).toInt = 30 := by decide
  rw [mM_SqlReaderModel_needNumber]
  refine okM_eq (fun c_1 c_1' => ?_) (fun c_1 => ?_)
  · refine okM_bP (kM_SqlReaderModel_isKind (IP_IB I) (by have FUe : FU = 100000 := rfl; have B_3 := IP_b I; omega)) (fun r_4 z_2 => ?_)
    obtain ⟨p_5, p_6, p_7⟩ := z_2
    refine okM_eq (fun c_8 c_8' => ?_) (fun c_8 => ?_)
    · rw [mM_SqlReaderModel_needNumber_J25]
      refine okM_gd (by decide) ?_
      refine okM_seq (fun u_10 h_9 => ?_)
      have I_u_10 : IP u_10 := by rw [h_9]; exact IP_bad I (by have B_11 := IP_b I; omega) (by have B_12 := IP_b I; omega) (by have B_13 := IP_b I; omega)
      have F_u_10 : Fr [2, 30] [] u u_10 := by rw [h_9]; exact Fr_ss (Fr_rfl u) rfl rfl
      have g_14 : (u_10.1 2).toInt = (1 : Int32).toInt := by rw [h_9]; rfl
      have g_15 : (u_10.1 1).toInt = (u.1 1).toInt := by rw [h_9]; rfl
      have g_16 : (u_10.1 4).toInt = (u.1 4).toInt := by rw [h_9]; rfl
      have g_17 : (u_10.1 30).toInt = (u.1 30).toInt := by rw [h_9]; rfl
      refine okM_seq (fun u_19 h_18 => ?_)
      try have e_20 : ((u_10.1 30) + 1 : Int32).toInt = ((u_10.1 30) : Int32).toInt + (1 : Int32).toInt := by have B_21 := IP_b I; have B_22 := IP_b I_u_10; exact add_i (by omega) (by omega)
      have I_u_19 : IP u_19 := by rw [h_18]; exact IP_s30 I_u_10 (by have B_23 := IP_b I_u_10; omega) (by have B_24 := IP_b I_u_10; omega)
      have F_u_19 : Fr [2, 30] [] u u_19 := by rw [h_18]; exact Fr_ss F_u_10 rfl rfl
      try have e_25 : ((u_10.1 30) + 1 : Int32).toInt = ((u_10.1 30) : Int32).toInt + (1 : Int32).toInt := by have B_26 := IP_b I; have B_27 := IP_b I_u_10; exact add_i (by omega) (by omega)
      have g_28 : (u_19.1 30).toInt = (((u_10.1 30) + 1) : Int32).toInt := by rw [h_18]; rfl
      have g_29 : (u_19.1 1).toInt = (u_10.1 1).toInt := by rw [h_18]; rfl
      have g_30 : (u_19.1 2).toInt = (u_10.1 2).toInt := by rw [h_18]; rfl
      have g_31 : (u_19.1 4).toInt = (u_10.1 4).toInt := by rw [h_18]; rfl
      refine okM_eq (fun c_32 c_32' => ?_) (fun c_32 => ?_)
      · try have e_33 : ((u_19.1 30) - 1 : Int32).toInt = ((u_19.1 30) : Int32).toInt - (1 : Int32).toInt := by have B_34 := IP_b I; have B_35 := IP_b I_u_19; exact sub_i (by omega) (by omega)
        refine okM_bP (kM_SqlReaderModel_numberOf (IP_IT I_u_19) (by have FUe : FU = 100000 := rfl; have B_37 := IP_b I_u_19; have B_38 := IP_b I; omega) (by have FUe : FU = 100000 := rfl; have B_39 := IP_b I_u_19; have B_40 := IP_b I; omega)) (fun r_41 z_36 => ?_)
        exact okM_some ⟨I_u_19, F_u_19, (by have B_42 := IP_b I; have B_43 := IP_b I_u_19; omega), (by have B_44 := IP_b I_u_19; have B_45 := IP_b I; omega), (by have B_46 := IP_b I_u_19; have B_47 := IP_b I; omega)⟩
      · exact okM_some ⟨I_u_19, F_u_19, (by have B_48 := IP_b I; have B_49 := IP_b I_u_19; omega), (by have B_50 := IP_b I_u_19; have B_51 := IP_b I; omega), (by have B_52 := IP_b I_u_19; have B_53 := IP_b I; omega)⟩
    · rw [mM_SqlReaderModel_needNumber_J25]
      refine okM_gd (by decide) ?_
      refine okM_seq (fun u_55 h_54 => ?_)
      have I_u_55 : IP u_55 := by rw [h_54]; exact IP_bad I (by have B_56 := IP_b I; omega) (by have B_57 := IP_b I; omega) (by have B_58 := IP_b I; omega)
      have F_u_55 : Fr [2, 30] [] u u_55 := by rw [h_54]; exact Fr_ss (Fr_rfl u) rfl rfl
      have g_59 : (u_55.1 2).toInt = (0 : Int32).toInt := by rw [h_54]; rfl
      have g_60 : (u_55.1 1).toInt = (u.1 1).toInt := by rw [h_54]; rfl
      have g_61 : (u_55.1 4).toInt = (u.1 4).toInt := by rw [h_54]; rfl
      have g_62 : (u_55.1 30).toInt = (u.1 30).toInt := by rw [h_54]; rfl
      refine okM_seq (fun u_64 h_63 => ?_)
      try have e_65 : ((u_55.1 30) + 1 : Int32).toInt = ((u_55.1 30) : Int32).toInt + (1 : Int32).toInt := by have B_66 := IP_b I; have B_67 := IP_b I_u_55; exact add_i (by omega) (by omega)
      have I_u_64 : IP u_64 := by rw [h_63]; exact IP_s30 I_u_55 (by have B_68 := IP_b I_u_55; omega) (by have B_69 := IP_b I_u_55; omega)
      have F_u_64 : Fr [2, 30] [] u u_64 := by rw [h_63]; exact Fr_ss F_u_55 rfl rfl
      try have e_70 : ((u_55.1 30) + 1 : Int32).toInt = ((u_55.1 30) : Int32).toInt + (1 : Int32).toInt := by have B_71 := IP_b I; have B_72 := IP_b I_u_55; exact add_i (by omega) (by omega)
      have g_73 : (u_64.1 30).toInt = (((u_55.1 30) + 1) : Int32).toInt := by rw [h_63]; rfl
      have g_74 : (u_64.1 1).toInt = (u_55.1 1).toInt := by rw [h_63]; rfl
      have g_75 : (u_64.1 2).toInt = (u_55.1 2).toInt := by rw [h_63]; rfl
      have g_76 : (u_64.1 4).toInt = (u_55.1 4).toInt := by rw [h_63]; rfl
      refine okM_eq (fun c_77 c_77' => ?_) (fun c_77 => ?_)
      · try have e_78 : ((u_64.1 30) - 1 : Int32).toInt = ((u_64.1 30) : Int32).toInt - (1 : Int32).toInt := by have B_79 := IP_b I; have B_80 := IP_b I_u_64; exact sub_i (by omega) (by omega)
        refine okM_bP (kM_SqlReaderModel_numberOf (IP_IT I_u_64) (by have FUe : FU = 100000 := rfl; have B_82 := IP_b I_u_64; have B_83 := IP_b I; omega) (by have FUe : FU = 100000 := rfl; have B_84 := IP_b I_u_64; have B_85 := IP_b I; omega)) (fun r_86 z_81 => ?_)
        exact okM_some ⟨I_u_64, F_u_64, (by have B_87 := IP_b I; have B_88 := IP_b I_u_64; omega), (by have B_89 := IP_b I_u_64; have B_90 := IP_b I; omega), (by have B_91 := IP_b I_u_64; have B_92 := IP_b I; omega)⟩
      · exact okM_some ⟨I_u_64, F_u_64, (by have B_93 := IP_b I; have B_94 := IP_b I_u_64; omega), (by have B_95 := IP_b I_u_64; have B_96 := IP_b I; omega), (by have B_97 := IP_b I_u_64; have B_98 := IP_b I; omega)⟩
  · rw [mM_SqlReaderModel_needNumber_J25]
    refine okM_gd (by decide) ?_
    refine okM_seq (fun u_100 h_99 => ?_)
    have I_u_100 : IP u_100 := by rw [h_99]; exact IP_bad I (by have B_101 := IP_b I; omega) (by have B_102 := IP_b I; omega) (by have B_103 := IP_b I; omega)
    have F_u_100 : Fr [2, 30] [] u u_100 := by rw [h_99]; exact Fr_ss (Fr_rfl u) rfl rfl
    have g_104 : (u_100.1 2).toInt = (1 : Int32).toInt := by rw [h_99]; rfl
    have g_105 : (u_100.1 1).toInt = (u.1 1).toInt := by rw [h_99]; rfl
    have g_106 : (u_100.1 4).toInt = (u.1 4).toInt := by rw [h_99]; rfl
    have g_107 : (u_100.1 30).toInt = (u.1 30).toInt := by rw [h_99]; rfl
    refine okM_seq (fun u_109 h_108 => ?_)
    try have e_110 : ((u_100.1 30) + 1 : Int32).toInt = ((u_100.1 30) : Int32).toInt + (1 : Int32).toInt := by have B_111 := IP_b I; have B_112 := IP_b I_u_100; exact add_i (by omega) (by omega)
    have I_u_109 : IP u_109 := by rw [h_108]; exact IP_s30 I_u_100 (by have B_113 := IP_b I_u_100; omega) (by have B_114 := IP_b I_u_100; omega)
    have F_u_109 : Fr [2, 30] [] u u_109 := by rw [h_108]; exact Fr_ss F_u_100 rfl rfl
    try have e_115 : ((u_100.1 30) + 1 : Int32).toInt = ((u_100.1 30) : Int32).toInt + (1 : Int32).toInt := by have B_116 := IP_b I; have B_117 := IP_b I_u_100; exact add_i (by omega) (by omega)
    have g_118 : (u_109.1 30).toInt = (((u_100.1 30) + 1) : Int32).toInt := by rw [h_108]; rfl
    have g_119 : (u_109.1 1).toInt = (u_100.1 1).toInt := by rw [h_108]; rfl
    have g_120 : (u_109.1 2).toInt = (u_100.1 2).toInt := by rw [h_108]; rfl
    have g_121 : (u_109.1 4).toInt = (u_100.1 4).toInt := by rw [h_108]; rfl
    refine okM_eq (fun c_122 c_122' => ?_) (fun c_122 => ?_)
    · try have e_123 : ((u_109.1 30) - 1 : Int32).toInt = ((u_109.1 30) : Int32).toInt - (1 : Int32).toInt := by have B_124 := IP_b I; have B_125 := IP_b I_u_109; exact sub_i (by omega) (by omega)
      refine okM_bP (kM_SqlReaderModel_numberOf (IP_IT I_u_109) (by have FUe : FU = 100000 := rfl; have B_127 := IP_b I_u_109; have B_128 := IP_b I; omega) (by have FUe : FU = 100000 := rfl; have B_129 := IP_b I_u_109; have B_130 := IP_b I; omega)) (fun r_131 z_126 => ?_)
      exact okM_some ⟨I_u_109, F_u_109, (by have B_132 := IP_b I; have B_133 := IP_b I_u_109; omega), (by have B_134 := IP_b I_u_109; have B_135 := IP_b I; omega), (by have B_136 := IP_b I_u_109; have B_137 := IP_b I; omega)⟩
    · exact okM_some ⟨I_u_109, F_u_109, (by have B_138 := IP_b I; have B_139 := IP_b I_u_109; omega), (by have B_140 := IP_b I_u_109; have B_141 := IP_b I; omega), (by have B_142 := IP_b I_u_109; have B_143 := IP_b I; omega)⟩
theorem kP_SqlReaderModel_readOrders_L9 : ∀ (n : Nat) {x1 : Int32} {u : St} (I : IP u) (h0 : (u.1 4).toInt ≤ 185000) (h1 : (u.1 2).toInt = 1 ∨ ((u.1 4).toInt ≤ 100000 + 40 * (u.1 30).toInt ∧ (u.1 30).toInt ≤ (u.1 1).toInt)) (h2 : (u.1 30).toInt ≤ 3800) (h3 : 0 ≤ x1.toInt) (h4 : x1.toInt ≤ 1) (h5 : (u.1 18).toInt ≤ 1000) (h6 : (u.1 2).toInt = 1 ∨ x1.toInt = 0 ∨ 2 * (u.1 18).toInt + 2 ≤ (u.1 30).toInt) (hm : (2 * (2100 - (u.1 30).toInt) + x1.toInt).toNat < n), ok (mM_SqlReaderModel_readOrders_L9 n x1 u) (fun v => IP v ∧ Fr [2, 18, 30] [23] u v ∧ (u.1 2).toInt ≤ (v.1 2).toInt ∧ (v.1 4).toInt ≤ 185000 ∧ ((v.1 2).toInt = 1 ∨ ((v.1 4).toInt ≤ 100000 + 40 * (v.1 30).toInt ∧ (v.1 30).toInt ≤ (u.1 1).toInt)) ∧ ((v.1 30).toInt ≤ (u.1 30).toInt + 1 ∨ (v.1 30).toInt ≤ (u.1 1).toInt + 1) ∧ ((v.1 2).toInt = 1 ∨ (u.1 30).toInt ≤ (v.1 30).toInt) ∧ ((u.1 2).toInt = 0 ∨ (v.1 30).toInt ≤ (u.1 30).toInt + 0 ∨ (v.1 30).toInt ≤ (u.1 1).toInt + 0)) := by
  intro n
  induction n with
  | zero => intro x1 u I h0 h1 h2 h3 h4 h5 h6 hm; exact absurd hm (Nat.not_lt_zero _)
  | succ n ih =>
    intro x1 u I h0 h1 h2 h3 h4 h5 h6 hm
    have l0 : (0 : Int32).toInt = 0 := by decide
    have l1 : (1 : Int32).toInt = 1 := by decide
    have l2 : (2 : Int32).toInt = 2 := by decide
    have l4 : (4 : Int32).toInt = 4 := by decide
    have l18 : (18 : Int32).toInt = 18 := by decide
    have l30 : (30 : Int32).toInt = 30 := by decide
    have l40 : (40 : Int32).toInt = 40 := by decide
    have l80 : (80 : Int32).toInt = 80 := by decide
    have l118 : (118 : Int32).toInt = 118 := by decide
    have l1000 : (1000 : Int32).toInt = 1000 := by decide
    have l2100 : (2100 : Int32).toInt = 2100 := by decide
    have l3800 : (3800 : Int32).toInt = 3800 := by decide
    have l3900 : (3900 : Int32).toInt = 3900 := by decide
    have l100000 : (100000 : Int32).toInt = 100000 := by decide
    have l185000 : (185000 : Int32).toInt = 185000 := by decide
    rw [mM_SqlReaderModel_readOrders_L9]
    refine ok_eq (fun c_1 c_1' => ?_) (fun c_1 => ?_)
    · exact ok_some ⟨I, (Fr_rfl u), (by have B_2 := IP_b I; omega), (by have B_3 := IP_b I; omega), (by have B_4 := IP_b I; omega), (by have B_5 := IP_b I; omega), (by have B_6 := IP_b I; omega), (by have B_7 := IP_b I; omega)⟩
    · refine ok_eq (fun c_8 c_8' => ?_) (fun c_8 => ?_)
      · refine ok_bM (kP_SqlReaderModel_needNumber I (by have FUe : FU = 100000 := rfl; have B_10 := IP_b I; omega)) (fun r_11 u_12 z_9 => ?_)
        obtain ⟨I_u_12, G_u_12, p_13, p_14, p_15⟩ := z_9
        have F_u_12 : Fr [2, 18, 30] [23] u u_12 := Fr_tr (Fr_rfl u) G_u_12 rfl rfl
        have g_16 : (u_12.1 1).toInt = (u.1 1).toInt := by rw [G_u_12.1 1 rfl]
        have g_17 : (u_12.1 4).toInt = (u.1 4).toInt := by rw [G_u_12.1 4 rfl]
        have g_18 : (u_12.1 18).toInt = (u.1 18).toInt := by rw [G_u_12.1 18 rfl]
        refine ok_gd (inb_of (by have B_19 := IP_b I; have B_20 := IP_b I_u_12; omega) (by have B_21 := IP_b I; have B_22 := IP_b I_u_12; omega)) ?_
        refine ok_seq (fun u_24 h_23 => ?_)
        have I_u_24 : IP u_24 := by rw [h_23]; exact I_u_12
        have F_u_24 : Fr [2, 18, 30] [23] u u_24 := by rw [h_23]; exact Fr_sl F_u_12
        have g_25 : (u_24.1 1).toInt = (u_12.1 1).toInt := by rw [h_23]; rfl
        have g_26 : (u_24.1 2).toInt = (u_12.1 2).toInt := by rw [h_23]; rfl
        have g_27 : (u_24.1 4).toInt = (u_12.1 4).toInt := by rw [h_23]; rfl
        have g_28 : (u_24.1 30).toInt = (u_12.1 30).toInt := by rw [h_23]; rfl
        have g_29 : (u_24.1 18).toInt = (u_12.1 18).toInt := by rw [h_23]; rfl
        refine ok_bM (kP_SqlReaderModel_takes I_u_24 (by decide)) (fun r_31 u_32 z_30 => ?_)
        obtain ⟨I_u_32, G_u_32, p_33, p_34, p_35⟩ := z_30
        have F_u_32 : Fr [2, 18, 30] [23] u u_32 := Fr_tr F_u_24 G_u_32 rfl rfl
        have g_36 : (u_32.1 1).toInt = (u_24.1 1).toInt := by rw [G_u_32.1 1 rfl]
        have g_37 : (u_32.1 2).toInt = (u_24.1 2).toInt := by rw [G_u_32.1 2 rfl]
        have g_38 : (u_32.1 4).toInt = (u_24.1 4).toInt := by rw [G_u_32.1 4 rfl]
        have g_39 : (u_32.1 18).toInt = (u_24.1 18).toInt := by rw [G_u_32.1 18 rfl]
        refine ok_gd (inb_of (by have B_40 := IP_b I_u_24; have B_41 := IP_b I_u_32; omega) (by have B_42 := IP_b I_u_24; have B_43 := IP_b I_u_32; omega)) ?_
        refine ok_seq (fun u_45 h_44 => ?_)
        have I_u_45 : IP u_45 := by rw [h_44]; exact I_u_32
        have F_u_45 : Fr [2, 18, 30] [23] u u_45 := by rw [h_44]; exact Fr_sa F_u_32 rfl rfl rfl
        have g_46 : (u_45.1 1).toInt = (u_32.1 1).toInt := by rw [h_44]; rfl
        have g_47 : (u_45.1 2).toInt = (u_32.1 2).toInt := by rw [h_44]; rfl
        have g_48 : (u_45.1 4).toInt = (u_32.1 4).toInt := by rw [h_44]; rfl
        have g_49 : (u_45.1 30).toInt = (u_32.1 30).toInt := by rw [h_44]; rfl
        have g_50 : (u_45.1 18).toInt = (u_32.1 18).toInt := by rw [h_44]; rfl
        refine ok_seq (fun u_52 h_51 => ?_)
        try have e_53 : ((u_45.1 18) + 1 : Int32).toInt = ((u_45.1 18) : Int32).toInt + (1 : Int32).toInt := by have B_54 := IP_b I; have B_55 := IP_b I_u_45; exact add_i (by omega) (by omega)
        have I_u_52 : IP u_52 := by rw [h_51]; exact IP_s18 I_u_45 (by have B_56 := IP_b I_u_45; omega) (by have B_57 := IP_b I_u_45; omega)
        have F_u_52 : Fr [2, 18, 30] [23] u u_52 := by rw [h_51]; exact Fr_ss F_u_45 rfl rfl
        try have e_58 : ((u_45.1 18) + 1 : Int32).toInt = ((u_45.1 18) : Int32).toInt + (1 : Int32).toInt := by have B_59 := IP_b I; have B_60 := IP_b I_u_45; exact add_i (by omega) (by omega)
        have g_61 : (u_52.1 18).toInt = (((u_45.1 18) + 1) : Int32).toInt := by rw [h_51]; rfl
        have g_62 : (u_52.1 1).toInt = (u_45.1 1).toInt := by rw [h_51]; rfl
        have g_63 : (u_52.1 2).toInt = (u_45.1 2).toInt := by rw [h_51]; rfl
        have g_64 : (u_52.1 4).toInt = (u_45.1 4).toInt := by rw [h_51]; rfl
        have g_65 : (u_52.1 30).toInt = (u_45.1 30).toInt := by rw [h_51]; rfl
        refine ok_bM (kP_SqlReaderModel_takes I_u_52 (by decide)) (fun r_67 u_68 z_66 => ?_)
        obtain ⟨I_u_68, G_u_68, p_69, p_70, p_71⟩ := z_66
        have F_u_68 : Fr [2, 18, 30] [23] u u_68 := Fr_tr F_u_52 G_u_68 rfl rfl
        have g_72 : (u_68.1 1).toInt = (u_52.1 1).toInt := by rw [G_u_68.1 1 rfl]
        have g_73 : (u_68.1 2).toInt = (u_52.1 2).toInt := by rw [G_u_68.1 2 rfl]
        have g_74 : (u_68.1 4).toInt = (u_52.1 4).toInt := by rw [G_u_68.1 4 rfl]
        have g_75 : (u_68.1 18).toInt = (u_52.1 18).toInt := by rw [G_u_68.1 18 rfl]
        refine ok_mono (ih I_u_68 (by have B_76 := IP_b I_u_68; omega) (by have B_77 := IP_b I_u_68; omega) (by have B_78 := IP_b I_u_68; omega) (by have B_79 := IP_b I_u_68; omega) (by have B_80 := IP_b I_u_68; omega) (by have B_81 := IP_b I_u_68; omega) (by have B_82 := IP_b I_u_68; omega) (by have B_83 := IP_b I_u_68; omega)) (fun u_85 z_84 => ?_)
        obtain ⟨I_u_85, G_u_85, p_86, p_87, p_88, p_89, p_90, p_91⟩ := z_84
        have F_u_85 : Fr [2, 18, 30] [23] u u_85 := Fr_tr F_u_68 G_u_85 rfl rfl
        have g_92 : (u_85.1 1).toInt = (u_68.1 1).toInt := by rw [G_u_85.1 1 rfl]
        have g_93 : (u_85.1 4).toInt = (u_68.1 4).toInt := by rw [G_u_85.1 4 rfl]
        exact ⟨I_u_85, F_u_85, (by have B_94 := IP_b I; have B_95 := IP_b I_u_85; omega), (by have B_96 := IP_b I_u_85; omega), (by have B_97 := IP_b I_u_85; have B_98 := IP_b I; omega), (by have B_99 := IP_b I_u_85; have B_100 := IP_b I; omega), (by have B_101 := IP_b I_u_85; have B_102 := IP_b I; omega), (by have B_103 := IP_b I; have B_104 := IP_b I_u_85; omega)⟩
      · exact ok_some ⟨I, (Fr_rfl u), (by have B_105 := IP_b I; omega), (by have B_106 := IP_b I; omega), (by have B_107 := IP_b I; omega), (by have B_108 := IP_b I; omega), (by have B_109 := IP_b I; omega), (by have B_110 := IP_b I; omega)⟩
theorem kP_SqlReaderModel_readOrders {u : St} (I : IP u) (h0 : (u.1 4).toInt ≤ 185000) (h1 : (u.1 2).toInt = 1 ∨ ((u.1 4).toInt ≤ 100000 + 40 * (u.1 30).toInt ∧ (u.1 30).toInt ≤ (u.1 1).toInt)) (h2 : (u.1 30).toInt ≤ 3800) (h3 : (u.1 18).toInt = 0) (h4 : (u.1 2).toInt = 1 ∨ 1 ≤ (u.1 30).toInt) : ok (mM_SqlReaderModel_readOrders u) (fun v => IP v ∧ Fr [2, 18, 30] [23] u v ∧ (u.1 2).toInt ≤ (v.1 2).toInt ∧ (v.1 4).toInt ≤ 185000 ∧ ((v.1 2).toInt = 1 ∨ ((v.1 4).toInt ≤ 100000 + 40 * (v.1 30).toInt ∧ (v.1 30).toInt ≤ (u.1 1).toInt)) ∧ ((v.1 30).toInt ≤ (u.1 30).toInt + 1 ∨ (v.1 30).toInt ≤ (u.1 1).toInt + 1) ∧ ((v.1 2).toInt = 1 ∨ (u.1 30).toInt ≤ (v.1 30).toInt)) := by
  have l0 : (0 : Int32).toInt = 0 := by decide
  have l1 : (1 : Int32).toInt = 1 := by decide
  have l2 : (2 : Int32).toInt = 2 := by decide
  have l4 : (4 : Int32).toInt = 4 := by decide
  have l18 : (18 : Int32).toInt = 18 := by decide
  have l30 : (30 : Int32).toInt = 30 := by decide
  have l40 : (40 : Int32).toInt = 40 := by decide
  have l117 : (117 : Int32).toInt = 117 := by decide
  have l1000 : (1000 : Int32).toInt = 1000 := by decide
  have l2100 : (2100 : Int32).toInt = 2100 := by decide
  have l3800 : (3800 : Int32).toInt = 3800 := by decide
  have l100000 : (100000 : Int32).toInt = 100000 := by decide
  have l185000 : (185000 : Int32).toInt = 185000 := by decide
  rw [mM_SqlReaderModel_readOrders]
  refine ok_bP (kP_SqlReaderModel_need I (by decide)) (fun u_2 z_1 => ?_)
  obtain ⟨I_u_2, G_u_2, p_3, p_4⟩ := z_1
  have F_u_2 : Fr [2, 18, 30] [23] u u_2 := Fr_tr (Fr_rfl u) G_u_2 rfl rfl
  have g_5 : (u_2.1 1).toInt = (u.1 1).toInt := by rw [G_u_2.1 1 rfl]
  have g_6 : (u_2.1 4).toInt = (u.1 4).toInt := by rw [G_u_2.1 4 rfl]
  have g_7 : (u_2.1 18).toInt = (u.1 18).toInt := by rw [G_u_2.1 18 rfl]
  refine ok_mono (kP_SqlReaderModel_readOrders_L9 _ I_u_2 (by have FUe : FU = 100000 := rfl; have B_8 := IP_b I_u_2; have B_9 := IP_b I; omega) (by have FUe : FU = 100000 := rfl; have B_10 := IP_b I_u_2; have B_11 := IP_b I; omega) (by have FUe : FU = 100000 := rfl; have B_12 := IP_b I_u_2; have B_13 := IP_b I; omega) (by have FUe : FU = 100000 := rfl; have B_14 := IP_b I_u_2; have B_15 := IP_b I; omega) (by have FUe : FU = 100000 := rfl; have B_16 := IP_b I_u_2; have B_17 := IP_b I; omega) (by have FUe : FU = 100000 := rfl; have B_18 := IP_b I_u_2; have B_19 := IP_b I; omega) (by have FUe : FU = 100000 := rfl; have B_20 := IP_b I_u_2; have B_21 := IP_b I; omega) (by have FUe : FU = 100000 := rfl; have B_22 := IP_b I_u_2; have B_23 := IP_b I; omega)) (fun u_25 z_24 => ?_)
  obtain ⟨I_u_25, G_u_25, p_26, p_27, p_28, p_29, p_30, p_31⟩ := z_24
  have F_u_25 : Fr [2, 18, 30] [23] u u_25 := Fr_tr F_u_2 G_u_25 rfl rfl
  have g_32 : (u_25.1 1).toInt = (u_2.1 1).toInt := by rw [G_u_25.1 1 rfl]
  have g_33 : (u_25.1 4).toInt = (u_2.1 4).toInt := by rw [G_u_25.1 4 rfl]
  exact ⟨I_u_25, F_u_25, (by have B_34 := IP_b I; have B_35 := IP_b I_u_25; omega), (by have B_36 := IP_b I_u_25; omega), (by have B_37 := IP_b I_u_25; have B_38 := IP_b I; omega), (by have B_39 := IP_b I_u_25; have B_40 := IP_b I; omega), (by have B_41 := IP_b I_u_25; have B_42 := IP_b I; omega)⟩
theorem kP_SqlReaderModel_readMode {u : St} (I : IP u) (h0 : (u.1 4).toInt ≤ 185000) (h1 : (u.1 2).toInt = 1 ∨ ((u.1 4).toInt ≤ 100000 + 40 * (u.1 30).toInt ∧ (u.1 30).toInt ≤ (u.1 1).toInt)) (h2 : (u.1 30).toInt ≤ 3800) : ok (mM_SqlReaderModel_readMode u) (fun v => IP v ∧ Fr [2, 11, 30] [] u v ∧ (u.1 2).toInt ≤ (v.1 2).toInt ∧ (v.1 4).toInt ≤ 185000 ∧ ((v.1 2).toInt = 1 ∨ ((v.1 4).toInt ≤ 100000 + 40 * (v.1 30).toInt ∧ (v.1 30).toInt ≤ (u.1 1).toInt)) ∧ ((v.1 30).toInt ≤ (u.1 30).toInt + 0 ∨ (v.1 30).toInt ≤ (u.1 1).toInt + 0) ∧ ((v.1 2).toInt = 1 ∨ (u.1 30).toInt ≤ (v.1 30).toInt)) := by
  have l0 : (0 : Int32).toInt = 0 := by decide
  have l1 : (1 : Int32).toInt = 1 := by decide
  have l2 : (2 : Int32).toInt = 2 := by decide
  have l4 : (4 : Int32).toInt = 4 := by decide
  have l5 : (5 : Int32).toInt = 5 := by decide
  have l11 : (11 : Int32).toInt = 11 := by decide
  have l30 : (30 : Int32).toInt = 30 := by decide
  have l40 : (40 : Int32).toInt = 40 := by decide
  have l119 : (119 : Int32).toInt = 119 := by decide
  have l120 : (120 : Int32).toInt = 120 := by decide
  have l143 : (143 : Int32).toInt = 143 := by decide
  have l144 : (144 : Int32).toInt = 144 := by decide
  have l145 : (145 : Int32).toInt = 145 := by decide
  have l100000 : (100000 : Int32).toInt = 100000 := by decide
  have l185000 : (185000 : Int32).toInt = 185000 := by decide
  rw [mM_SqlReaderModel_readMode]
  refine ok_bM (kP_SqlReaderModel_takes I (by decide)) (fun r_2 u_3 z_1 => ?_)
  obtain ⟨I_u_3, G_u_3, p_4, p_5, p_6⟩ := z_1
  have F_u_3 : Fr [2, 11, 30] [] u u_3 := Fr_tr (Fr_rfl u) G_u_3 rfl rfl
  have g_7 : (u_3.1 1).toInt = (u.1 1).toInt := by rw [G_u_3.1 1 rfl]
  have g_8 : (u_3.1 2).toInt = (u.1 2).toInt := by rw [G_u_3.1 2 rfl]
  have g_9 : (u_3.1 4).toInt = (u.1 4).toInt := by rw [G_u_3.1 4 rfl]
  refine ok_eq (fun c_10 c_10' => ?_) (fun c_10 => ?_)
  · refine ok_bM (kP_SqlReaderModel_takes I_u_3 (by decide)) (fun r_12 u_13 z_11 => ?_)
    obtain ⟨I_u_13, G_u_13, p_14, p_15, p_16⟩ := z_11
    have F_u_13 : Fr [2, 11, 30] [] u u_13 := Fr_tr F_u_3 G_u_13 rfl rfl
    have g_17 : (u_13.1 1).toInt = (u_3.1 1).toInt := by rw [G_u_13.1 1 rfl]
    have g_18 : (u_13.1 2).toInt = (u_3.1 2).toInt := by rw [G_u_13.1 2 rfl]
    have g_19 : (u_13.1 4).toInt = (u_3.1 4).toInt := by rw [G_u_13.1 4 rfl]
    refine ok_eq (fun c_20 c_20' => ?_) (fun c_20 => ?_)
    · refine ok_bM (kP_SqlReaderModel_takes I_u_13 (by decide)) (fun r_22 u_23 z_21 => ?_)
      obtain ⟨I_u_23, G_u_23, p_24, p_25, p_26⟩ := z_21
      have F_u_23 : Fr [2, 11, 30] [] u u_23 := Fr_tr F_u_13 G_u_23 rfl rfl
      have g_27 : (u_23.1 1).toInt = (u_13.1 1).toInt := by rw [G_u_23.1 1 rfl]
      have g_28 : (u_23.1 2).toInt = (u_13.1 2).toInt := by rw [G_u_23.1 2 rfl]
      have g_29 : (u_23.1 4).toInt = (u_13.1 4).toInt := by rw [G_u_23.1 4 rfl]
      refine ok_eq (fun c_30 c_30' => ?_) (fun c_30 => ?_)
      · refine ok_seq (fun u_32 h_31 => ?_)
        have I_u_32 : IP u_32 := by rw [h_31]; exact I_u_23
        have F_u_32 : Fr [2, 11, 30] [] u u_32 := by rw [h_31]; exact Fr_ss F_u_23 rfl rfl
        have g_33 : (u_32.1 1).toInt = (u_23.1 1).toInt := by rw [h_31]; rfl
        have g_34 : (u_32.1 2).toInt = (u_23.1 2).toInt := by rw [h_31]; rfl
        have g_35 : (u_32.1 4).toInt = (u_23.1 4).toInt := by rw [h_31]; rfl
        have g_36 : (u_32.1 30).toInt = (u_23.1 30).toInt := by rw [h_31]; rfl
        rw [mM_SqlReaderModel_readMode_J118]
        refine ok_eq (fun c_37 c_37' => ?_) (fun c_37 => ?_)
        · exact ok_some ⟨I_u_32, F_u_32, (by have B_38 := IP_b I; have B_39 := IP_b I_u_32; omega), (by have B_40 := IP_b I_u_32; omega), (by have B_41 := IP_b I_u_32; have B_42 := IP_b I; omega), (by have B_43 := IP_b I_u_32; have B_44 := IP_b I; omega), (by have B_45 := IP_b I_u_32; have B_46 := IP_b I; omega)⟩
        · refine ok_eq (fun c_47 c_47' => ?_) (fun c_47 => ?_)
          · exact ok_some ⟨I_u_32, F_u_32, (by have B_48 := IP_b I; have B_49 := IP_b I_u_32; omega), (by have B_50 := IP_b I_u_32; omega), (by have B_51 := IP_b I_u_32; have B_52 := IP_b I; omega), (by have B_53 := IP_b I_u_32; have B_54 := IP_b I; omega), (by have B_55 := IP_b I_u_32; have B_56 := IP_b I; omega)⟩
          · refine ok_eq (fun c_57 c_57' => ?_) (fun c_57 => ?_)
            · exact ok_some ⟨I_u_32, F_u_32, (by have B_58 := IP_b I; have B_59 := IP_b I_u_32; omega), (by have B_60 := IP_b I_u_32; omega), (by have B_61 := IP_b I_u_32; have B_62 := IP_b I; omega), (by have B_63 := IP_b I_u_32; have B_64 := IP_b I; omega), (by have B_65 := IP_b I_u_32; have B_66 := IP_b I; omega)⟩
            · refine ok_bP (kP_SqlReaderModel_need I_u_32 (by decide)) (fun u_68 z_67 => ?_)
              obtain ⟨I_u_68, G_u_68, p_69, p_70⟩ := z_67
              have F_u_68 : Fr [2, 11, 30] [] u u_68 := Fr_tr F_u_32 G_u_68 rfl rfl
              have g_71 : (u_68.1 1).toInt = (u_32.1 1).toInt := by rw [G_u_68.1 1 rfl]
              have g_72 : (u_68.1 4).toInt = (u_32.1 4).toInt := by rw [G_u_68.1 4 rfl]
              exact ok_some ⟨I_u_68, F_u_68, (by have B_73 := IP_b I; have B_74 := IP_b I_u_68; omega), (by have B_75 := IP_b I_u_68; omega), (by have B_76 := IP_b I_u_68; have B_77 := IP_b I; omega), (by have B_78 := IP_b I_u_68; have B_79 := IP_b I; omega), (by have B_80 := IP_b I_u_68; have B_81 := IP_b I; omega)⟩
      · refine ok_bM (kP_SqlReaderModel_takes I_u_23 (by decide)) (fun r_83 u_84 z_82 => ?_)
        obtain ⟨I_u_84, G_u_84, p_85, p_86, p_87⟩ := z_82
        have F_u_84 : Fr [2, 11, 30] [] u u_84 := Fr_tr F_u_23 G_u_84 rfl rfl
        have g_88 : (u_84.1 1).toInt = (u_23.1 1).toInt := by rw [G_u_84.1 1 rfl]
        have g_89 : (u_84.1 2).toInt = (u_23.1 2).toInt := by rw [G_u_84.1 2 rfl]
        have g_90 : (u_84.1 4).toInt = (u_23.1 4).toInt := by rw [G_u_84.1 4 rfl]
        refine ok_eq (fun c_91 c_91' => ?_) (fun c_91 => ?_)
        · refine ok_bM (kP_SqlReaderModel_takes I_u_84 (by decide)) (fun r_93 u_94 z_92 => ?_)
          obtain ⟨I_u_94, G_u_94, p_95, p_96, p_97⟩ := z_92
          have F_u_94 : Fr [2, 11, 30] [] u u_94 := Fr_tr F_u_84 G_u_94 rfl rfl
          have g_98 : (u_94.1 1).toInt = (u_84.1 1).toInt := by rw [G_u_94.1 1 rfl]
          have g_99 : (u_94.1 2).toInt = (u_84.1 2).toInt := by rw [G_u_94.1 2 rfl]
          have g_100 : (u_94.1 4).toInt = (u_84.1 4).toInt := by rw [G_u_94.1 4 rfl]
          refine ok_eq (fun c_101 c_101' => ?_) (fun c_101 => ?_)
          · refine ok_seq (fun u_103 h_102 => ?_)
            have I_u_103 : IP u_103 := by rw [h_102]; exact I_u_94
            have F_u_103 : Fr [2, 11, 30] [] u u_103 := by rw [h_102]; exact Fr_ss F_u_94 rfl rfl
            have g_104 : (u_103.1 1).toInt = (u_94.1 1).toInt := by rw [h_102]; rfl
            have g_105 : (u_103.1 2).toInt = (u_94.1 2).toInt := by rw [h_102]; rfl
            have g_106 : (u_103.1 4).toInt = (u_94.1 4).toInt := by rw [h_102]; rfl
            have g_107 : (u_103.1 30).toInt = (u_94.1 30).toInt := by rw [h_102]; rfl
            rw [mM_SqlReaderModel_readMode_J118]
            refine ok_eq (fun c_108 c_108' => ?_) (fun c_108 => ?_)
            · exact ok_some ⟨I_u_103, F_u_103, (by have B_109 := IP_b I; have B_110 := IP_b I_u_103; omega), (by have B_111 := IP_b I_u_103; omega), (by have B_112 := IP_b I_u_103; have B_113 := IP_b I; omega), (by have B_114 := IP_b I_u_103; have B_115 := IP_b I; omega), (by have B_116 := IP_b I_u_103; have B_117 := IP_b I; omega)⟩
            · refine ok_eq (fun c_118 c_118' => ?_) (fun c_118 => ?_)
              · exact ok_some ⟨I_u_103, F_u_103, (by have B_119 := IP_b I; have B_120 := IP_b I_u_103; omega), (by have B_121 := IP_b I_u_103; omega), (by have B_122 := IP_b I_u_103; have B_123 := IP_b I; omega), (by have B_124 := IP_b I_u_103; have B_125 := IP_b I; omega), (by have B_126 := IP_b I_u_103; have B_127 := IP_b I; omega)⟩
              · refine ok_eq (fun c_128 c_128' => ?_) (fun c_128 => ?_)
                · exact ok_some ⟨I_u_103, F_u_103, (by have B_129 := IP_b I; have B_130 := IP_b I_u_103; omega), (by have B_131 := IP_b I_u_103; omega), (by have B_132 := IP_b I_u_103; have B_133 := IP_b I; omega), (by have B_134 := IP_b I_u_103; have B_135 := IP_b I; omega), (by have B_136 := IP_b I_u_103; have B_137 := IP_b I; omega)⟩
                · refine ok_bP (kP_SqlReaderModel_need I_u_103 (by decide)) (fun u_139 z_138 => ?_)
                  obtain ⟨I_u_139, G_u_139, p_140, p_141⟩ := z_138
                  have F_u_139 : Fr [2, 11, 30] [] u u_139 := Fr_tr F_u_103 G_u_139 rfl rfl
                  have g_142 : (u_139.1 1).toInt = (u_103.1 1).toInt := by rw [G_u_139.1 1 rfl]
                  have g_143 : (u_139.1 4).toInt = (u_103.1 4).toInt := by rw [G_u_139.1 4 rfl]
                  exact ok_some ⟨I_u_139, F_u_139, (by have B_144 := IP_b I; have B_145 := IP_b I_u_139; omega), (by have B_146 := IP_b I_u_139; omega), (by have B_147 := IP_b I_u_139; have B_148 := IP_b I; omega), (by have B_149 := IP_b I_u_139; have B_150 := IP_b I; omega), (by have B_151 := IP_b I_u_139; have B_152 := IP_b I; omega)⟩
          · refine ok_seq (fun u_154 h_153 => ?_)
            have I_u_154 : IP u_154 := by rw [h_153]; exact I_u_94
            have F_u_154 : Fr [2, 11, 30] [] u u_154 := by rw [h_153]; exact Fr_ss F_u_94 rfl rfl
            have g_155 : (u_154.1 1).toInt = (u_94.1 1).toInt := by rw [h_153]; rfl
            have g_156 : (u_154.1 2).toInt = (u_94.1 2).toInt := by rw [h_153]; rfl
            have g_157 : (u_154.1 4).toInt = (u_94.1 4).toInt := by rw [h_153]; rfl
            have g_158 : (u_154.1 30).toInt = (u_94.1 30).toInt := by rw [h_153]; rfl
            rw [mM_SqlReaderModel_readMode_J118]
            refine ok_eq (fun c_159 c_159' => ?_) (fun c_159 => ?_)
            · exact ok_some ⟨I_u_154, F_u_154, (by have B_160 := IP_b I; have B_161 := IP_b I_u_154; omega), (by have B_162 := IP_b I_u_154; omega), (by have B_163 := IP_b I_u_154; have B_164 := IP_b I; omega), (by have B_165 := IP_b I_u_154; have B_166 := IP_b I; omega), (by have B_167 := IP_b I_u_154; have B_168 := IP_b I; omega)⟩
            · refine ok_eq (fun c_169 c_169' => ?_) (fun c_169 => ?_)
              · exact ok_some ⟨I_u_154, F_u_154, (by have B_170 := IP_b I; have B_171 := IP_b I_u_154; omega), (by have B_172 := IP_b I_u_154; omega), (by have B_173 := IP_b I_u_154; have B_174 := IP_b I; omega), (by have B_175 := IP_b I_u_154; have B_176 := IP_b I; omega), (by have B_177 := IP_b I_u_154; have B_178 := IP_b I; omega)⟩
              · refine ok_eq (fun c_179 c_179' => ?_) (fun c_179 => ?_)
                · exact ok_some ⟨I_u_154, F_u_154, (by have B_180 := IP_b I; have B_181 := IP_b I_u_154; omega), (by have B_182 := IP_b I_u_154; omega), (by have B_183 := IP_b I_u_154; have B_184 := IP_b I; omega), (by have B_185 := IP_b I_u_154; have B_186 := IP_b I; omega), (by have B_187 := IP_b I_u_154; have B_188 := IP_b I; omega)⟩
                · refine ok_bP (kP_SqlReaderModel_need I_u_154 (by decide)) (fun u_190 z_189 => ?_)
                  obtain ⟨I_u_190, G_u_190, p_191, p_192⟩ := z_189
                  have F_u_190 : Fr [2, 11, 30] [] u u_190 := Fr_tr F_u_154 G_u_190 rfl rfl
                  have g_193 : (u_190.1 1).toInt = (u_154.1 1).toInt := by rw [G_u_190.1 1 rfl]
                  have g_194 : (u_190.1 4).toInt = (u_154.1 4).toInt := by rw [G_u_190.1 4 rfl]
                  exact ok_some ⟨I_u_190, F_u_190, (by have B_195 := IP_b I; have B_196 := IP_b I_u_190; omega), (by have B_197 := IP_b I_u_190; omega), (by have B_198 := IP_b I_u_190; have B_199 := IP_b I; omega), (by have B_200 := IP_b I_u_190; have B_201 := IP_b I; omega), (by have B_202 := IP_b I_u_190; have B_203 := IP_b I; omega)⟩
        · refine ok_seq (fun u_205 h_204 => ?_)
          have I_u_205 : IP u_205 := by rw [h_204]; exact I_u_84
          have F_u_205 : Fr [2, 11, 30] [] u u_205 := by rw [h_204]; exact Fr_ss F_u_84 rfl rfl
          have g_206 : (u_205.1 1).toInt = (u_84.1 1).toInt := by rw [h_204]; rfl
          have g_207 : (u_205.1 2).toInt = (u_84.1 2).toInt := by rw [h_204]; rfl
          have g_208 : (u_205.1 4).toInt = (u_84.1 4).toInt := by rw [h_204]; rfl
          have g_209 : (u_205.1 30).toInt = (u_84.1 30).toInt := by rw [h_204]; rfl
          rw [mM_SqlReaderModel_readMode_J118]
          refine ok_eq (fun c_210 c_210' => ?_) (fun c_210 => ?_)
          · exact ok_some ⟨I_u_205, F_u_205, (by have B_211 := IP_b I; have B_212 := IP_b I_u_205; omega), (by have B_213 := IP_b I_u_205; omega), (by have B_214 := IP_b I_u_205; have B_215 := IP_b I; omega), (by have B_216 := IP_b I_u_205; have B_217 := IP_b I; omega), (by have B_218 := IP_b I_u_205; have B_219 := IP_b I; omega)⟩
          · refine ok_eq (fun c_220 c_220' => ?_) (fun c_220 => ?_)
            · exact ok_some ⟨I_u_205, F_u_205, (by have B_221 := IP_b I; have B_222 := IP_b I_u_205; omega), (by have B_223 := IP_b I_u_205; omega), (by have B_224 := IP_b I_u_205; have B_225 := IP_b I; omega), (by have B_226 := IP_b I_u_205; have B_227 := IP_b I; omega), (by have B_228 := IP_b I_u_205; have B_229 := IP_b I; omega)⟩
            · refine ok_eq (fun c_230 c_230' => ?_) (fun c_230 => ?_)
              · exact ok_some ⟨I_u_205, F_u_205, (by have B_231 := IP_b I; have B_232 := IP_b I_u_205; omega), (by have B_233 := IP_b I_u_205; omega), (by have B_234 := IP_b I_u_205; have B_235 := IP_b I; omega), (by have B_236 := IP_b I_u_205; have B_237 := IP_b I; omega), (by have B_238 := IP_b I_u_205; have B_239 := IP_b I; omega)⟩
              · refine ok_bP (kP_SqlReaderModel_need I_u_205 (by decide)) (fun u_241 z_240 => ?_)
                obtain ⟨I_u_241, G_u_241, p_242, p_243⟩ := z_240
                have F_u_241 : Fr [2, 11, 30] [] u u_241 := Fr_tr F_u_205 G_u_241 rfl rfl
                have g_244 : (u_241.1 1).toInt = (u_205.1 1).toInt := by rw [G_u_241.1 1 rfl]
                have g_245 : (u_241.1 4).toInt = (u_205.1 4).toInt := by rw [G_u_241.1 4 rfl]
                exact ok_some ⟨I_u_241, F_u_241, (by have B_246 := IP_b I; have B_247 := IP_b I_u_241; omega), (by have B_248 := IP_b I_u_241; omega), (by have B_249 := IP_b I_u_241; have B_250 := IP_b I; omega), (by have B_251 := IP_b I_u_241; have B_252 := IP_b I; omega), (by have B_253 := IP_b I_u_241; have B_254 := IP_b I; omega)⟩
    · refine ok_bM (kP_SqlReaderModel_takes I_u_13 (by decide)) (fun r_256 u_257 z_255 => ?_)
      obtain ⟨I_u_257, G_u_257, p_258, p_259, p_260⟩ := z_255
      have F_u_257 : Fr [2, 11, 30] [] u u_257 := Fr_tr F_u_13 G_u_257 rfl rfl
      have g_261 : (u_257.1 1).toInt = (u_13.1 1).toInt := by rw [G_u_257.1 1 rfl]
      have g_262 : (u_257.1 2).toInt = (u_13.1 2).toInt := by rw [G_u_257.1 2 rfl]
      have g_263 : (u_257.1 4).toInt = (u_13.1 4).toInt := by rw [G_u_257.1 4 rfl]
      refine ok_eq (fun c_264 c_264' => ?_) (fun c_264 => ?_)
      · refine ok_seq (fun u_266 h_265 => ?_)
        have I_u_266 : IP u_266 := by rw [h_265]; exact I_u_257
        have F_u_266 : Fr [2, 11, 30] [] u u_266 := by rw [h_265]; exact Fr_ss F_u_257 rfl rfl
        have g_267 : (u_266.1 1).toInt = (u_257.1 1).toInt := by rw [h_265]; rfl
        have g_268 : (u_266.1 2).toInt = (u_257.1 2).toInt := by rw [h_265]; rfl
        have g_269 : (u_266.1 4).toInt = (u_257.1 4).toInt := by rw [h_265]; rfl
        have g_270 : (u_266.1 30).toInt = (u_257.1 30).toInt := by rw [h_265]; rfl
        rw [mM_SqlReaderModel_readMode_J118]
        refine ok_eq (fun c_271 c_271' => ?_) (fun c_271 => ?_)
        · exact ok_some ⟨I_u_266, F_u_266, (by have B_272 := IP_b I; have B_273 := IP_b I_u_266; omega), (by have B_274 := IP_b I_u_266; omega), (by have B_275 := IP_b I_u_266; have B_276 := IP_b I; omega), (by have B_277 := IP_b I_u_266; have B_278 := IP_b I; omega), (by have B_279 := IP_b I_u_266; have B_280 := IP_b I; omega)⟩
        · refine ok_eq (fun c_281 c_281' => ?_) (fun c_281 => ?_)
          · exact ok_some ⟨I_u_266, F_u_266, (by have B_282 := IP_b I; have B_283 := IP_b I_u_266; omega), (by have B_284 := IP_b I_u_266; omega), (by have B_285 := IP_b I_u_266; have B_286 := IP_b I; omega), (by have B_287 := IP_b I_u_266; have B_288 := IP_b I; omega), (by have B_289 := IP_b I_u_266; have B_290 := IP_b I; omega)⟩
          · refine ok_eq (fun c_291 c_291' => ?_) (fun c_291 => ?_)
            · exact ok_some ⟨I_u_266, F_u_266, (by have B_292 := IP_b I; have B_293 := IP_b I_u_266; omega), (by have B_294 := IP_b I_u_266; omega), (by have B_295 := IP_b I_u_266; have B_296 := IP_b I; omega), (by have B_297 := IP_b I_u_266; have B_298 := IP_b I; omega), (by have B_299 := IP_b I_u_266; have B_300 := IP_b I; omega)⟩
            · refine ok_bP (kP_SqlReaderModel_need I_u_266 (by decide)) (fun u_302 z_301 => ?_)
              obtain ⟨I_u_302, G_u_302, p_303, p_304⟩ := z_301
              have F_u_302 : Fr [2, 11, 30] [] u u_302 := Fr_tr F_u_266 G_u_302 rfl rfl
              have g_305 : (u_302.1 1).toInt = (u_266.1 1).toInt := by rw [G_u_302.1 1 rfl]
              have g_306 : (u_302.1 4).toInt = (u_266.1 4).toInt := by rw [G_u_302.1 4 rfl]
              exact ok_some ⟨I_u_302, F_u_302, (by have B_307 := IP_b I; have B_308 := IP_b I_u_302; omega), (by have B_309 := IP_b I_u_302; omega), (by have B_310 := IP_b I_u_302; have B_311 := IP_b I; omega), (by have B_312 := IP_b I_u_302; have B_313 := IP_b I; omega), (by have B_314 := IP_b I_u_302; have B_315 := IP_b I; omega)⟩
      · refine ok_seq (fun u_317 h_316 => ?_)
        have I_u_317 : IP u_317 := by rw [h_316]; exact I_u_257
        have F_u_317 : Fr [2, 11, 30] [] u u_317 := by rw [h_316]; exact Fr_ss F_u_257 rfl rfl
        have g_318 : (u_317.1 1).toInt = (u_257.1 1).toInt := by rw [h_316]; rfl
        have g_319 : (u_317.1 2).toInt = (u_257.1 2).toInt := by rw [h_316]; rfl
        have g_320 : (u_317.1 4).toInt = (u_257.1 4).toInt := by rw [h_316]; rfl
        have g_321 : (u_317.1 30).toInt = (u_257.1 30).toInt := by rw [h_316]; rfl
        rw [mM_SqlReaderModel_readMode_J118]
        refine ok_eq (fun c_322 c_322' => ?_) (fun c_322 => ?_)
        · exact ok_some ⟨I_u_317, F_u_317, (by have B_323 := IP_b I; have B_324 := IP_b I_u_317; omega), (by have B_325 := IP_b I_u_317; omega), (by have B_326 := IP_b I_u_317; have B_327 := IP_b I; omega), (by have B_328 := IP_b I_u_317; have B_329 := IP_b I; omega), (by have B_330 := IP_b I_u_317; have B_331 := IP_b I; omega)⟩
        · refine ok_eq (fun c_332 c_332' => ?_) (fun c_332 => ?_)
          · exact ok_some ⟨I_u_317, F_u_317, (by have B_333 := IP_b I; have B_334 := IP_b I_u_317; omega), (by have B_335 := IP_b I_u_317; omega), (by have B_336 := IP_b I_u_317; have B_337 := IP_b I; omega), (by have B_338 := IP_b I_u_317; have B_339 := IP_b I; omega), (by have B_340 := IP_b I_u_317; have B_341 := IP_b I; omega)⟩
          · refine ok_eq (fun c_342 c_342' => ?_) (fun c_342 => ?_)
            · exact ok_some ⟨I_u_317, F_u_317, (by have B_343 := IP_b I; have B_344 := IP_b I_u_317; omega), (by have B_345 := IP_b I_u_317; omega), (by have B_346 := IP_b I_u_317; have B_347 := IP_b I; omega), (by have B_348 := IP_b I_u_317; have B_349 := IP_b I; omega), (by have B_350 := IP_b I_u_317; have B_351 := IP_b I; omega)⟩
            · refine ok_bP (kP_SqlReaderModel_need I_u_317 (by decide)) (fun u_353 z_352 => ?_)
              obtain ⟨I_u_353, G_u_353, p_354, p_355⟩ := z_352
              have F_u_353 : Fr [2, 11, 30] [] u u_353 := Fr_tr F_u_317 G_u_353 rfl rfl
              have g_356 : (u_353.1 1).toInt = (u_317.1 1).toInt := by rw [G_u_353.1 1 rfl]
              have g_357 : (u_353.1 4).toInt = (u_317.1 4).toInt := by rw [G_u_353.1 4 rfl]
              exact ok_some ⟨I_u_353, F_u_353, (by have B_358 := IP_b I; have B_359 := IP_b I_u_353; omega), (by have B_360 := IP_b I_u_353; omega), (by have B_361 := IP_b I_u_353; have B_362 := IP_b I; omega), (by have B_363 := IP_b I_u_353; have B_364 := IP_b I; omega), (by have B_365 := IP_b I_u_353; have B_366 := IP_b I; omega)⟩
  · refine ok_bM (kP_SqlReaderModel_takes I_u_3 (by decide)) (fun r_368 u_369 z_367 => ?_)
    obtain ⟨I_u_369, G_u_369, p_370, p_371, p_372⟩ := z_367
    have F_u_369 : Fr [2, 11, 30] [] u u_369 := Fr_tr F_u_3 G_u_369 rfl rfl
    have g_373 : (u_369.1 1).toInt = (u_3.1 1).toInt := by rw [G_u_369.1 1 rfl]
    have g_374 : (u_369.1 2).toInt = (u_3.1 2).toInt := by rw [G_u_369.1 2 rfl]
    have g_375 : (u_369.1 4).toInt = (u_3.1 4).toInt := by rw [G_u_369.1 4 rfl]
    refine ok_eq (fun c_376 c_376' => ?_) (fun c_376 => ?_)
    · refine ok_seq (fun u_378 h_377 => ?_)
      have I_u_378 : IP u_378 := by rw [h_377]; exact I_u_369
      have F_u_378 : Fr [2, 11, 30] [] u u_378 := by rw [h_377]; exact Fr_ss F_u_369 rfl rfl
      have g_379 : (u_378.1 1).toInt = (u_369.1 1).toInt := by rw [h_377]; rfl
      have g_380 : (u_378.1 2).toInt = (u_369.1 2).toInt := by rw [h_377]; rfl
      have g_381 : (u_378.1 4).toInt = (u_369.1 4).toInt := by rw [h_377]; rfl
      have g_382 : (u_378.1 30).toInt = (u_369.1 30).toInt := by rw [h_377]; rfl
      rw [mM_SqlReaderModel_readMode_J118]
      refine ok_eq (fun c_383 c_383' => ?_) (fun c_383 => ?_)
      · exact ok_some ⟨I_u_378, F_u_378, (by have B_384 := IP_b I; have B_385 := IP_b I_u_378; omega), (by have B_386 := IP_b I_u_378; omega), (by have B_387 := IP_b I_u_378; have B_388 := IP_b I; omega), (by have B_389 := IP_b I_u_378; have B_390 := IP_b I; omega), (by have B_391 := IP_b I_u_378; have B_392 := IP_b I; omega)⟩
      · refine ok_eq (fun c_393 c_393' => ?_) (fun c_393 => ?_)
        · exact ok_some ⟨I_u_378, F_u_378, (by have B_394 := IP_b I; have B_395 := IP_b I_u_378; omega), (by have B_396 := IP_b I_u_378; omega), (by have B_397 := IP_b I_u_378; have B_398 := IP_b I; omega), (by have B_399 := IP_b I_u_378; have B_400 := IP_b I; omega), (by have B_401 := IP_b I_u_378; have B_402 := IP_b I; omega)⟩
        · refine ok_eq (fun c_403 c_403' => ?_) (fun c_403 => ?_)
          · exact ok_some ⟨I_u_378, F_u_378, (by have B_404 := IP_b I; have B_405 := IP_b I_u_378; omega), (by have B_406 := IP_b I_u_378; omega), (by have B_407 := IP_b I_u_378; have B_408 := IP_b I; omega), (by have B_409 := IP_b I_u_378; have B_410 := IP_b I; omega), (by have B_411 := IP_b I_u_378; have B_412 := IP_b I; omega)⟩
          · refine ok_bP (kP_SqlReaderModel_need I_u_378 (by decide)) (fun u_414 z_413 => ?_)
            obtain ⟨I_u_414, G_u_414, p_415, p_416⟩ := z_413
            have F_u_414 : Fr [2, 11, 30] [] u u_414 := Fr_tr F_u_378 G_u_414 rfl rfl
            have g_417 : (u_414.1 1).toInt = (u_378.1 1).toInt := by rw [G_u_414.1 1 rfl]
            have g_418 : (u_414.1 4).toInt = (u_378.1 4).toInt := by rw [G_u_414.1 4 rfl]
            exact ok_some ⟨I_u_414, F_u_414, (by have B_419 := IP_b I; have B_420 := IP_b I_u_414; omega), (by have B_421 := IP_b I_u_414; omega), (by have B_422 := IP_b I_u_414; have B_423 := IP_b I; omega), (by have B_424 := IP_b I_u_414; have B_425 := IP_b I; omega), (by have B_426 := IP_b I_u_414; have B_427 := IP_b I; omega)⟩
    · refine ok_seq (fun u_429 h_428 => ?_)
      have I_u_429 : IP u_429 := by rw [h_428]; exact I_u_369
      have F_u_429 : Fr [2, 11, 30] [] u u_429 := by rw [h_428]; exact Fr_ss F_u_369 rfl rfl
      have g_430 : (u_429.1 1).toInt = (u_369.1 1).toInt := by rw [h_428]; rfl
      have g_431 : (u_429.1 2).toInt = (u_369.1 2).toInt := by rw [h_428]; rfl
      have g_432 : (u_429.1 4).toInt = (u_369.1 4).toInt := by rw [h_428]; rfl
      have g_433 : (u_429.1 30).toInt = (u_369.1 30).toInt := by rw [h_428]; rfl
      rw [mM_SqlReaderModel_readMode_J118]
      refine ok_eq (fun c_434 c_434' => ?_) (fun c_434 => ?_)
      · exact ok_some ⟨I_u_429, F_u_429, (by have B_435 := IP_b I; have B_436 := IP_b I_u_429; omega), (by have B_437 := IP_b I_u_429; omega), (by have B_438 := IP_b I_u_429; have B_439 := IP_b I; omega), (by have B_440 := IP_b I_u_429; have B_441 := IP_b I; omega), (by have B_442 := IP_b I_u_429; have B_443 := IP_b I; omega)⟩
      · refine ok_eq (fun c_444 c_444' => ?_) (fun c_444 => ?_)
        · exact ok_some ⟨I_u_429, F_u_429, (by have B_445 := IP_b I; have B_446 := IP_b I_u_429; omega), (by have B_447 := IP_b I_u_429; omega), (by have B_448 := IP_b I_u_429; have B_449 := IP_b I; omega), (by have B_450 := IP_b I_u_429; have B_451 := IP_b I; omega), (by have B_452 := IP_b I_u_429; have B_453 := IP_b I; omega)⟩
        · refine ok_eq (fun c_454 c_454' => ?_) (fun c_454 => ?_)
          · exact ok_some ⟨I_u_429, F_u_429, (by have B_455 := IP_b I; have B_456 := IP_b I_u_429; omega), (by have B_457 := IP_b I_u_429; omega), (by have B_458 := IP_b I_u_429; have B_459 := IP_b I; omega), (by have B_460 := IP_b I_u_429; have B_461 := IP_b I; omega), (by have B_462 := IP_b I_u_429; have B_463 := IP_b I; omega)⟩
          · refine ok_bP (kP_SqlReaderModel_need I_u_429 (by decide)) (fun u_465 z_464 => ?_)
            obtain ⟨I_u_465, G_u_465, p_466, p_467⟩ := z_464
            have F_u_465 : Fr [2, 11, 30] [] u u_465 := Fr_tr F_u_429 G_u_465 rfl rfl
            have g_468 : (u_465.1 1).toInt = (u_429.1 1).toInt := by rw [G_u_465.1 1 rfl]
            have g_469 : (u_465.1 4).toInt = (u_429.1 4).toInt := by rw [G_u_465.1 4 rfl]
            exact ok_some ⟨I_u_465, F_u_465, (by have B_470 := IP_b I; have B_471 := IP_b I_u_465; omega), (by have B_472 := IP_b I_u_465; omega), (by have B_473 := IP_b I_u_465; have B_474 := IP_b I; omega), (by have B_475 := IP_b I_u_465; have B_476 := IP_b I; omega), (by have B_477 := IP_b I_u_465; have B_478 := IP_b I; omega)⟩
