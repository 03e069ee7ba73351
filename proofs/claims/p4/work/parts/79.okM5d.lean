theorem kP_SqlReaderModel_readRows_L2 : ∀ (n : Nat) {x1 : Int32} {u : St} (I : IP u) (h0 : (u.1 4).toInt ≤ 185000) (h1 : (u.1 2).toInt = 1 ∨ ((u.1 4).toInt ≤ 100000 + 40 * (u.1 30).toInt ∧ (u.1 30).toInt ≤ (u.1 1).toInt)) (h2 : (u.1 30).toInt ≤ 3800) (h3 : 0 ≤ x1.toInt) (h4 : x1.toInt ≤ 1) (h5 : 0 ≤ (u.1 10).toInt) (h6 : (u.1 23).toInt ≤ 1000) (h7 : (u.1 2).toInt = 1 ∨ x1.toInt = 0 ∨ 2 * (u.1 23).toInt + 2 ≤ (u.1 30).toInt) (hm : (2 * (2100 - (u.1 30).toInt) + x1.toInt).toNat < n), ok (mM_SqlReaderModel_readRows_L2 n x1 u) (fun v => IP v ∧ Fr [2, 4, 5, 21, 23, 28, 30] [10, 11, 12, 13, 14, 15, 16, 17, 18, 19, 20, 30] u v ∧ (u.1 2).toInt ≤ (v.1 2).toInt ∧ (v.1 4).toInt ≤ 185000 ∧ ((v.1 2).toInt = 1 ∨ ((v.1 4).toInt ≤ 100000 + 40 * (v.1 30).toInt ∧ (v.1 30).toInt ≤ (u.1 1).toInt)) ∧ ((v.1 30).toInt ≤ (u.1 30).toInt + 0 ∨ (v.1 30).toInt ≤ (u.1 1).toInt + 0) ∧ ((v.1 2).toInt = 1 ∨ (u.1 30).toInt ≤ (v.1 30).toInt)) := by
  intro n
  induction n with
  | zero => intro x1 u I h0 h1 h2 h3 h4 h5 h6 h7 hm; exact absurd hm (Nat.not_lt_zero _)
  | succ n ih =>
    intro x1 u I h0 h1 h2 h3 h4 h5 h6 h7 hm
    have l0 : (0 : Int32).toInt = 0 := by decide
    have l1 : (1 : Int32).toInt = 1 := by decide
    have l2 : (2 : Int32).toInt = 2 := by decide
    have l4 : (4 : Int32).toInt = 4 := by decide
    have l10 : (10 : Int32).toInt = 10 := by decide
    have l23 : (23 : Int32).toInt = 23 := by decide
    have l30 : (30 : Int32).toInt = 30 := by decide
    have l40 : (40 : Int32).toInt = 40 := by decide
    have l79 : (79 : Int32).toInt = 79 := by decide
    have l1000 : (1000 : Int32).toInt = 1000 := by decide
    have l2100 : (2100 : Int32).toInt = 2100 := by decide
    have l3800 : (3800 : Int32).toInt = 3800 := by decide
    have l100000 : (100000 : Int32).toInt = 100000 := by decide
    have l185000 : (185000 : Int32).toInt = 185000 := by decide
    rw [mM_SqlReaderModel_readRows_L2]
    refine ok_eq (fun c_1 c_1' => ?_) (fun c_1 => ?_)
    · exact ok_some ⟨I, (Fr_rfl u), (by have B_2 := IP_b I; omega), (by have B_3 := IP_b I; omega), (by have B_4 := IP_b I; omega), (by have B_5 := IP_b I; omega), (by have B_6 := IP_b I; omega)⟩
    · refine ok_eq (fun c_7 c_7' => ?_) (fun c_7 => ?_)
      · refine ok_bP (kP_SqlReaderModel_need I (by decide)) (fun u_9 z_8 => ?_)
        obtain ⟨I_u_9, G_u_9, p_10, p_11⟩ := z_8
        have F_u_9 : Fr [2, 4, 5, 21, 23, 28, 30] [10, 11, 12, 13, 14, 15, 16, 17, 18, 19, 20, 30] u u_9 := Fr_tr (Fr_rfl u) G_u_9 rfl rfl
        have g_12 : (u_9.1 1).toInt = (u.1 1).toInt := by rw [G_u_9.1 1 rfl]
        have g_13 : (u_9.1 4).toInt = (u.1 4).toInt := by rw [G_u_9.1 4 rfl]
        have g_14 : (u_9.1 10).toInt = (u.1 10).toInt := by rw [G_u_9.1 10 rfl]
        have g_15 : (u_9.1 23).toInt = (u.1 23).toInt := by rw [G_u_9.1 23 rfl]
        refine ok_mono (kP_SqlReaderModel_readRows_L24 ih _ I_u_9 (by have FUe : FU = 100000 := rfl; have B_16 := IP_b I_u_9; have B_17 := IP_b I; omega) (by have FUe : FU = 100000 := rfl; have B_18 := IP_b I_u_9; have B_19 := IP_b I; omega) (by have FUe : FU = 100000 := rfl; have B_20 := IP_b I_u_9; have B_21 := IP_b I; omega) (by have FUe : FU = 100000 := rfl; have B_22 := IP_b I_u_9; have B_23 := IP_b I; omega) (by have FUe : FU = 100000 := rfl; have B_24 := IP_b I_u_9; have B_25 := IP_b I; omega) (by have FUe : FU = 100000 := rfl; have B_26 := IP_b I_u_9; have B_27 := IP_b I; omega) (by have FUe : FU = 100000 := rfl; have B_28 := IP_b I_u_9; have B_29 := IP_b I; omega) (by have FUe : FU = 100000 := rfl; have B_30 := IP_b I_u_9; have B_31 := IP_b I; omega) (by have FUe : FU = 100000 := rfl; have B_32 := IP_b I_u_9; have B_33 := IP_b I; omega) (by have FUe : FU = 100000 := rfl; have B_34 := IP_b I_u_9; have B_35 := IP_b I; omega) (by have FUe : FU = 100000 := rfl; have B_36 := IP_b I_u_9; have B_37 := IP_b I; omega) (by have FUe : FU = 100000 := rfl; have B_38 := IP_b I_u_9; have B_39 := IP_b I; omega) (by have FUe : FU = 100000 := rfl; have B_40 := IP_b I_u_9; have B_41 := IP_b I; omega)) (fun u_43 z_42 => ?_)
        obtain ⟨I_u_43, G_u_43, p_44, p_45, p_46, p_47, p_48⟩ := z_42
        have F_u_43 : Fr [2, 4, 5, 21, 23, 28, 30] [10, 11, 12, 13, 14, 15, 16, 17, 18, 19, 20, 30] u u_43 := Fr_tr F_u_9 G_u_43 rfl rfl
        have g_49 : (u_43.1 1).toInt = (u_9.1 1).toInt := by rw [G_u_43.1 1 rfl]
        have g_50 : (u_43.1 10).toInt = (u_9.1 10).toInt := by rw [G_u_43.1 10 rfl]
        exact ⟨I_u_43, F_u_43, (by have B_51 := IP_b I; have B_52 := IP_b I_u_43; omega), (by have B_53 := IP_b I_u_43; omega), (by have B_54 := IP_b I_u_43; have B_55 := IP_b I; omega), (by have B_56 := IP_b I_u_43; have B_57 := IP_b I; omega), (by have B_58 := IP_b I_u_43; have B_59 := IP_b I; omega)⟩
      · exact ok_some ⟨I, (Fr_rfl u), (by have B_60 := IP_b I; omega), (by have B_61 := IP_b I; omega), (by have B_62 := IP_b I; omega), (by have B_63 := IP_b I; omega), (by have B_64 := IP_b I; omega)⟩
theorem kP_SqlReaderModel_readRows {u : St} (I : IP u) (h0 : (u.1 4).toInt ≤ 185000) (h1 : (u.1 2).toInt = 1 ∨ ((u.1 4).toInt ≤ 100000 + 40 * (u.1 30).toInt ∧ (u.1 30).toInt ≤ (u.1 1).toInt)) (h2 : (u.1 30).toInt ≤ 3800) (h3 : 0 ≤ (u.1 10).toInt) (h4 : (u.1 23).toInt = 0) (h5 : (u.1 2).toInt = 1 ∨ 2 ≤ (u.1 30).toInt) : ok (mM_SqlReaderModel_readRows u) (fun v => IP v ∧ Fr [2, 4, 5, 21, 23, 28, 30] [10, 11, 12, 13, 14, 15, 16, 17, 18, 19, 20, 30] u v ∧ (u.1 2).toInt ≤ (v.1 2).toInt ∧ (v.1 4).toInt ≤ 185000 ∧ ((v.1 2).toInt = 1 ∨ ((v.1 4).toInt ≤ 100000 + 40 * (v.1 30).toInt ∧ (v.1 30).toInt ≤ (u.1 1).toInt)) ∧ ((v.1 30).toInt ≤ (u.1 30).toInt + 0 ∨ (v.1 30).toInt ≤ (u.1 1).toInt + 0) ∧ ((v.1 2).toInt = 1 ∨ (u.1 30).toInt ≤ (v.1 30).toInt)) := by
  have l0 : (0 : Int32).toInt = 0 := by decide
  have l1 : (1 : Int32).toInt = 1 := by decide
  have l2 : (2 : Int32).toInt = 2 := by decide
  have l4 : (4 : Int32).toInt = 4 := by decide
  have l10 : (10 : Int32).toInt = 10 := by decide
  have l23 : (23 : Int32).toInt = 23 := by decide
  have l30 : (30 : Int32).toInt = 30 := by decide
  have l40 : (40 : Int32).toInt = 40 := by decide
  have l1000 : (1000 : Int32).toInt = 1000 := by decide
  have l2100 : (2100 : Int32).toInt = 2100 := by decide
  have l3800 : (3800 : Int32).toInt = 3800 := by decide
  have l100000 : (100000 : Int32).toInt = 100000 := by decide
  have l185000 : (185000 : Int32).toInt = 185000 := by decide
  rw [mM_SqlReaderModel_readRows]
  refine ok_mono (kP_SqlReaderModel_readRows_L2 _ I (by have FUe : FU = 100000 := rfl; have B_1 := IP_b I; omega) (by have FUe : FU = 100000 := rfl; have B_2 := IP_b I; omega) (by have FUe : FU = 100000 := rfl; have B_3 := IP_b I; omega) (by have FUe : FU = 100000 := rfl; have B_4 := IP_b I; omega) (by have FUe : FU = 100000 := rfl; have B_5 := IP_b I; omega) (by have FUe : FU = 100000 := rfl; have B_6 := IP_b I; omega) (by have FUe : FU = 100000 := rfl; have B_7 := IP_b I; omega) (by have FUe : FU = 100000 := rfl; have B_8 := IP_b I; omega) (by have FUe : FU = 100000 := rfl; have B_9 := IP_b I; omega)) (fun u_11 z_10 => ?_)
  obtain ⟨I_u_11, G_u_11, p_12, p_13, p_14, p_15, p_16⟩ := z_10
  have F_u_11 : Fr [2, 4, 5, 21, 23, 28, 30] [10, 11, 12, 13, 14, 15, 16, 17, 18, 19, 20, 30] u u_11 := Fr_tr (Fr_rfl u) G_u_11 rfl rfl
  have g_17 : (u_11.1 1).toInt = (u.1 1).toInt := by rw [G_u_11.1 1 rfl]
  have g_18 : (u_11.1 10).toInt = (u.1 10).toInt := by rw [G_u_11.1 10 rfl]
  exact ⟨I_u_11, F_u_11, (by have B_19 := IP_b I; have B_20 := IP_b I_u_11; omega), (by have B_21 := IP_b I_u_11; omega), (by have B_22 := IP_b I_u_11; have B_23 := IP_b I; omega), (by have B_24 := IP_b I_u_11; have B_25 := IP_b I; omega), (by have B_26 := IP_b I_u_11; have B_27 := IP_b I; omega)⟩
theorem kP_SqlReaderModel_readInsert {u : St} (I : IP u) (h0 : (u.1 4).toInt ≤ 185000) (h1 : (u.1 2).toInt = 1 ∨ ((u.1 4).toInt ≤ 100000 + 40 * (u.1 30).toInt ∧ (u.1 30).toInt ≤ (u.1 1).toInt)) (h2 : (u.1 30).toInt ≤ 3790) (h3 : (u.1 16).toInt = 0) (h4 : (u.1 17).toInt = 0) (h5 : (u.1 18).toInt = 0) (h6 : (u.1 19).toInt = 0) (h7 : (u.1 23).toInt = 0) (h8 : (u.1 2).toInt = 1 ∨ 1 ≤ (u.1 30).toInt) : ok (mM_SqlReaderModel_readInsert u) (fun v => IP v ∧ Fr [2, 4, 5, 7, 10, 11, 13, 14, 15, 16, 17, 18, 19, 21, 23, 28, 29, 30] [10, 11, 12, 13, 14, 15, 16, 17, 18, 19, 20, 21, 22, 23, 25, 26, 30] u v ∧ (u.1 2).toInt ≤ (v.1 2).toInt ∧ (v.1 4).toInt ≤ 185000 ∧ ((v.1 2).toInt = 1 ∨ ((v.1 4).toInt ≤ 100000 + 40 * (v.1 30).toInt ∧ (v.1 30).toInt ≤ (u.1 1).toInt)) ∧ ((v.1 30).toInt ≤ (u.1 30).toInt + 4 ∨ (v.1 30).toInt ≤ (u.1 1).toInt + 4) ∧ ((v.1 2).toInt = 1 ∨ (u.1 30).toInt ≤ (v.1 30).toInt) ∧ ((v.1 7).toInt ≠ 5 ∨ 0 ≤ (v.1 10).toInt)) := by
  have l0 : (0 : Int32).toInt = 0 := by decide
  have l1 : (1 : Int32).toInt = 1 := by decide
  have l2 : (2 : Int32).toInt = 2 := by decide
  have l4 : (4 : Int32).toInt = 4 := by decide
  have l5 : (5 : Int32).toInt = 5 := by decide
  have l7 : (7 : Int32).toInt = 7 := by decide
  have l10 : (10 : Int32).toInt = 10 := by decide
  have l16 : (16 : Int32).toInt = 16 := by decide
  have l17 : (17 : Int32).toInt = 17 := by decide
  have l18 : (18 : Int32).toInt = 18 := by decide
  have l19 : (19 : Int32).toInt = 19 := by decide
  have l23 : (23 : Int32).toInt = 23 := by decide
  have l30 : (30 : Int32).toInt = 30 := by decide
  have l40 : (40 : Int32).toInt = 40 := by decide
  have l77 : (77 : Int32).toInt = 77 := by decide
  have l78 : (78 : Int32).toInt = 78 := by decide
  have l115 : (115 : Int32).toInt = 115 := by decide
  have l3800 : (3800 : Int32).toInt = 3800 := by decide
  have l3900 : (3900 : Int32).toInt = 3900 := by decide
  have l100000 : (100000 : Int32).toInt = 100000 := by decide
  have l185000 : (185000 : Int32).toInt = 185000 := by decide
  rw [mM_SqlReaderModel_readInsert]
  refine ok_bP (kP_SqlReaderModel_need I (by decide)) (fun u_2 z_1 => ?_)
  obtain ⟨I_u_2, G_u_2, p_3, p_4⟩ := z_1
  have F_u_2 : Fr [2, 4, 5, 7, 10, 11, 13, 14, 15, 16, 17, 18, 19, 21, 23, 28, 29, 30] [10, 11, 12, 13, 14, 15, 16, 17, 18, 19, 20, 21, 22, 23, 25, 26, 30] u u_2 := Fr_tr (Fr_rfl u) G_u_2 rfl rfl
  have g_5 : (u_2.1 1).toInt = (u.1 1).toInt := by rw [G_u_2.1 1 rfl]
  have g_6 : (u_2.1 4).toInt = (u.1 4).toInt := by rw [G_u_2.1 4 rfl]
  have g_7 : (u_2.1 7).toInt = (u.1 7).toInt := by rw [G_u_2.1 7 rfl]
  have g_8 : (u_2.1 10).toInt = (u.1 10).toInt := by rw [G_u_2.1 10 rfl]
  have g_9 : (u_2.1 16).toInt = (u.1 16).toInt := by rw [G_u_2.1 16 rfl]
  have g_10 : (u_2.1 17).toInt = (u.1 17).toInt := by rw [G_u_2.1 17 rfl]
  have g_11 : (u_2.1 18).toInt = (u.1 18).toInt := by rw [G_u_2.1 18 rfl]
  have g_12 : (u_2.1 19).toInt = (u.1 19).toInt := by rw [G_u_2.1 19 rfl]
  have g_13 : (u_2.1 23).toInt = (u.1 23).toInt := by rw [G_u_2.1 23 rfl]
  refine ok_bM (kP_SqlReaderModel_needName I_u_2 (by have FUe : FU = 100000 := rfl; have B_15 := IP_b I_u_2; have B_16 := IP_b I; omega)) (fun r_17 u_18 z_14 => ?_)
  obtain ⟨I_u_18, G_u_18, p_19, p_20, p_21, p_22⟩ := z_14
  have F_u_18 : Fr [2, 4, 5, 7, 10, 11, 13, 14, 15, 16, 17, 18, 19, 21, 23, 28, 29, 30] [10, 11, 12, 13, 14, 15, 16, 17, 18, 19, 20, 21, 22, 23, 25, 26, 30] u u_18 := Fr_tr F_u_2 G_u_18 rfl rfl
  have g_23 : (u_18.1 1).toInt = (u_2.1 1).toInt := by rw [G_u_18.1 1 rfl]
  have g_24 : (u_18.1 4).toInt = (u_2.1 4).toInt := by rw [G_u_18.1 4 rfl]
  have g_25 : (u_18.1 7).toInt = (u_2.1 7).toInt := by rw [G_u_18.1 7 rfl]
  have g_26 : (u_18.1 10).toInt = (u_2.1 10).toInt := by rw [G_u_18.1 10 rfl]
  have g_27 : (u_18.1 16).toInt = (u_2.1 16).toInt := by rw [G_u_18.1 16 rfl]
  have g_28 : (u_18.1 17).toInt = (u_2.1 17).toInt := by rw [G_u_18.1 17 rfl]
  have g_29 : (u_18.1 18).toInt = (u_2.1 18).toInt := by rw [G_u_18.1 18 rfl]
  have g_30 : (u_18.1 19).toInt = (u_2.1 19).toInt := by rw [G_u_18.1 19 rfl]
  have g_31 : (u_18.1 23).toInt = (u_2.1 23).toInt := by rw [G_u_18.1 23 rfl]
  have n_32 : 0 ≤ r_17.toInt := by have B_33 := IP_b I_u_2; omega
  refine ok_seq (fun u_35 h_34 => ?_)
  have I_u_35 : IP u_35 := by rw [h_34]; exact IP_s10 I_u_18 (by have B_36 := IP_b I_u_18; omega) (by have B_37 := IP_b I_u_18; omega) (by have B_38 := IP_b I_u_18; omega)
  have F_u_35 : Fr [2, 4, 5, 7, 10, 11, 13, 14, 15, 16, 17, 18, 19, 21, 23, 28, 29, 30] [10, 11, 12, 13, 14, 15, 16, 17, 18, 19, 20, 21, 22, 23, 25, 26, 30] u u_35 := by rw [h_34]; exact Fr_ss F_u_18 rfl rfl
  have g_39 : (u_35.1 10).toInt = (r_17 : Int32).toInt := by rw [h_34]; rfl
  have g_40 : (u_35.1 1).toInt = (u_18.1 1).toInt := by rw [h_34]; rfl
  have g_41 : (u_35.1 2).toInt = (u_18.1 2).toInt := by rw [h_34]; rfl
  have g_42 : (u_35.1 4).toInt = (u_18.1 4).toInt := by rw [h_34]; rfl
  have g_43 : (u_35.1 30).toInt = (u_18.1 30).toInt := by rw [h_34]; rfl
  have g_44 : (u_35.1 7).toInt = (u_18.1 7).toInt := by rw [h_34]; rfl
  have g_45 : (u_35.1 16).toInt = (u_18.1 16).toInt := by rw [h_34]; rfl
  have g_46 : (u_35.1 17).toInt = (u_18.1 17).toInt := by rw [h_34]; rfl
  have g_47 : (u_35.1 18).toInt = (u_18.1 18).toInt := by rw [h_34]; rfl
  have g_48 : (u_35.1 19).toInt = (u_18.1 19).toInt := by rw [h_34]; rfl
  have g_49 : (u_35.1 23).toInt = (u_18.1 23).toInt := by rw [h_34]; rfl
  refine ok_bM (kP_SqlReaderModel_takes I_u_35 (by decide)) (fun r_51 u_52 z_50 => ?_)
  obtain ⟨I_u_52, G_u_52, p_53, p_54, p_55⟩ := z_50
  have F_u_52 : Fr [2, 4, 5, 7, 10, 11, 13, 14, 15, 16, 17, 18, 19, 21, 23, 28, 29, 30] [10, 11, 12, 13, 14, 15, 16, 17, 18, 19, 20, 21, 22, 23, 25, 26, 30] u u_52 := Fr_tr F_u_35 G_u_52 rfl rfl
  have g_56 : (u_52.1 1).toInt = (u_35.1 1).toInt := by rw [G_u_52.1 1 rfl]
  have g_57 : (u_52.1 2).toInt = (u_35.1 2).toInt := by rw [G_u_52.1 2 rfl]
  have g_58 : (u_52.1 4).toInt = (u_35.1 4).toInt := by rw [G_u_52.1 4 rfl]
  have g_59 : (u_52.1 7).toInt = (u_35.1 7).toInt := by rw [G_u_52.1 7 rfl]
  have g_60 : (u_52.1 10).toInt = (u_35.1 10).toInt := by rw [G_u_52.1 10 rfl]
  have g_61 : (u_52.1 16).toInt = (u_35.1 16).toInt := by rw [G_u_52.1 16 rfl]
  have g_62 : (u_52.1 17).toInt = (u_35.1 17).toInt := by rw [G_u_52.1 17 rfl]
  have g_63 : (u_52.1 18).toInt = (u_35.1 18).toInt := by rw [G_u_52.1 18 rfl]
  have g_64 : (u_52.1 19).toInt = (u_35.1 19).toInt := by rw [G_u_52.1 19 rfl]
  have g_65 : (u_52.1 23).toInt = (u_35.1 23).toInt := by rw [G_u_52.1 23 rfl]
  refine ok_eq (fun c_66 c_66' => ?_) (fun c_66 => ?_)
  · refine ok_bP (kP_SqlReaderModel_need I_u_52 (by decide)) (fun u_68 z_67 => ?_)
    obtain ⟨I_u_68, G_u_68, p_69, p_70⟩ := z_67
    have F_u_68 : Fr [2, 4, 5, 7, 10, 11, 13, 14, 15, 16, 17, 18, 19, 21, 23, 28, 29, 30] [10, 11, 12, 13, 14, 15, 16, 17, 18, 19, 20, 21, 22, 23, 25, 26, 30] u u_68 := Fr_tr F_u_52 G_u_68 rfl rfl
    have g_71 : (u_68.1 1).toInt = (u_52.1 1).toInt := by rw [G_u_68.1 1 rfl]
    have g_72 : (u_68.1 4).toInt = (u_52.1 4).toInt := by rw [G_u_68.1 4 rfl]
    have g_73 : (u_68.1 7).toInt = (u_52.1 7).toInt := by rw [G_u_68.1 7 rfl]
    have g_74 : (u_68.1 10).toInt = (u_52.1 10).toInt := by rw [G_u_68.1 10 rfl]
    have g_75 : (u_68.1 16).toInt = (u_52.1 16).toInt := by rw [G_u_68.1 16 rfl]
    have g_76 : (u_68.1 17).toInt = (u_52.1 17).toInt := by rw [G_u_68.1 17 rfl]
    have g_77 : (u_68.1 18).toInt = (u_52.1 18).toInt := by rw [G_u_68.1 18 rfl]
    have g_78 : (u_68.1 19).toInt = (u_52.1 19).toInt := by rw [G_u_68.1 19 rfl]
    have g_79 : (u_68.1 23).toInt = (u_52.1 23).toInt := by rw [G_u_68.1 23 rfl]
    refine ok_seq (fun u_81 h_80 => ?_)
    have I_u_81 : IP u_81 := by rw [h_80]; exact IP_s7 I_u_68 (by have B_82 := IP_b I_u_68; omega)
    have F_u_81 : Fr [2, 4, 5, 7, 10, 11, 13, 14, 15, 16, 17, 18, 19, 21, 23, 28, 29, 30] [10, 11, 12, 13, 14, 15, 16, 17, 18, 19, 20, 21, 22, 23, 25, 26, 30] u u_81 := by rw [h_80]; exact Fr_ss F_u_68 rfl rfl
    have g_83 : (u_81.1 7).toInt = (5 : Int32).toInt := by rw [h_80]; rfl
    have g_84 : (u_81.1 1).toInt = (u_68.1 1).toInt := by rw [h_80]; rfl
    have g_85 : (u_81.1 2).toInt = (u_68.1 2).toInt := by rw [h_80]; rfl
    have g_86 : (u_81.1 4).toInt = (u_68.1 4).toInt := by rw [h_80]; rfl
    have g_87 : (u_81.1 30).toInt = (u_68.1 30).toInt := by rw [h_80]; rfl
    have g_88 : (u_81.1 10).toInt = (u_68.1 10).toInt := by rw [h_80]; rfl
    have g_89 : (u_81.1 16).toInt = (u_68.1 16).toInt := by rw [h_80]; rfl
    have g_90 : (u_81.1 17).toInt = (u_68.1 17).toInt := by rw [h_80]; rfl
    have g_91 : (u_81.1 18).toInt = (u_68.1 18).toInt := by rw [h_80]; rfl
    have g_92 : (u_81.1 19).toInt = (u_68.1 19).toInt := by rw [h_80]; rfl
    have g_93 : (u_81.1 23).toInt = (u_68.1 23).toInt := by rw [h_80]; rfl
    refine ok_bP (kP_SqlReaderModel_readQuery I_u_81 (by have FUe : FU = 100000 := rfl; have B_95 := IP_b I_u_81; have B_96 := IP_b I; omega) (by have FUe : FU = 100000 := rfl; have B_97 := IP_b I_u_81; have B_98 := IP_b I; omega) (by have FUe : FU = 100000 := rfl; have B_99 := IP_b I_u_81; have B_100 := IP_b I; omega) (by have FUe : FU = 100000 := rfl; have B_101 := IP_b I_u_81; have B_102 := IP_b I; omega) (by have FUe : FU = 100000 := rfl; have B_103 := IP_b I_u_81; have B_104 := IP_b I; omega) (by have FUe : FU = 100000 := rfl; have B_105 := IP_b I_u_81; have B_106 := IP_b I; omega) (by have FUe : FU = 100000 := rfl; have B_107 := IP_b I_u_81; have B_108 := IP_b I; omega) (by have FUe : FU = 100000 := rfl; have B_109 := IP_b I_u_81; have B_110 := IP_b I; omega)) (fun u_111 z_94 => ?_)
    obtain ⟨I_u_111, G_u_111, p_112, p_113, p_114, p_115, p_116⟩ := z_94
    have F_u_111 : Fr [2, 4, 5, 7, 10, 11, 13, 14, 15, 16, 17, 18, 19, 21, 23, 28, 29, 30] [10, 11, 12, 13, 14, 15, 16, 17, 18, 19, 20, 21, 22, 23, 25, 26, 30] u u_111 := Fr_tr F_u_81 G_u_111 rfl rfl
    have g_117 : (u_111.1 1).toInt = (u_81.1 1).toInt := by rw [G_u_111.1 1 rfl]
    have g_118 : (u_111.1 7).toInt = (u_81.1 7).toInt := by rw [G_u_111.1 7 rfl]
    have g_119 : (u_111.1 10).toInt = (u_81.1 10).toInt := by rw [G_u_111.1 10 rfl]
    have g_120 : (u_111.1 23).toInt = (u_81.1 23).toInt := by rw [G_u_111.1 23 rfl]
    exact ok_some ⟨I_u_111, F_u_111, (by have B_121 := IP_b I; have B_122 := IP_b I_u_111; omega), (by have B_123 := IP_b I_u_111; omega), (by have B_124 := IP_b I_u_111; have B_125 := IP_b I; omega), (by have B_126 := IP_b I_u_111; have B_127 := IP_b I; omega), (by have B_128 := IP_b I_u_111; have B_129 := IP_b I; omega), (by have B_130 := IP_b I_u_111; omega)⟩
  · refine ok_seq (fun u_132 h_131 => ?_)
    have I_u_132 : IP u_132 := by rw [h_131]; exact IP_s7 I_u_52 (by have B_133 := IP_b I_u_52; omega)
    have F_u_132 : Fr [2, 4, 5, 7, 10, 11, 13, 14, 15, 16, 17, 18, 19, 21, 23, 28, 29, 30] [10, 11, 12, 13, 14, 15, 16, 17, 18, 19, 20, 21, 22, 23, 25, 26, 30] u u_132 := by rw [h_131]; exact Fr_ss F_u_52 rfl rfl
    have g_134 : (u_132.1 7).toInt = (4 : Int32).toInt := by rw [h_131]; rfl
    have g_135 : (u_132.1 1).toInt = (u_52.1 1).toInt := by rw [h_131]; rfl
    have g_136 : (u_132.1 2).toInt = (u_52.1 2).toInt := by rw [h_131]; rfl
    have g_137 : (u_132.1 4).toInt = (u_52.1 4).toInt := by rw [h_131]; rfl
    have g_138 : (u_132.1 30).toInt = (u_52.1 30).toInt := by rw [h_131]; rfl
    have g_139 : (u_132.1 10).toInt = (u_52.1 10).toInt := by rw [h_131]; rfl
    have g_140 : (u_132.1 16).toInt = (u_52.1 16).toInt := by rw [h_131]; rfl
    have g_141 : (u_132.1 17).toInt = (u_52.1 17).toInt := by rw [h_131]; rfl
    have g_142 : (u_132.1 18).toInt = (u_52.1 18).toInt := by rw [h_131]; rfl
    have g_143 : (u_132.1 19).toInt = (u_52.1 19).toInt := by rw [h_131]; rfl
    have g_144 : (u_132.1 23).toInt = (u_52.1 23).toInt := by rw [h_131]; rfl
    refine ok_bP (kP_SqlReaderModel_readRows I_u_132 (by have FUe : FU = 100000 := rfl; have B_146 := IP_b I_u_132; have B_147 := IP_b I; omega) (by have FUe : FU = 100000 := rfl; have B_148 := IP_b I_u_132; have B_149 := IP_b I; omega) (by have FUe : FU = 100000 := rfl; have B_150 := IP_b I_u_132; have B_151 := IP_b I; omega) (by have FUe : FU = 100000 := rfl; have B_152 := IP_b I_u_132; have B_153 := IP_b I; omega) (by have FUe : FU = 100000 := rfl; have B_154 := IP_b I_u_132; have B_155 := IP_b I; omega) (by have FUe : FU = 100000 := rfl; have B_156 := IP_b I_u_132; have B_157 := IP_b I; omega)) (fun u_158 z_145 => ?_)
    obtain ⟨I_u_158, G_u_158, p_159, p_160, p_161, p_162, p_163⟩ := z_145
    have F_u_158 : Fr [2, 4, 5, 7, 10, 11, 13, 14, 15, 16, 17, 18, 19, 21, 23, 28, 29, 30] [10, 11, 12, 13, 14, 15, 16, 17, 18, 19, 20, 21, 22, 23, 25, 26, 30] u u_158 := Fr_tr F_u_132 G_u_158 rfl rfl
    have g_164 : (u_158.1 1).toInt = (u_132.1 1).toInt := by rw [G_u_158.1 1 rfl]
    have g_165 : (u_158.1 7).toInt = (u_132.1 7).toInt := by rw [G_u_158.1 7 rfl]
    have g_166 : (u_158.1 10).toInt = (u_132.1 10).toInt := by rw [G_u_158.1 10 rfl]
    have g_167 : (u_158.1 16).toInt = (u_132.1 16).toInt := by rw [G_u_158.1 16 rfl]
    have g_168 : (u_158.1 17).toInt = (u_132.1 17).toInt := by rw [G_u_158.1 17 rfl]
    have g_169 : (u_158.1 18).toInt = (u_132.1 18).toInt := by rw [G_u_158.1 18 rfl]
    have g_170 : (u_158.1 19).toInt = (u_132.1 19).toInt := by rw [G_u_158.1 19 rfl]
    exact ok_some ⟨I_u_158, F_u_158, (by have B_171 := IP_b I; have B_172 := IP_b I_u_158; omega), (by have B_173 := IP_b I_u_158; omega), (by have B_174 := IP_b I_u_158; have B_175 := IP_b I; omega), (by have B_176 := IP_b I_u_158; have B_177 := IP_b I; omega), (by have B_178 := IP_b I_u_158; have B_179 := IP_b I; omega), (by have B_180 := IP_b I_u_158; omega)⟩
set_option maxHeartbeats 20000000 in
theorem kP_SqlReaderModel_readUpdate_L35 : ∀ (n : Nat) {x1 : Int32} {u : St} (I : IP u) (h0 : (u.1 4).toInt ≤ 185000) (h1 : (u.1 2).toInt = 1 ∨ ((u.1 4).toInt ≤ 100000 + 40 * (u.1 30).toInt ∧ (u.1 30).toInt ≤ (u.1 1).toInt)) (h2 : (u.1 30).toInt ≤ 3800) (h3 : 0 ≤ x1.toInt) (h4 : x1.toInt ≤ 1) (h5 : (u.1 20).toInt ≤ 1000) (h6 : (u.1 2).toInt = 1 ∨ x1.toInt = 0 ∨ 2 * (u.1 20).toInt + 2 ≤ (u.1 30).toInt) (h7 : 0 ≤ (u.1 10).toInt) (hm : (2 * (2100 - (u.1 30).toInt) + x1.toInt).toNat < n), ok (mM_SqlReaderModel_readUpdate_L35 n x1 u) (fun v => IP v ∧ Fr [2, 4, 5, 15, 20, 28, 30] [10, 11, 12, 13, 14, 15, 16, 17, 18, 19, 20, 27, 29] u v ∧ (u.1 2).toInt ≤ (v.1 2).toInt ∧ (v.1 4).toInt ≤ 185000 ∧ ((v.1 2).toInt = 1 ∨ ((v.1 4).toInt ≤ 100000 + 40 * (v.1 30).toInt ∧ (v.1 30).toInt ≤ (u.1 1).toInt)) ∧ ((v.1 30).toInt ≤ (u.1 30).toInt + 1 ∨ (v.1 30).toInt ≤ (u.1 1).toInt + 1) ∧ ((v.1 2).toInt = 1 ∨ (u.1 30).toInt ≤ (v.1 30).toInt) ∧ ((u.1 2).toInt = 0 ∨ (v.1 30).toInt ≤ (u.1 30).toInt + 0 ∨ (v.1 30).toInt ≤ (u.1 1).toInt + 0)) := by
  intro n
  induction n with
  | zero => intro x1 u I h0 h1 h2 h3 h4 h5 h6 h7 hm; exact absurd hm (Nat.not_lt_zero _)
  | succ n ih =>
    intro x1 u I h0 h1 h2 h3 h4 h5 h6 h7 hm
    have l0 : (0 : Int32).toInt = 0 := by decide
    have l1 : (1 : Int32).toInt = 1 := by decide
    have l2 : (2 : Int32).toInt = 2 := by decide
    have l4 : (4 : Int32).toInt = 4 := by decide
    have l5 : (5 : Int32).toInt = 5 := by decide
    have l10 : (10 : Int32).toInt = 10 := by decide
    have l20 : (20 : Int32).toInt = 20 := by decide
    have l30 : (30 : Int32).toInt = 30 := by decide
    have l40 : (40 : Int32).toInt = 40 := by decide
    have l80 : (80 : Int32).toInt = 80 := by decide
    have l91 : (91 : Int32).toInt = 91 := by decide
    have l1000 : (1000 : Int32).toInt = 1000 := by decide
    have l2100 : (2100 : Int32).toInt = 2100 := by decide
    have l3800 : (3800 : Int32).toInt = 3800 := by decide
    have l3900 : (3900 : Int32).toInt = 3900 := by decide
    have l100000 : (100000 : Int32).toInt = 100000 := by decide
    have l185000 : (185000 : Int32).toInt = 185000 := by decide
    rw [mM_SqlReaderModel_readUpdate_L35]
    refine ok_eq (fun c_1 c_1' => ?_) (fun c_1 => ?_)
    · refine ok_bP (kP_SqlReaderModel_readWhere I (by have FUe : FU = 100000 := rfl; have B_3 := IP_b I; omega) (by have FUe : FU = 100000 := rfl; have B_4 := IP_b I; omega) (by have FUe : FU = 100000 := rfl; have B_5 := IP_b I; omega)) (fun u_6 z_2 => ?_)
      obtain ⟨I_u_6, G_u_6, p_7, p_8, p_9, p_10, p_11⟩ := z_2
      have F_u_6 : Fr [2, 4, 5, 15, 20, 28, 30] [10, 11, 12, 13, 14, 15, 16, 17, 18, 19, 20, 27, 29] u u_6 := Fr_tr (Fr_rfl u) G_u_6 rfl rfl
      have g_12 : (u_6.1 1).toInt = (u.1 1).toInt := by rw [G_u_6.1 1 rfl]
      have g_13 : (u_6.1 10).toInt = (u.1 10).toInt := by rw [G_u_6.1 10 rfl]
      have g_14 : (u_6.1 20).toInt = (u.1 20).toInt := by rw [G_u_6.1 20 rfl]
      have Q_u_6_20 : u_6.1 20 = u.1 20 := G_u_6.1 20 rfl
      have g_15 : (ga u_6 27 (u_6.1 20)).toInt = (ga u 27 (u.1 20)).toInt := by show (u_6.2.1 27 (u_6.1 20).toNatClampNeg).toInt = _; rw [G_u_6.2.1 27 rfl, G_u_6.1 20 rfl]; rfl
      have g_16 : (ga u_6 29 (u_6.1 20)).toInt = (ga u 29 (u.1 20)).toInt := by show (u_6.2.1 29 (u_6.1 20).toNatClampNeg).toInt = _; rw [G_u_6.2.1 29 rfl, G_u_6.1 20 rfl]; rfl
      exact ok_some ⟨I_u_6, F_u_6, (by have B_17 := IP_b I; have B_18 := IP_b I_u_6; omega), (by have B_19 := IP_b I_u_6; omega), (by have B_20 := IP_b I_u_6; have B_21 := IP_b I; omega), (by have B_22 := IP_b I_u_6; have B_23 := IP_b I; omega), (by have B_24 := IP_b I_u_6; have B_25 := IP_b I; omega), (by have B_26 := IP_b I; have B_27 := IP_b I_u_6; omega)⟩
    · refine ok_eq (fun c_28 c_28' => ?_) (fun c_28 => ?_)
      · refine ok_bM (kP_SqlReaderModel_needName I (by have FUe : FU = 100000 := rfl; have B_30 := IP_b I; omega)) (fun r_31 u_32 z_29 => ?_)
        obtain ⟨I_u_32, G_u_32, p_33, p_34, p_35, p_36⟩ := z_29
        have F_u_32 : Fr [2, 4, 5, 15, 20, 28, 30] [10, 11, 12, 13, 14, 15, 16, 17, 18, 19, 20, 27, 29] u u_32 := Fr_tr (Fr_rfl u) G_u_32 rfl rfl
        have g_37 : (u_32.1 1).toInt = (u.1 1).toInt := by rw [G_u_32.1 1 rfl]
        have g_38 : (u_32.1 4).toInt = (u.1 4).toInt := by rw [G_u_32.1 4 rfl]
        have g_39 : (u_32.1 10).toInt = (u.1 10).toInt := by rw [G_u_32.1 10 rfl]
        have g_40 : (u_32.1 20).toInt = (u.1 20).toInt := by rw [G_u_32.1 20 rfl]
        have Q_u_32_20 : u_32.1 20 = u.1 20 := G_u_32.1 20 rfl
        have g_41 : (ga u_32 27 (u_32.1 20)).toInt = (ga u 27 (u.1 20)).toInt := by show (u_32.2.1 27 (u_32.1 20).toNatClampNeg).toInt = _; rw [G_u_32.2.1 27 rfl, G_u_32.1 20 rfl]; rfl
        have g_42 : (ga u_32 29 (u_32.1 20)).toInt = (ga u 29 (u.1 20)).toInt := by show (u_32.2.1 29 (u_32.1 20).toNatClampNeg).toInt = _; rw [G_u_32.2.1 29 rfl, G_u_32.1 20 rfl]; rfl
        have n_43 : 0 ≤ r_31.toInt := by have B_44 := IP_b I; omega
        refine ok_gd (inb_of (by have B_45 := IP_b I; have B_46 := IP_b I_u_32; omega) (by have B_47 := IP_b I; have B_48 := IP_b I_u_32; omega)) ?_
        refine ok_seq (fun u_50 h_49 => ?_)
        have I_u_50 : IP u_50 := by rw [h_49]; exact IP_a27 I_u_32 (by have B_51 := IP_b I_u_32; omega)
        have F_u_50 : Fr [2, 4, 5, 15, 20, 28, 30] [10, 11, 12, 13, 14, 15, 16, 17, 18, 19, 20, 27, 29] u u_50 := by rw [h_49]; exact Fr_sa F_u_32 rfl rfl rfl
        have Q_u_50_20 : u_50.1 20 = u_32.1 20 := by rw [h_49]; rfl
        have g_52 : (ga u_50 27 (u_50.1 20)).toInt = (r_31 : Int32).toInt := by rw [h_49]; show (upd (u_32.2.1 27) ((u.1 20)).toNatClampNeg r_31 (u_32.1 20).toNatClampNeg).toInt = _; rw [Q_u_32_20, pk_us]
        have g_53 : (ga u_50 29 (u_50.1 20)).toInt = (ga u_32 29 (u_32.1 20)).toInt := by rw [h_49]; rfl
        have g_54 : (u_50.1 1).toInt = (u_32.1 1).toInt := by rw [h_49]; rfl
        have g_55 : (u_50.1 2).toInt = (u_32.1 2).toInt := by rw [h_49]; rfl
        have g_56 : (u_50.1 4).toInt = (u_32.1 4).toInt := by rw [h_49]; rfl
        have g_57 : (u_50.1 30).toInt = (u_32.1 30).toInt := by rw [h_49]; rfl
        have g_58 : (u_50.1 10).toInt = (u_32.1 10).toInt := by rw [h_49]; rfl
        have g_59 : (u_50.1 20).toInt = (u_32.1 20).toInt := by rw [h_49]; rfl
        refine ok_bP (kP_note4 I_u_50 (by have B_62 := IP_b I_u_50; omega) (by have B_63 := IP_b I_u_50; omega) (by have B_64 := IP_b I_u_50; omega) (by have B_65 := IP_b I_u_50; omega)) (fun u_60 z_61 => ?_)
        obtain ⟨I_u_60, G_u_60, H_u_60⟩ := z_61
        have F_u_60 : Fr [2, 4, 5, 15, 20, 28, 30] [10, 11, 12, 13, 14, 15, 16, 17, 18, 19, 20, 27, 29] u u_60 := Fr_tr F_u_50 G_u_60 rfl rfl
        have g_66 : (u_60.1 1).toInt = (u_50.1 1).toInt := by rw [G_u_60.1 1 rfl]
        have g_67 : (u_60.1 2).toInt = (u_50.1 2).toInt := by rw [G_u_60.1 2 rfl]
        have g_68 : (u_60.1 4).toInt = (u_50.1 4).toInt := by rw [G_u_60.1 4 rfl]
        have g_69 : (u_60.1 30).toInt = (u_50.1 30).toInt := by rw [G_u_60.1 30 rfl]
        have g_70 : (u_60.1 10).toInt = (u_50.1 10).toInt := by rw [G_u_60.1 10 rfl]
        have g_71 : (u_60.1 20).toInt = (u_50.1 20).toInt := by rw [G_u_60.1 20 rfl]
        have Q_u_60_20 : u_60.1 20 = u_50.1 20 := G_u_60.1 20 rfl
        have g_72 : (ga u_60 27 (u_60.1 20)).toInt = (ga u_50 27 (u_50.1 20)).toInt := by show (u_60.2.1 27 (u_60.1 20).toNatClampNeg).toInt = _; rw [G_u_60.2.1 27 rfl, G_u_60.1 20 rfl]; rfl
        have g_73 : (ga u_60 29 (u_60.1 20)).toInt = (ga u_50 29 (u_50.1 20)).toInt := by show (u_60.2.1 29 (u_60.1 20).toNatClampNeg).toInt = _; rw [G_u_60.2.1 29 rfl, G_u_60.1 20 rfl]; rfl
        refine ok_bP (kP_SqlReaderModel_need I_u_60 (by decide)) (fun u_75 z_74 => ?_)
        obtain ⟨I_u_75, G_u_75, p_76, p_77⟩ := z_74
        have F_u_75 : Fr [2, 4, 5, 15, 20, 28, 30] [10, 11, 12, 13, 14, 15, 16, 17, 18, 19, 20, 27, 29] u u_75 := Fr_tr F_u_60 G_u_75 rfl rfl
        have g_78 : (u_75.1 1).toInt = (u_60.1 1).toInt := by rw [G_u_75.1 1 rfl]
        have g_79 : (u_75.1 4).toInt = (u_60.1 4).toInt := by rw [G_u_75.1 4 rfl]
        have g_80 : (u_75.1 10).toInt = (u_60.1 10).toInt := by rw [G_u_75.1 10 rfl]
        have g_81 : (u_75.1 20).toInt = (u_60.1 20).toInt := by rw [G_u_75.1 20 rfl]
        have Q_u_75_20 : u_75.1 20 = u_60.1 20 := G_u_75.1 20 rfl
        have g_82 : (ga u_75 27 (u_75.1 20)).toInt = (ga u_60 27 (u_60.1 20)).toInt := by show (u_75.2.1 27 (u_75.1 20).toNatClampNeg).toInt = _; rw [G_u_75.2.1 27 rfl, G_u_75.1 20 rfl]; rfl
        have g_83 : (ga u_75 29 (u_75.1 20)).toInt = (ga u_60 29 (u_60.1 20)).toInt := by show (u_75.2.1 29 (u_75.1 20).toNatClampNeg).toInt = _; rw [G_u_75.2.1 29 rfl, G_u_75.1 20 rfl]; rfl
        have H_u_75 : Hc u_75 (u_50.1 20) := Hc_fr H_u_60 G_u_75
        refine ok_bM (kP_SqlReaderModel_expression I_u_75 (by have FUe : FU = 100000 := rfl; have B_85 := IP_b I_u_75; have B_86 := IP_b I; omega) (by have FUe : FU = 100000 := rfl; have B_87 := IP_b I_u_75; have B_88 := IP_b I; omega)) (fun r_89 u_90 z_84 => ?_)
        obtain ⟨I_u_90, G_u_90, p_91, p_92, p_93, p_94, p_95, p_96, p_97, p_98, p_99⟩ := z_84
        have F_u_90 : Fr [2, 4, 5, 15, 20, 28, 30] [10, 11, 12, 13, 14, 15, 16, 17, 18, 19, 20, 27, 29] u u_90 := Fr_tr F_u_75 G_u_90 rfl rfl
        have g_100 : (u_90.1 1).toInt = (u_75.1 1).toInt := by rw [G_u_90.1 1 rfl]
        have g_101 : (u_90.1 10).toInt = (u_75.1 10).toInt := by rw [G_u_90.1 10 rfl]
        have g_102 : (u_90.1 20).toInt = (u_75.1 20).toInt := by rw [G_u_90.1 20 rfl]
        have Q_u_90_20 : u_90.1 20 = u_75.1 20 := G_u_90.1 20 rfl
        have g_103 : (ga u_90 27 (u_90.1 20)).toInt = (ga u_75 27 (u_75.1 20)).toInt := by show (u_90.2.1 27 (u_90.1 20).toNatClampNeg).toInt = _; rw [G_u_90.2.1 27 rfl, G_u_90.1 20 rfl]; rfl
        have g_104 : (ga u_90 29 (u_90.1 20)).toInt = (ga u_75 29 (u_75.1 20)).toInt := by show (u_90.2.1 29 (u_90.1 20).toNatClampNeg).toInt = _; rw [G_u_90.2.1 29 rfl, G_u_90.1 20 rfl]; rfl
        have H_u_90 : Hc u_90 (u_50.1 20) := Hc_fr H_u_75 G_u_90
        refine ok_gd (inb_of (by have B_105 := IP_b I_u_75; have B_106 := IP_b I_u_90; omega) (by have B_107 := IP_b I_u_75; have B_108 := IP_b I_u_90; omega)) ?_
        refine ok_seq (fun u_110 h_109 => ?_)
        have I_u_110 : IP u_110 := by rw [h_109]; exact IP_a29 I_u_90 (by have B_111 := IP_b I_u_90; omega)
        have F_u_110 : Fr [2, 4, 5, 15, 20, 28, 30] [10, 11, 12, 13, 14, 15, 16, 17, 18, 19, 20, 27, 29] u u_110 := by rw [h_109]; exact Fr_sa F_u_90 rfl rfl rfl
        have Q_u_110_20 : u_110.1 20 = u_90.1 20 := by rw [h_109]; rfl
        have g_112 : (ga u_110 27 (u_110.1 20)).toInt = (ga u_90 27 (u_90.1 20)).toInt := by rw [h_109]; rfl
        have g_113 : (ga u_110 29 (u_110.1 20)).toInt = (r_89 : Int32).toInt := by rw [h_109]; show (upd (u_90.2.1 29) ((u_75.1 20)).toNatClampNeg r_89 (u_90.1 20).toNatClampNeg).toInt = _; rw [Q_u_90_20, pk_us]
        have H_u_110 : Hc u_110 (u_50.1 20) := by rw [h_109]; exact H_u_90
        have g_114 : (u_110.1 1).toInt = (u_90.1 1).toInt := by rw [h_109]; rfl
        have g_115 : (u_110.1 2).toInt = (u_90.1 2).toInt := by rw [h_109]; rfl
        have g_116 : (u_110.1 4).toInt = (u_90.1 4).toInt := by rw [h_109]; rfl
        have g_117 : (u_110.1 30).toInt = (u_90.1 30).toInt := by rw [h_109]; rfl
        have g_118 : (u_110.1 10).toInt = (u_90.1 10).toInt := by rw [h_109]; rfl
        have g_119 : (u_110.1 20).toInt = (u_90.1 20).toInt := by rw [h_109]; rfl
        have HH : Hc u_110 (u_110.1 20) := by rw [Q_u_110_20, Q_u_90_20, Q_u_75_20, Q_u_60_20]; exact H_u_110
        refine ok_bP (kP_note5 I_u_110 (by have B_122 := IP_b I_u_110; omega) (by have B_123 := IP_b I_u_110; omega) (by have B_124 := IP_b I_u_110; omega) (by have B_125 := IP_b I_u_110; omega) HH) (fun u_120 z_121 => ?_)
        obtain ⟨I_u_120, G_u_120⟩ := z_121
        have F_u_120 : Fr [2, 4, 5, 15, 20, 28, 30] [10, 11, 12, 13, 14, 15, 16, 17, 18, 19, 20, 27, 29] u u_120 := Fr_tr F_u_110 G_u_120 rfl rfl
        have g_126 : (u_120.1 1).toInt = (u_110.1 1).toInt := by rw [G_u_120.1 1 rfl]
        have g_127 : (u_120.1 2).toInt = (u_110.1 2).toInt := by rw [G_u_120.1 2 rfl]
        have g_128 : (u_120.1 4).toInt = (u_110.1 4).toInt := by rw [G_u_120.1 4 rfl]
        have g_129 : (u_120.1 30).toInt = (u_110.1 30).toInt := by rw [G_u_120.1 30 rfl]
        have g_130 : (u_120.1 10).toInt = (u_110.1 10).toInt := by rw [G_u_120.1 10 rfl]
        have g_131 : (u_120.1 20).toInt = (u_110.1 20).toInt := by rw [G_u_120.1 20 rfl]
        have Q_u_120_20 : u_120.1 20 = u_110.1 20 := G_u_120.1 20 rfl
        have g_132 : (ga u_120 27 (u_120.1 20)).toInt = (ga u_110 27 (u_110.1 20)).toInt := by show (u_120.2.1 27 (u_120.1 20).toNatClampNeg).toInt = _; rw [G_u_120.2.1 27 rfl, G_u_120.1 20 rfl]; rfl
        have g_133 : (ga u_120 29 (u_120.1 20)).toInt = (ga u_110 29 (u_110.1 20)).toInt := by show (u_120.2.1 29 (u_120.1 20).toNatClampNeg).toInt = _; rw [G_u_120.2.1 29 rfl, G_u_120.1 20 rfl]; rfl
        refine ok_seq (fun u_135 h_134 => ?_)
        try have e_136 : ((u_120.1 20) + 1 : Int32).toInt = ((u_120.1 20) : Int32).toInt + (1 : Int32).toInt := by have B_137 := IP_b I; have B_138 := IP_b I_u_120; exact add_i (by omega) (by omega)
        have I_u_135 : IP u_135 := by rw [h_134]; exact IP_s20 I_u_120 (by have B_139 := IP_b I_u_120; omega) (by have B_140 := IP_b I_u_120; omega)
        have F_u_135 : Fr [2, 4, 5, 15, 20, 28, 30] [10, 11, 12, 13, 14, 15, 16, 17, 18, 19, 20, 27, 29] u u_135 := by rw [h_134]; exact Fr_ss F_u_120 rfl rfl
        try have e_141 : ((u_120.1 20) + 1 : Int32).toInt = ((u_120.1 20) : Int32).toInt + (1 : Int32).toInt := by have B_142 := IP_b I; have B_143 := IP_b I_u_120; exact add_i (by omega) (by omega)
        have g_144 : (u_135.1 20).toInt = (((u_120.1 20) + 1) : Int32).toInt := by rw [h_134]; rfl
        have g_145 : (u_135.1 1).toInt = (u_120.1 1).toInt := by rw [h_134]; rfl
        have g_146 : (u_135.1 2).toInt = (u_120.1 2).toInt := by rw [h_134]; rfl
        have g_147 : (u_135.1 4).toInt = (u_120.1 4).toInt := by rw [h_134]; rfl
        have g_148 : (u_135.1 30).toInt = (u_120.1 30).toInt := by rw [h_134]; rfl
        have g_149 : (u_135.1 10).toInt = (u_120.1 10).toInt := by rw [h_134]; rfl
        refine ok_bM (kP_SqlReaderModel_takes I_u_135 (by decide)) (fun r_151 u_152 z_150 => ?_)
        obtain ⟨I_u_152, G_u_152, p_153, p_154, p_155⟩ := z_150
        have F_u_152 : Fr [2, 4, 5, 15, 20, 28, 30] [10, 11, 12, 13, 14, 15, 16, 17, 18, 19, 20, 27, 29] u u_152 := Fr_tr F_u_135 G_u_152 rfl rfl
        have g_156 : (u_152.1 1).toInt = (u_135.1 1).toInt := by rw [G_u_152.1 1 rfl]
        have g_157 : (u_152.1 2).toInt = (u_135.1 2).toInt := by rw [G_u_152.1 2 rfl]
        have g_158 : (u_152.1 4).toInt = (u_135.1 4).toInt := by rw [G_u_152.1 4 rfl]
        have g_159 : (u_152.1 10).toInt = (u_135.1 10).toInt := by rw [G_u_152.1 10 rfl]
        have g_160 : (u_152.1 20).toInt = (u_135.1 20).toInt := by rw [G_u_152.1 20 rfl]
        have Q_u_152_20 : u_152.1 20 = u_135.1 20 := G_u_152.1 20 rfl
        have g_161 : (ga u_152 27 (u_152.1 20)).toInt = (ga u_135 27 (u_135.1 20)).toInt := by show (u_152.2.1 27 (u_152.1 20).toNatClampNeg).toInt = _; rw [G_u_152.2.1 27 rfl, G_u_152.1 20 rfl]; rfl
        have g_162 : (ga u_152 29 (u_152.1 20)).toInt = (ga u_135 29 (u_135.1 20)).toInt := by show (u_152.2.1 29 (u_152.1 20).toNatClampNeg).toInt = _; rw [G_u_152.2.1 29 rfl, G_u_152.1 20 rfl]; rfl
        refine ok_mono (ih I_u_152 (by have B_163 := IP_b I_u_152; omega) (by have B_164 := IP_b I_u_152; omega) (by have B_165 := IP_b I_u_152; omega) (by have B_166 := IP_b I_u_152; omega) (by have B_167 := IP_b I_u_152; omega) (by have B_168 := IP_b I_u_152; omega) (by have B_169 := IP_b I_u_152; omega) (by have B_170 := IP_b I_u_152; omega) (by have B_171 := IP_b I_u_152; omega)) (fun u_173 z_172 => ?_)
        obtain ⟨I_u_173, G_u_173, p_174, p_175, p_176, p_177, p_178, p_179⟩ := z_172
        have F_u_173 : Fr [2, 4, 5, 15, 20, 28, 30] [10, 11, 12, 13, 14, 15, 16, 17, 18, 19, 20, 27, 29] u u_173 := Fr_tr F_u_152 G_u_173 rfl rfl
        have g_180 : (u_173.1 1).toInt = (u_152.1 1).toInt := by rw [G_u_173.1 1 rfl]
        have g_181 : (u_173.1 10).toInt = (u_152.1 10).toInt := by rw [G_u_173.1 10 rfl]
        exact ⟨I_u_173, F_u_173, (by have B_182 := IP_b I; have B_183 := IP_b I_u_173; omega), (by have B_184 := IP_b I_u_173; omega), (by have B_185 := IP_b I_u_173; have B_186 := IP_b I; omega), (by have B_187 := IP_b I_u_173; have B_188 := IP_b I; omega), (by have B_189 := IP_b I_u_173; have B_190 := IP_b I; omega), (by have B_191 := IP_b I; have B_192 := IP_b I_u_173; omega)⟩
      · refine ok_bP (kP_SqlReaderModel_readWhere I (by have FUe : FU = 100000 := rfl; have B_194 := IP_b I; omega) (by have FUe : FU = 100000 := rfl; have B_195 := IP_b I; omega) (by have FUe : FU = 100000 := rfl; have B_196 := IP_b I; omega)) (fun u_197 z_193 => ?_)
        obtain ⟨I_u_197, G_u_197, p_198, p_199, p_200, p_201, p_202⟩ := z_193
        have F_u_197 : Fr [2, 4, 5, 15, 20, 28, 30] [10, 11, 12, 13, 14, 15, 16, 17, 18, 19, 20, 27, 29] u u_197 := Fr_tr (Fr_rfl u) G_u_197 rfl rfl
        have g_203 : (u_197.1 1).toInt = (u.1 1).toInt := by rw [G_u_197.1 1 rfl]
        have g_204 : (u_197.1 10).toInt = (u.1 10).toInt := by rw [G_u_197.1 10 rfl]
        have g_205 : (u_197.1 20).toInt = (u.1 20).toInt := by rw [G_u_197.1 20 rfl]
        have Q_u_197_20 : u_197.1 20 = u.1 20 := G_u_197.1 20 rfl
        have g_206 : (ga u_197 27 (u_197.1 20)).toInt = (ga u 27 (u.1 20)).toInt := by show (u_197.2.1 27 (u_197.1 20).toNatClampNeg).toInt = _; rw [G_u_197.2.1 27 rfl, G_u_197.1 20 rfl]; rfl
        have g_207 : (ga u_197 29 (u_197.1 20)).toInt = (ga u 29 (u.1 20)).toInt := by show (u_197.2.1 29 (u_197.1 20).toNatClampNeg).toInt = _; rw [G_u_197.2.1 29 rfl, G_u_197.1 20 rfl]; rfl
        exact ok_some ⟨I_u_197, F_u_197, (by have B_208 := IP_b I; have B_209 := IP_b I_u_197; omega), (by have B_210 := IP_b I_u_197; omega), (by have B_211 := IP_b I_u_197; have B_212 := IP_b I; omega), (by have B_213 := IP_b I_u_197; have B_214 := IP_b I; omega), (by have B_215 := IP_b I_u_197; have B_216 := IP_b I; omega), (by have B_217 := IP_b I; have B_218 := IP_b I_u_197; omega)⟩
theorem kP_SqlReaderModel_readUpdate {u : St} (I : IP u) (h0 : (u.1 4).toInt ≤ 185000) (h1 : (u.1 2).toInt = 1 ∨ ((u.1 4).toInt ≤ 100000 + 40 * (u.1 30).toInt ∧ (u.1 30).toInt ≤ (u.1 1).toInt)) (h2 : (u.1 30).toInt ≤ 3790) (h3 : (u.1 19).toInt = 0) (h4 : (u.1 20).toInt = 0) (h5 : (u.1 2).toInt = 1 ∨ 1 ≤ (u.1 30).toInt) : ok (mM_SqlReaderModel_readUpdate u) (fun v => IP v ∧ Fr [2, 4, 5, 7, 10, 15, 19, 20, 28, 30] [10, 11, 12, 13, 14, 15, 16, 17, 18, 19, 20, 25, 26, 27, 29] u v ∧ (u.1 2).toInt ≤ (v.1 2).toInt ∧ (v.1 4).toInt ≤ 185000 ∧ ((v.1 2).toInt = 1 ∨ ((v.1 4).toInt ≤ 100000 + 40 * (v.1 30).toInt ∧ (v.1 30).toInt ≤ (u.1 1).toInt)) ∧ ((v.1 30).toInt ≤ (u.1 30).toInt + 2 ∨ (v.1 30).toInt ≤ (u.1 1).toInt + 2) ∧ ((v.1 2).toInt = 1 ∨ (u.1 30).toInt ≤ (v.1 30).toInt) ∧ (v.1 7).toInt = 6) := by
  have l0 : (0 : Int32).toInt = 0 := by decide
  have l1 : (1 : Int32).toInt = 1 := by decide
  have l2 : (2 : Int32).toInt = 2 := by decide
  have l4 : (4 : Int32).toInt = 4 := by decide
  have l6 : (6 : Int32).toInt = 6 := by decide
  have l7 : (7 : Int32).toInt = 7 := by decide
  have l10 : (10 : Int32).toInt = 10 := by decide
  have l19 : (19 : Int32).toInt = 19 := by decide
  have l20 : (20 : Int32).toInt = 20 := by decide
  have l30 : (30 : Int32).toInt = 30 := by decide
  have l40 : (40 : Int32).toInt = 40 := by decide
  have l121 : (121 : Int32).toInt = 121 := by decide
  have l999 : (999 : Int32).toInt = 999 := by decide
  have l1000 : (1000 : Int32).toInt = 1000 := by decide
  have l2100 : (2100 : Int32).toInt = 2100 := by decide
  have l3800 : (3800 : Int32).toInt = 3800 := by decide
  have l3900 : (3900 : Int32).toInt = 3900 := by decide
  have l100000 : (100000 : Int32).toInt = 100000 := by decide
  have l185000 : (185000 : Int32).toInt = 185000 := by decide
  rw [mM_SqlReaderModel_readUpdate]
  refine ok_seq (fun u_2 h_1 => ?_)
  have I_u_2 : IP u_2 := by rw [h_1]; exact IP_s7 I (by have B_3 := IP_b I; omega)
  have F_u_2 : Fr [2, 4, 5, 7, 10, 15, 19, 20, 28, 30] [10, 11, 12, 13, 14, 15, 16, 17, 18, 19, 20, 25, 26, 27, 29] u u_2 := by rw [h_1]; exact Fr_ss (Fr_rfl u) rfl rfl
  have g_4 : (u_2.1 7).toInt = (6 : Int32).toInt := by rw [h_1]; rfl
  have g_5 : (u_2.1 1).toInt = (u.1 1).toInt := by rw [h_1]; rfl
  have g_6 : (u_2.1 2).toInt = (u.1 2).toInt := by rw [h_1]; rfl
  have g_7 : (u_2.1 4).toInt = (u.1 4).toInt := by rw [h_1]; rfl
  have g_8 : (u_2.1 30).toInt = (u.1 30).toInt := by rw [h_1]; rfl
  have g_9 : (u_2.1 10).toInt = (u.1 10).toInt := by rw [h_1]; rfl
  have g_10 : (u_2.1 19).toInt = (u.1 19).toInt := by rw [h_1]; rfl
  have g_11 : (u_2.1 20).toInt = (u.1 20).toInt := by rw [h_1]; rfl
  refine ok_bM (kP_SqlReaderModel_needName I_u_2 (by have FUe : FU = 100000 := rfl; have B_13 := IP_b I_u_2; have B_14 := IP_b I; omega)) (fun r_15 u_16 z_12 => ?_)
  obtain ⟨I_u_16, G_u_16, p_17, p_18, p_19, p_20⟩ := z_12
  have F_u_16 : Fr [2, 4, 5, 7, 10, 15, 19, 20, 28, 30] [10, 11, 12, 13, 14, 15, 16, 17, 18, 19, 20, 25, 26, 27, 29] u u_16 := Fr_tr F_u_2 G_u_16 rfl rfl
  have g_21 : (u_16.1 1).toInt = (u_2.1 1).toInt := by rw [G_u_16.1 1 rfl]
  have g_22 : (u_16.1 4).toInt = (u_2.1 4).toInt := by rw [G_u_16.1 4 rfl]
  have g_23 : (u_16.1 7).toInt = (u_2.1 7).toInt := by rw [G_u_16.1 7 rfl]
  have g_24 : (u_16.1 10).toInt = (u_2.1 10).toInt := by rw [G_u_16.1 10 rfl]
  have g_25 : (u_16.1 19).toInt = (u_2.1 19).toInt := by rw [G_u_16.1 19 rfl]
  have g_26 : (u_16.1 20).toInt = (u_2.1 20).toInt := by rw [G_u_16.1 20 rfl]
  have n_27 : 0 ≤ r_15.toInt := by have B_28 := IP_b I_u_2; omega
  refine ok_seq (fun u_30 h_29 => ?_)
  have I_u_30 : IP u_30 := by rw [h_29]; exact IP_s10 I_u_16 (by have B_31 := IP_b I_u_16; omega) (by have B_32 := IP_b I_u_16; omega) (by have B_33 := IP_b I_u_16; omega)
  have F_u_30 : Fr [2, 4, 5, 7, 10, 15, 19, 20, 28, 30] [10, 11, 12, 13, 14, 15, 16, 17, 18, 19, 20, 25, 26, 27, 29] u u_30 := by rw [h_29]; exact Fr_ss F_u_16 rfl rfl
  have g_34 : (u_30.1 10).toInt = (r_15 : Int32).toInt := by rw [h_29]; rfl
  have g_35 : (u_30.1 1).toInt = (u_16.1 1).toInt := by rw [h_29]; rfl
  have g_36 : (u_30.1 2).toInt = (u_16.1 2).toInt := by rw [h_29]; rfl
  have g_37 : (u_30.1 4).toInt = (u_16.1 4).toInt := by rw [h_29]; rfl
  have g_38 : (u_30.1 30).toInt = (u_16.1 30).toInt := by rw [h_29]; rfl
  have g_39 : (u_30.1 7).toInt = (u_16.1 7).toInt := by rw [h_29]; rfl
  have g_40 : (u_30.1 19).toInt = (u_16.1 19).toInt := by rw [h_29]; rfl
  have g_41 : (u_30.1 20).toInt = (u_16.1 20).toInt := by rw [h_29]; rfl
  refine ok_bP (kP_SqlReaderModel_from I_u_30 (by have FUe : FU = 100000 := rfl; have B_43 := IP_b I_u_30; have B_44 := IP_b I; omega) (by have FUe : FU = 100000 := rfl; have B_45 := IP_b I_u_30; have B_46 := IP_b I; omega)) (fun u_47 z_42 => ?_)
  obtain ⟨I_u_47, G_u_47, p_48⟩ := z_42
  have F_u_47 : Fr [2, 4, 5, 7, 10, 15, 19, 20, 28, 30] [10, 11, 12, 13, 14, 15, 16, 17, 18, 19, 20, 25, 26, 27, 29] u u_47 := Fr_tr F_u_30 G_u_47 rfl rfl
  have g_49 : (u_47.1 1).toInt = (u_30.1 1).toInt := by rw [G_u_47.1 1 rfl]
  have g_50 : (u_47.1 2).toInt = (u_30.1 2).toInt := by rw [G_u_47.1 2 rfl]
  have g_51 : (u_47.1 4).toInt = (u_30.1 4).toInt := by rw [G_u_47.1 4 rfl]
  have g_52 : (u_47.1 30).toInt = (u_30.1 30).toInt := by rw [G_u_47.1 30 rfl]
  have g_53 : (u_47.1 7).toInt = (u_30.1 7).toInt := by rw [G_u_47.1 7 rfl]
  have g_54 : (u_47.1 10).toInt = (u_30.1 10).toInt := by rw [G_u_47.1 10 rfl]
  have g_55 : (u_47.1 20).toInt = (u_30.1 20).toInt := by rw [G_u_47.1 20 rfl]
  refine ok_bP (kP_SqlReaderModel_need I_u_47 (by decide)) (fun u_57 z_56 => ?_)
  obtain ⟨I_u_57, G_u_57, p_58, p_59⟩ := z_56
  have F_u_57 : Fr [2, 4, 5, 7, 10, 15, 19, 20, 28, 30] [10, 11, 12, 13, 14, 15, 16, 17, 18, 19, 20, 25, 26, 27, 29] u u_57 := Fr_tr F_u_47 G_u_57 rfl rfl
  have g_60 : (u_57.1 1).toInt = (u_47.1 1).toInt := by rw [G_u_57.1 1 rfl]
  have g_61 : (u_57.1 4).toInt = (u_47.1 4).toInt := by rw [G_u_57.1 4 rfl]
  have g_62 : (u_57.1 7).toInt = (u_47.1 7).toInt := by rw [G_u_57.1 7 rfl]
  have g_63 : (u_57.1 10).toInt = (u_47.1 10).toInt := by rw [G_u_57.1 10 rfl]
  have g_64 : (u_57.1 19).toInt = (u_47.1 19).toInt := by rw [G_u_57.1 19 rfl]
  have g_65 : (u_57.1 20).toInt = (u_47.1 20).toInt := by rw [G_u_57.1 20 rfl]
  refine ok_mono (kP_SqlReaderModel_readUpdate_L35 _ I_u_57 (by have FUe : FU = 100000 := rfl; have B_66 := IP_b I_u_57; have B_67 := IP_b I; omega) (by have FUe : FU = 100000 := rfl; have B_68 := IP_b I_u_57; have B_69 := IP_b I; omega) (by have FUe : FU = 100000 := rfl; have B_70 := IP_b I_u_57; have B_71 := IP_b I; omega) (by have FUe : FU = 100000 := rfl; have B_72 := IP_b I_u_57; have B_73 := IP_b I; omega) (by have FUe : FU = 100000 := rfl; have B_74 := IP_b I_u_57; have B_75 := IP_b I; omega) (by have FUe : FU = 100000 := rfl; have B_76 := IP_b I_u_57; have B_77 := IP_b I; omega) (by have FUe : FU = 100000 := rfl; have B_78 := IP_b I_u_57; have B_79 := IP_b I; omega) (by have FUe : FU = 100000 := rfl; have B_80 := IP_b I_u_57; have B_81 := IP_b I; omega) (by have FUe : FU = 100000 := rfl; have B_82 := IP_b I_u_57; have B_83 := IP_b I; omega)) (fun u_85 z_84 => ?_)
  obtain ⟨I_u_85, G_u_85, p_86, p_87, p_88, p_89, p_90, p_91⟩ := z_84
  have F_u_85 : Fr [2, 4, 5, 7, 10, 15, 19, 20, 28, 30] [10, 11, 12, 13, 14, 15, 16, 17, 18, 19, 20, 25, 26, 27, 29] u u_85 := Fr_tr F_u_57 G_u_85 rfl rfl
  have g_92 : (u_85.1 1).toInt = (u_57.1 1).toInt := by rw [G_u_85.1 1 rfl]
  have g_93 : (u_85.1 7).toInt = (u_57.1 7).toInt := by rw [G_u_85.1 7 rfl]
  have g_94 : (u_85.1 10).toInt = (u_57.1 10).toInt := by rw [G_u_85.1 10 rfl]
  have g_95 : (u_85.1 19).toInt = (u_57.1 19).toInt := by rw [G_u_85.1 19 rfl]
  exact ⟨I_u_85, F_u_85, (by have B_96 := IP_b I; have B_97 := IP_b I_u_85; omega), (by have B_98 := IP_b I_u_85; omega), (by have B_99 := IP_b I_u_85; have B_100 := IP_b I; omega), (by have B_101 := IP_b I_u_85; have B_102 := IP_b I; omega), (by have B_103 := IP_b I_u_85; have B_104 := IP_b I; omega), (by have B_105 := IP_b I_u_85; omega)⟩
set_option maxHeartbeats 20000000 in
theorem kP_SqlReaderModel_readDeed {u : St} (I : IP u) (h0 : (u.1 4).toInt ≤ 185000) (h1 : (u.1 2).toInt = 1 ∨ ((u.1 4).toInt ≤ 100000 + 40 * (u.1 30).toInt ∧ (u.1 30).toInt ≤ (u.1 1).toInt)) (h2 : (u.1 30).toInt ≤ 3790) (h3 : (u.1 16).toInt = 0) (h4 : (u.1 17).toInt = 0) (h5 : (u.1 18).toInt = 0) (h6 : (u.1 19).toInt = 0) (h7 : (u.1 23).toInt = 0) (h8 : (u.1 20).toInt = 0) (h9 : (u.1 7).toInt = 0) : okM (mM_SqlReaderModel_readDeed u) (fun r v => IP v ∧ Fr [2, 4, 5, 7, 10, 11, 13, 14, 15, 16, 17, 18, 19, 20, 21, 23, 28, 29, 30] [10, 11, 12, 13, 14, 15, 16, 17, 18, 19, 20, 21, 22, 23, 25, 26, 27, 29, 30] u v ∧ 0 ≤ r.toInt ∧ r.toInt ≤ 1 ∧ (u.1 2).toInt ≤ (v.1 2).toInt ∧ (v.1 4).toInt ≤ 185000 ∧ ((v.1 2).toInt = 1 ∨ ((v.1 4).toInt ≤ 100000 + 40 * (v.1 30).toInt ∧ (v.1 30).toInt ≤ (u.1 1).toInt)) ∧ ((v.1 30).toInt ≤ (u.1 30).toInt + 5 ∨ (v.1 30).toInt ≤ (u.1 1).toInt + 5) ∧ ((v.1 2).toInt = 1 ∨ (u.1 30).toInt ≤ (v.1 30).toInt) ∧ (r.toInt = 1 ∨ ((v.1 30).toInt = (u.1 30).toInt ∧ (v.1 7).toInt = 0 ∧ (v.1 16).toInt = 0 ∧ (v.1 17).toInt = 0 ∧ (v.1 18).toInt = 0 ∧ (v.1 19).toInt = 0 ∧ (v.1 20).toInt = 0 ∧ (v.1 23).toInt = 0 ∧ (v.1 24).toInt = (u.1 24).toInt)) ∧ ((v.1 7).toInt ≠ 5 ∨ 0 ≤ (v.1 10).toInt)) := by
  have l0 : (0 : Int32).toInt = 0 := by decide
  have l1 : (1 : Int32).toInt = 1 := by decide
  have l2 : (2 : Int32).toInt = 2 := by decide
  have l4 : (4 : Int32).toInt = 4 := by decide
  have l5 : (5 : Int32).toInt = 5 := by decide
  have l7 : (7 : Int32).toInt = 7 := by decide
  have l8 : (8 : Int32).toInt = 8 := by decide
  have l10 : (10 : Int32).toInt = 10 := by decide
  have l16 : (16 : Int32).toInt = 16 := by decide
  have l17 : (17 : Int32).toInt = 17 := by decide
  have l18 : (18 : Int32).toInt = 18 := by decide
  have l19 : (19 : Int32).toInt = 19 := by decide
  have l20 : (20 : Int32).toInt = 20 := by decide
  have l23 : (23 : Int32).toInt = 23 := by decide
  have l24 : (24 : Int32).toInt = 24 := by decide
  have l30 : (30 : Int32).toInt = 30 := by decide
  have l40 : (40 : Int32).toInt = 40 := by decide
  have l76 : (76 : Int32).toInt = 76 := by decide
  have l82 : (82 : Int32).toInt = 82 := by decide
  have l115 : (115 : Int32).toInt = 115 := by decide
  have l119 : (119 : Int32).toInt = 119 := by decide
  have l122 : (122 : Int32).toInt = 122 := by decide
  have l999 : (999 : Int32).toInt = 999 := by decide
  have l3790 : (3790 : Int32).toInt = 3790 := by decide
  have l3800 : (3800 : Int32).toInt = 3800 := by decide
  have l3900 : (3900 : Int32).toInt = 3900 := by decide
  have l100000 : (100000 : Int32).toInt = 100000 := by decide
  have l185000 : (185000 : Int32).toInt = 185000 := by decide
  rw [mM_SqlReaderModel_readDeed]
  refine okM_bM (kP_SqlReaderModel_takes I (by decide)) (fun r_2 u_3 z_1 => ?_)
  obtain ⟨I_u_3, G_u_3, p_4, p_5, p_6⟩ := z_1
  have F_u_3 : Fr [2, 4, 5, 7, 10, 11, 13, 14, 15, 16, 17, 18, 19, 20, 21, 23, 28, 29, 30] [10, 11, 12, 13, 14, 15, 16, 17, 18, 19, 20, 21, 22, 23, 25, 26, 27, 29, 30] u u_3 := Fr_tr (Fr_rfl u) G_u_3 rfl rfl
  have g_7 : (u_3.1 1).toInt = (u.1 1).toInt := by rw [G_u_3.1 1 rfl]
  have g_8 : (u_3.1 2).toInt = (u.1 2).toInt := by rw [G_u_3.1 2 rfl]
  have g_9 : (u_3.1 4).toInt = (u.1 4).toInt := by rw [G_u_3.1 4 rfl]
  have g_10 : (u_3.1 7).toInt = (u.1 7).toInt := by rw [G_u_3.1 7 rfl]
  have g_11 : (u_3.1 10).toInt = (u.1 10).toInt := by rw [G_u_3.1 10 rfl]
  have g_12 : (u_3.1 16).toInt = (u.1 16).toInt := by rw [G_u_3.1 16 rfl]
  have g_13 : (u_3.1 17).toInt = (u.1 17).toInt := by rw [G_u_3.1 17 rfl]
  have g_14 : (u_3.1 18).toInt = (u.1 18).toInt := by rw [G_u_3.1 18 rfl]
  have g_15 : (u_3.1 19).toInt = (u.1 19).toInt := by rw [G_u_3.1 19 rfl]
  have g_16 : (u_3.1 20).toInt = (u.1 20).toInt := by rw [G_u_3.1 20 rfl]
  have g_17 : (u_3.1 23).toInt = (u.1 23).toInt := by rw [G_u_3.1 23 rfl]
  have g_18 : (u_3.1 24).toInt = (u.1 24).toInt := by rw [G_u_3.1 24 rfl]
  refine okM_eq (fun c_19 c_19' => ?_) (fun c_19 => ?_)
  · refine okM_bM (kP_SqlReaderModel_takes I_u_3 (by decide)) (fun r_21 u_22 z_20 => ?_)
    obtain ⟨I_u_22, G_u_22, p_23, p_24, p_25⟩ := z_20
    have F_u_22 : Fr [2, 4, 5, 7, 10, 11, 13, 14, 15, 16, 17, 18, 19, 20, 21, 23, 28, 29, 30] [10, 11, 12, 13, 14, 15, 16, 17, 18, 19, 20, 21, 22, 23, 25, 26, 27, 29, 30] u u_22 := Fr_tr F_u_3 G_u_22 rfl rfl
    have g_26 : (u_22.1 1).toInt = (u_3.1 1).toInt := by rw [G_u_22.1 1 rfl]
    have g_27 : (u_22.1 2).toInt = (u_3.1 2).toInt := by rw [G_u_22.1 2 rfl]
    have g_28 : (u_22.1 4).toInt = (u_3.1 4).toInt := by rw [G_u_22.1 4 rfl]
    have g_29 : (u_22.1 7).toInt = (u_3.1 7).toInt := by rw [G_u_22.1 7 rfl]
    have g_30 : (u_22.1 10).toInt = (u_3.1 10).toInt := by rw [G_u_22.1 10 rfl]
    have g_31 : (u_22.1 16).toInt = (u_3.1 16).toInt := by rw [G_u_22.1 16 rfl]
    have g_32 : (u_22.1 17).toInt = (u_3.1 17).toInt := by rw [G_u_22.1 17 rfl]
    have g_33 : (u_22.1 18).toInt = (u_3.1 18).toInt := by rw [G_u_22.1 18 rfl]
    have g_34 : (u_22.1 19).toInt = (u_3.1 19).toInt := by rw [G_u_22.1 19 rfl]
    have g_35 : (u_22.1 20).toInt = (u_3.1 20).toInt := by rw [G_u_22.1 20 rfl]
    have g_36 : (u_22.1 23).toInt = (u_3.1 23).toInt := by rw [G_u_22.1 23 rfl]
    have g_37 : (u_22.1 24).toInt = (u_3.1 24).toInt := by rw [G_u_22.1 24 rfl]
    refine okM_eq (fun c_38 c_38' => ?_) (fun c_38 => ?_)
    · refine okM_bM (kP_SqlReaderModel_takes I_u_22 (by decide)) (fun r_40 u_41 z_39 => ?_)
      obtain ⟨I_u_41, G_u_41, p_42, p_43, p_44⟩ := z_39
      have F_u_41 : Fr [2, 4, 5, 7, 10, 11, 13, 14, 15, 16, 17, 18, 19, 20, 21, 23, 28, 29, 30] [10, 11, 12, 13, 14, 15, 16, 17, 18, 19, 20, 21, 22, 23, 25, 26, 27, 29, 30] u u_41 := Fr_tr F_u_22 G_u_41 rfl rfl
      have g_45 : (u_41.1 1).toInt = (u_22.1 1).toInt := by rw [G_u_41.1 1 rfl]
      have g_46 : (u_41.1 2).toInt = (u_22.1 2).toInt := by rw [G_u_41.1 2 rfl]
      have g_47 : (u_41.1 4).toInt = (u_22.1 4).toInt := by rw [G_u_41.1 4 rfl]
      have g_48 : (u_41.1 7).toInt = (u_22.1 7).toInt := by rw [G_u_41.1 7 rfl]
      have g_49 : (u_41.1 10).toInt = (u_22.1 10).toInt := by rw [G_u_41.1 10 rfl]
      have g_50 : (u_41.1 16).toInt = (u_22.1 16).toInt := by rw [G_u_41.1 16 rfl]
      have g_51 : (u_41.1 17).toInt = (u_22.1 17).toInt := by rw [G_u_41.1 17 rfl]
      have g_52 : (u_41.1 18).toInt = (u_22.1 18).toInt := by rw [G_u_41.1 18 rfl]
      have g_53 : (u_41.1 19).toInt = (u_22.1 19).toInt := by rw [G_u_41.1 19 rfl]
      have g_54 : (u_41.1 20).toInt = (u_22.1 20).toInt := by rw [G_u_41.1 20 rfl]
      have g_55 : (u_41.1 23).toInt = (u_22.1 23).toInt := by rw [G_u_41.1 23 rfl]
      have g_56 : (u_41.1 24).toInt = (u_22.1 24).toInt := by rw [G_u_41.1 24 rfl]
      refine okM_eq (fun c_57 c_57' => ?_) (fun c_57 => ?_)
      · refine okM_bM (kP_SqlReaderModel_takes I_u_41 (by decide)) (fun r_59 u_60 z_58 => ?_)
        obtain ⟨I_u_60, G_u_60, p_61, p_62, p_63⟩ := z_58
        have F_u_60 : Fr [2, 4, 5, 7, 10, 11, 13, 14, 15, 16, 17, 18, 19, 20, 21, 23, 28, 29, 30] [10, 11, 12, 13, 14, 15, 16, 17, 18, 19, 20, 21, 22, 23, 25, 26, 27, 29, 30] u u_60 := Fr_tr F_u_41 G_u_60 rfl rfl
        have g_64 : (u_60.1 1).toInt = (u_41.1 1).toInt := by rw [G_u_60.1 1 rfl]
        have g_65 : (u_60.1 2).toInt = (u_41.1 2).toInt := by rw [G_u_60.1 2 rfl]
        have g_66 : (u_60.1 4).toInt = (u_41.1 4).toInt := by rw [G_u_60.1 4 rfl]
        have g_67 : (u_60.1 7).toInt = (u_41.1 7).toInt := by rw [G_u_60.1 7 rfl]
        have g_68 : (u_60.1 10).toInt = (u_41.1 10).toInt := by rw [G_u_60.1 10 rfl]
        have g_69 : (u_60.1 16).toInt = (u_41.1 16).toInt := by rw [G_u_60.1 16 rfl]
        have g_70 : (u_60.1 17).toInt = (u_41.1 17).toInt := by rw [G_u_60.1 17 rfl]
        have g_71 : (u_60.1 18).toInt = (u_41.1 18).toInt := by rw [G_u_60.1 18 rfl]
        have g_72 : (u_60.1 19).toInt = (u_41.1 19).toInt := by rw [G_u_60.1 19 rfl]
        have g_73 : (u_60.1 20).toInt = (u_41.1 20).toInt := by rw [G_u_60.1 20 rfl]
        have g_74 : (u_60.1 23).toInt = (u_41.1 23).toInt := by rw [G_u_60.1 23 rfl]
        have g_75 : (u_60.1 24).toInt = (u_41.1 24).toInt := by rw [G_u_60.1 24 rfl]
        refine okM_eq (fun c_76 c_76' => ?_) (fun c_76 => ?_)
        · exact okM_some ⟨I_u_60, F_u_60, (by omega), (by omega), (by have B_77 := IP_b I; have B_78 := IP_b I_u_60; omega), (by have B_79 := IP_b I_u_60; omega), (by have B_80 := IP_b I_u_60; have B_81 := IP_b I; omega), (by have B_82 := IP_b I_u_60; have B_83 := IP_b I; omega), (by have B_84 := IP_b I_u_60; have B_85 := IP_b I; omega), (by have B_86 := IP_b I_u_60; have B_87 := IP_b I; omega), (by have B_88 := IP_b I_u_60; omega)⟩
        · refine okM_seq (fun u_90 h_89 => ?_)
          have I_u_90 : IP u_90 := by rw [h_89]; exact IP_s7 I_u_60 (by have B_91 := IP_b I_u_60; omega)
          have F_u_90 : Fr [2, 4, 5, 7, 10, 11, 13, 14, 15, 16, 17, 18, 19, 20, 21, 23, 28, 29, 30] [10, 11, 12, 13, 14, 15, 16, 17, 18, 19, 20, 21, 22, 23, 25, 26, 27, 29, 30] u u_90 := by rw [h_89]; exact Fr_ss F_u_60 rfl rfl
          have g_92 : (u_90.1 7).toInt = (8 : Int32).toInt := by rw [h_89]; rfl
          have g_93 : (u_90.1 1).toInt = (u_60.1 1).toInt := by rw [h_89]; rfl
          have g_94 : (u_90.1 2).toInt = (u_60.1 2).toInt := by rw [h_89]; rfl
          have g_95 : (u_90.1 4).toInt = (u_60.1 4).toInt := by rw [h_89]; rfl
          have g_96 : (u_90.1 30).toInt = (u_60.1 30).toInt := by rw [h_89]; rfl
          have g_97 : (u_90.1 10).toInt = (u_60.1 10).toInt := by rw [h_89]; rfl
          have g_98 : (u_90.1 16).toInt = (u_60.1 16).toInt := by rw [h_89]; rfl
          have g_99 : (u_90.1 17).toInt = (u_60.1 17).toInt := by rw [h_89]; rfl
          have g_100 : (u_90.1 18).toInt = (u_60.1 18).toInt := by rw [h_89]; rfl
          have g_101 : (u_90.1 19).toInt = (u_60.1 19).toInt := by rw [h_89]; rfl
          have g_102 : (u_90.1 20).toInt = (u_60.1 20).toInt := by rw [h_89]; rfl
          have g_103 : (u_90.1 23).toInt = (u_60.1 23).toInt := by rw [h_89]; rfl
          have g_104 : (u_90.1 24).toInt = (u_60.1 24).toInt := by rw [h_89]; rfl
          refine okM_bP (kP_SqlReaderModel_readQuery I_u_90 (by have FUe : FU = 100000 := rfl; have B_106 := IP_b I_u_90; have B_107 := IP_b I; omega) (by have FUe : FU = 100000 := rfl; have B_108 := IP_b I_u_90; have B_109 := IP_b I; omega) (by have FUe : FU = 100000 := rfl; have B_110 := IP_b I_u_90; have B_111 := IP_b I; omega) (by have FUe : FU = 100000 := rfl; have B_112 := IP_b I_u_90; have B_113 := IP_b I; omega) (by have FUe : FU = 100000 := rfl; have B_114 := IP_b I_u_90; have B_115 := IP_b I; omega) (by have FUe : FU = 100000 := rfl; have B_116 := IP_b I_u_90; have B_117 := IP_b I; omega) (by have FUe : FU = 100000 := rfl; have B_118 := IP_b I_u_90; have B_119 := IP_b I; omega) (by have FUe : FU = 100000 := rfl; have B_120 := IP_b I_u_90; have B_121 := IP_b I; omega)) (fun u_122 z_105 => ?_)
          obtain ⟨I_u_122, G_u_122, p_123, p_124, p_125, p_126, p_127⟩ := z_105
          have F_u_122 : Fr [2, 4, 5, 7, 10, 11, 13, 14, 15, 16, 17, 18, 19, 20, 21, 23, 28, 29, 30] [10, 11, 12, 13, 14, 15, 16, 17, 18, 19, 20, 21, 22, 23, 25, 26, 27, 29, 30] u u_122 := Fr_tr F_u_90 G_u_122 rfl rfl
          have g_128 : (u_122.1 1).toInt = (u_90.1 1).toInt := by rw [G_u_122.1 1 rfl]
          have g_129 : (u_122.1 7).toInt = (u_90.1 7).toInt := by rw [G_u_122.1 7 rfl]
          have g_130 : (u_122.1 10).toInt = (u_90.1 10).toInt := by rw [G_u_122.1 10 rfl]
          have g_131 : (u_122.1 20).toInt = (u_90.1 20).toInt := by rw [G_u_122.1 20 rfl]
          have g_132 : (u_122.1 23).toInt = (u_90.1 23).toInt := by rw [G_u_122.1 23 rfl]
          have g_133 : (u_122.1 24).toInt = (u_90.1 24).toInt := by rw [G_u_122.1 24 rfl]
          exact okM_some ⟨I_u_122, F_u_122, (by omega), (by omega), (by have B_134 := IP_b I; have B_135 := IP_b I_u_122; omega), (by have B_136 := IP_b I_u_122; omega), (by have B_137 := IP_b I_u_122; have B_138 := IP_b I; omega), (by have B_139 := IP_b I_u_122; have B_140 := IP_b I; omega), (by have B_141 := IP_b I_u_122; have B_142 := IP_b I; omega), (by have B_143 := IP_b I_u_122; have B_144 := IP_b I; omega), (by have B_145 := IP_b I_u_122; omega)⟩
      · refine okM_seq (fun u_147 h_146 => ?_)
        have I_u_147 : IP u_147 := by rw [h_146]; exact IP_s7 I_u_41 (by have B_148 := IP_b I_u_41; omega)
        have F_u_147 : Fr [2, 4, 5, 7, 10, 11, 13, 14, 15, 16, 17, 18, 19, 20, 21, 23, 28, 29, 30] [10, 11, 12, 13, 14, 15, 16, 17, 18, 19, 20, 21, 22, 23, 25, 26, 27, 29, 30] u u_147 := by rw [h_146]; exact Fr_ss F_u_41 rfl rfl
        have g_149 : (u_147.1 7).toInt = (7 : Int32).toInt := by rw [h_146]; rfl
        have g_150 : (u_147.1 1).toInt = (u_41.1 1).toInt := by rw [h_146]; rfl
        have g_151 : (u_147.1 2).toInt = (u_41.1 2).toInt := by rw [h_146]; rfl
        have g_152 : (u_147.1 4).toInt = (u_41.1 4).toInt := by rw [h_146]; rfl
        have g_153 : (u_147.1 30).toInt = (u_41.1 30).toInt := by rw [h_146]; rfl
        have g_154 : (u_147.1 10).toInt = (u_41.1 10).toInt := by rw [h_146]; rfl
        have g_155 : (u_147.1 16).toInt = (u_41.1 16).toInt := by rw [h_146]; rfl
        have g_156 : (u_147.1 17).toInt = (u_41.1 17).toInt := by rw [h_146]; rfl
        have g_157 : (u_147.1 18).toInt = (u_41.1 18).toInt := by rw [h_146]; rfl
        have g_158 : (u_147.1 19).toInt = (u_41.1 19).toInt := by rw [h_146]; rfl
        have g_159 : (u_147.1 20).toInt = (u_41.1 20).toInt := by rw [h_146]; rfl
        have g_160 : (u_147.1 23).toInt = (u_41.1 23).toInt := by rw [h_146]; rfl
        have g_161 : (u_147.1 24).toInt = (u_41.1 24).toInt := by rw [h_146]; rfl
        refine okM_bP (kP_SqlReaderModel_need I_u_147 (by decide)) (fun u_163 z_162 => ?_)
        obtain ⟨I_u_163, G_u_163, p_164, p_165⟩ := z_162
        have F_u_163 : Fr [2, 4, 5, 7, 10, 11, 13, 14, 15, 16, 17, 18, 19, 20, 21, 23, 28, 29, 30] [10, 11, 12, 13, 14, 15, 16, 17, 18, 19, 20, 21, 22, 23, 25, 26, 27, 29, 30] u u_163 := Fr_tr F_u_147 G_u_163 rfl rfl
        have g_166 : (u_163.1 1).toInt = (u_147.1 1).toInt := by rw [G_u_163.1 1 rfl]
        have g_167 : (u_163.1 4).toInt = (u_147.1 4).toInt := by rw [G_u_163.1 4 rfl]
        have g_168 : (u_163.1 7).toInt = (u_147.1 7).toInt := by rw [G_u_163.1 7 rfl]
        have g_169 : (u_163.1 10).toInt = (u_147.1 10).toInt := by rw [G_u_163.1 10 rfl]
        have g_170 : (u_163.1 16).toInt = (u_147.1 16).toInt := by rw [G_u_163.1 16 rfl]
        have g_171 : (u_163.1 17).toInt = (u_147.1 17).toInt := by rw [G_u_163.1 17 rfl]
        have g_172 : (u_163.1 18).toInt = (u_147.1 18).toInt := by rw [G_u_163.1 18 rfl]
        have g_173 : (u_163.1 19).toInt = (u_147.1 19).toInt := by rw [G_u_163.1 19 rfl]
        have g_174 : (u_163.1 20).toInt = (u_147.1 20).toInt := by rw [G_u_163.1 20 rfl]
        have g_175 : (u_163.1 23).toInt = (u_147.1 23).toInt := by rw [G_u_163.1 23 rfl]
        have g_176 : (u_163.1 24).toInt = (u_147.1 24).toInt := by rw [G_u_163.1 24 rfl]
        refine okM_bM (kP_SqlReaderModel_needName I_u_163 (by have FUe : FU = 100000 := rfl; have B_178 := IP_b I_u_163; have B_179 := IP_b I; omega)) (fun r_180 u_181 z_177 => ?_)
        obtain ⟨I_u_181, G_u_181, p_182, p_183, p_184, p_185⟩ := z_177
        have F_u_181 : Fr [2, 4, 5, 7, 10, 11, 13, 14, 15, 16, 17, 18, 19, 20, 21, 23, 28, 29, 30] [10, 11, 12, 13, 14, 15, 16, 17, 18, 19, 20, 21, 22, 23, 25, 26, 27, 29, 30] u u_181 := Fr_tr F_u_163 G_u_181 rfl rfl
        have g_186 : (u_181.1 1).toInt = (u_163.1 1).toInt := by rw [G_u_181.1 1 rfl]
        have g_187 : (u_181.1 4).toInt = (u_163.1 4).toInt := by rw [G_u_181.1 4 rfl]
        have g_188 : (u_181.1 7).toInt = (u_163.1 7).toInt := by rw [G_u_181.1 7 rfl]
        have g_189 : (u_181.1 10).toInt = (u_163.1 10).toInt := by rw [G_u_181.1 10 rfl]
        have g_190 : (u_181.1 16).toInt = (u_163.1 16).toInt := by rw [G_u_181.1 16 rfl]
        have g_191 : (u_181.1 17).toInt = (u_163.1 17).toInt := by rw [G_u_181.1 17 rfl]
        have g_192 : (u_181.1 18).toInt = (u_163.1 18).toInt := by rw [G_u_181.1 18 rfl]
        have g_193 : (u_181.1 19).toInt = (u_163.1 19).toInt := by rw [G_u_181.1 19 rfl]
        have g_194 : (u_181.1 20).toInt = (u_163.1 20).toInt := by rw [G_u_181.1 20 rfl]
        have g_195 : (u_181.1 23).toInt = (u_163.1 23).toInt := by rw [G_u_181.1 23 rfl]
        have g_196 : (u_181.1 24).toInt = (u_163.1 24).toInt := by rw [G_u_181.1 24 rfl]
        have n_197 : 0 ≤ r_180.toInt := by have B_198 := IP_b I_u_163; omega
        refine okM_seq (fun u_200 h_199 => ?_)
        have I_u_200 : IP u_200 := by rw [h_199]; exact IP_s10 I_u_181 (by have B_201 := IP_b I_u_181; omega) (by have B_202 := IP_b I_u_181; omega) (by have B_203 := IP_b I_u_181; omega)
        have F_u_200 : Fr [2, 4, 5, 7, 10, 11, 13, 14, 15, 16, 17, 18, 19, 20, 21, 23, 28, 29, 30] [10, 11, 12, 13, 14, 15, 16, 17, 18, 19, 20, 21, 22, 23, 25, 26, 27, 29, 30] u u_200 := by rw [h_199]; exact Fr_ss F_u_181 rfl rfl
        have g_204 : (u_200.1 10).toInt = (r_180 : Int32).toInt := by rw [h_199]; rfl
        have g_205 : (u_200.1 1).toInt = (u_181.1 1).toInt := by rw [h_199]; rfl
        have g_206 : (u_200.1 2).toInt = (u_181.1 2).toInt := by rw [h_199]; rfl
        have g_207 : (u_200.1 4).toInt = (u_181.1 4).toInt := by rw [h_199]; rfl
        have g_208 : (u_200.1 30).toInt = (u_181.1 30).toInt := by rw [h_199]; rfl
        have g_209 : (u_200.1 7).toInt = (u_181.1 7).toInt := by rw [h_199]; rfl
        have g_210 : (u_200.1 16).toInt = (u_181.1 16).toInt := by rw [h_199]; rfl
        have g_211 : (u_200.1 17).toInt = (u_181.1 17).toInt := by rw [h_199]; rfl
        have g_212 : (u_200.1 18).toInt = (u_181.1 18).toInt := by rw [h_199]; rfl
        have g_213 : (u_200.1 19).toInt = (u_181.1 19).toInt := by rw [h_199]; rfl
        have g_214 : (u_200.1 20).toInt = (u_181.1 20).toInt := by rw [h_199]; rfl
        have g_215 : (u_200.1 23).toInt = (u_181.1 23).toInt := by rw [h_199]; rfl
        have g_216 : (u_200.1 24).toInt = (u_181.1 24).toInt := by rw [h_199]; rfl
        refine okM_bP (kP_SqlReaderModel_from I_u_200 (by have FUe : FU = 100000 := rfl; have B_218 := IP_b I_u_200; have B_219 := IP_b I; omega) (by have FUe : FU = 100000 := rfl; have B_220 := IP_b I_u_200; have B_221 := IP_b I; omega)) (fun u_222 z_217 => ?_)
        obtain ⟨I_u_222, G_u_222, p_223⟩ := z_217
        have F_u_222 : Fr [2, 4, 5, 7, 10, 11, 13, 14, 15, 16, 17, 18, 19, 20, 21, 23, 28, 29, 30] [10, 11, 12, 13, 14, 15, 16, 17, 18, 19, 20, 21, 22, 23, 25, 26, 27, 29, 30] u u_222 := Fr_tr F_u_200 G_u_222 rfl rfl
        have g_224 : (u_222.1 1).toInt = (u_200.1 1).toInt := by rw [G_u_222.1 1 rfl]
        have g_225 : (u_222.1 2).toInt = (u_200.1 2).toInt := by rw [G_u_222.1 2 rfl]
        have g_226 : (u_222.1 4).toInt = (u_200.1 4).toInt := by rw [G_u_222.1 4 rfl]
        have g_227 : (u_222.1 30).toInt = (u_200.1 30).toInt := by rw [G_u_222.1 30 rfl]
        have g_228 : (u_222.1 7).toInt = (u_200.1 7).toInt := by rw [G_u_222.1 7 rfl]
        have g_229 : (u_222.1 10).toInt = (u_200.1 10).toInt := by rw [G_u_222.1 10 rfl]
        have g_230 : (u_222.1 16).toInt = (u_200.1 16).toInt := by rw [G_u_222.1 16 rfl]
        have g_231 : (u_222.1 17).toInt = (u_200.1 17).toInt := by rw [G_u_222.1 17 rfl]
        have g_232 : (u_222.1 18).toInt = (u_200.1 18).toInt := by rw [G_u_222.1 18 rfl]
        have g_233 : (u_222.1 20).toInt = (u_200.1 20).toInt := by rw [G_u_222.1 20 rfl]
        have g_234 : (u_222.1 23).toInt = (u_200.1 23).toInt := by rw [G_u_222.1 23 rfl]
        have g_235 : (u_222.1 24).toInt = (u_200.1 24).toInt := by rw [G_u_222.1 24 rfl]
        refine okM_bP (kP_SqlReaderModel_readWhere I_u_222 (by have FUe : FU = 100000 := rfl; have B_237 := IP_b I_u_222; have B_238 := IP_b I; omega) (by have FUe : FU = 100000 := rfl; have B_239 := IP_b I_u_222; have B_240 := IP_b I; omega) (by have FUe : FU = 100000 := rfl; have B_241 := IP_b I_u_222; have B_242 := IP_b I; omega)) (fun u_243 z_236 => ?_)
        obtain ⟨I_u_243, G_u_243, p_244, p_245, p_246, p_247, p_248⟩ := z_236
        have F_u_243 : Fr [2, 4, 5, 7, 10, 11, 13, 14, 15, 16, 17, 18, 19, 20, 21, 23, 28, 29, 30] [10, 11, 12, 13, 14, 15, 16, 17, 18, 19, 20, 21, 22, 23, 25, 26, 27, 29, 30] u u_243 := Fr_tr F_u_222 G_u_243 rfl rfl
        have g_249 : (u_243.1 1).toInt = (u_222.1 1).toInt := by rw [G_u_243.1 1 rfl]
        have g_250 : (u_243.1 7).toInt = (u_222.1 7).toInt := by rw [G_u_243.1 7 rfl]
        have g_251 : (u_243.1 10).toInt = (u_222.1 10).toInt := by rw [G_u_243.1 10 rfl]
        have g_252 : (u_243.1 16).toInt = (u_222.1 16).toInt := by rw [G_u_243.1 16 rfl]
        have g_253 : (u_243.1 17).toInt = (u_222.1 17).toInt := by rw [G_u_243.1 17 rfl]
        have g_254 : (u_243.1 18).toInt = (u_222.1 18).toInt := by rw [G_u_243.1 18 rfl]
        have g_255 : (u_243.1 19).toInt = (u_222.1 19).toInt := by rw [G_u_243.1 19 rfl]
        have g_256 : (u_243.1 20).toInt = (u_222.1 20).toInt := by rw [G_u_243.1 20 rfl]
        have g_257 : (u_243.1 23).toInt = (u_222.1 23).toInt := by rw [G_u_243.1 23 rfl]
        have g_258 : (u_243.1 24).toInt = (u_222.1 24).toInt := by rw [G_u_243.1 24 rfl]
        exact okM_some ⟨I_u_243, F_u_243, (by omega), (by omega), (by have B_259 := IP_b I; have B_260 := IP_b I_u_243; omega), (by have B_261 := IP_b I_u_243; omega), (by have B_262 := IP_b I_u_243; have B_263 := IP_b I; omega), (by have B_264 := IP_b I_u_243; have B_265 := IP_b I; omega), (by have B_266 := IP_b I_u_243; have B_267 := IP_b I; omega), (by have B_268 := IP_b I_u_243; have B_269 := IP_b I; omega), (by have B_270 := IP_b I_u_243; omega)⟩
    · refine okM_bP (kP_SqlReaderModel_readUpdate I_u_22 (by have FUe : FU = 100000 := rfl; have B_272 := IP_b I_u_22; have B_273 := IP_b I; omega) (by have FUe : FU = 100000 := rfl; have B_274 := IP_b I_u_22; have B_275 := IP_b I; omega) (by have FUe : FU = 100000 := rfl; have B_276 := IP_b I_u_22; have B_277 := IP_b I; omega) (by have FUe : FU = 100000 := rfl; have B_278 := IP_b I_u_22; have B_279 := IP_b I; omega) (by have FUe : FU = 100000 := rfl; have B_280 := IP_b I_u_22; have B_281 := IP_b I; omega) (by have FUe : FU = 100000 := rfl; have B_282 := IP_b I_u_22; have B_283 := IP_b I; omega)) (fun u_284 z_271 => ?_)
      obtain ⟨I_u_284, G_u_284, p_285, p_286, p_287, p_288, p_289, p_290⟩ := z_271
      have F_u_284 : Fr [2, 4, 5, 7, 10, 11, 13, 14, 15, 16, 17, 18, 19, 20, 21, 23, 28, 29, 30] [10, 11, 12, 13, 14, 15, 16, 17, 18, 19, 20, 21, 22, 23, 25, 26, 27, 29, 30] u u_284 := Fr_tr F_u_22 G_u_284 rfl rfl
      have g_291 : (u_284.1 1).toInt = (u_22.1 1).toInt := by rw [G_u_284.1 1 rfl]
      have g_292 : (u_284.1 16).toInt = (u_22.1 16).toInt := by rw [G_u_284.1 16 rfl]
      have g_293 : (u_284.1 17).toInt = (u_22.1 17).toInt := by rw [G_u_284.1 17 rfl]
      have g_294 : (u_284.1 18).toInt = (u_22.1 18).toInt := by rw [G_u_284.1 18 rfl]
      have g_295 : (u_284.1 23).toInt = (u_22.1 23).toInt := by rw [G_u_284.1 23 rfl]
      have g_296 : (u_284.1 24).toInt = (u_22.1 24).toInt := by rw [G_u_284.1 24 rfl]
      exact okM_some ⟨I_u_284, F_u_284, (by omega), (by omega), (by have B_297 := IP_b I; have B_298 := IP_b I_u_284; omega), (by have B_299 := IP_b I_u_284; omega), (by have B_300 := IP_b I_u_284; have B_301 := IP_b I; omega), (by have B_302 := IP_b I_u_284; have B_303 := IP_b I; omega), (by have B_304 := IP_b I_u_284; have B_305 := IP_b I; omega), (by have B_306 := IP_b I_u_284; have B_307 := IP_b I; omega), (by have B_308 := IP_b I_u_284; omega)⟩
  · refine okM_bP (kP_SqlReaderModel_readInsert I_u_3 (by have FUe : FU = 100000 := rfl; have B_310 := IP_b I_u_3; have B_311 := IP_b I; omega) (by have FUe : FU = 100000 := rfl; have B_312 := IP_b I_u_3; have B_313 := IP_b I; omega) (by have FUe : FU = 100000 := rfl; have B_314 := IP_b I_u_3; have B_315 := IP_b I; omega) (by have FUe : FU = 100000 := rfl; have B_316 := IP_b I_u_3; have B_317 := IP_b I; omega) (by have FUe : FU = 100000 := rfl; have B_318 := IP_b I_u_3; have B_319 := IP_b I; omega) (by have FUe : FU = 100000 := rfl; have B_320 := IP_b I_u_3; have B_321 := IP_b I; omega) (by have FUe : FU = 100000 := rfl; have B_322 := IP_b I_u_3; have B_323 := IP_b I; omega) (by have FUe : FU = 100000 := rfl; have B_324 := IP_b I_u_3; have B_325 := IP_b I; omega) (by have FUe : FU = 100000 := rfl; have B_326 := IP_b I_u_3; have B_327 := IP_b I; omega)) (fun u_328 z_309 => ?_)
    obtain ⟨I_u_328, G_u_328, p_329, p_330, p_331, p_332, p_333, p_334⟩ := z_309
    have F_u_328 : Fr [2, 4, 5, 7, 10, 11, 13, 14, 15, 16, 17, 18, 19, 20, 21, 23, 28, 29, 30] [10, 11, 12, 13, 14, 15, 16, 17, 18, 19, 20, 21, 22, 23, 25, 26, 27, 29, 30] u u_328 := Fr_tr F_u_3 G_u_328 rfl rfl
    have g_335 : (u_328.1 1).toInt = (u_3.1 1).toInt := by rw [G_u_328.1 1 rfl]
    have g_336 : (u_328.1 20).toInt = (u_3.1 20).toInt := by rw [G_u_328.1 20 rfl]
    have g_337 : (u_328.1 24).toInt = (u_3.1 24).toInt := by rw [G_u_328.1 24 rfl]
    exact okM_some ⟨I_u_328, F_u_328, (by omega), (by omega), (by have B_338 := IP_b I; have B_339 := IP_b I_u_328; omega), (by have B_340 := IP_b I_u_328; omega), (by have B_341 := IP_b I_u_328; have B_342 := IP_b I; omega), (by have B_343 := IP_b I_u_328; have B_344 := IP_b I; omega), (by have B_345 := IP_b I_u_328; have B_346 := IP_b I; omega), (by have B_347 := IP_b I_u_328; have B_348 := IP_b I; omega), (by have B_349 := IP_b I_u_328; omega)⟩
