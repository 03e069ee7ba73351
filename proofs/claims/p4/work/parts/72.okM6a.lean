theorem kM_SqlReaderModel_error {x1 : Int32} {u : St} (I : IB u) : ok (mM_SqlReaderModel_error x1 u) (fun r => 0 ≤ r.toInt ∧ r.toInt ≤ 8) := by
  have l0 : (0 : Int32).toInt = 0 := by decide
  have l8 : (8 : Int32).toInt = 8 := by decide
  rw [mM_SqlReaderModel_error]
  refine ok_eq (fun c_1 c_1' => ?_) (fun c_1 => ?_)
  · exact ok_some ⟨(by omega), (by omega)⟩
  · exact ok_some ⟨(by omega), (by omega)⟩
theorem kQ_SqlReaderModel_typeOf {x1 : Int32} {u : St} (I : IQ u) (h0 : 0 ≤ x1.toInt) (h1 : x1.toInt < (u.1 4).toInt) : ok (mM_SqlReaderModel_typeOf x1 u) (fun r => True) := by
  have l10 : (10 : Int32).toInt = 10 := by decide
  have l11 : (11 : Int32).toInt = 11 := by decide
  have l13 : (13 : Int32).toInt = 13 := by decide
  have l28 : (28 : Int32).toInt = 28 := by decide
  have l33 : (33 : Int32).toInt = 33 := by decide
  rw [mM_SqlReaderModel_typeOf]
  have N_x1 := IK_nd (IQ_IK I) x1
  refine ok_gd (inb_of (by have B_1 := IQ_b I; omega) (by have B_2 := IQ_b I; omega)) ?_
  refine ok_eq (fun c_3 c_3' => ?_) (fun c_3 => ?_)
  · refine ok_gd (inb_of (by have B_4 := IQ_b I; omega) (by have B_5 := IQ_b I; omega)) ?_
    refine ok_gd (inb_of (by have B_6 := IQ_b I; omega) (by have B_7 := IQ_b I; omega)) ?_
    exact ok_some trivial
  · refine ok_gd (inb_of (by have B_8 := IQ_b I; omega) (by have B_9 := IQ_b I; omega)) ?_
    exact ok_some trivial
theorem kQ_SqlReaderModel_gives {x1 : Int32} {x2 : Int32} {u : St} (I : IQ u) (h0 : 0 ≤ x1.toInt) (h1 : x1.toInt < (u.1 4).toInt) : ok (mM_SqlReaderModel_gives x1 x2 u) (fun v => IQ v ∧ Fr [] [33] u v) := by
  have l0 : (0 : Int32).toInt = 0 := by decide
  have l10 : (10 : Int32).toInt = 10 := by decide
  have l11 : (11 : Int32).toInt = 11 := by decide
  have l28 : (28 : Int32).toInt = 28 := by decide
  have l33 : (33 : Int32).toInt = 33 := by decide
  rw [mM_SqlReaderModel_gives]
  have N_x1 := IK_nd (IQ_IK I) x1
  refine ok_gd (inb_of (by have B_1 := IQ_b I; omega) (by have B_2 := IQ_b I; omega)) ?_
  refine ok_eq (fun c_3 c_3' => ?_) (fun c_3 => ?_)
  · refine ok_gd (inb_of (by have B_4 := IQ_b I; omega) (by have B_5 := IQ_b I; omega)) ?_
    refine ok_gd (inb_of (by have B_6 := IQ_b I; omega) (by have B_7 := IQ_b I; omega)) ?_
    refine ok_eq (fun c_8 c_8' => ?_) (fun c_8 => ?_)
    · refine ok_gd (inb_of (by have B_9 := IQ_b I; omega) (by have B_10 := IQ_b I; omega)) ?_
      refine ok_gd (inb_of (by have B_11 := IQ_b I; omega) (by have B_12 := IQ_b I; omega)) ?_
      refine ok_seq (fun u_14 h_13 => ?_)
      have I_u_14 : IQ u_14 := by rw [h_13]; exact I
      have F_u_14 : Fr [] [33] u u_14 := by rw [h_13]; exact Fr_sa (Fr_rfl u) rfl rfl rfl
      have g_15 : (u_14.1 1).toInt = (u.1 1).toInt := by rw [h_13]; rfl
      have g_16 : (u_14.1 4).toInt = (u.1 4).toInt := by rw [h_13]; rfl
      have g_17 : (u_14.1 9).toInt = (u.1 9).toInt := by rw [h_13]; rfl
      have g_18 : (u_14.1 19).toInt = (u.1 19).toInt := by rw [h_13]; rfl
      exact ok_some ⟨I_u_14, F_u_14⟩
    · exact ok_some ⟨I, (Fr_rfl u)⟩
  · exact ok_some ⟨I, (Fr_rfl u)⟩
theorem kQ_SqlReaderModel_fits {x1 : Int32} {x2 : Int32} {u : St} (I : IQ u) (h0 : 0 ≤ x1.toInt) (h1 : x1.toInt < (u.1 4).toInt) : okM (mM_SqlReaderModel_fits x1 x2 u) (fun r v => IQ v ∧ Fr [] [33] u v ∧ 0 ≤ r.toInt ∧ r.toInt ≤ 1) := by
  have l0 : (0 : Int32).toInt = 0 := by decide
  have l1 : (1 : Int32).toInt = 1 := by decide
  have l4 : (4 : Int32).toInt = 4 := by decide
  have l10 : (10 : Int32).toInt = 10 := by decide
  have l11 : (11 : Int32).toInt = 11 := by decide
  have l28 : (28 : Int32).toInt = 28 := by decide
  have l33 : (33 : Int32).toInt = 33 := by decide
  rw [mM_SqlReaderModel_fits]
  have N_x1 := IK_nd (IQ_IK I) x1
  refine okM_gd (inb_of (by have B_1 := IQ_b I; omega) (by have B_2 := IQ_b I; omega)) ?_
  refine okM_eq (fun c_3 c_3' => ?_) (fun c_3 => ?_)
  · refine okM_gd (inb_of (by have B_4 := IQ_b I; omega) (by have B_5 := IQ_b I; omega)) ?_
    refine okM_gd (inb_of (by have B_6 := IQ_b I; omega) (by have B_7 := IQ_b I; omega)) ?_
    refine okM_eq (fun c_8 c_8' => ?_) (fun c_8 => ?_)
    · refine okM_gd (inb_of (by have B_9 := IQ_b I; omega) (by have B_10 := IQ_b I; omega)) ?_
      refine okM_gd (inb_of (by have B_11 := IQ_b I; omega) (by have B_12 := IQ_b I; omega)) ?_
      refine okM_seq (fun u_14 h_13 => ?_)
      have I_u_14 : IQ u_14 := by rw [h_13]; exact I
      have F_u_14 : Fr [] [33] u u_14 := by rw [h_13]; exact Fr_sa (Fr_rfl u) rfl rfl rfl
      have g_15 : (u_14.1 1).toInt = (u.1 1).toInt := by rw [h_13]; rfl
      have g_16 : (u_14.1 4).toInt = (u.1 4).toInt := by rw [h_13]; rfl
      have g_17 : (u_14.1 9).toInt = (u.1 9).toInt := by rw [h_13]; rfl
      have g_18 : (u_14.1 19).toInt = (u.1 19).toInt := by rw [h_13]; rfl
      rw [mM_SqlReaderModel_fits_J37]
      refine okM_bP (kQ_SqlReaderModel_typeOf I_u_14 (by have FUe : FU = 100000 := rfl; have B_20 := IQ_b I_u_14; have B_21 := IQ_b I; omega) (by have FUe : FU = 100000 := rfl; have B_22 := IQ_b I_u_14; have B_23 := IQ_b I; omega)) (fun r_24 z_19 => ?_)
      refine okM_eq (fun c_25 c_25' => ?_) (fun c_25 => ?_)
      · exact okM_some ⟨I_u_14, F_u_14, (by omega), (by omega)⟩
      · refine okM_bP (kQ_SqlReaderModel_typeOf I_u_14 (by have FUe : FU = 100000 := rfl; have B_27 := IQ_b I_u_14; have B_28 := IQ_b I; omega) (by have FUe : FU = 100000 := rfl; have B_29 := IQ_b I_u_14; have B_30 := IQ_b I; omega)) (fun r_31 z_26 => ?_)
        refine okM_eq (fun c_32 c_32' => ?_) (fun c_32 => ?_)
        · exact okM_some ⟨I_u_14, F_u_14, (by omega), (by omega)⟩
        · exact okM_some ⟨I_u_14, F_u_14, (by omega), (by omega)⟩
    · rw [mM_SqlReaderModel_fits_J37]
      refine okM_bP (kQ_SqlReaderModel_typeOf I (by have FUe : FU = 100000 := rfl; have B_34 := IQ_b I; omega) (by have FUe : FU = 100000 := rfl; have B_35 := IQ_b I; omega)) (fun r_36 z_33 => ?_)
      refine okM_eq (fun c_37 c_37' => ?_) (fun c_37 => ?_)
      · exact okM_some ⟨I, (Fr_rfl u), (by omega), (by omega)⟩
      · refine okM_bP (kQ_SqlReaderModel_typeOf I (by have FUe : FU = 100000 := rfl; have B_39 := IQ_b I; omega) (by have FUe : FU = 100000 := rfl; have B_40 := IQ_b I; omega)) (fun r_41 z_38 => ?_)
        refine okM_eq (fun c_42 c_42' => ?_) (fun c_42 => ?_)
        · exact okM_some ⟨I, (Fr_rfl u), (by omega), (by omega)⟩
        · exact okM_some ⟨I, (Fr_rfl u), (by omega), (by omega)⟩
  · rw [mM_SqlReaderModel_fits_J37]
    refine okM_bP (kQ_SqlReaderModel_typeOf I (by have FUe : FU = 100000 := rfl; have B_44 := IQ_b I; omega) (by have FUe : FU = 100000 := rfl; have B_45 := IQ_b I; omega)) (fun r_46 z_43 => ?_)
    refine okM_eq (fun c_47 c_47' => ?_) (fun c_47 => ?_)
    · exact okM_some ⟨I, (Fr_rfl u), (by omega), (by omega)⟩
    · refine okM_bP (kQ_SqlReaderModel_typeOf I (by have FUe : FU = 100000 := rfl; have B_49 := IQ_b I; omega) (by have FUe : FU = 100000 := rfl; have B_50 := IQ_b I; omega)) (fun r_51 z_48 => ?_)
      refine okM_eq (fun c_52 c_52' => ?_) (fun c_52 => ?_)
      · exact okM_some ⟨I, (Fr_rfl u), (by omega), (by omega)⟩
      · exact okM_some ⟨I, (Fr_rfl u), (by omega), (by omega)⟩
theorem kQ_SqlReaderModel_compared_J41 {x1 : Int32} {x2 : Int32} {s1 : Int32} {s2 : Int32} {u : St} (I : IQ u) (h0 : 0 ≤ x1.toInt) (h1 : x1.toInt < (u.1 4).toInt) (h2 : 0 ≤ x2.toInt) (h3 : x2.toInt < (u.1 4).toInt) (h4 : 0 ≤ s1.toInt) (h5 : s1.toInt < (u.1 4).toInt) : okM (mM_SqlReaderModel_compared_J41 x1 x2 s1 s2 u) (fun r v => IQ v ∧ Fr [] [33] u v ∧ 0 ≤ r.toInt ∧ r.toInt ≤ 8) := by
  have l0 : (0 : Int32).toInt = 0 := by decide
  have l1 : (1 : Int32).toInt = 1 := by decide
  have l4 : (4 : Int32).toInt = 4 := by decide
  have l8 : (8 : Int32).toInt = 8 := by decide
  rw [mM_SqlReaderModel_compared_J41]
  refine okM_bP (kQ_SqlReaderModel_gives I (by have FUe : FU = 100000 := rfl; have B_2 := IQ_b I; omega) (by have FUe : FU = 100000 := rfl; have B_3 := IQ_b I; omega)) (fun u_4 z_1 => ?_)
  obtain ⟨I_u_4, G_u_4⟩ := z_1
  have F_u_4 : Fr [] [33] u u_4 := Fr_tr (Fr_rfl u) G_u_4 rfl rfl
  have g_5 : (u_4.1 1).toInt = (u.1 1).toInt := by rw [G_u_4.1 1 rfl]
  have g_6 : (u_4.1 4).toInt = (u.1 4).toInt := by rw [G_u_4.1 4 rfl]
  have g_7 : (u_4.1 9).toInt = (u.1 9).toInt := by rw [G_u_4.1 9 rfl]
  have g_8 : (u_4.1 19).toInt = (u.1 19).toInt := by rw [G_u_4.1 19 rfl]
  refine okM_bP (kQ_SqlReaderModel_typeOf I_u_4 (by have FUe : FU = 100000 := rfl; have B_10 := IQ_b I_u_4; have B_11 := IQ_b I; omega) (by have FUe : FU = 100000 := rfl; have B_12 := IQ_b I_u_4; have B_13 := IQ_b I; omega)) (fun r_14 z_9 => ?_)
  refine okM_eq (fun c_15 c_15' => ?_) (fun c_15 => ?_)
  · refine okM_bP (kM_SqlReaderModel_error (IQ_IB I_u_4)) (fun r_17 z_16 => ?_)
    obtain ⟨p_18, p_19⟩ := z_16
    exact okM_some ⟨I_u_4, F_u_4, (by omega), (by omega)⟩
  · refine okM_bP (kQ_SqlReaderModel_typeOf I_u_4 (by have FUe : FU = 100000 := rfl; have B_21 := IQ_b I_u_4; have B_22 := IQ_b I; omega) (by have FUe : FU = 100000 := rfl; have B_23 := IQ_b I_u_4; have B_24 := IQ_b I; omega)) (fun r_25 z_20 => ?_)
    refine okM_eq (fun c_26 c_26' => ?_) (fun c_26 => ?_)
    · refine okM_bP (kM_SqlReaderModel_error (IQ_IB I_u_4)) (fun r_28 z_27 => ?_)
      obtain ⟨p_29, p_30⟩ := z_27
      exact okM_some ⟨I_u_4, F_u_4, (by omega), (by omega)⟩
    · refine okM_bP (kQ_SqlReaderModel_typeOf I_u_4 (by have FUe : FU = 100000 := rfl; have B_32 := IQ_b I_u_4; have B_33 := IQ_b I; omega) (by have FUe : FU = 100000 := rfl; have B_34 := IQ_b I_u_4; have B_35 := IQ_b I; omega)) (fun r_36 z_31 => ?_)
      refine okM_bP (kQ_SqlReaderModel_typeOf I_u_4 (by have FUe : FU = 100000 := rfl; have B_38 := IQ_b I_u_4; have B_39 := IQ_b I; omega) (by have FUe : FU = 100000 := rfl; have B_40 := IQ_b I_u_4; have B_41 := IQ_b I; omega)) (fun r_42 z_37 => ?_)
      refine okM_eq (fun c_43 c_43' => ?_) (fun c_43 => ?_)
      · refine okM_bP (kM_SqlReaderModel_error (IQ_IB I_u_4)) (fun r_45 z_44 => ?_)
        obtain ⟨p_46, p_47⟩ := z_44
        exact okM_some ⟨I_u_4, F_u_4, (by omega), (by omega)⟩
      · refine okM_bP (kM_SqlReaderModel_error (IQ_IB I_u_4)) (fun r_49 z_48 => ?_)
        obtain ⟨p_50, p_51⟩ := z_48
        exact okM_some ⟨I_u_4, F_u_4, (by omega), (by omega)⟩
theorem kQ_SqlReaderModel_compared_J19 {x1 : Int32} {x2 : Int32} {s1 : Int32} {s2 : Int32} {u : St} (I : IQ u) (h0 : 0 ≤ x1.toInt) (h1 : x1.toInt < (u.1 4).toInt) (h2 : 0 ≤ x2.toInt) (h3 : x2.toInt < (u.1 4).toInt) (h4 : 0 ≤ s1.toInt) (h5 : s1.toInt < (u.1 4).toInt) : okM (mM_SqlReaderModel_compared_J19 x1 x2 s1 s2 u) (fun r v => IQ v ∧ Fr [] [33] u v ∧ 0 ≤ r.toInt ∧ r.toInt ≤ 8) := by
  have l0 : (0 : Int32).toInt = 0 := by decide
  have l2 : (2 : Int32).toInt = 2 := by decide
  have l4 : (4 : Int32).toInt = 4 := by decide
  have l8 : (8 : Int32).toInt = 8 := by decide
  rw [mM_SqlReaderModel_compared_J19]
  refine okM_bP (kQ_SqlReaderModel_gives I (by have FUe : FU = 100000 := rfl; have B_2 := IQ_b I; omega) (by have FUe : FU = 100000 := rfl; have B_3 := IQ_b I; omega)) (fun u_4 z_1 => ?_)
  obtain ⟨I_u_4, G_u_4⟩ := z_1
  have F_u_4 : Fr [] [33] u u_4 := Fr_tr (Fr_rfl u) G_u_4 rfl rfl
  have g_5 : (u_4.1 1).toInt = (u.1 1).toInt := by rw [G_u_4.1 1 rfl]
  have g_6 : (u_4.1 4).toInt = (u.1 4).toInt := by rw [G_u_4.1 4 rfl]
  have g_7 : (u_4.1 9).toInt = (u.1 9).toInt := by rw [G_u_4.1 9 rfl]
  have g_8 : (u_4.1 19).toInt = (u.1 19).toInt := by rw [G_u_4.1 19 rfl]
  refine okM_bP (kQ_SqlReaderModel_typeOf I_u_4 (by have FUe : FU = 100000 := rfl; have B_10 := IQ_b I_u_4; have B_11 := IQ_b I; omega) (by have FUe : FU = 100000 := rfl; have B_12 := IQ_b I_u_4; have B_13 := IQ_b I; omega)) (fun r_14 z_9 => ?_)
  refine okM_eq (fun c_15 c_15' => ?_) (fun c_15 => ?_)
  · refine okM_mono (kQ_SqlReaderModel_compared_J41 I_u_4 (by have FUe : FU = 100000 := rfl; have B_16 := IQ_b I_u_4; have B_17 := IQ_b I; omega) (by have FUe : FU = 100000 := rfl; have B_18 := IQ_b I_u_4; have B_19 := IQ_b I; omega) (by have FUe : FU = 100000 := rfl; have B_20 := IQ_b I_u_4; have B_21 := IQ_b I; omega) (by have FUe : FU = 100000 := rfl; have B_22 := IQ_b I_u_4; have B_23 := IQ_b I; omega) (by have FUe : FU = 100000 := rfl; have B_24 := IQ_b I_u_4; have B_25 := IQ_b I; omega) (by have FUe : FU = 100000 := rfl; have B_26 := IQ_b I_u_4; have B_27 := IQ_b I; omega)) (fun r_29 u_30 z_28 => ?_)
    obtain ⟨I_u_30, G_u_30, p_31, p_32⟩ := z_28
    have F_u_30 : Fr [] [33] u u_30 := Fr_tr F_u_4 G_u_30 rfl rfl
    have g_33 : (u_30.1 1).toInt = (u_4.1 1).toInt := by rw [G_u_30.1 1 rfl]
    have g_34 : (u_30.1 4).toInt = (u_4.1 4).toInt := by rw [G_u_30.1 4 rfl]
    have g_35 : (u_30.1 9).toInt = (u_4.1 9).toInt := by rw [G_u_30.1 9 rfl]
    have g_36 : (u_30.1 19).toInt = (u_4.1 19).toInt := by rw [G_u_30.1 19 rfl]
    exact ⟨I_u_30, F_u_30, (by omega), (by omega)⟩
  · refine okM_bP (kQ_SqlReaderModel_typeOf I_u_4 (by have FUe : FU = 100000 := rfl; have B_38 := IQ_b I_u_4; have B_39 := IQ_b I; omega) (by have FUe : FU = 100000 := rfl; have B_40 := IQ_b I_u_4; have B_41 := IQ_b I; omega)) (fun r_42 z_37 => ?_)
    refine okM_mono (kQ_SqlReaderModel_compared_J41 I_u_4 (by have FUe : FU = 100000 := rfl; have B_43 := IQ_b I_u_4; have B_44 := IQ_b I; omega) (by have FUe : FU = 100000 := rfl; have B_45 := IQ_b I_u_4; have B_46 := IQ_b I; omega) (by have FUe : FU = 100000 := rfl; have B_47 := IQ_b I_u_4; have B_48 := IQ_b I; omega) (by have FUe : FU = 100000 := rfl; have B_49 := IQ_b I_u_4; have B_50 := IQ_b I; omega) (by have FUe : FU = 100000 := rfl; have B_51 := IQ_b I_u_4; have B_52 := IQ_b I; omega) (by have FUe : FU = 100000 := rfl; have B_53 := IQ_b I_u_4; have B_54 := IQ_b I; omega)) (fun r_56 u_57 z_55 => ?_)
    obtain ⟨I_u_57, G_u_57, p_58, p_59⟩ := z_55
    have F_u_57 : Fr [] [33] u u_57 := Fr_tr F_u_4 G_u_57 rfl rfl
    have g_60 : (u_57.1 1).toInt = (u_4.1 1).toInt := by rw [G_u_57.1 1 rfl]
    have g_61 : (u_57.1 4).toInt = (u_4.1 4).toInt := by rw [G_u_57.1 4 rfl]
    have g_62 : (u_57.1 9).toInt = (u_4.1 9).toInt := by rw [G_u_57.1 9 rfl]
    have g_63 : (u_57.1 19).toInt = (u_4.1 19).toInt := by rw [G_u_57.1 19 rfl]
    exact ⟨I_u_57, F_u_57, (by omega), (by omega)⟩
theorem kQ_SqlReaderModel_compared {x1 : Int32} {x2 : Int32} {u : St} (I : IQ u) (h0 : 0 ≤ x1.toInt) (h1 : x1.toInt < (u.1 4).toInt) (h2 : 0 ≤ x2.toInt) (h3 : x2.toInt < (u.1 4).toInt) : okM (mM_SqlReaderModel_compared x1 x2 u) (fun r v => IQ v ∧ Fr [] [33] u v ∧ 0 ≤ r.toInt ∧ r.toInt ≤ 8) := by
  have l0 : (0 : Int32).toInt = 0 := by decide
  have l2 : (2 : Int32).toInt = 2 := by decide
  have l4 : (4 : Int32).toInt = 4 := by decide
  have l8 : (8 : Int32).toInt = 8 := by decide
  rw [mM_SqlReaderModel_compared]
  refine okM_bP (kQ_SqlReaderModel_typeOf I (by have FUe : FU = 100000 := rfl; have B_2 := IQ_b I; omega) (by have FUe : FU = 100000 := rfl; have B_3 := IQ_b I; omega)) (fun r_4 z_1 => ?_)
  refine okM_eq (fun c_5 c_5' => ?_) (fun c_5 => ?_)
  · refine okM_mono (kQ_SqlReaderModel_compared_J19 I (by have FUe : FU = 100000 := rfl; have B_6 := IQ_b I; omega) (by have FUe : FU = 100000 := rfl; have B_7 := IQ_b I; omega) (by have FUe : FU = 100000 := rfl; have B_8 := IQ_b I; omega) (by have FUe : FU = 100000 := rfl; have B_9 := IQ_b I; omega) (by have FUe : FU = 100000 := rfl; have B_10 := IQ_b I; omega) (by have FUe : FU = 100000 := rfl; have B_11 := IQ_b I; omega)) (fun r_13 u_14 z_12 => ?_)
    obtain ⟨I_u_14, G_u_14, p_15, p_16⟩ := z_12
    have F_u_14 : Fr [] [33] u u_14 := Fr_tr (Fr_rfl u) G_u_14 rfl rfl
    have g_17 : (u_14.1 1).toInt = (u.1 1).toInt := by rw [G_u_14.1 1 rfl]
    have g_18 : (u_14.1 4).toInt = (u.1 4).toInt := by rw [G_u_14.1 4 rfl]
    have g_19 : (u_14.1 9).toInt = (u.1 9).toInt := by rw [G_u_14.1 9 rfl]
    have g_20 : (u_14.1 19).toInt = (u.1 19).toInt := by rw [G_u_14.1 19 rfl]
    exact ⟨I_u_14, F_u_14, (by omega), (by omega)⟩
  · refine okM_bP (kQ_SqlReaderModel_typeOf I (by have FUe : FU = 100000 := rfl; have B_22 := IQ_b I; omega) (by have FUe : FU = 100000 := rfl; have B_23 := IQ_b I; omega)) (fun r_24 z_21 => ?_)
    refine okM_mono (kQ_SqlReaderModel_compared_J19 I (by have FUe : FU = 100000 := rfl; have B_25 := IQ_b I; omega) (by have FUe : FU = 100000 := rfl; have B_26 := IQ_b I; omega) (by have FUe : FU = 100000 := rfl; have B_27 := IQ_b I; omega) (by have FUe : FU = 100000 := rfl; have B_28 := IQ_b I; omega) (by have FUe : FU = 100000 := rfl; have B_29 := IQ_b I; omega) (by have FUe : FU = 100000 := rfl; have B_30 := IQ_b I; omega)) (fun r_32 u_33 z_31 => ?_)
    obtain ⟨I_u_33, G_u_33, p_34, p_35⟩ := z_31
    have F_u_33 : Fr [] [33] u u_33 := Fr_tr (Fr_rfl u) G_u_33 rfl rfl
    have g_36 : (u_33.1 1).toInt = (u.1 1).toInt := by rw [G_u_33.1 1 rfl]
    have g_37 : (u_33.1 4).toInt = (u.1 4).toInt := by rw [G_u_33.1 4 rfl]
    have g_38 : (u_33.1 9).toInt = (u.1 9).toInt := by rw [G_u_33.1 9 rfl]
    have g_39 : (u_33.1 19).toInt = (u.1 19).toInt := by rw [G_u_33.1 19 rfl]
    exact ⟨I_u_33, F_u_33, (by omega), (by omega)⟩
theorem kQ_SqlReaderModel_resolve_L7 : ∀ (n : Nat) {x1 : Int32} {x2 : Int32} {x3 : Int32} {x4 : Int32} {u : St} (I : IQ u) (h0 : 0 ≤ x1.toInt) (h1 : x1.toInt < (u.1 4).toInt) (h2 : (ga u 10 x1).toInt = 4) (h3 : 0 ≤ x4.toInt) (h4 : x4.toInt ≤ 3) (h5 : 0 ≤ x2.toInt) (h6 : x2.toInt ≤ x4.toInt) (h7 : 0 ≤ x3.toInt) (h8 : x3.toInt ≤ x4.toInt) (hm : (3 - x4.toInt).toNat < n), okM (mM_SqlReaderModel_resolve_L7 n x1 x2 x3 x4 u) (fun r v => IQ v ∧ Fr [] [11, 12, 13] u v ∧ 0 ≤ r.toInt ∧ r.toInt ≤ 7) := by
  intro n
  induction n with
  | zero => intro x1 x2 x3 x4 u I h0 h1 h2 h3 h4 h5 h6 h7 h8 hm; exact absurd hm (Nat.not_lt_zero _)
  | succ n ih =>
    intro x1 x2 x3 x4 u I h0 h1 h2 h3 h4 h5 h6 h7 h8 hm
    have l0 : (0 : Int32).toInt = 0 := by decide
    have l1 : (1 : Int32).toInt = 1 := by decide
    have l3 : (3 : Int32).toInt = 3 := by decide
    have l4 : (4 : Int32).toInt = 4 := by decide
    have l6 : (6 : Int32).toInt = 6 := by decide
    have l7 : (7 : Int32).toInt = 7 := by decide
    have l8 : (8 : Int32).toInt = 8 := by decide
    have l10 : (10 : Int32).toInt = 10 := by decide
    have l14 : (14 : Int32).toInt = 14 := by decide
    have l15 : (15 : Int32).toInt = 15 := by decide
    have l19 : (19 : Int32).toInt = 19 := by decide
    have l24 : (24 : Int32).toInt = 24 := by decide
    have l26 : (26 : Int32).toInt = 26 := by decide
    rw [mM_SqlReaderModel_resolve_L7]
    have N_x1 := IK_nd (IQ_IK I) x1
    have FR := IK_fr (IQ_IK I) x4
    have FT := IQ_ft I x4
    have F7 := IT_a24 (IQ_IT I) x4
    refine okM_le (fun c_1 => ?_) (fun c_1 => ?_)
    · refine okM_gd (inb_of (by have B_2 := IQ_b I; omega) (by have B_3 := IQ_b I; omega)) ?_
      refine okM_lt (fun c_4 => ?_) (fun c_4 => ?_)
      · rw [mM_SqlReaderModel_resolve_J136]
        refine okM_eq (fun c_5 c_5' => ?_) (fun c_5 => ?_)
        · exact okM_some ⟨I, (Fr_rfl u), (by omega), (by omega)⟩
        · refine okM_le (fun c_6 => ?_) (fun c_6 => ?_)
          · exact okM_some ⟨I, (Fr_rfl u), (by omega), (by omega)⟩
          · exact okM_some ⟨I, (Fr_rfl u), (by omega), (by omega)⟩
      · refine okM_eq (fun c_7 c_7' => ?_) (fun c_7 => ?_)
        · exact okM_some ⟨I, (Fr_rfl u), (by omega), (by omega)⟩
        · rw [mM_SqlReaderModel_resolve_J136]
          refine okM_eq (fun c_8 c_8' => ?_) (fun c_8 => ?_)
          · exact okM_some ⟨I, (Fr_rfl u), (by omega), (by omega)⟩
          · refine okM_le (fun c_9 => ?_) (fun c_9 => ?_)
            · exact okM_some ⟨I, (Fr_rfl u), (by omega), (by omega)⟩
            · exact okM_some ⟨I, (Fr_rfl u), (by omega), (by omega)⟩
    · refine okM_gd (inb_of (by have B_10 := IQ_b I; omega) (by have B_11 := IQ_b I; omega)) ?_
      refine okM_lt (fun c_12 => ?_) (fun c_12 => ?_)
      · rw [mM_SqlReaderModel_resolve_J45]
        refine okM_gd (inb_of (by have B_13 := IQ_b I; omega) (by have B_14 := IQ_b I; omega)) ?_
        refine okM_gd (inb_of (by have B_15 := IQ_b I; omega) (by have B_16 := IQ_b I; omega)) ?_
        refine okM_bP (kM_SqlReaderModel_columnOf (IQ_IT I) (by have FUe : FU = 100000 := rfl; have B_18 := IQ_b I; omega) (by have FUe : FU = 100000 := rfl; have B_19 := IQ_b I; omega) (by have FUe : FU = 100000 := rfl; have B_20 := IQ_b I; omega) (by have FUe : FU = 100000 := rfl; have B_21 := IQ_b I; omega)) (fun r_22 z_17 => ?_)
        obtain ⟨p_23, p_24⟩ := z_17
        try have e_27 : (x2 + 1 : Int32).toInt = (x2 : Int32).toInt + (1 : Int32).toInt := by have B_28 := IQ_b I; exact add_i (by omega) (by omega)
        refine okM_seq (fun y_26 h_25 => ?_)
        have h_25' : y_26.toInt = (x2 + 1 : Int32).toInt := by rw [h_25]
        refine okM_lt (fun c_29 => ?_) (fun c_29 => ?_)
        · try have e_32 : (x4 + 1 : Int32).toInt = (x4 : Int32).toInt + (1 : Int32).toInt := by have B_33 := IQ_b I; exact add_i (by omega) (by omega)
          refine okM_seq (fun y_31 h_30 => ?_)
          have h_30' : y_31.toInt = (x4 + 1 : Int32).toInt := by rw [h_30]
          refine okM_mono (ih I (by have B_34 := IQ_b I; omega) (by have B_35 := IQ_b I; omega) (by have B_36 := IQ_b I; omega) (by have B_37 := IQ_b I; omega) (by have B_38 := IQ_b I; omega) (by have B_39 := IQ_b I; omega) (by have B_40 := IQ_b I; omega) (by have B_41 := IQ_b I; omega) (by have B_42 := IQ_b I; omega) (by have B_43 := IQ_b I; omega)) (fun r_45 u_46 z_44 => ?_)
          obtain ⟨I_u_46, G_u_46, p_47, p_48⟩ := z_44
          have F_u_46 : Fr [] [11, 12, 13] u u_46 := Fr_tr (Fr_rfl u) G_u_46 rfl rfl
          have g_49 : (u_46.1 1).toInt = (u.1 1).toInt := by rw [G_u_46.1 1 rfl]
          have g_50 : (u_46.1 4).toInt = (u.1 4).toInt := by rw [G_u_46.1 4 rfl]
          have g_51 : (u_46.1 9).toInt = (u.1 9).toInt := by rw [G_u_46.1 9 rfl]
          have g_52 : (u_46.1 19).toInt = (u.1 19).toInt := by rw [G_u_46.1 19 rfl]
          have g_53 : (ga u_46 10 x1).toInt = (ga u 10 x1).toInt := by show (u_46.2.1 10 _).toInt = _; rw [G_u_46.2.1 10 rfl]; rfl
          have g_54 : (ga u_46 24 x4).toInt = (ga u 24 x4).toInt := by show (u_46.2.1 24 _).toInt = _; rw [G_u_46.2.1 24 rfl]; rfl
          exact ⟨I_u_46, F_u_46, (by omega), (by omega)⟩
        · try have e_57 : (x3 + 1 : Int32).toInt = (x3 : Int32).toInt + (1 : Int32).toInt := by have B_58 := IQ_b I; exact add_i (by omega) (by omega)
          refine okM_seq (fun y_56 h_55 => ?_)
          have h_55' : y_56.toInt = (x3 + 1 : Int32).toInt := by rw [h_55]
          refine okM_gd (inb_of (by have B_59 := IQ_b I; omega) (by have B_60 := IQ_b I; omega)) ?_
          refine okM_seq (fun u_62 h_61 => ?_)
          have I_u_62 : IQ u_62 := by rw [h_61]; exact IQ_a11 I (by have B_63 := IQ_b I; omega) (by have B_64 := IQ_b I; omega)
          have F_u_62 : Fr [] [11, 12, 13] u u_62 := by rw [h_61]; exact Fr_sa (Fr_rfl u) rfl rfl rfl
          have g_65 : (ga u_62 10 x1).toInt = (ga u 10 x1).toInt := by rw [h_61]; rfl
          have g_66 : (ga u_62 24 x4).toInt = (ga u 24 x4).toInt := by rw [h_61]; rfl
          have g_67 : (u_62.1 1).toInt = (u.1 1).toInt := by rw [h_61]; rfl
          have g_68 : (u_62.1 4).toInt = (u.1 4).toInt := by rw [h_61]; rfl
          have g_69 : (u_62.1 9).toInt = (u.1 9).toInt := by rw [h_61]; rfl
          have g_70 : (u_62.1 19).toInt = (u.1 19).toInt := by rw [h_61]; rfl
          refine okM_gd (inb_of (by have B_71 := IQ_b I_u_62; omega) (by have B_72 := IQ_b I_u_62; omega)) ?_
          refine okM_seq (fun u_74 h_73 => ?_)
          have I_u_74 : IQ u_74 := by rw [h_73]; exact IQ_a12 I_u_62 (by have B_75 := IQ_b I_u_62; omega) (by have B_76 := IQ_b I_u_62; omega)
          have F_u_74 : Fr [] [11, 12, 13] u u_74 := by rw [h_73]; exact Fr_sa F_u_62 rfl rfl rfl
          have g_77 : (ga u_74 10 x1).toInt = (ga u_62 10 x1).toInt := by rw [h_73]; rfl
          have g_78 : (ga u_74 24 x4).toInt = (ga u_62 24 x4).toInt := by rw [h_73]; rfl
          have g_79 : (u_74.1 1).toInt = (u_62.1 1).toInt := by rw [h_73]; rfl
          have g_80 : (u_74.1 4).toInt = (u_62.1 4).toInt := by rw [h_73]; rfl
          have g_81 : (u_74.1 9).toInt = (u_62.1 9).toInt := by rw [h_73]; rfl
          have g_82 : (u_74.1 19).toInt = (u_62.1 19).toInt := by rw [h_73]; rfl
          refine okM_gd (inb_of (by have B_83 := IQ_b I_u_74; omega) (by have B_84 := IQ_b I_u_74; omega)) ?_
          try have e_85 : (8 * (ga u_74 24 x4) : Int32).toInt = 8 * ((ga u_74 24 x4) : Int32).toInt := by have B_86 := IQ_b I; have B_87 := IQ_b I_u_74; exact cmu_i l8 (by omega) (by omega)
          try have e_88 : ((8 * (ga u_74 24 x4)) + r_22 : Int32).toInt = ((8 * (ga u_74 24 x4)) : Int32).toInt + (r_22 : Int32).toInt := by have B_89 := IQ_b I; have B_90 := IQ_b I_u_74; exact add_i (by omega) (by omega)
          refine okM_gd (inb_of (by have B_91 := IQ_b I_u_74; omega) (by have B_92 := IQ_b I_u_74; omega)) ?_
          refine okM_gd (inb_of (by have B_93 := IQ_b I_u_74; omega) (by have B_94 := IQ_b I_u_74; omega)) ?_
          refine okM_seq (fun u_96 h_95 => ?_)
          have I_u_96 : IQ u_96 := by rw [h_95]; exact I_u_74
          have F_u_96 : Fr [] [11, 12, 13] u u_96 := by rw [h_95]; exact Fr_sa F_u_74 rfl rfl rfl
          have g_97 : (ga u_96 10 x1).toInt = (ga u_74 10 x1).toInt := by rw [h_95]; rfl
          have g_98 : (ga u_96 24 x4).toInt = (ga u_74 24 x4).toInt := by rw [h_95]; rfl
          have g_99 : (u_96.1 1).toInt = (u_74.1 1).toInt := by rw [h_95]; rfl
          have g_100 : (u_96.1 4).toInt = (u_74.1 4).toInt := by rw [h_95]; rfl
          have g_101 : (u_96.1 9).toInt = (u_74.1 9).toInt := by rw [h_95]; rfl
          have g_102 : (u_96.1 19).toInt = (u_74.1 19).toInt := by rw [h_95]; rfl
          try have e_105 : (x4 + 1 : Int32).toInt = (x4 : Int32).toInt + (1 : Int32).toInt := by have B_106 := IQ_b I; exact add_i (by omega) (by omega)
          refine okM_seq (fun y_104 h_103 => ?_)
          have h_103' : y_104.toInt = (x4 + 1 : Int32).toInt := by rw [h_103]
          refine okM_mono (ih I_u_96 (by have B_107 := IQ_b I_u_96; omega) (by have B_108 := IQ_b I_u_96; omega) (by have B_109 := IQ_b I_u_96; omega) (by have B_110 := IQ_b I_u_96; omega) (by have B_111 := IQ_b I_u_96; omega) (by have B_112 := IQ_b I_u_96; omega) (by have B_113 := IQ_b I_u_96; omega) (by have B_114 := IQ_b I_u_96; omega) (by have B_115 := IQ_b I_u_96; omega) (by have B_116 := IQ_b I_u_96; omega)) (fun r_118 u_119 z_117 => ?_)
          obtain ⟨I_u_119, G_u_119, p_120, p_121⟩ := z_117
          have F_u_119 : Fr [] [11, 12, 13] u u_119 := Fr_tr F_u_96 G_u_119 rfl rfl
          have g_122 : (u_119.1 1).toInt = (u_96.1 1).toInt := by rw [G_u_119.1 1 rfl]
          have g_123 : (u_119.1 4).toInt = (u_96.1 4).toInt := by rw [G_u_119.1 4 rfl]
          have g_124 : (u_119.1 9).toInt = (u_96.1 9).toInt := by rw [G_u_119.1 9 rfl]
          have g_125 : (u_119.1 19).toInt = (u_96.1 19).toInt := by rw [G_u_119.1 19 rfl]
          have g_126 : (ga u_119 10 x1).toInt = (ga u_96 10 x1).toInt := by show (u_119.2.1 10 _).toInt = _; rw [G_u_119.2.1 10 rfl]; rfl
          have g_127 : (ga u_119 24 x4).toInt = (ga u_96 24 x4).toInt := by show (u_119.2.1 24 _).toInt = _; rw [G_u_119.2.1 24 rfl]; rfl
          exact ⟨I_u_119, F_u_119, (by omega), (by omega)⟩
      · refine okM_gd (inb_of (by have B_128 := IQ_b I; omega) (by have B_129 := IQ_b I; omega)) ?_
        refine okM_gd (inb_of (by have B_130 := IQ_b I; omega) (by have B_131 := IQ_b I; omega)) ?_
        refine okM_bP (kM_SqlReaderModel_sameToken (IQ_IT I) (by have FUe : FU = 100000 := rfl; have B_133 := IQ_b I; omega) (by have FUe : FU = 100000 := rfl; have B_134 := IQ_b I; omega) (by have FUe : FU = 100000 := rfl; have B_135 := IQ_b I; omega) (by have FUe : FU = 100000 := rfl; have B_136 := IQ_b I; omega)) (fun r_137 z_132 => ?_)
        obtain ⟨p_138, p_139⟩ := z_132
        refine okM_eq (fun c_140 c_140' => ?_) (fun c_140 => ?_)
        · try have e_143 : (x4 + 1 : Int32).toInt = (x4 : Int32).toInt + (1 : Int32).toInt := by have B_144 := IQ_b I; exact add_i (by omega) (by omega)
          refine okM_seq (fun y_142 h_141 => ?_)
          have h_141' : y_142.toInt = (x4 + 1 : Int32).toInt := by rw [h_141]
          refine okM_mono (ih I (by have B_145 := IQ_b I; omega) (by have B_146 := IQ_b I; omega) (by have B_147 := IQ_b I; omega) (by have B_148 := IQ_b I; omega) (by have B_149 := IQ_b I; omega) (by have B_150 := IQ_b I; omega) (by have B_151 := IQ_b I; omega) (by have B_152 := IQ_b I; omega) (by have B_153 := IQ_b I; omega) (by have B_154 := IQ_b I; omega)) (fun r_156 u_157 z_155 => ?_)
          obtain ⟨I_u_157, G_u_157, p_158, p_159⟩ := z_155
          have F_u_157 : Fr [] [11, 12, 13] u u_157 := Fr_tr (Fr_rfl u) G_u_157 rfl rfl
          have g_160 : (u_157.1 1).toInt = (u.1 1).toInt := by rw [G_u_157.1 1 rfl]
          have g_161 : (u_157.1 4).toInt = (u.1 4).toInt := by rw [G_u_157.1 4 rfl]
          have g_162 : (u_157.1 9).toInt = (u.1 9).toInt := by rw [G_u_157.1 9 rfl]
          have g_163 : (u_157.1 19).toInt = (u.1 19).toInt := by rw [G_u_157.1 19 rfl]
          have g_164 : (ga u_157 10 x1).toInt = (ga u 10 x1).toInt := by show (u_157.2.1 10 _).toInt = _; rw [G_u_157.2.1 10 rfl]; rfl
          have g_165 : (ga u_157 24 x4).toInt = (ga u 24 x4).toInt := by show (u_157.2.1 24 _).toInt = _; rw [G_u_157.2.1 24 rfl]; rfl
          exact ⟨I_u_157, F_u_157, (by omega), (by omega)⟩
        · rw [mM_SqlReaderModel_resolve_J45]
          refine okM_gd (inb_of (by have B_166 := IQ_b I; omega) (by have B_167 := IQ_b I; omega)) ?_
          refine okM_gd (inb_of (by have B_168 := IQ_b I; omega) (by have B_169 := IQ_b I; omega)) ?_
          refine okM_bP (kM_SqlReaderModel_columnOf (IQ_IT I) (by have FUe : FU = 100000 := rfl; have B_171 := IQ_b I; omega) (by have FUe : FU = 100000 := rfl; have B_172 := IQ_b I; omega) (by have FUe : FU = 100000 := rfl; have B_173 := IQ_b I; omega) (by have FUe : FU = 100000 := rfl; have B_174 := IQ_b I; omega)) (fun r_175 z_170 => ?_)
          obtain ⟨p_176, p_177⟩ := z_170
          try have e_180 : (x2 + 1 : Int32).toInt = (x2 : Int32).toInt + (1 : Int32).toInt := by have B_181 := IQ_b I; exact add_i (by omega) (by omega)
          refine okM_seq (fun y_179 h_178 => ?_)
          have h_178' : y_179.toInt = (x2 + 1 : Int32).toInt := by rw [h_178]
          refine okM_lt (fun c_182 => ?_) (fun c_182 => ?_)
          · try have e_185 : (x4 + 1 : Int32).toInt = (x4 : Int32).toInt + (1 : Int32).toInt := by have B_186 := IQ_b I; exact add_i (by omega) (by omega)
            refine okM_seq (fun y_184 h_183 => ?_)
            have h_183' : y_184.toInt = (x4 + 1 : Int32).toInt := by rw [h_183]
            refine okM_mono (ih I (by have B_187 := IQ_b I; omega) (by have B_188 := IQ_b I; omega) (by have B_189 := IQ_b I; omega) (by have B_190 := IQ_b I; omega) (by have B_191 := IQ_b I; omega) (by have B_192 := IQ_b I; omega) (by have B_193 := IQ_b I; omega) (by have B_194 := IQ_b I; omega) (by have B_195 := IQ_b I; omega) (by have B_196 := IQ_b I; omega)) (fun r_198 u_199 z_197 => ?_)
            obtain ⟨I_u_199, G_u_199, p_200, p_201⟩ := z_197
            have F_u_199 : Fr [] [11, 12, 13] u u_199 := Fr_tr (Fr_rfl u) G_u_199 rfl rfl
            have g_202 : (u_199.1 1).toInt = (u.1 1).toInt := by rw [G_u_199.1 1 rfl]
            have g_203 : (u_199.1 4).toInt = (u.1 4).toInt := by rw [G_u_199.1 4 rfl]
            have g_204 : (u_199.1 9).toInt = (u.1 9).toInt := by rw [G_u_199.1 9 rfl]
            have g_205 : (u_199.1 19).toInt = (u.1 19).toInt := by rw [G_u_199.1 19 rfl]
            have g_206 : (ga u_199 10 x1).toInt = (ga u 10 x1).toInt := by show (u_199.2.1 10 _).toInt = _; rw [G_u_199.2.1 10 rfl]; rfl
            have g_207 : (ga u_199 24 x4).toInt = (ga u 24 x4).toInt := by show (u_199.2.1 24 _).toInt = _; rw [G_u_199.2.1 24 rfl]; rfl
            exact ⟨I_u_199, F_u_199, (by omega), (by omega)⟩
          · try have e_210 : (x3 + 1 : Int32).toInt = (x3 : Int32).toInt + (1 : Int32).toInt := by have B_211 := IQ_b I; exact add_i (by omega) (by omega)
            refine okM_seq (fun y_209 h_208 => ?_)
            have h_208' : y_209.toInt = (x3 + 1 : Int32).toInt := by rw [h_208]
            refine okM_gd (inb_of (by have B_212 := IQ_b I; omega) (by have B_213 := IQ_b I; omega)) ?_
            refine okM_seq (fun u_215 h_214 => ?_)
            have I_u_215 : IQ u_215 := by rw [h_214]; exact IQ_a11 I (by have B_216 := IQ_b I; omega) (by have B_217 := IQ_b I; omega)
            have F_u_215 : Fr [] [11, 12, 13] u u_215 := by rw [h_214]; exact Fr_sa (Fr_rfl u) rfl rfl rfl
            have g_218 : (ga u_215 10 x1).toInt = (ga u 10 x1).toInt := by rw [h_214]; rfl
            have g_219 : (ga u_215 24 x4).toInt = (ga u 24 x4).toInt := by rw [h_214]; rfl
            have g_220 : (u_215.1 1).toInt = (u.1 1).toInt := by rw [h_214]; rfl
            have g_221 : (u_215.1 4).toInt = (u.1 4).toInt := by rw [h_214]; rfl
            have g_222 : (u_215.1 9).toInt = (u.1 9).toInt := by rw [h_214]; rfl
            have g_223 : (u_215.1 19).toInt = (u.1 19).toInt := by rw [h_214]; rfl
            refine okM_gd (inb_of (by have B_224 := IQ_b I_u_215; omega) (by have B_225 := IQ_b I_u_215; omega)) ?_
            refine okM_seq (fun u_227 h_226 => ?_)
            have I_u_227 : IQ u_227 := by rw [h_226]; exact IQ_a12 I_u_215 (by have B_228 := IQ_b I_u_215; omega) (by have B_229 := IQ_b I_u_215; omega)
            have F_u_227 : Fr [] [11, 12, 13] u u_227 := by rw [h_226]; exact Fr_sa F_u_215 rfl rfl rfl
            have g_230 : (ga u_227 10 x1).toInt = (ga u_215 10 x1).toInt := by rw [h_226]; rfl
            have g_231 : (ga u_227 24 x4).toInt = (ga u_215 24 x4).toInt := by rw [h_226]; rfl
            have g_232 : (u_227.1 1).toInt = (u_215.1 1).toInt := by rw [h_226]; rfl
            have g_233 : (u_227.1 4).toInt = (u_215.1 4).toInt := by rw [h_226]; rfl
            have g_234 : (u_227.1 9).toInt = (u_215.1 9).toInt := by rw [h_226]; rfl
            have g_235 : (u_227.1 19).toInt = (u_215.1 19).toInt := by rw [h_226]; rfl
            refine okM_gd (inb_of (by have B_236 := IQ_b I_u_227; omega) (by have B_237 := IQ_b I_u_227; omega)) ?_
            try have e_238 : (8 * (ga u_227 24 x4) : Int32).toInt = 8 * ((ga u_227 24 x4) : Int32).toInt := by have B_239 := IQ_b I; have B_240 := IQ_b I_u_227; exact cmu_i l8 (by omega) (by omega)
            try have e_241 : ((8 * (ga u_227 24 x4)) + r_175 : Int32).toInt = ((8 * (ga u_227 24 x4)) : Int32).toInt + (r_175 : Int32).toInt := by have B_242 := IQ_b I; have B_243 := IQ_b I_u_227; exact add_i (by omega) (by omega)
            refine okM_gd (inb_of (by have B_244 := IQ_b I_u_227; omega) (by have B_245 := IQ_b I_u_227; omega)) ?_
            refine okM_gd (inb_of (by have B_246 := IQ_b I_u_227; omega) (by have B_247 := IQ_b I_u_227; omega)) ?_
            refine okM_seq (fun u_249 h_248 => ?_)
            have I_u_249 : IQ u_249 := by rw [h_248]; exact I_u_227
            have F_u_249 : Fr [] [11, 12, 13] u u_249 := by rw [h_248]; exact Fr_sa F_u_227 rfl rfl rfl
            have g_250 : (ga u_249 10 x1).toInt = (ga u_227 10 x1).toInt := by rw [h_248]; rfl
            have g_251 : (ga u_249 24 x4).toInt = (ga u_227 24 x4).toInt := by rw [h_248]; rfl
            have g_252 : (u_249.1 1).toInt = (u_227.1 1).toInt := by rw [h_248]; rfl
            have g_253 : (u_249.1 4).toInt = (u_227.1 4).toInt := by rw [h_248]; rfl
            have g_254 : (u_249.1 9).toInt = (u_227.1 9).toInt := by rw [h_248]; rfl
            have g_255 : (u_249.1 19).toInt = (u_227.1 19).toInt := by rw [h_248]; rfl
            try have e_258 : (x4 + 1 : Int32).toInt = (x4 : Int32).toInt + (1 : Int32).toInt := by have B_259 := IQ_b I; exact add_i (by omega) (by omega)
            refine okM_seq (fun y_257 h_256 => ?_)
            have h_256' : y_257.toInt = (x4 + 1 : Int32).toInt := by rw [h_256]
            refine okM_mono (ih I_u_249 (by have B_260 := IQ_b I_u_249; omega) (by have B_261 := IQ_b I_u_249; omega) (by have B_262 := IQ_b I_u_249; omega) (by have B_263 := IQ_b I_u_249; omega) (by have B_264 := IQ_b I_u_249; omega) (by have B_265 := IQ_b I_u_249; omega) (by have B_266 := IQ_b I_u_249; omega) (by have B_267 := IQ_b I_u_249; omega) (by have B_268 := IQ_b I_u_249; omega) (by have B_269 := IQ_b I_u_249; omega)) (fun r_271 u_272 z_270 => ?_)
            obtain ⟨I_u_272, G_u_272, p_273, p_274⟩ := z_270
            have F_u_272 : Fr [] [11, 12, 13] u u_272 := Fr_tr F_u_249 G_u_272 rfl rfl
            have g_275 : (u_272.1 1).toInt = (u_249.1 1).toInt := by rw [G_u_272.1 1 rfl]
            have g_276 : (u_272.1 4).toInt = (u_249.1 4).toInt := by rw [G_u_272.1 4 rfl]
            have g_277 : (u_272.1 9).toInt = (u_249.1 9).toInt := by rw [G_u_272.1 9 rfl]
            have g_278 : (u_272.1 19).toInt = (u_249.1 19).toInt := by rw [G_u_272.1 19 rfl]
            have g_279 : (ga u_272 10 x1).toInt = (ga u_249 10 x1).toInt := by show (u_272.2.1 10 _).toInt = _; rw [G_u_272.2.1 10 rfl]; rfl
            have g_280 : (ga u_272 24 x4).toInt = (ga u_249 24 x4).toInt := by show (u_272.2.1 24 _).toInt = _; rw [G_u_272.2.1 24 rfl]; rfl
            exact ⟨I_u_272, F_u_272, (by omega), (by omega)⟩
theorem kQ_SqlReaderModel_resolve {x1 : Int32} {u : St} (I : IQ u) (h0 : 0 ≤ x1.toInt) (h1 : x1.toInt < (u.1 4).toInt) (h2 : (ga u 10 x1).toInt = 4) : okM (mM_SqlReaderModel_resolve x1 u) (fun r v => IQ v ∧ Fr [] [11, 12, 13] u v ∧ 0 ≤ r.toInt ∧ r.toInt ≤ 7) := by
  have l0 : (0 : Int32).toInt = 0 := by decide
  have l3 : (3 : Int32).toInt = 3 := by decide
  have l4 : (4 : Int32).toInt = 4 := by decide
  have l7 : (7 : Int32).toInt = 7 := by decide
  have l10 : (10 : Int32).toInt = 10 := by decide
  rw [mM_SqlReaderModel_resolve]
  refine okM_mono (kQ_SqlReaderModel_resolve_L7 _ I (by have FUe : FU = 100000 := rfl; have B_1 := IQ_b I; omega) (by have FUe : FU = 100000 := rfl; have B_2 := IQ_b I; omega) (by have FUe : FU = 100000 := rfl; have B_3 := IQ_b I; omega) (by have FUe : FU = 100000 := rfl; have B_4 := IQ_b I; omega) (by have FUe : FU = 100000 := rfl; have B_5 := IQ_b I; omega) (by have FUe : FU = 100000 := rfl; have B_6 := IQ_b I; omega) (by have FUe : FU = 100000 := rfl; have B_7 := IQ_b I; omega) (by have FUe : FU = 100000 := rfl; have B_8 := IQ_b I; omega) (by have FUe : FU = 100000 := rfl; have B_9 := IQ_b I; omega) (by have FUe : FU = 100000 := rfl; have B_10 := IQ_b I; omega)) (fun r_12 u_13 z_11 => ?_)
  obtain ⟨I_u_13, G_u_13, p_14, p_15⟩ := z_11
  have F_u_13 : Fr [] [11, 12, 13] u u_13 := Fr_tr (Fr_rfl u) G_u_13 rfl rfl
  have g_16 : (u_13.1 1).toInt = (u.1 1).toInt := by rw [G_u_13.1 1 rfl]
  have g_17 : (u_13.1 4).toInt = (u.1 4).toInt := by rw [G_u_13.1 4 rfl]
  have g_18 : (u_13.1 9).toInt = (u.1 9).toInt := by rw [G_u_13.1 9 rfl]
  have g_19 : (u_13.1 19).toInt = (u.1 19).toInt := by rw [G_u_13.1 19 rfl]
  exact ⟨I_u_13, F_u_13, (by omega), (by omega)⟩
theorem kQ_SqlReaderModel_checkNode_J96 {x1 : Int32} {x2 : Int32} {x3 : Int32} {x4 : Int32} {s1 : Int32} {s2 : Int32} {u : St} (I : IQ u) (h0 : 0 ≤ x1.toInt) (h1 : x1.toInt < (u.1 4).toInt) (h2 : x2.toInt = (ga u 10 x1).toInt) (h3 : x3.toInt = (ga u 11 x1).toInt) (h4 : x4.toInt = (ga u 12 x1).toInt) (h5 : s1.toInt = x1.toInt) : okM (mM_SqlReaderModel_checkNode_J96 x1 x2 x3 x4 s1 s2 u) (fun r v => IQ v ∧ Fr [] [11, 12, 13, 33] u v ∧ 0 ≤ r.toInt ∧ r.toInt ≤ 8) := by
  have l0 : (0 : Int32).toInt = 0 := by decide
  have l1 : (1 : Int32).toInt = 1 := by decide
  have l2 : (2 : Int32).toInt = 2 := by decide
  have l3 : (3 : Int32).toInt = 3 := by decide
  have l4 : (4 : Int32).toInt = 4 := by decide
  have l6 : (6 : Int32).toInt = 6 := by decide
  have l8 : (8 : Int32).toInt = 8 := by decide
  have l9 : (9 : Int32).toInt = 9 := by decide
  have l10 : (10 : Int32).toInt = 10 := by decide
  have l16 : (16 : Int32).toInt = 16 := by decide
  have l23 : (23 : Int32).toInt = 23 := by decide
  have l24 : (24 : Int32).toInt = 24 := by decide
  have l28 : (28 : Int32).toInt = 28 := by decide
  rw [mM_SqlReaderModel_checkNode_J96]
  have N_x1 := IK_nd (IQ_IK I) x1
  refine okM_gd (inb_of (by have B_1 := IQ_b I; omega) (by have B_2 := IQ_b I; omega)) ?_
  refine okM_seq (fun u_4 h_3 => ?_)
  have I_u_4 : IQ u_4 := by rw [h_3]; exact I
  have F_u_4 : Fr [] [11, 12, 13, 33] u u_4 := by rw [h_3]; exact Fr_sa (Fr_rfl u) rfl rfl rfl
  have g_5 : (ga u_4 10 x1).toInt = (ga u 10 x1).toInt := by rw [h_3]; rfl
  have g_6 : (u_4.1 1).toInt = (u.1 1).toInt := by rw [h_3]; rfl
  have g_7 : (u_4.1 4).toInt = (u.1 4).toInt := by rw [h_3]; rfl
  have g_8 : (u_4.1 9).toInt = (u.1 9).toInt := by rw [h_3]; rfl
  have g_9 : (u_4.1 19).toInt = (u.1 19).toInt := by rw [h_3]; rfl
  refine okM_eq (fun c_10 c_10' => ?_) (fun c_10 => ?_)
  · refine okM_bM (kQ_SqlReaderModel_resolve I_u_4 (by have FUe : FU = 100000 := rfl; have B_12 := IQ_b I_u_4; have B_13 := IQ_b I; omega) (by have FUe : FU = 100000 := rfl; have B_14 := IQ_b I_u_4; have B_15 := IQ_b I; omega) (by have FUe : FU = 100000 := rfl; have B_16 := IQ_b I_u_4; have B_17 := IQ_b I; omega)) (fun r_18 u_19 z_11 => ?_)
    obtain ⟨I_u_19, G_u_19, p_20, p_21⟩ := z_11
    have F_u_19 : Fr [] [11, 12, 13, 33] u u_19 := Fr_tr F_u_4 G_u_19 rfl rfl
    have g_22 : (u_19.1 1).toInt = (u_4.1 1).toInt := by rw [G_u_19.1 1 rfl]
    have g_23 : (u_19.1 4).toInt = (u_4.1 4).toInt := by rw [G_u_19.1 4 rfl]
    have g_24 : (u_19.1 9).toInt = (u_4.1 9).toInt := by rw [G_u_19.1 9 rfl]
    have g_25 : (u_19.1 19).toInt = (u_4.1 19).toInt := by rw [G_u_19.1 19 rfl]
    have g_26 : (ga u_19 10 x1).toInt = (ga u_4 10 x1).toInt := by show (u_19.2.1 10 _).toInt = _; rw [G_u_19.2.1 10 rfl]; rfl
    exact okM_some ⟨I_u_19, F_u_19, (by omega), (by omega)⟩
  · refine okM_eq (fun c_27 c_27' => ?_) (fun c_27 => ?_)
    · refine okM_bP (kQ_SqlReaderModel_gives I_u_4 (by have FUe : FU = 100000 := rfl; have B_29 := IQ_b I_u_4; have B_30 := IQ_b I; omega) (by have FUe : FU = 100000 := rfl; have B_31 := IQ_b I_u_4; have B_32 := IQ_b I; omega)) (fun u_33 z_28 => ?_)
      obtain ⟨I_u_33, G_u_33⟩ := z_28
      have F_u_33 : Fr [] [11, 12, 13, 33] u u_33 := Fr_tr F_u_4 G_u_33 rfl rfl
      have g_34 : (u_33.1 1).toInt = (u_4.1 1).toInt := by rw [G_u_33.1 1 rfl]
      have g_35 : (u_33.1 4).toInt = (u_4.1 4).toInt := by rw [G_u_33.1 4 rfl]
      have g_36 : (u_33.1 9).toInt = (u_4.1 9).toInt := by rw [G_u_33.1 9 rfl]
      have g_37 : (u_33.1 19).toInt = (u_4.1 19).toInt := by rw [G_u_33.1 19 rfl]
      have g_38 : (ga u_33 10 x1).toInt = (ga u_4 10 x1).toInt := by show (u_33.2.1 10 _).toInt = _; rw [G_u_33.2.1 10 rfl]; rfl
      exact okM_some ⟨I_u_33, F_u_33, (by omega), (by omega)⟩
    · refine okM_eq (fun c_39 c_39' => ?_) (fun c_39 => ?_)
      · refine okM_bP (kQ_SqlReaderModel_gives I_u_4 (by have FUe : FU = 100000 := rfl; have B_41 := IQ_b I_u_4; have B_42 := IQ_b I; omega) (by have FUe : FU = 100000 := rfl; have B_43 := IQ_b I_u_4; have B_44 := IQ_b I; omega)) (fun u_45 z_40 => ?_)
        obtain ⟨I_u_45, G_u_45⟩ := z_40
        have F_u_45 : Fr [] [11, 12, 13, 33] u u_45 := Fr_tr F_u_4 G_u_45 rfl rfl
        have g_46 : (u_45.1 1).toInt = (u_4.1 1).toInt := by rw [G_u_45.1 1 rfl]
        have g_47 : (u_45.1 4).toInt = (u_4.1 4).toInt := by rw [G_u_45.1 4 rfl]
        have g_48 : (u_45.1 9).toInt = (u_4.1 9).toInt := by rw [G_u_45.1 9 rfl]
        have g_49 : (u_45.1 19).toInt = (u_4.1 19).toInt := by rw [G_u_45.1 19 rfl]
        have g_50 : (ga u_45 10 x1).toInt = (ga u_4 10 x1).toInt := by show (u_45.2.1 10 _).toInt = _; rw [G_u_45.2.1 10 rfl]; rfl
        exact okM_some ⟨I_u_45, F_u_45, (by omega), (by omega)⟩
      · refine okM_eq (fun c_51 c_51' => ?_) (fun c_51 => ?_)
        · refine okM_bP (kQ_SqlReaderModel_gives I_u_4 (by have FUe : FU = 100000 := rfl; have B_53 := IQ_b I_u_4; have B_54 := IQ_b I; omega) (by have FUe : FU = 100000 := rfl; have B_55 := IQ_b I_u_4; have B_56 := IQ_b I; omega)) (fun u_57 z_52 => ?_)
          obtain ⟨I_u_57, G_u_57⟩ := z_52
          have F_u_57 : Fr [] [11, 12, 13, 33] u u_57 := Fr_tr F_u_4 G_u_57 rfl rfl
          have g_58 : (u_57.1 1).toInt = (u_4.1 1).toInt := by rw [G_u_57.1 1 rfl]
          have g_59 : (u_57.1 4).toInt = (u_4.1 4).toInt := by rw [G_u_57.1 4 rfl]
          have g_60 : (u_57.1 9).toInt = (u_4.1 9).toInt := by rw [G_u_57.1 9 rfl]
          have g_61 : (u_57.1 19).toInt = (u_4.1 19).toInt := by rw [G_u_57.1 19 rfl]
          have g_62 : (ga u_57 10 x1).toInt = (ga u_4 10 x1).toInt := by show (u_57.2.1 10 _).toInt = _; rw [G_u_57.2.1 10 rfl]; rfl
          exact okM_some ⟨I_u_57, F_u_57, (by omega), (by omega)⟩
        · refine okM_eq (fun c_63 c_63' => ?_) (fun c_63 => ?_)
          · rw [mM_SqlReaderModel_checkNode_J146]
            refine okM_bP (kQ_SqlReaderModel_gives I_u_4 (by have FUe : FU = 100000 := rfl; have B_65 := IQ_b I_u_4; have B_66 := IQ_b I; omega) (by have FUe : FU = 100000 := rfl; have B_67 := IQ_b I_u_4; have B_68 := IQ_b I; omega)) (fun u_69 z_64 => ?_)
            obtain ⟨I_u_69, G_u_69⟩ := z_64
            have F_u_69 : Fr [] [11, 12, 13, 33] u u_69 := Fr_tr F_u_4 G_u_69 rfl rfl
            have g_70 : (u_69.1 1).toInt = (u_4.1 1).toInt := by rw [G_u_69.1 1 rfl]
            have g_71 : (u_69.1 4).toInt = (u_4.1 4).toInt := by rw [G_u_69.1 4 rfl]
            have g_72 : (u_69.1 9).toInt = (u_4.1 9).toInt := by rw [G_u_69.1 9 rfl]
            have g_73 : (u_69.1 19).toInt = (u_4.1 19).toInt := by rw [G_u_69.1 19 rfl]
            have g_74 : (ga u_69 10 x1).toInt = (ga u_4 10 x1).toInt := by show (u_69.2.1 10 _).toInt = _; rw [G_u_69.2.1 10 rfl]; rfl
            refine okM_bP (kQ_SqlReaderModel_typeOf I_u_69 (by have FUe : FU = 100000 := rfl; have B_76 := IQ_b I_u_69; have B_77 := IQ_b I; omega) (by have FUe : FU = 100000 := rfl; have B_78 := IQ_b I_u_69; have B_79 := IQ_b I; omega)) (fun r_80 z_75 => ?_)
            refine okM_gd (inb_of (by have B_81 := IQ_b I_u_69; omega) (by have B_82 := IQ_b I_u_69; omega)) ?_
            refine okM_seq (fun u_84 h_83 => ?_)
            have I_u_84 : IQ u_84 := by rw [h_83]; exact I_u_69
            have F_u_84 : Fr [] [11, 12, 13, 33] u u_84 := by rw [h_83]; exact Fr_sa F_u_69 rfl rfl rfl
            have g_85 : (ga u_84 10 x1).toInt = (ga u_69 10 x1).toInt := by rw [h_83]; rfl
            have g_86 : (u_84.1 1).toInt = (u_69.1 1).toInt := by rw [h_83]; rfl
            have g_87 : (u_84.1 4).toInt = (u_69.1 4).toInt := by rw [h_83]; rfl
            have g_88 : (u_84.1 9).toInt = (u_69.1 9).toInt := by rw [h_83]; rfl
            have g_89 : (u_84.1 19).toInt = (u_69.1 19).toInt := by rw [h_83]; rfl
            refine okM_bP (kQ_SqlReaderModel_typeOf I_u_84 (by have FUe : FU = 100000 := rfl; have B_91 := IQ_b I_u_84; have B_92 := IQ_b I; omega) (by have FUe : FU = 100000 := rfl; have B_93 := IQ_b I_u_84; have B_94 := IQ_b I; omega)) (fun r_95 z_90 => ?_)
            refine okM_eq (fun c_96 c_96' => ?_) (fun c_96 => ?_)
            · refine okM_bP (kM_SqlReaderModel_error (IQ_IB I_u_84)) (fun r_98 z_97 => ?_)
              obtain ⟨p_99, p_100⟩ := z_97
              exact okM_some ⟨I_u_84, F_u_84, (by omega), (by omega)⟩
            · refine okM_bP (kM_SqlReaderModel_error (IQ_IB I_u_84)) (fun r_102 z_101 => ?_)
              obtain ⟨p_103, p_104⟩ := z_101
              exact okM_some ⟨I_u_84, F_u_84, (by omega), (by omega)⟩
          · refine okM_eq (fun c_105 c_105' => ?_) (fun c_105 => ?_)
            · rw [mM_SqlReaderModel_checkNode_J146]
              refine okM_bP (kQ_SqlReaderModel_gives I_u_4 (by have FUe : FU = 100000 := rfl; have B_107 := IQ_b I_u_4; have B_108 := IQ_b I; omega) (by have FUe : FU = 100000 := rfl; have B_109 := IQ_b I_u_4; have B_110 := IQ_b I; omega)) (fun u_111 z_106 => ?_)
              obtain ⟨I_u_111, G_u_111⟩ := z_106
              have F_u_111 : Fr [] [11, 12, 13, 33] u u_111 := Fr_tr F_u_4 G_u_111 rfl rfl
              have g_112 : (u_111.1 1).toInt = (u_4.1 1).toInt := by rw [G_u_111.1 1 rfl]
              have g_113 : (u_111.1 4).toInt = (u_4.1 4).toInt := by rw [G_u_111.1 4 rfl]
              have g_114 : (u_111.1 9).toInt = (u_4.1 9).toInt := by rw [G_u_111.1 9 rfl]
              have g_115 : (u_111.1 19).toInt = (u_4.1 19).toInt := by rw [G_u_111.1 19 rfl]
              have g_116 : (ga u_111 10 x1).toInt = (ga u_4 10 x1).toInt := by show (u_111.2.1 10 _).toInt = _; rw [G_u_111.2.1 10 rfl]; rfl
              refine okM_bP (kQ_SqlReaderModel_typeOf I_u_111 (by have FUe : FU = 100000 := rfl; have B_118 := IQ_b I_u_111; have B_119 := IQ_b I; omega) (by have FUe : FU = 100000 := rfl; have B_120 := IQ_b I_u_111; have B_121 := IQ_b I; omega)) (fun r_122 z_117 => ?_)
              refine okM_gd (inb_of (by have B_123 := IQ_b I_u_111; omega) (by have B_124 := IQ_b I_u_111; omega)) ?_
              refine okM_seq (fun u_126 h_125 => ?_)
              have I_u_126 : IQ u_126 := by rw [h_125]; exact I_u_111
              have F_u_126 : Fr [] [11, 12, 13, 33] u u_126 := by rw [h_125]; exact Fr_sa F_u_111 rfl rfl rfl
              have g_127 : (ga u_126 10 x1).toInt = (ga u_111 10 x1).toInt := by rw [h_125]; rfl
              have g_128 : (u_126.1 1).toInt = (u_111.1 1).toInt := by rw [h_125]; rfl
              have g_129 : (u_126.1 4).toInt = (u_111.1 4).toInt := by rw [h_125]; rfl
              have g_130 : (u_126.1 9).toInt = (u_111.1 9).toInt := by rw [h_125]; rfl
              have g_131 : (u_126.1 19).toInt = (u_111.1 19).toInt := by rw [h_125]; rfl
              refine okM_bP (kQ_SqlReaderModel_typeOf I_u_126 (by have FUe : FU = 100000 := rfl; have B_133 := IQ_b I_u_126; have B_134 := IQ_b I; omega) (by have FUe : FU = 100000 := rfl; have B_135 := IQ_b I_u_126; have B_136 := IQ_b I; omega)) (fun r_137 z_132 => ?_)
              refine okM_eq (fun c_138 c_138' => ?_) (fun c_138 => ?_)
              · refine okM_bP (kM_SqlReaderModel_error (IQ_IB I_u_126)) (fun r_140 z_139 => ?_)
                obtain ⟨p_141, p_142⟩ := z_139
                exact okM_some ⟨I_u_126, F_u_126, (by omega), (by omega)⟩
              · refine okM_bP (kM_SqlReaderModel_error (IQ_IB I_u_126)) (fun r_144 z_143 => ?_)
                obtain ⟨p_145, p_146⟩ := z_143
                exact okM_some ⟨I_u_126, F_u_126, (by omega), (by omega)⟩
            · refine okM_le (fun c_147 => ?_) (fun c_147 => ?_)
              · rw [mM_SqlReaderModel_checkNode_J202]
                refine okM_lt (fun c_148 => ?_) (fun c_148 => ?_)
                · exact okM_some ⟨I_u_4, F_u_4, (by omega), (by omega)⟩
                · refine okM_eq (fun c_149 c_149' => ?_) (fun c_149 => ?_)
                  · exact okM_some ⟨I_u_4, F_u_4, (by omega), (by omega)⟩
                  · refine okM_le (fun c_150 => ?_) (fun c_150 => ?_)
                    · refine okM_eq (fun c_151 c_151' => ?_) (fun c_151 => ?_)
                      · rw [mM_SqlReaderModel_checkNode_J237]
                        refine okM_bM (kQ_SqlReaderModel_fits I_u_4 (by have FUe : FU = 100000 := rfl; have B_153 := IQ_b I_u_4; have B_154 := IQ_b I; omega) (by have FUe : FU = 100000 := rfl; have B_155 := IQ_b I_u_4; have B_156 := IQ_b I; omega)) (fun r_157 u_158 z_152 => ?_)
                        obtain ⟨I_u_158, G_u_158, p_159, p_160⟩ := z_152
                        have F_u_158 : Fr [] [11, 12, 13, 33] u u_158 := Fr_tr F_u_4 G_u_158 rfl rfl
                        have g_161 : (u_158.1 1).toInt = (u_4.1 1).toInt := by rw [G_u_158.1 1 rfl]
                        have g_162 : (u_158.1 4).toInt = (u_4.1 4).toInt := by rw [G_u_158.1 4 rfl]
                        have g_163 : (u_158.1 9).toInt = (u_4.1 9).toInt := by rw [G_u_158.1 9 rfl]
                        have g_164 : (u_158.1 19).toInt = (u_4.1 19).toInt := by rw [G_u_158.1 19 rfl]
                        have g_165 : (ga u_158 10 x1).toInt = (ga u_4 10 x1).toInt := by show (u_158.2.1 10 _).toInt = _; rw [G_u_158.2.1 10 rfl]; rfl
                        refine okM_eq (fun c_166 c_166' => ?_) (fun c_166 => ?_)
                        · refine okM_bP (kM_SqlReaderModel_error (IQ_IB I_u_158)) (fun r_168 z_167 => ?_)
                          obtain ⟨p_169, p_170⟩ := z_167
                          exact okM_some ⟨I_u_158, F_u_158, (by omega), (by omega)⟩
                        · refine okM_lt (fun c_171 => ?_) (fun c_171 => ?_)
                          · refine okM_bP (kM_SqlReaderModel_error (IQ_IB I_u_158)) (fun r_173 z_172 => ?_)
                            obtain ⟨p_174, p_175⟩ := z_172
                            exact okM_some ⟨I_u_158, F_u_158, (by omega), (by omega)⟩
                          · refine okM_bM (kQ_SqlReaderModel_fits I_u_158 (by have FUe : FU = 100000 := rfl; have B_177 := IQ_b I_u_158; have B_178 := IQ_b I; omega) (by have FUe : FU = 100000 := rfl; have B_179 := IQ_b I_u_158; have B_180 := IQ_b I; omega)) (fun r_181 u_182 z_176 => ?_)
                            obtain ⟨I_u_182, G_u_182, p_183, p_184⟩ := z_176
                            have F_u_182 : Fr [] [11, 12, 13, 33] u u_182 := Fr_tr F_u_158 G_u_182 rfl rfl
                            have g_185 : (u_182.1 1).toInt = (u_158.1 1).toInt := by rw [G_u_182.1 1 rfl]
                            have g_186 : (u_182.1 4).toInt = (u_158.1 4).toInt := by rw [G_u_182.1 4 rfl]
                            have g_187 : (u_182.1 9).toInt = (u_158.1 9).toInt := by rw [G_u_182.1 9 rfl]
                            have g_188 : (u_182.1 19).toInt = (u_158.1 19).toInt := by rw [G_u_182.1 19 rfl]
                            have g_189 : (ga u_182 10 x1).toInt = (ga u_158 10 x1).toInt := by show (u_182.2.1 10 _).toInt = _; rw [G_u_182.2.1 10 rfl]; rfl
                            refine okM_eq (fun c_190 c_190' => ?_) (fun c_190 => ?_)
                            · refine okM_bP (kM_SqlReaderModel_error (IQ_IB I_u_182)) (fun r_192 z_191 => ?_)
                              obtain ⟨p_193, p_194⟩ := z_191
                              exact okM_some ⟨I_u_182, F_u_182, (by omega), (by omega)⟩
                            · refine okM_bP (kM_SqlReaderModel_error (IQ_IB I_u_182)) (fun r_196 z_195 => ?_)
                              obtain ⟨p_197, p_198⟩ := z_195
                              exact okM_some ⟨I_u_182, F_u_182, (by omega), (by omega)⟩
                      · rw [mM_SqlReaderModel_checkNode_J237]
                        refine okM_bM (kQ_SqlReaderModel_fits I_u_4 (by have FUe : FU = 100000 := rfl; have B_200 := IQ_b I_u_4; have B_201 := IQ_b I; omega) (by have FUe : FU = 100000 := rfl; have B_202 := IQ_b I_u_4; have B_203 := IQ_b I; omega)) (fun r_204 u_205 z_199 => ?_)
                        obtain ⟨I_u_205, G_u_205, p_206, p_207⟩ := z_199
                        have F_u_205 : Fr [] [11, 12, 13, 33] u u_205 := Fr_tr F_u_4 G_u_205 rfl rfl
                        have g_208 : (u_205.1 1).toInt = (u_4.1 1).toInt := by rw [G_u_205.1 1 rfl]
                        have g_209 : (u_205.1 4).toInt = (u_4.1 4).toInt := by rw [G_u_205.1 4 rfl]
                        have g_210 : (u_205.1 9).toInt = (u_4.1 9).toInt := by rw [G_u_205.1 9 rfl]
                        have g_211 : (u_205.1 19).toInt = (u_4.1 19).toInt := by rw [G_u_205.1 19 rfl]
                        have g_212 : (ga u_205 10 x1).toInt = (ga u_4 10 x1).toInt := by show (u_205.2.1 10 _).toInt = _; rw [G_u_205.2.1 10 rfl]; rfl
                        refine okM_eq (fun c_213 c_213' => ?_) (fun c_213 => ?_)
                        · refine okM_bP (kM_SqlReaderModel_error (IQ_IB I_u_205)) (fun r_215 z_214 => ?_)
                          obtain ⟨p_216, p_217⟩ := z_214
                          exact okM_some ⟨I_u_205, F_u_205, (by omega), (by omega)⟩
                        · refine okM_lt (fun c_218 => ?_) (fun c_218 => ?_)
                          · refine okM_bP (kM_SqlReaderModel_error (IQ_IB I_u_205)) (fun r_220 z_219 => ?_)
                            obtain ⟨p_221, p_222⟩ := z_219
                            exact okM_some ⟨I_u_205, F_u_205, (by omega), (by omega)⟩
                          · refine okM_bM (kQ_SqlReaderModel_fits I_u_205 (by have FUe : FU = 100000 := rfl; have B_224 := IQ_b I_u_205; have B_225 := IQ_b I; omega) (by have FUe : FU = 100000 := rfl; have B_226 := IQ_b I_u_205; have B_227 := IQ_b I; omega)) (fun r_228 u_229 z_223 => ?_)
                            obtain ⟨I_u_229, G_u_229, p_230, p_231⟩ := z_223
                            have F_u_229 : Fr [] [11, 12, 13, 33] u u_229 := Fr_tr F_u_205 G_u_229 rfl rfl
                            have g_232 : (u_229.1 1).toInt = (u_205.1 1).toInt := by rw [G_u_229.1 1 rfl]
                            have g_233 : (u_229.1 4).toInt = (u_205.1 4).toInt := by rw [G_u_229.1 4 rfl]
                            have g_234 : (u_229.1 9).toInt = (u_205.1 9).toInt := by rw [G_u_229.1 9 rfl]
                            have g_235 : (u_229.1 19).toInt = (u_205.1 19).toInt := by rw [G_u_229.1 19 rfl]
                            have g_236 : (ga u_229 10 x1).toInt = (ga u_205 10 x1).toInt := by show (u_229.2.1 10 _).toInt = _; rw [G_u_229.2.1 10 rfl]; rfl
                            refine okM_eq (fun c_237 c_237' => ?_) (fun c_237 => ?_)
                            · refine okM_bP (kM_SqlReaderModel_error (IQ_IB I_u_229)) (fun r_239 z_238 => ?_)
                              obtain ⟨p_240, p_241⟩ := z_238
                              exact okM_some ⟨I_u_229, F_u_229, (by omega), (by omega)⟩
                            · refine okM_bP (kM_SqlReaderModel_error (IQ_IB I_u_229)) (fun r_243 z_242 => ?_)
                              obtain ⟨p_244, p_245⟩ := z_242
                              exact okM_some ⟨I_u_229, F_u_229, (by omega), (by omega)⟩
                    · rw [mM_SqlReaderModel_checkNode_J237]
                      refine okM_bM (kQ_SqlReaderModel_fits I_u_4 (by have FUe : FU = 100000 := rfl; have B_247 := IQ_b I_u_4; have B_248 := IQ_b I; omega) (by have FUe : FU = 100000 := rfl; have B_249 := IQ_b I_u_4; have B_250 := IQ_b I; omega)) (fun r_251 u_252 z_246 => ?_)
                      obtain ⟨I_u_252, G_u_252, p_253, p_254⟩ := z_246
                      have F_u_252 : Fr [] [11, 12, 13, 33] u u_252 := Fr_tr F_u_4 G_u_252 rfl rfl
                      have g_255 : (u_252.1 1).toInt = (u_4.1 1).toInt := by rw [G_u_252.1 1 rfl]
                      have g_256 : (u_252.1 4).toInt = (u_4.1 4).toInt := by rw [G_u_252.1 4 rfl]
                      have g_257 : (u_252.1 9).toInt = (u_4.1 9).toInt := by rw [G_u_252.1 9 rfl]
                      have g_258 : (u_252.1 19).toInt = (u_4.1 19).toInt := by rw [G_u_252.1 19 rfl]
                      have g_259 : (ga u_252 10 x1).toInt = (ga u_4 10 x1).toInt := by show (u_252.2.1 10 _).toInt = _; rw [G_u_252.2.1 10 rfl]; rfl
                      refine okM_eq (fun c_260 c_260' => ?_) (fun c_260 => ?_)
                      · refine okM_bP (kM_SqlReaderModel_error (IQ_IB I_u_252)) (fun r_262 z_261 => ?_)
                        obtain ⟨p_263, p_264⟩ := z_261
                        exact okM_some ⟨I_u_252, F_u_252, (by omega), (by omega)⟩
                      · refine okM_lt (fun c_265 => ?_) (fun c_265 => ?_)
                        · refine okM_bP (kM_SqlReaderModel_error (IQ_IB I_u_252)) (fun r_267 z_266 => ?_)
                          obtain ⟨p_268, p_269⟩ := z_266
                          exact okM_some ⟨I_u_252, F_u_252, (by omega), (by omega)⟩
                        · refine okM_bM (kQ_SqlReaderModel_fits I_u_252 (by have FUe : FU = 100000 := rfl; have B_271 := IQ_b I_u_252; have B_272 := IQ_b I; omega) (by have FUe : FU = 100000 := rfl; have B_273 := IQ_b I_u_252; have B_274 := IQ_b I; omega)) (fun r_275 u_276 z_270 => ?_)
                          obtain ⟨I_u_276, G_u_276, p_277, p_278⟩ := z_270
                          have F_u_276 : Fr [] [11, 12, 13, 33] u u_276 := Fr_tr F_u_252 G_u_276 rfl rfl
                          have g_279 : (u_276.1 1).toInt = (u_252.1 1).toInt := by rw [G_u_276.1 1 rfl]
                          have g_280 : (u_276.1 4).toInt = (u_252.1 4).toInt := by rw [G_u_276.1 4 rfl]
                          have g_281 : (u_276.1 9).toInt = (u_252.1 9).toInt := by rw [G_u_276.1 9 rfl]
                          have g_282 : (u_276.1 19).toInt = (u_252.1 19).toInt := by rw [G_u_276.1 19 rfl]
                          have g_283 : (ga u_276 10 x1).toInt = (ga u_252 10 x1).toInt := by show (u_276.2.1 10 _).toInt = _; rw [G_u_276.2.1 10 rfl]; rfl
                          refine okM_eq (fun c_284 c_284' => ?_) (fun c_284 => ?_)
                          · refine okM_bP (kM_SqlReaderModel_error (IQ_IB I_u_276)) (fun r_286 z_285 => ?_)
                            obtain ⟨p_287, p_288⟩ := z_285
                            exact okM_some ⟨I_u_276, F_u_276, (by omega), (by omega)⟩
                          · refine okM_bP (kM_SqlReaderModel_error (IQ_IB I_u_276)) (fun r_290 z_289 => ?_)
                            obtain ⟨p_291, p_292⟩ := z_289
                            exact okM_some ⟨I_u_276, F_u_276, (by omega), (by omega)⟩
              · refine okM_le (fun c_293 => ?_) (fun c_293 => ?_)
                · rw [mM_SqlReaderModel_checkNode_J202]
                  refine okM_lt (fun c_294 => ?_) (fun c_294 => ?_)
                  · exact okM_some ⟨I_u_4, F_u_4, (by omega), (by omega)⟩
                  · refine okM_eq (fun c_295 c_295' => ?_) (fun c_295 => ?_)
                    · exact okM_some ⟨I_u_4, F_u_4, (by omega), (by omega)⟩
                    · refine okM_le (fun c_296 => ?_) (fun c_296 => ?_)
                      · refine okM_eq (fun c_297 c_297' => ?_) (fun c_297 => ?_)
                        · rw [mM_SqlReaderModel_checkNode_J237]
                          refine okM_bM (kQ_SqlReaderModel_fits I_u_4 (by have FUe : FU = 100000 := rfl; have B_299 := IQ_b I_u_4; have B_300 := IQ_b I; omega) (by have FUe : FU = 100000 := rfl; have B_301 := IQ_b I_u_4; have B_302 := IQ_b I; omega)) (fun r_303 u_304 z_298 => ?_)
                          obtain ⟨I_u_304, G_u_304, p_305, p_306⟩ := z_298
                          have F_u_304 : Fr [] [11, 12, 13, 33] u u_304 := Fr_tr F_u_4 G_u_304 rfl rfl
                          have g_307 : (u_304.1 1).toInt = (u_4.1 1).toInt := by rw [G_u_304.1 1 rfl]
                          have g_308 : (u_304.1 4).toInt = (u_4.1 4).toInt := by rw [G_u_304.1 4 rfl]
                          have g_309 : (u_304.1 9).toInt = (u_4.1 9).toInt := by rw [G_u_304.1 9 rfl]
                          have g_310 : (u_304.1 19).toInt = (u_4.1 19).toInt := by rw [G_u_304.1 19 rfl]
                          have g_311 : (ga u_304 10 x1).toInt = (ga u_4 10 x1).toInt := by show (u_304.2.1 10 _).toInt = _; rw [G_u_304.2.1 10 rfl]; rfl
                          refine okM_eq (fun c_312 c_312' => ?_) (fun c_312 => ?_)
                          · refine okM_bP (kM_SqlReaderModel_error (IQ_IB I_u_304)) (fun r_314 z_313 => ?_)
                            obtain ⟨p_315, p_316⟩ := z_313
                            exact okM_some ⟨I_u_304, F_u_304, (by omega), (by omega)⟩
                          · refine okM_lt (fun c_317 => ?_) (fun c_317 => ?_)
                            · refine okM_bP (kM_SqlReaderModel_error (IQ_IB I_u_304)) (fun r_319 z_318 => ?_)
                              obtain ⟨p_320, p_321⟩ := z_318
                              exact okM_some ⟨I_u_304, F_u_304, (by omega), (by omega)⟩
                            · refine okM_bM (kQ_SqlReaderModel_fits I_u_304 (by have FUe : FU = 100000 := rfl; have B_323 := IQ_b I_u_304; have B_324 := IQ_b I; omega) (by have FUe : FU = 100000 := rfl; have B_325 := IQ_b I_u_304; have B_326 := IQ_b I; omega)) (fun r_327 u_328 z_322 => ?_)
                              obtain ⟨I_u_328, G_u_328, p_329, p_330⟩ := z_322
                              have F_u_328 : Fr [] [11, 12, 13, 33] u u_328 := Fr_tr F_u_304 G_u_328 rfl rfl
                              have g_331 : (u_328.1 1).toInt = (u_304.1 1).toInt := by rw [G_u_328.1 1 rfl]
                              have g_332 : (u_328.1 4).toInt = (u_304.1 4).toInt := by rw [G_u_328.1 4 rfl]
                              have g_333 : (u_328.1 9).toInt = (u_304.1 9).toInt := by rw [G_u_328.1 9 rfl]
                              have g_334 : (u_328.1 19).toInt = (u_304.1 19).toInt := by rw [G_u_328.1 19 rfl]
                              have g_335 : (ga u_328 10 x1).toInt = (ga u_304 10 x1).toInt := by show (u_328.2.1 10 _).toInt = _; rw [G_u_328.2.1 10 rfl]; rfl
                              refine okM_eq (fun c_336 c_336' => ?_) (fun c_336 => ?_)
                              · refine okM_bP (kM_SqlReaderModel_error (IQ_IB I_u_328)) (fun r_338 z_337 => ?_)
                                obtain ⟨p_339, p_340⟩ := z_337
                                exact okM_some ⟨I_u_328, F_u_328, (by omega), (by omega)⟩
                              · refine okM_bP (kM_SqlReaderModel_error (IQ_IB I_u_328)) (fun r_342 z_341 => ?_)
                                obtain ⟨p_343, p_344⟩ := z_341
                                exact okM_some ⟨I_u_328, F_u_328, (by omega), (by omega)⟩
                        · rw [mM_SqlReaderModel_checkNode_J237]
                          refine okM_bM (kQ_SqlReaderModel_fits I_u_4 (by have FUe : FU = 100000 := rfl; have B_346 := IQ_b I_u_4; have B_347 := IQ_b I; omega) (by have FUe : FU = 100000 := rfl; have B_348 := IQ_b I_u_4; have B_349 := IQ_b I; omega)) (fun r_350 u_351 z_345 => ?_)
                          obtain ⟨I_u_351, G_u_351, p_352, p_353⟩ := z_345
                          have F_u_351 : Fr [] [11, 12, 13, 33] u u_351 := Fr_tr F_u_4 G_u_351 rfl rfl
                          have g_354 : (u_351.1 1).toInt = (u_4.1 1).toInt := by rw [G_u_351.1 1 rfl]
                          have g_355 : (u_351.1 4).toInt = (u_4.1 4).toInt := by rw [G_u_351.1 4 rfl]
                          have g_356 : (u_351.1 9).toInt = (u_4.1 9).toInt := by rw [G_u_351.1 9 rfl]
                          have g_357 : (u_351.1 19).toInt = (u_4.1 19).toInt := by rw [G_u_351.1 19 rfl]
                          have g_358 : (ga u_351 10 x1).toInt = (ga u_4 10 x1).toInt := by show (u_351.2.1 10 _).toInt = _; rw [G_u_351.2.1 10 rfl]; rfl
                          refine okM_eq (fun c_359 c_359' => ?_) (fun c_359 => ?_)
                          · refine okM_bP (kM_SqlReaderModel_error (IQ_IB I_u_351)) (fun r_361 z_360 => ?_)
                            obtain ⟨p_362, p_363⟩ := z_360
                            exact okM_some ⟨I_u_351, F_u_351, (by omega), (by omega)⟩
                          · refine okM_lt (fun c_364 => ?_) (fun c_364 => ?_)
                            · refine okM_bP (kM_SqlReaderModel_error (IQ_IB I_u_351)) (fun r_366 z_365 => ?_)
                              obtain ⟨p_367, p_368⟩ := z_365
                              exact okM_some ⟨I_u_351, F_u_351, (by omega), (by omega)⟩
                            · refine okM_bM (kQ_SqlReaderModel_fits I_u_351 (by have FUe : FU = 100000 := rfl; have B_370 := IQ_b I_u_351; have B_371 := IQ_b I; omega) (by have FUe : FU = 100000 := rfl; have B_372 := IQ_b I_u_351; have B_373 := IQ_b I; omega)) (fun r_374 u_375 z_369 => ?_)
                              obtain ⟨I_u_375, G_u_375, p_376, p_377⟩ := z_369
                              have F_u_375 : Fr [] [11, 12, 13, 33] u u_375 := Fr_tr F_u_351 G_u_375 rfl rfl
                              have g_378 : (u_375.1 1).toInt = (u_351.1 1).toInt := by rw [G_u_375.1 1 rfl]
                              have g_379 : (u_375.1 4).toInt = (u_351.1 4).toInt := by rw [G_u_375.1 4 rfl]
                              have g_380 : (u_375.1 9).toInt = (u_351.1 9).toInt := by rw [G_u_375.1 9 rfl]
                              have g_381 : (u_375.1 19).toInt = (u_351.1 19).toInt := by rw [G_u_375.1 19 rfl]
                              have g_382 : (ga u_375 10 x1).toInt = (ga u_351 10 x1).toInt := by show (u_375.2.1 10 _).toInt = _; rw [G_u_375.2.1 10 rfl]; rfl
                              refine okM_eq (fun c_383 c_383' => ?_) (fun c_383 => ?_)
                              · refine okM_bP (kM_SqlReaderModel_error (IQ_IB I_u_375)) (fun r_385 z_384 => ?_)
                                obtain ⟨p_386, p_387⟩ := z_384
                                exact okM_some ⟨I_u_375, F_u_375, (by omega), (by omega)⟩
                              · refine okM_bP (kM_SqlReaderModel_error (IQ_IB I_u_375)) (fun r_389 z_388 => ?_)
                                obtain ⟨p_390, p_391⟩ := z_388
                                exact okM_some ⟨I_u_375, F_u_375, (by omega), (by omega)⟩
                      · rw [mM_SqlReaderModel_checkNode_J237]
                        refine okM_bM (kQ_SqlReaderModel_fits I_u_4 (by have FUe : FU = 100000 := rfl; have B_393 := IQ_b I_u_4; have B_394 := IQ_b I; omega) (by have FUe : FU = 100000 := rfl; have B_395 := IQ_b I_u_4; have B_396 := IQ_b I; omega)) (fun r_397 u_398 z_392 => ?_)
                        obtain ⟨I_u_398, G_u_398, p_399, p_400⟩ := z_392
                        have F_u_398 : Fr [] [11, 12, 13, 33] u u_398 := Fr_tr F_u_4 G_u_398 rfl rfl
                        have g_401 : (u_398.1 1).toInt = (u_4.1 1).toInt := by rw [G_u_398.1 1 rfl]
                        have g_402 : (u_398.1 4).toInt = (u_4.1 4).toInt := by rw [G_u_398.1 4 rfl]
                        have g_403 : (u_398.1 9).toInt = (u_4.1 9).toInt := by rw [G_u_398.1 9 rfl]
                        have g_404 : (u_398.1 19).toInt = (u_4.1 19).toInt := by rw [G_u_398.1 19 rfl]
                        have g_405 : (ga u_398 10 x1).toInt = (ga u_4 10 x1).toInt := by show (u_398.2.1 10 _).toInt = _; rw [G_u_398.2.1 10 rfl]; rfl
                        refine okM_eq (fun c_406 c_406' => ?_) (fun c_406 => ?_)
                        · refine okM_bP (kM_SqlReaderModel_error (IQ_IB I_u_398)) (fun r_408 z_407 => ?_)
                          obtain ⟨p_409, p_410⟩ := z_407
                          exact okM_some ⟨I_u_398, F_u_398, (by omega), (by omega)⟩
                        · refine okM_lt (fun c_411 => ?_) (fun c_411 => ?_)
                          · refine okM_bP (kM_SqlReaderModel_error (IQ_IB I_u_398)) (fun r_413 z_412 => ?_)
                            obtain ⟨p_414, p_415⟩ := z_412
                            exact okM_some ⟨I_u_398, F_u_398, (by omega), (by omega)⟩
                          · refine okM_bM (kQ_SqlReaderModel_fits I_u_398 (by have FUe : FU = 100000 := rfl; have B_417 := IQ_b I_u_398; have B_418 := IQ_b I; omega) (by have FUe : FU = 100000 := rfl; have B_419 := IQ_b I_u_398; have B_420 := IQ_b I; omega)) (fun r_421 u_422 z_416 => ?_)
                            obtain ⟨I_u_422, G_u_422, p_423, p_424⟩ := z_416
                            have F_u_422 : Fr [] [11, 12, 13, 33] u u_422 := Fr_tr F_u_398 G_u_422 rfl rfl
                            have g_425 : (u_422.1 1).toInt = (u_398.1 1).toInt := by rw [G_u_422.1 1 rfl]
                            have g_426 : (u_422.1 4).toInt = (u_398.1 4).toInt := by rw [G_u_422.1 4 rfl]
                            have g_427 : (u_422.1 9).toInt = (u_398.1 9).toInt := by rw [G_u_422.1 9 rfl]
                            have g_428 : (u_422.1 19).toInt = (u_398.1 19).toInt := by rw [G_u_422.1 19 rfl]
                            have g_429 : (ga u_422 10 x1).toInt = (ga u_398 10 x1).toInt := by show (u_422.2.1 10 _).toInt = _; rw [G_u_422.2.1 10 rfl]; rfl
                            refine okM_eq (fun c_430 c_430' => ?_) (fun c_430 => ?_)
                            · refine okM_bP (kM_SqlReaderModel_error (IQ_IB I_u_422)) (fun r_432 z_431 => ?_)
                              obtain ⟨p_433, p_434⟩ := z_431
                              exact okM_some ⟨I_u_422, F_u_422, (by omega), (by omega)⟩
                            · refine okM_bP (kM_SqlReaderModel_error (IQ_IB I_u_422)) (fun r_436 z_435 => ?_)
                              obtain ⟨p_437, p_438⟩ := z_435
                              exact okM_some ⟨I_u_422, F_u_422, (by omega), (by omega)⟩
                · refine okM_bM (kQ_SqlReaderModel_compared I_u_4 (by have FUe : FU = 100000 := rfl; have B_440 := IQ_b I_u_4; have B_441 := IQ_b I; omega) (by have FUe : FU = 100000 := rfl; have B_442 := IQ_b I_u_4; have B_443 := IQ_b I; omega) (by have FUe : FU = 100000 := rfl; have B_444 := IQ_b I_u_4; have B_445 := IQ_b I; omega) (by have FUe : FU = 100000 := rfl; have B_446 := IQ_b I_u_4; have B_447 := IQ_b I; omega)) (fun r_448 u_449 z_439 => ?_)
                  obtain ⟨I_u_449, G_u_449, p_450, p_451⟩ := z_439
                  have F_u_449 : Fr [] [11, 12, 13, 33] u u_449 := Fr_tr F_u_4 G_u_449 rfl rfl
                  have g_452 : (u_449.1 1).toInt = (u_4.1 1).toInt := by rw [G_u_449.1 1 rfl]
                  have g_453 : (u_449.1 4).toInt = (u_4.1 4).toInt := by rw [G_u_449.1 4 rfl]
                  have g_454 : (u_449.1 9).toInt = (u_4.1 9).toInt := by rw [G_u_449.1 9 rfl]
                  have g_455 : (u_449.1 19).toInt = (u_4.1 19).toInt := by rw [G_u_449.1 19 rfl]
                  have g_456 : (ga u_449 10 x1).toInt = (ga u_4 10 x1).toInt := by show (u_449.2.1 10 _).toInt = _; rw [G_u_449.2.1 10 rfl]; rfl
                  exact okM_some ⟨I_u_449, F_u_449, (by omega), (by omega)⟩
