theorem kG_SqlReaderModel_hasAggregate {x1 : Int32} {u : St} (I : IG u) (h0 : 0 ≤ x1.toInt) (h1 : x1.toInt < (u.1 4).toInt) : okM (mM_SqlReaderModel_hasAggregate x1 u) (fun r v => IG v ∧ Fr [] [34] u v ∧ 0 ≤ r.toInt ∧ r.toInt ≤ 1) := by
  have l0 : (0 : Int32).toInt = 0 := by decide
  have l1 : (1 : Int32).toInt = 1 := by decide
  have l4 : (4 : Int32).toInt = 4 := by decide
  rw [mM_SqlReaderModel_hasAggregate]
  refine okM_mono (kG_SqlReaderModel_hasAggregate_L4 _ I (by have FUe : FU = 100000 := rfl; have B_1 := IG_b I; omega) (by have FUe : FU = 100000 := rfl; have B_2 := IG_b I; omega) (by have FUe : FU = 100000 := rfl; have B_3 := IG_b I; omega) (by have FUe : FU = 100000 := rfl; have B_4 := IG_b I; omega) (by have FUe : FU = 100000 := rfl; have B_5 := IG_b I; omega) (by have FUe : FU = 100000 := rfl; have B_6 := IG_b I; omega) (by have FUe : FU = 100000 := rfl; have B_7 := IG_b I; omega)) (fun r_9 u_10 z_8 => ?_)
  obtain ⟨I_u_10, G_u_10, p_11, p_12⟩ := z_8
  have F_u_10 : Fr [] [34] u u_10 := Fr_tr (Fr_rfl u) G_u_10 rfl rfl
  exact ⟨I_u_10, F_u_10, (by omega), (by omega)⟩
theorem kG_SqlReaderModel_gathered_L15 : ∀ (n : Nat) {x1 : Int32} {x2 : Int32} {u : St} (I : IG u) (h0 : 0 ≤ x1.toInt) (h1 : x1.toInt ≤ 1) (h2 : 0 ≤ x2.toInt) (h3 : x2.toInt ≤ (u.1 16).toInt) (hm : ((u.1 16).toInt - x2.toInt).toNat < n), okM (mM_SqlReaderModel_gathered_L15 n x1 x2 u) (fun r v => IG v ∧ Fr [] [34] u v ∧ 0 ≤ r.toInt ∧ r.toInt ≤ 1) := by
  intro n
  induction n with
  | zero => intro x1 x2 u I h0 h1 h2 h3 hm; exact absurd hm (Nat.not_lt_zero _)
  | succ n ih =>
    intro x1 x2 u I h0 h1 h2 h3 hm
    have l0 : (0 : Int32).toInt = 0 := by decide
    have l1 : (1 : Int32).toInt = 1 := by decide
    have l4 : (4 : Int32).toInt = 4 := by decide
    have l16 : (16 : Int32).toInt = 16 := by decide
    have l21 : (21 : Int32).toInt = 21 := by decide
    rw [mM_SqlReaderModel_gathered_L15]
    have IT := IG_it I x2
    refine okM_le (fun c_1 => ?_) (fun c_1 => ?_)
    · refine okM_gd (zb_of (by omega) (by omega)) ?_
      exact okM_some ⟨I, (Fr_rfl u), (by omega), (by omega)⟩
    · refine okM_eq (fun c_2 c_2' => ?_) (fun c_2 => ?_)
      · refine okM_gd (inb_of (by have B_3 := IG_b I; omega) (by have B_4 := IG_b I; omega)) ?_
        refine okM_bM (kG_SqlReaderModel_hasAggregate I (by have FUe : FU = 100000 := rfl; have B_6 := IG_b I; omega) (by have FUe : FU = 100000 := rfl; have B_7 := IG_b I; omega)) (fun r_8 u_9 z_5 => ?_)
        obtain ⟨I_u_9, G_u_9, p_10, p_11⟩ := z_5
        have F_u_9 : Fr [] [34] u u_9 := Fr_tr (Fr_rfl u) G_u_9 rfl rfl
        have g_12 : (u_9.1 16).toInt = (u.1 16).toInt := by rw [G_u_9.1 16 rfl]
        refine okM_eq (fun c_13 c_13' => ?_) (fun c_13 => ?_)
        · try have e_16 : (x2 + 1 : Int32).toInt = (x2 : Int32).toInt + (1 : Int32).toInt := by have B_17 := IG_b I; exact add_i (by omega) (by omega)
          refine okM_seq (fun y_15 h_14 => ?_)
          have h_14' : y_15.toInt = (x2 + 1 : Int32).toInt := by rw [h_14]
          refine okM_mono (ih I_u_9 (by have B_18 := IG_b I_u_9; omega) (by have B_19 := IG_b I_u_9; omega) (by have B_20 := IG_b I_u_9; omega) (by have B_21 := IG_b I_u_9; omega) (by have B_22 := IG_b I_u_9; omega)) (fun r_24 u_25 z_23 => ?_)
          obtain ⟨I_u_25, G_u_25, p_26, p_27⟩ := z_23
          have F_u_25 : Fr [] [34] u u_25 := Fr_tr F_u_9 G_u_25 rfl rfl
          have g_28 : (u_25.1 16).toInt = (u_9.1 16).toInt := by rw [G_u_25.1 16 rfl]
          exact ⟨I_u_25, F_u_25, (by omega), (by omega)⟩
        · try have e_31 : (x2 + 1 : Int32).toInt = (x2 : Int32).toInt + (1 : Int32).toInt := by have B_32 := IG_b I; exact add_i (by omega) (by omega)
          refine okM_seq (fun y_30 h_29 => ?_)
          have h_29' : y_30.toInt = (x2 + 1 : Int32).toInt := by rw [h_29]
          refine okM_mono (ih I_u_9 (by have B_33 := IG_b I_u_9; omega) (by have B_34 := IG_b I_u_9; omega) (by have B_35 := IG_b I_u_9; omega) (by have B_36 := IG_b I_u_9; omega) (by have B_37 := IG_b I_u_9; omega)) (fun r_39 u_40 z_38 => ?_)
          obtain ⟨I_u_40, G_u_40, p_41, p_42⟩ := z_38
          have F_u_40 : Fr [] [34] u u_40 := Fr_tr F_u_9 G_u_40 rfl rfl
          have g_43 : (u_40.1 16).toInt = (u_9.1 16).toInt := by rw [G_u_40.1 16 rfl]
          exact ⟨I_u_40, F_u_40, (by omega), (by omega)⟩
      · try have e_46 : (x2 + 1 : Int32).toInt = (x2 : Int32).toInt + (1 : Int32).toInt := by have B_47 := IG_b I; exact add_i (by omega) (by omega)
        refine okM_seq (fun y_45 h_44 => ?_)
        have h_44' : y_45.toInt = (x2 + 1 : Int32).toInt := by rw [h_44]
        refine okM_mono (ih I (by have B_48 := IG_b I; omega) (by have B_49 := IG_b I; omega) (by have B_50 := IG_b I; omega) (by have B_51 := IG_b I; omega) (by have B_52 := IG_b I; omega)) (fun r_54 u_55 z_53 => ?_)
        obtain ⟨I_u_55, G_u_55, p_56, p_57⟩ := z_53
        have F_u_55 : Fr [] [34] u u_55 := Fr_tr (Fr_rfl u) G_u_55 rfl rfl
        have g_58 : (u_55.1 16).toInt = (u.1 16).toInt := by rw [G_u_55.1 16 rfl]
        exact ⟨I_u_55, F_u_55, (by omega), (by omega)⟩
theorem kG_SqlReaderModel_gathered {u : St} (I : IG u) : okM (mM_SqlReaderModel_gathered u) (fun r v => IG v ∧ Fr [] [34] u v ∧ 0 ≤ r.toInt ∧ r.toInt ≤ 1) := by
  have l0 : (0 : Int32).toInt = 0 := by decide
  have l1 : (1 : Int32).toInt = 1 := by decide
  have l16 : (16 : Int32).toInt = 16 := by decide
  have l17 : (17 : Int32).toInt = 17 := by decide
  rw [mM_SqlReaderModel_gathered]
  refine okM_le (fun c_1 => ?_) (fun c_1 => ?_)
  · refine okM_mono (kG_SqlReaderModel_gathered_L15 _ I (by have FUe : FU = 100000 := rfl; have B_2 := IG_b I; omega) (by have FUe : FU = 100000 := rfl; have B_3 := IG_b I; omega) (by have FUe : FU = 100000 := rfl; have B_4 := IG_b I; omega) (by have FUe : FU = 100000 := rfl; have B_5 := IG_b I; omega) (by have FUe : FU = 100000 := rfl; have B_6 := IG_b I; omega)) (fun r_8 u_9 z_7 => ?_)
    obtain ⟨I_u_9, G_u_9, p_10, p_11⟩ := z_7
    have F_u_9 : Fr [] [34] u u_9 := Fr_tr (Fr_rfl u) G_u_9 rfl rfl
    exact ⟨I_u_9, F_u_9, (by omega), (by omega)⟩
  · refine okM_mono (kG_SqlReaderModel_gathered_L15 _ I (by have FUe : FU = 100000 := rfl; have B_12 := IG_b I; omega) (by have FUe : FU = 100000 := rfl; have B_13 := IG_b I; omega) (by have FUe : FU = 100000 := rfl; have B_14 := IG_b I; omega) (by have FUe : FU = 100000 := rfl; have B_15 := IG_b I; omega) (by have FUe : FU = 100000 := rfl; have B_16 := IG_b I; omega)) (fun r_18 u_19 z_17 => ?_)
    obtain ⟨I_u_19, G_u_19, p_20, p_21⟩ := z_17
    have F_u_19 : Fr [] [34] u u_19 := Fr_tr (Fr_rfl u) G_u_19 rfl rfl
    exact ⟨I_u_19, F_u_19, (by omega), (by omega)⟩
theorem kG_SqlReaderModel_isGrouped_L4 : ∀ (n : Nat) {x1 : Int32} {x2 : Int32} {x3 : Int32} {u : St} (I : IG u) (h0 : 0 ≤ x1.toInt) (h1 : x1.toInt < (u.1 4).toInt) (h2 : 0 ≤ x2.toInt) (h3 : x2.toInt ≤ 1) (h4 : 0 ≤ x3.toInt) (h5 : x3.toInt ≤ (u.1 17).toInt) (hm : ((u.1 17).toInt - x3.toInt).toNat < n), ok (mM_SqlReaderModel_isGrouped_L4 n x1 x2 x3 u) (fun r => 0 ≤ r.toInt ∧ r.toInt ≤ 1) := by
  intro n
  induction n with
  | zero => intro x1 x2 x3 u I h0 h1 h2 h3 h4 h5 hm; exact absurd hm (Nat.not_lt_zero _)
  | succ n ih =>
    intro x1 x2 x3 u I h0 h1 h2 h3 h4 h5 hm
    have l0 : (0 : Int32).toInt = 0 := by decide
    have l1 : (1 : Int32).toInt = 1 := by decide
    have l4 : (4 : Int32).toInt = 4 := by decide
    have l11 : (11 : Int32).toInt = 11 := by decide
    have l12 : (12 : Int32).toInt = 12 := by decide
    have l17 : (17 : Int32).toInt = 17 := by decide
    have l22 : (22 : Int32).toInt = 22 := by decide
    rw [mM_SqlReaderModel_isGrouped_L4]
    have GR := IG_gr I x3
    refine ok_le (fun c_1 => ?_) (fun c_1 => ?_)
    · refine ok_gd (zb_of (by omega) (by omega)) ?_
      exact ok_some ⟨(by omega), (by omega)⟩
    · refine ok_eq (fun c_2 c_2' => ?_) (fun c_2 => ?_)
      · refine ok_gd (inb_of (by have B_3 := IG_b I; omega) (by have B_4 := IG_b I; omega)) ?_
        refine ok_gd (inb_of (by have B_5 := IG_b I; omega) (by have B_6 := IG_b I; omega)) ?_
        refine ok_gd (inb_of (by have B_7 := IG_b I; omega) (by have B_8 := IG_b I; omega)) ?_
        refine ok_eq (fun c_9 c_9' => ?_) (fun c_9 => ?_)
        · refine ok_gd (inb_of (by have B_10 := IG_b I; omega) (by have B_11 := IG_b I; omega)) ?_
          refine ok_gd (inb_of (by have B_12 := IG_b I; omega) (by have B_13 := IG_b I; omega)) ?_
          refine ok_gd (inb_of (by have B_14 := IG_b I; omega) (by have B_15 := IG_b I; omega)) ?_
          refine ok_eq (fun c_16 c_16' => ?_) (fun c_16 => ?_)
          · try have e_19 : (x3 + 1 : Int32).toInt = (x3 : Int32).toInt + (1 : Int32).toInt := by have B_20 := IG_b I; exact add_i (by omega) (by omega)
            refine ok_seq (fun y_18 h_17 => ?_)
            have h_17' : y_18.toInt = (x3 + 1 : Int32).toInt := by rw [h_17]
            refine ok_mono (ih I (by have B_21 := IG_b I; omega) (by have B_22 := IG_b I; omega) (by have B_23 := IG_b I; omega) (by have B_24 := IG_b I; omega) (by have B_25 := IG_b I; omega) (by have B_26 := IG_b I; omega) (by have B_27 := IG_b I; omega)) (fun r_29 z_28 => ?_)
            obtain ⟨p_30, p_31⟩ := z_28
            exact ⟨(by omega), (by omega)⟩
          · try have e_34 : (x3 + 1 : Int32).toInt = (x3 : Int32).toInt + (1 : Int32).toInt := by have B_35 := IG_b I; exact add_i (by omega) (by omega)
            refine ok_seq (fun y_33 h_32 => ?_)
            have h_32' : y_33.toInt = (x3 + 1 : Int32).toInt := by rw [h_32]
            refine ok_mono (ih I (by have B_36 := IG_b I; omega) (by have B_37 := IG_b I; omega) (by have B_38 := IG_b I; omega) (by have B_39 := IG_b I; omega) (by have B_40 := IG_b I; omega) (by have B_41 := IG_b I; omega) (by have B_42 := IG_b I; omega)) (fun r_44 z_43 => ?_)
            obtain ⟨p_45, p_46⟩ := z_43
            exact ⟨(by omega), (by omega)⟩
        · try have e_49 : (x3 + 1 : Int32).toInt = (x3 : Int32).toInt + (1 : Int32).toInt := by have B_50 := IG_b I; exact add_i (by omega) (by omega)
          refine ok_seq (fun y_48 h_47 => ?_)
          have h_47' : y_48.toInt = (x3 + 1 : Int32).toInt := by rw [h_47]
          refine ok_mono (ih I (by have B_51 := IG_b I; omega) (by have B_52 := IG_b I; omega) (by have B_53 := IG_b I; omega) (by have B_54 := IG_b I; omega) (by have B_55 := IG_b I; omega) (by have B_56 := IG_b I; omega) (by have B_57 := IG_b I; omega)) (fun r_59 z_58 => ?_)
          obtain ⟨p_60, p_61⟩ := z_58
          exact ⟨(by omega), (by omega)⟩
      · try have e_64 : (x3 + 1 : Int32).toInt = (x3 : Int32).toInt + (1 : Int32).toInt := by have B_65 := IG_b I; exact add_i (by omega) (by omega)
        refine ok_seq (fun y_63 h_62 => ?_)
        have h_62' : y_63.toInt = (x3 + 1 : Int32).toInt := by rw [h_62]
        refine ok_mono (ih I (by have B_66 := IG_b I; omega) (by have B_67 := IG_b I; omega) (by have B_68 := IG_b I; omega) (by have B_69 := IG_b I; omega) (by have B_70 := IG_b I; omega) (by have B_71 := IG_b I; omega) (by have B_72 := IG_b I; omega)) (fun r_74 z_73 => ?_)
        obtain ⟨p_75, p_76⟩ := z_73
        exact ⟨(by omega), (by omega)⟩
theorem kG_SqlReaderModel_isGrouped {x1 : Int32} {u : St} (I : IG u) (h0 : 0 ≤ x1.toInt) (h1 : x1.toInt < (u.1 4).toInt) : ok (mM_SqlReaderModel_isGrouped x1 u) (fun r => 0 ≤ r.toInt ∧ r.toInt ≤ 1) := by
  have l0 : (0 : Int32).toInt = 0 := by decide
  have l1 : (1 : Int32).toInt = 1 := by decide
  have l4 : (4 : Int32).toInt = 4 := by decide
  have l17 : (17 : Int32).toInt = 17 := by decide
  rw [mM_SqlReaderModel_isGrouped]
  refine ok_mono (kG_SqlReaderModel_isGrouped_L4 _ I (by have FUe : FU = 100000 := rfl; have B_1 := IG_b I; omega) (by have FUe : FU = 100000 := rfl; have B_2 := IG_b I; omega) (by have FUe : FU = 100000 := rfl; have B_3 := IG_b I; omega) (by have FUe : FU = 100000 := rfl; have B_4 := IG_b I; omega) (by have FUe : FU = 100000 := rfl; have B_5 := IG_b I; omega) (by have FUe : FU = 100000 := rfl; have B_6 := IG_b I; omega) (by have FUe : FU = 100000 := rfl; have B_7 := IG_b I; omega)) (fun r_9 z_8 => ?_)
  obtain ⟨p_10, p_11⟩ := z_8
  exact ⟨(by omega), (by omega)⟩
set_option maxHeartbeats 4000000 in
theorem kG_SqlReaderModel_isLoose_L31 : ∀ (n : Nat) {x2 : Int32} {x3 : Int32} {u : St} (I : IG u) (h0 : 0 ≤ x2.toInt) (h1 : x2.toInt ≤ 1) (h2 : -1 ≤ x3.toInt) (h3 : x3.toInt < (u.1 4).toInt) (hm : (x3.toInt + 1).toNat < n), okM (mM_SqlReaderModel_isLoose_L31 n x2 x3 u) (fun r v => IG v ∧ Fr [] [34] u v ∧ 0 ≤ r.toInt ∧ r.toInt ≤ 1) := by
  intro n
  induction n with
  | zero => intro x2 x3 u I h0 h1 h2 h3 hm; exact absurd hm (Nat.not_lt_zero _)
  | succ n ih =>
    intro x2 x3 u I h0 h1 h2 h3 hm
    have l0 : (0 : Int32).toInt = 0 := by decide
    have l1 : (1 : Int32).toInt = 1 := by decide
    have l4 : (4 : Int32).toInt = 4 := by decide
    have l9 : (9 : Int32).toInt = 9 := by decide
    have l10 : (10 : Int32).toInt = 10 := by decide
    have l11 : (11 : Int32).toInt = 11 := by decide
    have l12 : (12 : Int32).toInt = 12 := by decide
    have l28 : (28 : Int32).toInt = 28 := by decide
    have l34 : (34 : Int32).toInt = 34 := by decide
    have l200 : (200 : Int32).toInt = 200 := by decide
    rw [mM_SqlReaderModel_isLoose_L31]
    have N_x3 := IG_nd I x3
    refine okM_lt (fun c_1 => ?_) (fun c_1 => ?_)
    · refine okM_gd (zb_of (by omega) (by omega)) ?_
      exact okM_some ⟨I, (Fr_rfl u), (by omega), (by omega)⟩
    · refine okM_gd (inb_of (by have B_2 := IG_b I; omega) (by have B_3 := IG_b I; omega)) ?_
      refine okM_eq (fun c_4 c_4' => ?_) (fun c_4 => ?_)
      · rw [mM_SqlReaderModel_isLoose_J71]
        refine okM_pos (by decide) ?_
        rw [mM_SqlReaderModel_isLoose_J117]
        refine okM_eq (fun c_5 c_5' => ?_) (fun c_5 => ?_)
        · refine okM_gd (inb_of (by have B_6 := IG_b I; omega) (by have B_7 := IG_b I; omega)) ?_
          refine okM_eq (fun c_8 c_8' => ?_) (fun c_8 => ?_)
          · refine okM_seq (fun y_10 h_9 => ?_)
            have h_9' : y_10.toInt = x3.toInt - 1 := by rw [h_9]; exact dec_i (by omega)
            refine okM_mono (ih I (by have B_11 := IG_b I; omega) (by have B_12 := IG_b I; omega) (by have B_13 := IG_b I; omega) (by have B_14 := IG_b I; omega) (by have B_15 := IG_b I; omega)) (fun r_17 u_18 z_16 => ?_)
            obtain ⟨I_u_18, G_u_18, p_19, p_20⟩ := z_16
            have F_u_18 : Fr [] [34] u u_18 := Fr_tr (Fr_rfl u) G_u_18 rfl rfl
            have g_21 : (u_18.1 4).toInt = (u.1 4).toInt := by rw [G_u_18.1 4 rfl]
            have g_22 : (ga u_18 10 x3).toInt = (ga u 10 x3).toInt := by show (u_18.2.1 10 _).toInt = _; rw [G_u_18.2.1 10 rfl]; rfl
            have g_23 : (ga u_18 11 x3).toInt = (ga u 11 x3).toInt := by show (u_18.2.1 11 _).toInt = _; rw [G_u_18.2.1 11 rfl]; rfl
            have g_24 : (ga u_18 12 x3).toInt = (ga u 12 x3).toInt := by show (u_18.2.1 12 _).toInt = _; rw [G_u_18.2.1 12 rfl]; rfl
            exact ⟨I_u_18, F_u_18, (by omega), (by omega)⟩
          · refine okM_gd (inb_of (by have B_25 := IG_b I; omega) (by have B_26 := IG_b I; omega)) ?_
            refine okM_eq (fun c_27 c_27' => ?_) (fun c_27 => ?_)
            · refine okM_bP (kG_SqlReaderModel_isGrouped I (by have FUe : FU = 100000 := rfl; have B_29 := IG_b I; omega) (by have FUe : FU = 100000 := rfl; have B_30 := IG_b I; omega)) (fun r_31 z_28 => ?_)
              obtain ⟨p_32, p_33⟩ := z_28
              refine okM_eq (fun c_34 c_34' => ?_) (fun c_34 => ?_)
              · refine okM_seq (fun y_36 h_35 => ?_)
                have h_35' : y_36.toInt = x3.toInt - 1 := by rw [h_35]; exact dec_i (by omega)
                refine okM_mono (ih I (by have B_37 := IG_b I; omega) (by have B_38 := IG_b I; omega) (by have B_39 := IG_b I; omega) (by have B_40 := IG_b I; omega) (by have B_41 := IG_b I; omega)) (fun r_43 u_44 z_42 => ?_)
                obtain ⟨I_u_44, G_u_44, p_45, p_46⟩ := z_42
                have F_u_44 : Fr [] [34] u u_44 := Fr_tr (Fr_rfl u) G_u_44 rfl rfl
                have g_47 : (u_44.1 4).toInt = (u.1 4).toInt := by rw [G_u_44.1 4 rfl]
                have g_48 : (ga u_44 10 x3).toInt = (ga u 10 x3).toInt := by show (u_44.2.1 10 _).toInt = _; rw [G_u_44.2.1 10 rfl]; rfl
                have g_49 : (ga u_44 11 x3).toInt = (ga u 11 x3).toInt := by show (u_44.2.1 11 _).toInt = _; rw [G_u_44.2.1 11 rfl]; rfl
                have g_50 : (ga u_44 12 x3).toInt = (ga u 12 x3).toInt := by show (u_44.2.1 12 _).toInt = _; rw [G_u_44.2.1 12 rfl]; rfl
                exact ⟨I_u_44, F_u_44, (by omega), (by omega)⟩
              · refine okM_seq (fun y_52 h_51 => ?_)
                have h_51' : y_52.toInt = x3.toInt - 1 := by rw [h_51]; exact dec_i (by omega)
                refine okM_mono (ih I (by have B_53 := IG_b I; omega) (by have B_54 := IG_b I; omega) (by have B_55 := IG_b I; omega) (by have B_56 := IG_b I; omega) (by have B_57 := IG_b I; omega)) (fun r_59 u_60 z_58 => ?_)
                obtain ⟨I_u_60, G_u_60, p_61, p_62⟩ := z_58
                have F_u_60 : Fr [] [34] u u_60 := Fr_tr (Fr_rfl u) G_u_60 rfl rfl
                have g_63 : (u_60.1 4).toInt = (u.1 4).toInt := by rw [G_u_60.1 4 rfl]
                have g_64 : (ga u_60 10 x3).toInt = (ga u 10 x3).toInt := by show (u_60.2.1 10 _).toInt = _; rw [G_u_60.2.1 10 rfl]; rfl
                have g_65 : (ga u_60 11 x3).toInt = (ga u 11 x3).toInt := by show (u_60.2.1 11 _).toInt = _; rw [G_u_60.2.1 11 rfl]; rfl
                have g_66 : (ga u_60 12 x3).toInt = (ga u 12 x3).toInt := by show (u_60.2.1 12 _).toInt = _; rw [G_u_60.2.1 12 rfl]; rfl
                exact ⟨I_u_60, F_u_60, (by omega), (by omega)⟩
            · refine okM_seq (fun y_68 h_67 => ?_)
              have h_67' : y_68.toInt = x3.toInt - 1 := by rw [h_67]; exact dec_i (by omega)
              refine okM_mono (ih I (by have B_69 := IG_b I; omega) (by have B_70 := IG_b I; omega) (by have B_71 := IG_b I; omega) (by have B_72 := IG_b I; omega) (by have B_73 := IG_b I; omega)) (fun r_75 u_76 z_74 => ?_)
              obtain ⟨I_u_76, G_u_76, p_77, p_78⟩ := z_74
              have F_u_76 : Fr [] [34] u u_76 := Fr_tr (Fr_rfl u) G_u_76 rfl rfl
              have g_79 : (u_76.1 4).toInt = (u.1 4).toInt := by rw [G_u_76.1 4 rfl]
              have g_80 : (ga u_76 10 x3).toInt = (ga u 10 x3).toInt := by show (u_76.2.1 10 _).toInt = _; rw [G_u_76.2.1 10 rfl]; rfl
              have g_81 : (ga u_76 11 x3).toInt = (ga u 11 x3).toInt := by show (u_76.2.1 11 _).toInt = _; rw [G_u_76.2.1 11 rfl]; rfl
              have g_82 : (ga u_76 12 x3).toInt = (ga u 12 x3).toInt := by show (u_76.2.1 12 _).toInt = _; rw [G_u_76.2.1 12 rfl]; rfl
              exact ⟨I_u_76, F_u_76, (by omega), (by omega)⟩
        · refine okM_seq (fun y_84 h_83 => ?_)
          have h_83' : y_84.toInt = x3.toInt - 1 := by rw [h_83]; exact dec_i (by omega)
          refine okM_mono (ih I (by have B_85 := IG_b I; omega) (by have B_86 := IG_b I; omega) (by have B_87 := IG_b I; omega) (by have B_88 := IG_b I; omega) (by have B_89 := IG_b I; omega)) (fun r_91 u_92 z_90 => ?_)
          obtain ⟨I_u_92, G_u_92, p_93, p_94⟩ := z_90
          have F_u_92 : Fr [] [34] u u_92 := Fr_tr (Fr_rfl u) G_u_92 rfl rfl
          have g_95 : (u_92.1 4).toInt = (u.1 4).toInt := by rw [G_u_92.1 4 rfl]
          have g_96 : (ga u_92 10 x3).toInt = (ga u 10 x3).toInt := by show (u_92.2.1 10 _).toInt = _; rw [G_u_92.2.1 10 rfl]; rfl
          have g_97 : (ga u_92 11 x3).toInt = (ga u 11 x3).toInt := by show (u_92.2.1 11 _).toInt = _; rw [G_u_92.2.1 11 rfl]; rfl
          have g_98 : (ga u_92 12 x3).toInt = (ga u 12 x3).toInt := by show (u_92.2.1 12 _).toInt = _; rw [G_u_92.2.1 12 rfl]; rfl
          exact ⟨I_u_92, F_u_92, (by omega), (by omega)⟩
      · refine okM_gd (inb_of (by have B_99 := IG_b I; omega) (by have B_100 := IG_b I; omega)) ?_
        refine okM_le (fun c_101 => ?_) (fun c_101 => ?_)
        · rw [mM_SqlReaderModel_isLoose_J71]
          refine okM_pos (by decide) ?_
          rw [mM_SqlReaderModel_isLoose_J117]
          refine okM_eq (fun c_102 c_102' => ?_) (fun c_102 => ?_)
          · refine okM_gd (inb_of (by have B_103 := IG_b I; omega) (by have B_104 := IG_b I; omega)) ?_
            refine okM_eq (fun c_105 c_105' => ?_) (fun c_105 => ?_)
            · refine okM_seq (fun y_107 h_106 => ?_)
              have h_106' : y_107.toInt = x3.toInt - 1 := by rw [h_106]; exact dec_i (by omega)
              refine okM_mono (ih I (by have B_108 := IG_b I; omega) (by have B_109 := IG_b I; omega) (by have B_110 := IG_b I; omega) (by have B_111 := IG_b I; omega) (by have B_112 := IG_b I; omega)) (fun r_114 u_115 z_113 => ?_)
              obtain ⟨I_u_115, G_u_115, p_116, p_117⟩ := z_113
              have F_u_115 : Fr [] [34] u u_115 := Fr_tr (Fr_rfl u) G_u_115 rfl rfl
              have g_118 : (u_115.1 4).toInt = (u.1 4).toInt := by rw [G_u_115.1 4 rfl]
              have g_119 : (ga u_115 10 x3).toInt = (ga u 10 x3).toInt := by show (u_115.2.1 10 _).toInt = _; rw [G_u_115.2.1 10 rfl]; rfl
              have g_120 : (ga u_115 11 x3).toInt = (ga u 11 x3).toInt := by show (u_115.2.1 11 _).toInt = _; rw [G_u_115.2.1 11 rfl]; rfl
              have g_121 : (ga u_115 12 x3).toInt = (ga u 12 x3).toInt := by show (u_115.2.1 12 _).toInt = _; rw [G_u_115.2.1 12 rfl]; rfl
              exact ⟨I_u_115, F_u_115, (by omega), (by omega)⟩
            · refine okM_gd (inb_of (by have B_122 := IG_b I; omega) (by have B_123 := IG_b I; omega)) ?_
              refine okM_eq (fun c_124 c_124' => ?_) (fun c_124 => ?_)
              · refine okM_bP (kG_SqlReaderModel_isGrouped I (by have FUe : FU = 100000 := rfl; have B_126 := IG_b I; omega) (by have FUe : FU = 100000 := rfl; have B_127 := IG_b I; omega)) (fun r_128 z_125 => ?_)
                obtain ⟨p_129, p_130⟩ := z_125
                refine okM_eq (fun c_131 c_131' => ?_) (fun c_131 => ?_)
                · refine okM_seq (fun y_133 h_132 => ?_)
                  have h_132' : y_133.toInt = x3.toInt - 1 := by rw [h_132]; exact dec_i (by omega)
                  refine okM_mono (ih I (by have B_134 := IG_b I; omega) (by have B_135 := IG_b I; omega) (by have B_136 := IG_b I; omega) (by have B_137 := IG_b I; omega) (by have B_138 := IG_b I; omega)) (fun r_140 u_141 z_139 => ?_)
                  obtain ⟨I_u_141, G_u_141, p_142, p_143⟩ := z_139
                  have F_u_141 : Fr [] [34] u u_141 := Fr_tr (Fr_rfl u) G_u_141 rfl rfl
                  have g_144 : (u_141.1 4).toInt = (u.1 4).toInt := by rw [G_u_141.1 4 rfl]
                  have g_145 : (ga u_141 10 x3).toInt = (ga u 10 x3).toInt := by show (u_141.2.1 10 _).toInt = _; rw [G_u_141.2.1 10 rfl]; rfl
                  have g_146 : (ga u_141 11 x3).toInt = (ga u 11 x3).toInt := by show (u_141.2.1 11 _).toInt = _; rw [G_u_141.2.1 11 rfl]; rfl
                  have g_147 : (ga u_141 12 x3).toInt = (ga u 12 x3).toInt := by show (u_141.2.1 12 _).toInt = _; rw [G_u_141.2.1 12 rfl]; rfl
                  exact ⟨I_u_141, F_u_141, (by omega), (by omega)⟩
                · refine okM_seq (fun y_149 h_148 => ?_)
                  have h_148' : y_149.toInt = x3.toInt - 1 := by rw [h_148]; exact dec_i (by omega)
                  refine okM_mono (ih I (by have B_150 := IG_b I; omega) (by have B_151 := IG_b I; omega) (by have B_152 := IG_b I; omega) (by have B_153 := IG_b I; omega) (by have B_154 := IG_b I; omega)) (fun r_156 u_157 z_155 => ?_)
                  obtain ⟨I_u_157, G_u_157, p_158, p_159⟩ := z_155
                  have F_u_157 : Fr [] [34] u u_157 := Fr_tr (Fr_rfl u) G_u_157 rfl rfl
                  have g_160 : (u_157.1 4).toInt = (u.1 4).toInt := by rw [G_u_157.1 4 rfl]
                  have g_161 : (ga u_157 10 x3).toInt = (ga u 10 x3).toInt := by show (u_157.2.1 10 _).toInt = _; rw [G_u_157.2.1 10 rfl]; rfl
                  have g_162 : (ga u_157 11 x3).toInt = (ga u 11 x3).toInt := by show (u_157.2.1 11 _).toInt = _; rw [G_u_157.2.1 11 rfl]; rfl
                  have g_163 : (ga u_157 12 x3).toInt = (ga u 12 x3).toInt := by show (u_157.2.1 12 _).toInt = _; rw [G_u_157.2.1 12 rfl]; rfl
                  exact ⟨I_u_157, F_u_157, (by omega), (by omega)⟩
              · refine okM_seq (fun y_165 h_164 => ?_)
                have h_164' : y_165.toInt = x3.toInt - 1 := by rw [h_164]; exact dec_i (by omega)
                refine okM_mono (ih I (by have B_166 := IG_b I; omega) (by have B_167 := IG_b I; omega) (by have B_168 := IG_b I; omega) (by have B_169 := IG_b I; omega) (by have B_170 := IG_b I; omega)) (fun r_172 u_173 z_171 => ?_)
                obtain ⟨I_u_173, G_u_173, p_174, p_175⟩ := z_171
                have F_u_173 : Fr [] [34] u u_173 := Fr_tr (Fr_rfl u) G_u_173 rfl rfl
                have g_176 : (u_173.1 4).toInt = (u.1 4).toInt := by rw [G_u_173.1 4 rfl]
                have g_177 : (ga u_173 10 x3).toInt = (ga u 10 x3).toInt := by show (u_173.2.1 10 _).toInt = _; rw [G_u_173.2.1 10 rfl]; rfl
                have g_178 : (ga u_173 11 x3).toInt = (ga u 11 x3).toInt := by show (u_173.2.1 11 _).toInt = _; rw [G_u_173.2.1 11 rfl]; rfl
                have g_179 : (ga u_173 12 x3).toInt = (ga u 12 x3).toInt := by show (u_173.2.1 12 _).toInt = _; rw [G_u_173.2.1 12 rfl]; rfl
                exact ⟨I_u_173, F_u_173, (by omega), (by omega)⟩
          · refine okM_seq (fun y_181 h_180 => ?_)
            have h_180' : y_181.toInt = x3.toInt - 1 := by rw [h_180]; exact dec_i (by omega)
            refine okM_mono (ih I (by have B_182 := IG_b I; omega) (by have B_183 := IG_b I; omega) (by have B_184 := IG_b I; omega) (by have B_185 := IG_b I; omega) (by have B_186 := IG_b I; omega)) (fun r_188 u_189 z_187 => ?_)
            obtain ⟨I_u_189, G_u_189, p_190, p_191⟩ := z_187
            have F_u_189 : Fr [] [34] u u_189 := Fr_tr (Fr_rfl u) G_u_189 rfl rfl
            have g_192 : (u_189.1 4).toInt = (u.1 4).toInt := by rw [G_u_189.1 4 rfl]
            have g_193 : (ga u_189 10 x3).toInt = (ga u 10 x3).toInt := by show (u_189.2.1 10 _).toInt = _; rw [G_u_189.2.1 10 rfl]; rfl
            have g_194 : (ga u_189 11 x3).toInt = (ga u 11 x3).toInt := by show (u_189.2.1 11 _).toInt = _; rw [G_u_189.2.1 11 rfl]; rfl
            have g_195 : (ga u_189 12 x3).toInt = (ga u 12 x3).toInt := by show (u_189.2.1 12 _).toInt = _; rw [G_u_189.2.1 12 rfl]; rfl
            exact ⟨I_u_189, F_u_189, (by omega), (by omega)⟩
        · refine okM_gd (inb_of (by have B_196 := IG_b I; omega) (by have B_197 := IG_b I; omega)) ?_
          refine okM_le (fun c_198 => ?_) (fun c_198 => ?_)
          · rw [mM_SqlReaderModel_isLoose_J71]
            refine okM_pos (by decide) ?_
            rw [mM_SqlReaderModel_isLoose_J117]
            refine okM_eq (fun c_199 c_199' => ?_) (fun c_199 => ?_)
            · refine okM_gd (inb_of (by have B_200 := IG_b I; omega) (by have B_201 := IG_b I; omega)) ?_
              refine okM_eq (fun c_202 c_202' => ?_) (fun c_202 => ?_)
              · refine okM_seq (fun y_204 h_203 => ?_)
                have h_203' : y_204.toInt = x3.toInt - 1 := by rw [h_203]; exact dec_i (by omega)
                refine okM_mono (ih I (by have B_205 := IG_b I; omega) (by have B_206 := IG_b I; omega) (by have B_207 := IG_b I; omega) (by have B_208 := IG_b I; omega) (by have B_209 := IG_b I; omega)) (fun r_211 u_212 z_210 => ?_)
                obtain ⟨I_u_212, G_u_212, p_213, p_214⟩ := z_210
                have F_u_212 : Fr [] [34] u u_212 := Fr_tr (Fr_rfl u) G_u_212 rfl rfl
                have g_215 : (u_212.1 4).toInt = (u.1 4).toInt := by rw [G_u_212.1 4 rfl]
                have g_216 : (ga u_212 10 x3).toInt = (ga u 10 x3).toInt := by show (u_212.2.1 10 _).toInt = _; rw [G_u_212.2.1 10 rfl]; rfl
                have g_217 : (ga u_212 11 x3).toInt = (ga u 11 x3).toInt := by show (u_212.2.1 11 _).toInt = _; rw [G_u_212.2.1 11 rfl]; rfl
                have g_218 : (ga u_212 12 x3).toInt = (ga u 12 x3).toInt := by show (u_212.2.1 12 _).toInt = _; rw [G_u_212.2.1 12 rfl]; rfl
                exact ⟨I_u_212, F_u_212, (by omega), (by omega)⟩
              · refine okM_gd (inb_of (by have B_219 := IG_b I; omega) (by have B_220 := IG_b I; omega)) ?_
                refine okM_eq (fun c_221 c_221' => ?_) (fun c_221 => ?_)
                · refine okM_bP (kG_SqlReaderModel_isGrouped I (by have FUe : FU = 100000 := rfl; have B_223 := IG_b I; omega) (by have FUe : FU = 100000 := rfl; have B_224 := IG_b I; omega)) (fun r_225 z_222 => ?_)
                  obtain ⟨p_226, p_227⟩ := z_222
                  refine okM_eq (fun c_228 c_228' => ?_) (fun c_228 => ?_)
                  · refine okM_seq (fun y_230 h_229 => ?_)
                    have h_229' : y_230.toInt = x3.toInt - 1 := by rw [h_229]; exact dec_i (by omega)
                    refine okM_mono (ih I (by have B_231 := IG_b I; omega) (by have B_232 := IG_b I; omega) (by have B_233 := IG_b I; omega) (by have B_234 := IG_b I; omega) (by have B_235 := IG_b I; omega)) (fun r_237 u_238 z_236 => ?_)
                    obtain ⟨I_u_238, G_u_238, p_239, p_240⟩ := z_236
                    have F_u_238 : Fr [] [34] u u_238 := Fr_tr (Fr_rfl u) G_u_238 rfl rfl
                    have g_241 : (u_238.1 4).toInt = (u.1 4).toInt := by rw [G_u_238.1 4 rfl]
                    have g_242 : (ga u_238 10 x3).toInt = (ga u 10 x3).toInt := by show (u_238.2.1 10 _).toInt = _; rw [G_u_238.2.1 10 rfl]; rfl
                    have g_243 : (ga u_238 11 x3).toInt = (ga u 11 x3).toInt := by show (u_238.2.1 11 _).toInt = _; rw [G_u_238.2.1 11 rfl]; rfl
                    have g_244 : (ga u_238 12 x3).toInt = (ga u 12 x3).toInt := by show (u_238.2.1 12 _).toInt = _; rw [G_u_238.2.1 12 rfl]; rfl
                    exact ⟨I_u_238, F_u_238, (by omega), (by omega)⟩
                  · refine okM_seq (fun y_246 h_245 => ?_)
                    have h_245' : y_246.toInt = x3.toInt - 1 := by rw [h_245]; exact dec_i (by omega)
                    refine okM_mono (ih I (by have B_247 := IG_b I; omega) (by have B_248 := IG_b I; omega) (by have B_249 := IG_b I; omega) (by have B_250 := IG_b I; omega) (by have B_251 := IG_b I; omega)) (fun r_253 u_254 z_252 => ?_)
                    obtain ⟨I_u_254, G_u_254, p_255, p_256⟩ := z_252
                    have F_u_254 : Fr [] [34] u u_254 := Fr_tr (Fr_rfl u) G_u_254 rfl rfl
                    have g_257 : (u_254.1 4).toInt = (u.1 4).toInt := by rw [G_u_254.1 4 rfl]
                    have g_258 : (ga u_254 10 x3).toInt = (ga u 10 x3).toInt := by show (u_254.2.1 10 _).toInt = _; rw [G_u_254.2.1 10 rfl]; rfl
                    have g_259 : (ga u_254 11 x3).toInt = (ga u 11 x3).toInt := by show (u_254.2.1 11 _).toInt = _; rw [G_u_254.2.1 11 rfl]; rfl
                    have g_260 : (ga u_254 12 x3).toInt = (ga u 12 x3).toInt := by show (u_254.2.1 12 _).toInt = _; rw [G_u_254.2.1 12 rfl]; rfl
                    exact ⟨I_u_254, F_u_254, (by omega), (by omega)⟩
                · refine okM_seq (fun y_262 h_261 => ?_)
                  have h_261' : y_262.toInt = x3.toInt - 1 := by rw [h_261]; exact dec_i (by omega)
                  refine okM_mono (ih I (by have B_263 := IG_b I; omega) (by have B_264 := IG_b I; omega) (by have B_265 := IG_b I; omega) (by have B_266 := IG_b I; omega) (by have B_267 := IG_b I; omega)) (fun r_269 u_270 z_268 => ?_)
                  obtain ⟨I_u_270, G_u_270, p_271, p_272⟩ := z_268
                  have F_u_270 : Fr [] [34] u u_270 := Fr_tr (Fr_rfl u) G_u_270 rfl rfl
                  have g_273 : (u_270.1 4).toInt = (u.1 4).toInt := by rw [G_u_270.1 4 rfl]
                  have g_274 : (ga u_270 10 x3).toInt = (ga u 10 x3).toInt := by show (u_270.2.1 10 _).toInt = _; rw [G_u_270.2.1 10 rfl]; rfl
                  have g_275 : (ga u_270 11 x3).toInt = (ga u 11 x3).toInt := by show (u_270.2.1 11 _).toInt = _; rw [G_u_270.2.1 11 rfl]; rfl
                  have g_276 : (ga u_270 12 x3).toInt = (ga u 12 x3).toInt := by show (u_270.2.1 12 _).toInt = _; rw [G_u_270.2.1 12 rfl]; rfl
                  exact ⟨I_u_270, F_u_270, (by omega), (by omega)⟩
            · refine okM_seq (fun y_278 h_277 => ?_)
              have h_277' : y_278.toInt = x3.toInt - 1 := by rw [h_277]; exact dec_i (by omega)
              refine okM_mono (ih I (by have B_279 := IG_b I; omega) (by have B_280 := IG_b I; omega) (by have B_281 := IG_b I; omega) (by have B_282 := IG_b I; omega) (by have B_283 := IG_b I; omega)) (fun r_285 u_286 z_284 => ?_)
              obtain ⟨I_u_286, G_u_286, p_287, p_288⟩ := z_284
              have F_u_286 : Fr [] [34] u u_286 := Fr_tr (Fr_rfl u) G_u_286 rfl rfl
              have g_289 : (u_286.1 4).toInt = (u.1 4).toInt := by rw [G_u_286.1 4 rfl]
              have g_290 : (ga u_286 10 x3).toInt = (ga u 10 x3).toInt := by show (u_286.2.1 10 _).toInt = _; rw [G_u_286.2.1 10 rfl]; rfl
              have g_291 : (ga u_286 11 x3).toInt = (ga u 11 x3).toInt := by show (u_286.2.1 11 _).toInt = _; rw [G_u_286.2.1 11 rfl]; rfl
              have g_292 : (ga u_286 12 x3).toInt = (ga u 12 x3).toInt := by show (u_286.2.1 12 _).toInt = _; rw [G_u_286.2.1 12 rfl]; rfl
              exact ⟨I_u_286, F_u_286, (by omega), (by omega)⟩
          · rw [mM_SqlReaderModel_isLoose_J71]
            refine okM_neg (by decide) ?_
            refine okM_gd (inb_of (by have B_293 := IG_b I; omega) (by have B_294 := IG_b I; omega)) ?_
            refine okM_gd (inb_of (by have B_295 := IG_b I; omega) (by have B_296 := IG_b I; omega)) ?_
            refine okM_seq (fun u_298 h_297 => ?_)
            have I_u_298 : IG u_298 := by rw [h_297]; exact I
            have F_u_298 : Fr [] [34] u u_298 := by rw [h_297]; exact Fr_sa (Fr_rfl u) rfl rfl rfl
            have g_299 : (ga u_298 10 x3).toInt = (ga u 10 x3).toInt := by rw [h_297]; rfl
            have g_300 : (ga u_298 11 x3).toInt = (ga u 11 x3).toInt := by rw [h_297]; rfl
            have g_301 : (ga u_298 12 x3).toInt = (ga u 12 x3).toInt := by rw [h_297]; rfl
            have g_302 : (u_298.1 4).toInt = (u.1 4).toInt := by rw [h_297]; rfl
            refine okM_gd (inb_of (by have B_303 := IG_b I_u_298; omega) (by have B_304 := IG_b I_u_298; omega)) ?_
            refine okM_le (fun c_305 => ?_) (fun c_305 => ?_)
            · refine okM_gd (inb_of (by have B_306 := IG_b I_u_298; omega) (by have B_307 := IG_b I_u_298; omega)) ?_
              refine okM_gd (inb_of (by have B_308 := IG_b I_u_298; omega) (by have B_309 := IG_b I_u_298; omega)) ?_
              refine okM_seq (fun u_311 h_310 => ?_)
              have I_u_311 : IG u_311 := by rw [h_310]; exact I_u_298
              have F_u_311 : Fr [] [34] u u_311 := by rw [h_310]; exact Fr_sa F_u_298 rfl rfl rfl
              have g_312 : (ga u_311 10 x3).toInt = (ga u_298 10 x3).toInt := by rw [h_310]; rfl
              have g_313 : (ga u_311 11 x3).toInt = (ga u_298 11 x3).toInt := by rw [h_310]; rfl
              have g_314 : (ga u_311 12 x3).toInt = (ga u_298 12 x3).toInt := by rw [h_310]; rfl
              have g_315 : (u_311.1 4).toInt = (u_298.1 4).toInt := by rw [h_310]; rfl
              rw [mM_SqlReaderModel_isLoose_J117]
              refine okM_eq (fun c_316 c_316' => ?_) (fun c_316 => ?_)
              · refine okM_gd (inb_of (by have B_317 := IG_b I_u_311; omega) (by have B_318 := IG_b I_u_311; omega)) ?_
                refine okM_eq (fun c_319 c_319' => ?_) (fun c_319 => ?_)
                · refine okM_seq (fun y_321 h_320 => ?_)
                  have h_320' : y_321.toInt = x3.toInt - 1 := by rw [h_320]; exact dec_i (by omega)
                  refine okM_mono (ih I_u_311 (by have B_322 := IG_b I_u_311; omega) (by have B_323 := IG_b I_u_311; omega) (by have B_324 := IG_b I_u_311; omega) (by have B_325 := IG_b I_u_311; omega) (by have B_326 := IG_b I_u_311; omega)) (fun r_328 u_329 z_327 => ?_)
                  obtain ⟨I_u_329, G_u_329, p_330, p_331⟩ := z_327
                  have F_u_329 : Fr [] [34] u u_329 := Fr_tr F_u_311 G_u_329 rfl rfl
                  have g_332 : (u_329.1 4).toInt = (u_311.1 4).toInt := by rw [G_u_329.1 4 rfl]
                  have g_333 : (ga u_329 10 x3).toInt = (ga u_311 10 x3).toInt := by show (u_329.2.1 10 _).toInt = _; rw [G_u_329.2.1 10 rfl]; rfl
                  have g_334 : (ga u_329 11 x3).toInt = (ga u_311 11 x3).toInt := by show (u_329.2.1 11 _).toInt = _; rw [G_u_329.2.1 11 rfl]; rfl
                  have g_335 : (ga u_329 12 x3).toInt = (ga u_311 12 x3).toInt := by show (u_329.2.1 12 _).toInt = _; rw [G_u_329.2.1 12 rfl]; rfl
                  exact ⟨I_u_329, F_u_329, (by omega), (by omega)⟩
                · refine okM_gd (inb_of (by have B_336 := IG_b I_u_311; omega) (by have B_337 := IG_b I_u_311; omega)) ?_
                  refine okM_eq (fun c_338 c_338' => ?_) (fun c_338 => ?_)
                  · refine okM_bP (kG_SqlReaderModel_isGrouped I_u_311 (by have FUe : FU = 100000 := rfl; have B_340 := IG_b I_u_311; have B_341 := IG_b I; omega) (by have FUe : FU = 100000 := rfl; have B_342 := IG_b I_u_311; have B_343 := IG_b I; omega)) (fun r_344 z_339 => ?_)
                    obtain ⟨p_345, p_346⟩ := z_339
                    refine okM_eq (fun c_347 c_347' => ?_) (fun c_347 => ?_)
                    · refine okM_seq (fun y_349 h_348 => ?_)
                      have h_348' : y_349.toInt = x3.toInt - 1 := by rw [h_348]; exact dec_i (by omega)
                      refine okM_mono (ih I_u_311 (by have B_350 := IG_b I_u_311; omega) (by have B_351 := IG_b I_u_311; omega) (by have B_352 := IG_b I_u_311; omega) (by have B_353 := IG_b I_u_311; omega) (by have B_354 := IG_b I_u_311; omega)) (fun r_356 u_357 z_355 => ?_)
                      obtain ⟨I_u_357, G_u_357, p_358, p_359⟩ := z_355
                      have F_u_357 : Fr [] [34] u u_357 := Fr_tr F_u_311 G_u_357 rfl rfl
                      have g_360 : (u_357.1 4).toInt = (u_311.1 4).toInt := by rw [G_u_357.1 4 rfl]
                      have g_361 : (ga u_357 10 x3).toInt = (ga u_311 10 x3).toInt := by show (u_357.2.1 10 _).toInt = _; rw [G_u_357.2.1 10 rfl]; rfl
                      have g_362 : (ga u_357 11 x3).toInt = (ga u_311 11 x3).toInt := by show (u_357.2.1 11 _).toInt = _; rw [G_u_357.2.1 11 rfl]; rfl
                      have g_363 : (ga u_357 12 x3).toInt = (ga u_311 12 x3).toInt := by show (u_357.2.1 12 _).toInt = _; rw [G_u_357.2.1 12 rfl]; rfl
                      exact ⟨I_u_357, F_u_357, (by omega), (by omega)⟩
                    · refine okM_seq (fun y_365 h_364 => ?_)
                      have h_364' : y_365.toInt = x3.toInt - 1 := by rw [h_364]; exact dec_i (by omega)
                      refine okM_mono (ih I_u_311 (by have B_366 := IG_b I_u_311; omega) (by have B_367 := IG_b I_u_311; omega) (by have B_368 := IG_b I_u_311; omega) (by have B_369 := IG_b I_u_311; omega) (by have B_370 := IG_b I_u_311; omega)) (fun r_372 u_373 z_371 => ?_)
                      obtain ⟨I_u_373, G_u_373, p_374, p_375⟩ := z_371
                      have F_u_373 : Fr [] [34] u u_373 := Fr_tr F_u_311 G_u_373 rfl rfl
                      have g_376 : (u_373.1 4).toInt = (u_311.1 4).toInt := by rw [G_u_373.1 4 rfl]
                      have g_377 : (ga u_373 10 x3).toInt = (ga u_311 10 x3).toInt := by show (u_373.2.1 10 _).toInt = _; rw [G_u_373.2.1 10 rfl]; rfl
                      have g_378 : (ga u_373 11 x3).toInt = (ga u_311 11 x3).toInt := by show (u_373.2.1 11 _).toInt = _; rw [G_u_373.2.1 11 rfl]; rfl
                      have g_379 : (ga u_373 12 x3).toInt = (ga u_311 12 x3).toInt := by show (u_373.2.1 12 _).toInt = _; rw [G_u_373.2.1 12 rfl]; rfl
                      exact ⟨I_u_373, F_u_373, (by omega), (by omega)⟩
                  · refine okM_seq (fun y_381 h_380 => ?_)
                    have h_380' : y_381.toInt = x3.toInt - 1 := by rw [h_380]; exact dec_i (by omega)
                    refine okM_mono (ih I_u_311 (by have B_382 := IG_b I_u_311; omega) (by have B_383 := IG_b I_u_311; omega) (by have B_384 := IG_b I_u_311; omega) (by have B_385 := IG_b I_u_311; omega) (by have B_386 := IG_b I_u_311; omega)) (fun r_388 u_389 z_387 => ?_)
                    obtain ⟨I_u_389, G_u_389, p_390, p_391⟩ := z_387
                    have F_u_389 : Fr [] [34] u u_389 := Fr_tr F_u_311 G_u_389 rfl rfl
                    have g_392 : (u_389.1 4).toInt = (u_311.1 4).toInt := by rw [G_u_389.1 4 rfl]
                    have g_393 : (ga u_389 10 x3).toInt = (ga u_311 10 x3).toInt := by show (u_389.2.1 10 _).toInt = _; rw [G_u_389.2.1 10 rfl]; rfl
                    have g_394 : (ga u_389 11 x3).toInt = (ga u_311 11 x3).toInt := by show (u_389.2.1 11 _).toInt = _; rw [G_u_389.2.1 11 rfl]; rfl
                    have g_395 : (ga u_389 12 x3).toInt = (ga u_311 12 x3).toInt := by show (u_389.2.1 12 _).toInt = _; rw [G_u_389.2.1 12 rfl]; rfl
                    exact ⟨I_u_389, F_u_389, (by omega), (by omega)⟩
              · refine okM_seq (fun y_397 h_396 => ?_)
                have h_396' : y_397.toInt = x3.toInt - 1 := by rw [h_396]; exact dec_i (by omega)
                refine okM_mono (ih I_u_311 (by have B_398 := IG_b I_u_311; omega) (by have B_399 := IG_b I_u_311; omega) (by have B_400 := IG_b I_u_311; omega) (by have B_401 := IG_b I_u_311; omega) (by have B_402 := IG_b I_u_311; omega)) (fun r_404 u_405 z_403 => ?_)
                obtain ⟨I_u_405, G_u_405, p_406, p_407⟩ := z_403
                have F_u_405 : Fr [] [34] u u_405 := Fr_tr F_u_311 G_u_405 rfl rfl
                have g_408 : (u_405.1 4).toInt = (u_311.1 4).toInt := by rw [G_u_405.1 4 rfl]
                have g_409 : (ga u_405 10 x3).toInt = (ga u_311 10 x3).toInt := by show (u_405.2.1 10 _).toInt = _; rw [G_u_405.2.1 10 rfl]; rfl
                have g_410 : (ga u_405 11 x3).toInt = (ga u_311 11 x3).toInt := by show (u_405.2.1 11 _).toInt = _; rw [G_u_405.2.1 11 rfl]; rfl
                have g_411 : (ga u_405 12 x3).toInt = (ga u_311 12 x3).toInt := by show (u_405.2.1 12 _).toInt = _; rw [G_u_405.2.1 12 rfl]; rfl
                exact ⟨I_u_405, F_u_405, (by omega), (by omega)⟩
            · refine okM_gd (inb_of (by have B_412 := IG_b I_u_298; omega) (by have B_413 := IG_b I_u_298; omega)) ?_
              refine okM_seq (fun u_415 h_414 => ?_)
              have I_u_415 : IG u_415 := by rw [h_414]; exact I_u_298
              have F_u_415 : Fr [] [34] u u_415 := by rw [h_414]; exact Fr_sa F_u_298 rfl rfl rfl
              have g_416 : (ga u_415 10 x3).toInt = (ga u_298 10 x3).toInt := by rw [h_414]; rfl
              have g_417 : (ga u_415 11 x3).toInt = (ga u_298 11 x3).toInt := by rw [h_414]; rfl
              have g_418 : (ga u_415 12 x3).toInt = (ga u_298 12 x3).toInt := by rw [h_414]; rfl
              have g_419 : (u_415.1 4).toInt = (u_298.1 4).toInt := by rw [h_414]; rfl
              rw [mM_SqlReaderModel_isLoose_J117]
              refine okM_eq (fun c_420 c_420' => ?_) (fun c_420 => ?_)
              · refine okM_gd (inb_of (by have B_421 := IG_b I_u_415; omega) (by have B_422 := IG_b I_u_415; omega)) ?_
                refine okM_eq (fun c_423 c_423' => ?_) (fun c_423 => ?_)
                · refine okM_seq (fun y_425 h_424 => ?_)
                  have h_424' : y_425.toInt = x3.toInt - 1 := by rw [h_424]; exact dec_i (by omega)
                  refine okM_mono (ih I_u_415 (by have B_426 := IG_b I_u_415; omega) (by have B_427 := IG_b I_u_415; omega) (by have B_428 := IG_b I_u_415; omega) (by have B_429 := IG_b I_u_415; omega) (by have B_430 := IG_b I_u_415; omega)) (fun r_432 u_433 z_431 => ?_)
                  obtain ⟨I_u_433, G_u_433, p_434, p_435⟩ := z_431
                  have F_u_433 : Fr [] [34] u u_433 := Fr_tr F_u_415 G_u_433 rfl rfl
                  have g_436 : (u_433.1 4).toInt = (u_415.1 4).toInt := by rw [G_u_433.1 4 rfl]
                  have g_437 : (ga u_433 10 x3).toInt = (ga u_415 10 x3).toInt := by show (u_433.2.1 10 _).toInt = _; rw [G_u_433.2.1 10 rfl]; rfl
                  have g_438 : (ga u_433 11 x3).toInt = (ga u_415 11 x3).toInt := by show (u_433.2.1 11 _).toInt = _; rw [G_u_433.2.1 11 rfl]; rfl
                  have g_439 : (ga u_433 12 x3).toInt = (ga u_415 12 x3).toInt := by show (u_433.2.1 12 _).toInt = _; rw [G_u_433.2.1 12 rfl]; rfl
                  exact ⟨I_u_433, F_u_433, (by omega), (by omega)⟩
                · refine okM_gd (inb_of (by have B_440 := IG_b I_u_415; omega) (by have B_441 := IG_b I_u_415; omega)) ?_
                  refine okM_eq (fun c_442 c_442' => ?_) (fun c_442 => ?_)
                  · refine okM_bP (kG_SqlReaderModel_isGrouped I_u_415 (by have FUe : FU = 100000 := rfl; have B_444 := IG_b I_u_415; have B_445 := IG_b I; omega) (by have FUe : FU = 100000 := rfl; have B_446 := IG_b I_u_415; have B_447 := IG_b I; omega)) (fun r_448 z_443 => ?_)
                    obtain ⟨p_449, p_450⟩ := z_443
                    refine okM_eq (fun c_451 c_451' => ?_) (fun c_451 => ?_)
                    · refine okM_seq (fun y_453 h_452 => ?_)
                      have h_452' : y_453.toInt = x3.toInt - 1 := by rw [h_452]; exact dec_i (by omega)
                      refine okM_mono (ih I_u_415 (by have B_454 := IG_b I_u_415; omega) (by have B_455 := IG_b I_u_415; omega) (by have B_456 := IG_b I_u_415; omega) (by have B_457 := IG_b I_u_415; omega) (by have B_458 := IG_b I_u_415; omega)) (fun r_460 u_461 z_459 => ?_)
                      obtain ⟨I_u_461, G_u_461, p_462, p_463⟩ := z_459
                      have F_u_461 : Fr [] [34] u u_461 := Fr_tr F_u_415 G_u_461 rfl rfl
                      have g_464 : (u_461.1 4).toInt = (u_415.1 4).toInt := by rw [G_u_461.1 4 rfl]
                      have g_465 : (ga u_461 10 x3).toInt = (ga u_415 10 x3).toInt := by show (u_461.2.1 10 _).toInt = _; rw [G_u_461.2.1 10 rfl]; rfl
                      have g_466 : (ga u_461 11 x3).toInt = (ga u_415 11 x3).toInt := by show (u_461.2.1 11 _).toInt = _; rw [G_u_461.2.1 11 rfl]; rfl
                      have g_467 : (ga u_461 12 x3).toInt = (ga u_415 12 x3).toInt := by show (u_461.2.1 12 _).toInt = _; rw [G_u_461.2.1 12 rfl]; rfl
                      exact ⟨I_u_461, F_u_461, (by omega), (by omega)⟩
                    · refine okM_seq (fun y_469 h_468 => ?_)
                      have h_468' : y_469.toInt = x3.toInt - 1 := by rw [h_468]; exact dec_i (by omega)
                      refine okM_mono (ih I_u_415 (by have B_470 := IG_b I_u_415; omega) (by have B_471 := IG_b I_u_415; omega) (by have B_472 := IG_b I_u_415; omega) (by have B_473 := IG_b I_u_415; omega) (by have B_474 := IG_b I_u_415; omega)) (fun r_476 u_477 z_475 => ?_)
                      obtain ⟨I_u_477, G_u_477, p_478, p_479⟩ := z_475
                      have F_u_477 : Fr [] [34] u u_477 := Fr_tr F_u_415 G_u_477 rfl rfl
                      have g_480 : (u_477.1 4).toInt = (u_415.1 4).toInt := by rw [G_u_477.1 4 rfl]
                      have g_481 : (ga u_477 10 x3).toInt = (ga u_415 10 x3).toInt := by show (u_477.2.1 10 _).toInt = _; rw [G_u_477.2.1 10 rfl]; rfl
                      have g_482 : (ga u_477 11 x3).toInt = (ga u_415 11 x3).toInt := by show (u_477.2.1 11 _).toInt = _; rw [G_u_477.2.1 11 rfl]; rfl
                      have g_483 : (ga u_477 12 x3).toInt = (ga u_415 12 x3).toInt := by show (u_477.2.1 12 _).toInt = _; rw [G_u_477.2.1 12 rfl]; rfl
                      exact ⟨I_u_477, F_u_477, (by omega), (by omega)⟩
                  · refine okM_seq (fun y_485 h_484 => ?_)
                    have h_484' : y_485.toInt = x3.toInt - 1 := by rw [h_484]; exact dec_i (by omega)
                    refine okM_mono (ih I_u_415 (by have B_486 := IG_b I_u_415; omega) (by have B_487 := IG_b I_u_415; omega) (by have B_488 := IG_b I_u_415; omega) (by have B_489 := IG_b I_u_415; omega) (by have B_490 := IG_b I_u_415; omega)) (fun r_492 u_493 z_491 => ?_)
                    obtain ⟨I_u_493, G_u_493, p_494, p_495⟩ := z_491
                    have F_u_493 : Fr [] [34] u u_493 := Fr_tr F_u_415 G_u_493 rfl rfl
                    have g_496 : (u_493.1 4).toInt = (u_415.1 4).toInt := by rw [G_u_493.1 4 rfl]
                    have g_497 : (ga u_493 10 x3).toInt = (ga u_415 10 x3).toInt := by show (u_493.2.1 10 _).toInt = _; rw [G_u_493.2.1 10 rfl]; rfl
                    have g_498 : (ga u_493 11 x3).toInt = (ga u_415 11 x3).toInt := by show (u_493.2.1 11 _).toInt = _; rw [G_u_493.2.1 11 rfl]; rfl
                    have g_499 : (ga u_493 12 x3).toInt = (ga u_415 12 x3).toInt := by show (u_493.2.1 12 _).toInt = _; rw [G_u_493.2.1 12 rfl]; rfl
                    exact ⟨I_u_493, F_u_493, (by omega), (by omega)⟩
              · refine okM_seq (fun y_501 h_500 => ?_)
                have h_500' : y_501.toInt = x3.toInt - 1 := by rw [h_500]; exact dec_i (by omega)
                refine okM_mono (ih I_u_415 (by have B_502 := IG_b I_u_415; omega) (by have B_503 := IG_b I_u_415; omega) (by have B_504 := IG_b I_u_415; omega) (by have B_505 := IG_b I_u_415; omega) (by have B_506 := IG_b I_u_415; omega)) (fun r_508 u_509 z_507 => ?_)
                obtain ⟨I_u_509, G_u_509, p_510, p_511⟩ := z_507
                have F_u_509 : Fr [] [34] u u_509 := Fr_tr F_u_415 G_u_509 rfl rfl
                have g_512 : (u_509.1 4).toInt = (u_415.1 4).toInt := by rw [G_u_509.1 4 rfl]
                have g_513 : (ga u_509 10 x3).toInt = (ga u_415 10 x3).toInt := by show (u_509.2.1 10 _).toInt = _; rw [G_u_509.2.1 10 rfl]; rfl
                have g_514 : (ga u_509 11 x3).toInt = (ga u_415 11 x3).toInt := by show (u_509.2.1 11 _).toInt = _; rw [G_u_509.2.1 11 rfl]; rfl
                have g_515 : (ga u_509 12 x3).toInt = (ga u_415 12 x3).toInt := by show (u_509.2.1 12 _).toInt = _; rw [G_u_509.2.1 12 rfl]; rfl
                exact ⟨I_u_509, F_u_509, (by omega), (by omega)⟩
theorem kG_SqlReaderModel_isLoose_L4 : ∀ (n : Nat) {x1 : Int32} {x2 : Int32} {x3 : Int32} {u : St} (I : IG u) (h0 : 0 ≤ x1.toInt) (h1 : x1.toInt < (u.1 4).toInt) (h2 : 0 ≤ x2.toInt) (h3 : x2.toInt ≤ 1) (h4 : 0 ≤ x3.toInt) (h5 : x3.toInt ≤ x1.toInt) (hm : (x1.toInt - x3.toInt).toNat < n), okM (mM_SqlReaderModel_isLoose_L4 n x1 x2 x3 u) (fun r v => IG v ∧ Fr [] [34] u v ∧ 0 ≤ r.toInt ∧ r.toInt ≤ 1) := by
  intro n
  induction n with
  | zero => intro x1 x2 x3 u I h0 h1 h2 h3 h4 h5 hm; exact absurd hm (Nat.not_lt_zero _)
  | succ n ih =>
    intro x1 x2 x3 u I h0 h1 h2 h3 h4 h5 hm
    have l0 : (0 : Int32).toInt = 0 := by decide
    have l1 : (1 : Int32).toInt = 1 := by decide
    have l4 : (4 : Int32).toInt = 4 := by decide
    rw [mM_SqlReaderModel_isLoose_L4]
    refine okM_le (fun c_1 => ?_) (fun c_1 => ?_)
    · refine okM_gd (inb_of (by have B_2 := IG_b I; omega) (by have B_3 := IG_b I; omega)) ?_
      refine okM_seq (fun u_5 h_4 => ?_)
      have I_u_5 : IG u_5 := by rw [h_4]; exact I
      have F_u_5 : Fr [] [34] u u_5 := by rw [h_4]; exact Fr_sa (Fr_rfl u) rfl rfl rfl
      have g_6 : (u_5.1 4).toInt = (u.1 4).toInt := by rw [h_4]; rfl
      refine okM_mono (kG_SqlReaderModel_isLoose_L31 _ I_u_5 (by have FUe : FU = 100000 := rfl; have B_7 := IG_b I_u_5; have B_8 := IG_b I; omega) (by have FUe : FU = 100000 := rfl; have B_9 := IG_b I_u_5; have B_10 := IG_b I; omega) (by have FUe : FU = 100000 := rfl; have B_11 := IG_b I_u_5; have B_12 := IG_b I; omega) (by have FUe : FU = 100000 := rfl; have B_13 := IG_b I_u_5; have B_14 := IG_b I; omega) (by have FUe : FU = 100000 := rfl; have B_15 := IG_b I_u_5; have B_16 := IG_b I; omega)) (fun r_18 u_19 z_17 => ?_)
      obtain ⟨I_u_19, G_u_19, p_20, p_21⟩ := z_17
      have F_u_19 : Fr [] [34] u u_19 := Fr_tr F_u_5 G_u_19 rfl rfl
      have g_22 : (u_19.1 4).toInt = (u_5.1 4).toInt := by rw [G_u_19.1 4 rfl]
      exact ⟨I_u_19, F_u_19, (by omega), (by omega)⟩
    · refine okM_gd (inb_of (by have B_23 := IG_b I; omega) (by have B_24 := IG_b I; omega)) ?_
      refine okM_seq (fun u_26 h_25 => ?_)
      have I_u_26 : IG u_26 := by rw [h_25]; exact I
      have F_u_26 : Fr [] [34] u u_26 := by rw [h_25]; exact Fr_sa (Fr_rfl u) rfl rfl rfl
      have g_27 : (u_26.1 4).toInt = (u.1 4).toInt := by rw [h_25]; rfl
      try have e_30 : (x3 + 1 : Int32).toInt = (x3 : Int32).toInt + (1 : Int32).toInt := by have B_31 := IG_b I; exact add_i (by omega) (by omega)
      refine okM_seq (fun y_29 h_28 => ?_)
      have h_28' : y_29.toInt = (x3 + 1 : Int32).toInt := by rw [h_28]
      refine okM_mono (ih I_u_26 (by have B_32 := IG_b I_u_26; omega) (by have B_33 := IG_b I_u_26; omega) (by have B_34 := IG_b I_u_26; omega) (by have B_35 := IG_b I_u_26; omega) (by have B_36 := IG_b I_u_26; omega) (by have B_37 := IG_b I_u_26; omega) (by have B_38 := IG_b I_u_26; omega)) (fun r_40 u_41 z_39 => ?_)
      obtain ⟨I_u_41, G_u_41, p_42, p_43⟩ := z_39
      have F_u_41 : Fr [] [34] u u_41 := Fr_tr F_u_26 G_u_41 rfl rfl
      have g_44 : (u_41.1 4).toInt = (u_26.1 4).toInt := by rw [G_u_41.1 4 rfl]
      exact ⟨I_u_41, F_u_41, (by omega), (by omega)⟩
theorem kG_SqlReaderModel_isLoose {x1 : Int32} {u : St} (I : IG u) (h0 : 0 ≤ x1.toInt) (h1 : x1.toInt < (u.1 4).toInt) : okM (mM_SqlReaderModel_isLoose x1 u) (fun r v => IG v ∧ Fr [] [34] u v ∧ 0 ≤ r.toInt ∧ r.toInt ≤ 1) := by
  have l0 : (0 : Int32).toInt = 0 := by decide
  have l1 : (1 : Int32).toInt = 1 := by decide
  have l4 : (4 : Int32).toInt = 4 := by decide
  rw [mM_SqlReaderModel_isLoose]
  refine okM_mono (kG_SqlReaderModel_isLoose_L4 _ I (by have FUe : FU = 100000 := rfl; have B_1 := IG_b I; omega) (by have FUe : FU = 100000 := rfl; have B_2 := IG_b I; omega) (by have FUe : FU = 100000 := rfl; have B_3 := IG_b I; omega) (by have FUe : FU = 100000 := rfl; have B_4 := IG_b I; omega) (by have FUe : FU = 100000 := rfl; have B_5 := IG_b I; omega) (by have FUe : FU = 100000 := rfl; have B_6 := IG_b I; omega) (by have FUe : FU = 100000 := rfl; have B_7 := IG_b I; omega)) (fun r_9 u_10 z_8 => ?_)
  obtain ⟨I_u_10, G_u_10, p_11, p_12⟩ := z_8
  have F_u_10 : Fr [] [34] u u_10 := Fr_tr (Fr_rfl u) G_u_10 rfl rfl
  exact ⟨I_u_10, F_u_10, (by omega), (by omega)⟩
theorem kG_SqlReaderModel_checkGroups_L60 : ∀ (n : Nat) {x1 : Int32} {x2 : Int32} {u : St} (I : IG u) (h0 : 0 ≤ x2.toInt) (h1 : x2.toInt ≤ (u.1 16).toInt) (hm : ((u.1 16).toInt - x2.toInt).toNat < n), okM (mM_SqlReaderModel_checkGroups_L60 n x1 x2 u) (fun r v => IG v ∧ Fr [] [34] u v ∧ 0 ≤ r.toInt ∧ r.toInt ≤ 10) := by
  intro n
  induction n with
  | zero => intro x1 x2 u I h0 h1 hm; exact absurd hm (Nat.not_lt_zero _)
  | succ n ih =>
    intro x1 x2 u I h0 h1 hm
    have l0 : (0 : Int32).toInt = 0 := by decide
    have l1 : (1 : Int32).toInt = 1 := by decide
    have l2 : (2 : Int32).toInt = 2 := by decide
    have l4 : (4 : Int32).toInt = 4 := by decide
    have l8 : (8 : Int32).toInt = 8 := by decide
    have l9 : (9 : Int32).toInt = 9 := by decide
    have l10 : (10 : Int32).toInt = 10 := by decide
    have l11 : (11 : Int32).toInt = 11 := by decide
    have l14 : (14 : Int32).toInt = 14 := by decide
    have l15 : (15 : Int32).toInt = 15 := by decide
    have l16 : (16 : Int32).toInt = 16 := by decide
    have l19 : (19 : Int32).toInt = 19 := by decide
    have l21 : (21 : Int32).toInt = 21 := by decide
    rw [mM_SqlReaderModel_checkGroups_L60]
    have IT := IG_it I x2
    refine okM_le (fun c_1 => ?_) (fun c_1 => ?_)
    · refine okM_le (fun c_2 => ?_) (fun c_2 => ?_)
      · rw [mM_SqlReaderModel_checkGroups_J127]
        refine okM_le (fun c_3 => ?_) (fun c_3 => ?_)
        · exact okM_some ⟨I, (Fr_rfl u), (by omega), (by omega)⟩
        · refine okM_bP (kM_SqlReaderModel_deed (IG_IB I)) (fun r_5 z_4 => ?_)
          have p_6 := z_4
          refine okM_eq (fun c_7 c_7' => ?_) (fun c_7 => ?_)
          · exact okM_some ⟨I, (Fr_rfl u), (by omega), (by omega)⟩
          · refine okM_bP (kM_SqlReaderModel_deed (IG_IB I)) (fun r_9 z_8 => ?_)
            have p_10 := z_8
            refine okM_eq (fun c_11 c_11' => ?_) (fun c_11 => ?_)
            · exact okM_some ⟨I, (Fr_rfl u), (by omega), (by omega)⟩
            · refine okM_pos (by decide) ?_
              exact okM_some ⟨I, (Fr_rfl u), (by omega), (by omega)⟩
      · refine okM_eq (fun c_12 c_12' => ?_) (fun c_12 => ?_)
        · refine okM_eq (fun c_13 c_13' => ?_) (fun c_13 => ?_)
          · refine okM_bP (kM_SqlReaderModel_deed (IG_IB I)) (fun r_15 z_14 => ?_)
            have p_16 := z_14
            refine okM_eq (fun c_17 c_17' => ?_) (fun c_17 => ?_)
            · rw [mM_SqlReaderModel_checkGroups_J127]
              refine okM_le (fun c_18 => ?_) (fun c_18 => ?_)
              · exact okM_some ⟨I, (Fr_rfl u), (by omega), (by omega)⟩
              · refine okM_bP (kM_SqlReaderModel_deed (IG_IB I)) (fun r_20 z_19 => ?_)
                have p_21 := z_19
                refine okM_eq (fun c_22 c_22' => ?_) (fun c_22 => ?_)
                · exact okM_some ⟨I, (Fr_rfl u), (by omega), (by omega)⟩
                · refine okM_bP (kM_SqlReaderModel_deed (IG_IB I)) (fun r_24 z_23 => ?_)
                  have p_25 := z_23
                  refine okM_eq (fun c_26 c_26' => ?_) (fun c_26 => ?_)
                  · exact okM_some ⟨I, (Fr_rfl u), (by omega), (by omega)⟩
                  · refine okM_neg (by decide) ?_
                    exact okM_some ⟨I, (Fr_rfl u), (by omega), (by omega)⟩
            · rw [mM_SqlReaderModel_checkGroups_J127]
              refine okM_le (fun c_27 => ?_) (fun c_27 => ?_)
              · exact okM_some ⟨I, (Fr_rfl u), (by omega), (by omega)⟩
              · refine okM_bP (kM_SqlReaderModel_deed (IG_IB I)) (fun r_29 z_28 => ?_)
                have p_30 := z_28
                refine okM_eq (fun c_31 c_31' => ?_) (fun c_31 => ?_)
                · exact okM_some ⟨I, (Fr_rfl u), (by omega), (by omega)⟩
                · refine okM_bP (kM_SqlReaderModel_deed (IG_IB I)) (fun r_33 z_32 => ?_)
                  have p_34 := z_32
                  refine okM_eq (fun c_35 c_35' => ?_) (fun c_35 => ?_)
                  · exact okM_some ⟨I, (Fr_rfl u), (by omega), (by omega)⟩
                  · refine okM_pos (by decide) ?_
                    exact okM_some ⟨I, (Fr_rfl u), (by omega), (by omega)⟩
          · rw [mM_SqlReaderModel_checkGroups_J127]
            refine okM_le (fun c_36 => ?_) (fun c_36 => ?_)
            · exact okM_some ⟨I, (Fr_rfl u), (by omega), (by omega)⟩
            · refine okM_bP (kM_SqlReaderModel_deed (IG_IB I)) (fun r_38 z_37 => ?_)
              have p_39 := z_37
              refine okM_eq (fun c_40 c_40' => ?_) (fun c_40 => ?_)
              · exact okM_some ⟨I, (Fr_rfl u), (by omega), (by omega)⟩
              · refine okM_bP (kM_SqlReaderModel_deed (IG_IB I)) (fun r_42 z_41 => ?_)
                have p_43 := z_41
                refine okM_eq (fun c_44 c_44' => ?_) (fun c_44 => ?_)
                · exact okM_some ⟨I, (Fr_rfl u), (by omega), (by omega)⟩
                · refine okM_pos (by decide) ?_
                  exact okM_some ⟨I, (Fr_rfl u), (by omega), (by omega)⟩
        · rw [mM_SqlReaderModel_checkGroups_J127]
          refine okM_le (fun c_45 => ?_) (fun c_45 => ?_)
          · exact okM_some ⟨I, (Fr_rfl u), (by omega), (by omega)⟩
          · refine okM_bP (kM_SqlReaderModel_deed (IG_IB I)) (fun r_47 z_46 => ?_)
            have p_48 := z_46
            refine okM_eq (fun c_49 c_49' => ?_) (fun c_49 => ?_)
            · exact okM_some ⟨I, (Fr_rfl u), (by omega), (by omega)⟩
            · refine okM_bP (kM_SqlReaderModel_deed (IG_IB I)) (fun r_51 z_50 => ?_)
              have p_52 := z_50
              refine okM_eq (fun c_53 c_53' => ?_) (fun c_53 => ?_)
              · exact okM_some ⟨I, (Fr_rfl u), (by omega), (by omega)⟩
              · refine okM_pos (by decide) ?_
                exact okM_some ⟨I, (Fr_rfl u), (by omega), (by omega)⟩
    · refine okM_eq (fun c_54 c_54' => ?_) (fun c_54 => ?_)
      · try have e_57 : (x2 + 1 : Int32).toInt = (x2 : Int32).toInt + (1 : Int32).toInt := by have B_58 := IG_b I; exact add_i (by omega) (by omega)
        refine okM_seq (fun y_56 h_55 => ?_)
        have h_55' : y_56.toInt = (x2 + 1 : Int32).toInt := by rw [h_55]
        refine okM_mono (ih I (by have B_59 := IG_b I; omega) (by have B_60 := IG_b I; omega) (by have B_61 := IG_b I; omega)) (fun r_63 u_64 z_62 => ?_)
        obtain ⟨I_u_64, G_u_64, p_65, p_66⟩ := z_62
        have F_u_64 : Fr [] [34] u u_64 := Fr_tr (Fr_rfl u) G_u_64 rfl rfl
        have g_67 : (u_64.1 16).toInt = (u.1 16).toInt := by rw [G_u_64.1 16 rfl]
        exact ⟨I_u_64, F_u_64, (by omega), (by omega)⟩
      · refine okM_gd (inb_of (by have B_68 := IG_b I; omega) (by have B_69 := IG_b I; omega)) ?_
        refine okM_bM (kG_SqlReaderModel_isLoose I (by have FUe : FU = 100000 := rfl; have B_71 := IG_b I; omega) (by have FUe : FU = 100000 := rfl; have B_72 := IG_b I; omega)) (fun r_73 u_74 z_70 => ?_)
        obtain ⟨I_u_74, G_u_74, p_75, p_76⟩ := z_70
        have F_u_74 : Fr [] [34] u u_74 := Fr_tr (Fr_rfl u) G_u_74 rfl rfl
        have g_77 : (u_74.1 16).toInt = (u.1 16).toInt := by rw [G_u_74.1 16 rfl]
        refine okM_eq (fun c_78 c_78' => ?_) (fun c_78 => ?_)
        · try have e_81 : (x2 + 1 : Int32).toInt = (x2 : Int32).toInt + (1 : Int32).toInt := by have B_82 := IG_b I; exact add_i (by omega) (by omega)
          refine okM_seq (fun y_80 h_79 => ?_)
          have h_79' : y_80.toInt = (x2 + 1 : Int32).toInt := by rw [h_79]
          refine okM_mono (ih I_u_74 (by have B_83 := IG_b I_u_74; omega) (by have B_84 := IG_b I_u_74; omega) (by have B_85 := IG_b I_u_74; omega)) (fun r_87 u_88 z_86 => ?_)
          obtain ⟨I_u_88, G_u_88, p_89, p_90⟩ := z_86
          have F_u_88 : Fr [] [34] u u_88 := Fr_tr F_u_74 G_u_88 rfl rfl
          have g_91 : (u_88.1 16).toInt = (u_74.1 16).toInt := by rw [G_u_88.1 16 rfl]
          exact ⟨I_u_88, F_u_88, (by omega), (by omega)⟩
        · exact okM_some ⟨I_u_74, F_u_74, (by omega), (by omega)⟩
