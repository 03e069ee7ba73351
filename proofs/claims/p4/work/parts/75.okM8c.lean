theorem kG_SqlReaderModel_checkGroups_L2 : ∀ (n : Nat) {x1 : Int32} {u : St} (I : IG u) (h0 : 0 ≤ x1.toInt) (h1 : x1.toInt ≤ (u.1 4).toInt) (hm : ((u.1 4).toInt - x1.toInt).toNat < n), okM (mM_SqlReaderModel_checkGroups_L2 n x1 u) (fun r v => IG v ∧ Fr [] [34] u v ∧ 0 ≤ r.toInt ∧ r.toInt ≤ 10) := by
  intro n
  induction n with
  | zero => intro x1 u I h0 h1 hm; exact absurd hm (Nat.not_lt_zero _)
  | succ n ih =>
    intro x1 u I h0 h1 hm
    have l0 : (0 : Int32).toInt = 0 := by decide
    have l1 : (1 : Int32).toInt = 1 := by decide
    have l4 : (4 : Int32).toInt = 4 := by decide
    have l5 : (5 : Int32).toInt = 5 := by decide
    have l9 : (9 : Int32).toInt = 9 := by decide
    have l10 : (10 : Int32).toInt = 10 := by decide
    have l11 : (11 : Int32).toInt = 11 := by decide
    have l16 : (16 : Int32).toInt = 16 := by decide
    rw [mM_SqlReaderModel_checkGroups_L2]
    have N_x1 := IG_nd I x1
    refine okM_le (fun c_1 => ?_) (fun c_1 => ?_)
    · refine okM_bM (kG_SqlReaderModel_gathered I) (fun r_3 u_4 z_2 => ?_)
      obtain ⟨I_u_4, G_u_4, p_5, p_6⟩ := z_2
      have F_u_4 : Fr [] [34] u u_4 := Fr_tr (Fr_rfl u) G_u_4 rfl rfl
      have g_7 : (u_4.1 4).toInt = (u.1 4).toInt := by rw [G_u_4.1 4 rfl]
      refine okM_mono (kG_SqlReaderModel_checkGroups_L60 _ I_u_4 (by have FUe : FU = 100000 := rfl; have B_8 := IG_b I_u_4; have B_9 := IG_b I; omega) (by have FUe : FU = 100000 := rfl; have B_10 := IG_b I_u_4; have B_11 := IG_b I; omega) (by have FUe : FU = 100000 := rfl; have B_12 := IG_b I_u_4; have B_13 := IG_b I; omega)) (fun r_15 u_16 z_14 => ?_)
      obtain ⟨I_u_16, G_u_16, p_17, p_18⟩ := z_14
      have F_u_16 : Fr [] [34] u u_16 := Fr_tr F_u_4 G_u_16 rfl rfl
      have g_19 : (u_16.1 4).toInt = (u_4.1 4).toInt := by rw [G_u_16.1 4 rfl]
      exact ⟨I_u_16, F_u_16, (by omega), (by omega)⟩
    · refine okM_gd (inb_of (by have B_20 := IG_b I; omega) (by have B_21 := IG_b I; omega)) ?_
      refine okM_le (fun c_22 => ?_) (fun c_22 => ?_)
      · try have e_25 : (x1 + 1 : Int32).toInt = (x1 : Int32).toInt + (1 : Int32).toInt := by have B_26 := IG_b I; exact add_i (by omega) (by omega)
        refine okM_seq (fun y_24 h_23 => ?_)
        have h_23' : y_24.toInt = (x1 + 1 : Int32).toInt := by rw [h_23]
        refine okM_mono (ih I (by have B_27 := IG_b I; omega) (by have B_28 := IG_b I; omega) (by have B_29 := IG_b I; omega)) (fun r_31 u_32 z_30 => ?_)
        obtain ⟨I_u_32, G_u_32, p_33, p_34⟩ := z_30
        have F_u_32 : Fr [] [34] u u_32 := Fr_tr (Fr_rfl u) G_u_32 rfl rfl
        have g_35 : (u_32.1 4).toInt = (u.1 4).toInt := by rw [G_u_32.1 4 rfl]
        exact ⟨I_u_32, F_u_32, (by omega), (by omega)⟩
      · refine okM_gd (inb_of (by have B_36 := IG_b I; omega) (by have B_37 := IG_b I; omega)) ?_
        refine okM_le (fun c_38 => ?_) (fun c_38 => ?_)
        · try have e_41 : (x1 + 1 : Int32).toInt = (x1 : Int32).toInt + (1 : Int32).toInt := by have B_42 := IG_b I; exact add_i (by omega) (by omega)
          refine okM_seq (fun y_40 h_39 => ?_)
          have h_39' : y_40.toInt = (x1 + 1 : Int32).toInt := by rw [h_39]
          refine okM_mono (ih I (by have B_43 := IG_b I; omega) (by have B_44 := IG_b I; omega) (by have B_45 := IG_b I; omega)) (fun r_47 u_48 z_46 => ?_)
          obtain ⟨I_u_48, G_u_48, p_49, p_50⟩ := z_46
          have F_u_48 : Fr [] [34] u u_48 := Fr_tr (Fr_rfl u) G_u_48 rfl rfl
          have g_51 : (u_48.1 4).toInt = (u.1 4).toInt := by rw [G_u_48.1 4 rfl]
          exact ⟨I_u_48, F_u_48, (by omega), (by omega)⟩
        · refine okM_gd (inb_of (by have B_52 := IG_b I; omega) (by have B_53 := IG_b I; omega)) ?_
          refine okM_bM (kG_SqlReaderModel_hasAggregate I (by have FUe : FU = 100000 := rfl; have B_55 := IG_b I; omega) (by have FUe : FU = 100000 := rfl; have B_56 := IG_b I; omega)) (fun r_57 u_58 z_54 => ?_)
          obtain ⟨I_u_58, G_u_58, p_59, p_60⟩ := z_54
          have F_u_58 : Fr [] [34] u u_58 := Fr_tr (Fr_rfl u) G_u_58 rfl rfl
          have g_61 : (u_58.1 4).toInt = (u.1 4).toInt := by rw [G_u_58.1 4 rfl]
          refine okM_eq (fun c_62 c_62' => ?_) (fun c_62 => ?_)
          · try have e_65 : (x1 + 1 : Int32).toInt = (x1 : Int32).toInt + (1 : Int32).toInt := by have B_66 := IG_b I; exact add_i (by omega) (by omega)
            refine okM_seq (fun y_64 h_63 => ?_)
            have h_63' : y_64.toInt = (x1 + 1 : Int32).toInt := by rw [h_63]
            refine okM_mono (ih I_u_58 (by have B_67 := IG_b I_u_58; omega) (by have B_68 := IG_b I_u_58; omega) (by have B_69 := IG_b I_u_58; omega)) (fun r_71 u_72 z_70 => ?_)
            obtain ⟨I_u_72, G_u_72, p_73, p_74⟩ := z_70
            have F_u_72 : Fr [] [34] u u_72 := Fr_tr F_u_58 G_u_72 rfl rfl
            have g_75 : (u_72.1 4).toInt = (u_58.1 4).toInt := by rw [G_u_72.1 4 rfl]
            exact ⟨I_u_72, F_u_72, (by omega), (by omega)⟩
          · exact okM_some ⟨I_u_58, F_u_58, (by omega), (by omega)⟩
theorem kG_SqlReaderModel_checkGroups {u : St} (I : IG u) : okM (mM_SqlReaderModel_checkGroups u) (fun r v => IG v ∧ Fr [] [34] u v ∧ 0 ≤ r.toInt ∧ r.toInt ≤ 10) := by
  have l0 : (0 : Int32).toInt = 0 := by decide
  have l4 : (4 : Int32).toInt = 4 := by decide
  have l10 : (10 : Int32).toInt = 10 := by decide
  rw [mM_SqlReaderModel_checkGroups]
  refine okM_mono (kG_SqlReaderModel_checkGroups_L2 _ I (by have FUe : FU = 100000 := rfl; have B_1 := IG_b I; omega) (by have FUe : FU = 100000 := rfl; have B_2 := IG_b I; omega) (by have FUe : FU = 100000 := rfl; have B_3 := IG_b I; omega)) (fun r_5 u_6 z_4 => ?_)
  obtain ⟨I_u_6, G_u_6, p_7, p_8⟩ := z_4
  have F_u_6 : Fr [] [34] u u_6 := Fr_tr (Fr_rfl u) G_u_6 rfl rfl
  exact ⟨I_u_6, F_u_6, (by omega), (by omega)⟩
