theorem kC_Parser_typeWord {u : St} (I : IC u) : okM (mC_Parser_typeWord u) (fun r v => IC v ∧ 0 ≤ r.toInt ∧ r.toInt ≤ 3) := by
  have l0 : (0 : Int32).toInt = 0 := by decide
  have l1 : (1 : Int32).toInt = 1 := by decide
  have l2 : (2 : Int32).toInt = 2 := by decide
  have l3 : (3 : Int32).toInt = 3 := by decide
  have l52 : (52 : Int32).toInt = 52 := by decide
  have l53 : (53 : Int32).toInt = 53 := by decide
  have l54 : (54 : Int32).toInt = 54 := by decide
  rw [mC_Parser_typeWord]
  refine okM_bM (kC_Tokens_takes I (by decide)) (fun r_2 u_3 z_1 => ?_)
  obtain ⟨I_u_3, p_4, p_5⟩ := z_1
  refine okM_eq (fun c_6 c_6' => ?_) (fun c_6 => ?_)
  · refine okM_bM (kC_Tokens_takes I_u_3 (by decide)) (fun r_8 u_9 z_7 => ?_)
    obtain ⟨I_u_9, p_10, p_11⟩ := z_7
    refine okM_eq (fun c_12 c_12' => ?_) (fun c_12 => ?_)
    · refine okM_bM (kC_Tokens_takes I_u_9 (by decide)) (fun r_14 u_15 z_13 => ?_)
      obtain ⟨I_u_15, p_16, p_17⟩ := z_13
      refine okM_eq (fun c_18 c_18' => ?_) (fun c_18 => ?_)
      · exact okM_some ⟨I_u_15, (by omega), (by omega)⟩
      · exact okM_some ⟨I_u_15, (by omega), (by omega)⟩
    · exact okM_some ⟨I_u_9, (by omega), (by omega)⟩
  · exact okM_some ⟨I_u_3, (by omega), (by omega)⟩
theorem kC_Parser_newColumn {u : St} (I : IC u) : okM (mC_Parser_newColumn u) (fun r v => IC v ∧ 0 ≤ r.toInt ∧ r.toInt ≤ 1) := by
  have l0 : (0 : Int32).toInt = 0 := by decide
  have l1 : (1 : Int32).toInt = 1 := by decide
  have l5 : (5 : Int32).toInt = 5 := by decide
  have l6 : (6 : Int32).toInt = 6 := by decide
  have l7 : (7 : Int32).toInt = 7 := by decide
  have l10 : (10 : Int32).toInt = 10 := by decide
  have l12 : (12 : Int32).toInt = 12 := by decide
  have l13 : (13 : Int32).toInt = 13 := by decide
  have l14 : (14 : Int32).toInt = 14 := by decide
  have l20 : (20 : Int32).toInt = 20 := by decide
  have l55 : (55 : Int32).toInt = 55 := by decide
  have l200 : (200 : Int32).toInt = 200 := by decide
  rw [mC_Parser_newColumn]
  refine okM_bM (kC_Tokens_take I) (fun r_2 u_3 z_1 => ?_)
  obtain ⟨I_u_3, p_4, p_5, p_6⟩ := z_1
  refine okM_bM (kC_Parser_typeWord I_u_3) (fun r_8 u_9 z_7 => ?_)
  obtain ⟨I_u_9, p_10, p_11⟩ := z_7
  refine okM_lt (fun c_12 => ?_) (fun c_12 => ?_)
  · exact okM_some ⟨I_u_9, (by omega), (by omega)⟩
  · refine okM_eq (fun c_13 c_13' => ?_) (fun c_13 => ?_)
    · exact okM_some ⟨I_u_9, (by omega), (by omega)⟩
    · refine okM_bM (kC_Tokens_takes I_u_9 (by decide)) (fun r_15 u_16 z_14 => ?_)
      obtain ⟨I_u_16, p_17, p_18⟩ := z_14
      refine okM_eq (fun c_19 c_19' => ?_) (fun c_19 => ?_)
      · rw [mC_Parser_newColumn_J52]
        refine okM_bM (kC_Tokens_takes I_u_16 (by decide)) (fun r_21 u_22 z_20 => ?_)
        obtain ⟨I_u_22, p_23, p_24⟩ := z_20
        refine okM_bP (kC_Lists_add I_u_22 (by have FUe : FU = 100000 := rfl; have B_26 := IC_b I_u_22; omega)) (fun u_27 z_25 => ?_)
        have I_u_27 := z_25
        refine okM_eq (fun c_28 c_28' => ?_) (fun c_28 => ?_)
        · rw [mC_Parser_newColumn_J90]
          refine okM_eq (fun c_29 c_29' => ?_) (fun c_29 => ?_)
          · try have e_30 : (r_8 + 0 : Int32).toInt = (r_8 : Int32).toInt + (0 : Int32).toInt := by exact add_i (by omega) (by omega)
            try have e_31 : ((r_8 + 0) + 0 : Int32).toInt = ((r_8 + 0) : Int32).toInt + (0 : Int32).toInt := by exact add_i (by omega) (by omega)
            refine okM_bP (kC_Lists_add I_u_27 (by have FUe : FU = 100000 := rfl; have B_33 := IC_b I_u_27; omega)) (fun u_34 z_32 => ?_)
            have I_u_34 := z_32
            exact okM_some ⟨I_u_34, (by omega), (by omega)⟩
          · try have e_35 : (r_8 + 0 : Int32).toInt = (r_8 : Int32).toInt + (0 : Int32).toInt := by exact add_i (by omega) (by omega)
            try have e_36 : ((r_8 + 0) + 20 : Int32).toInt = ((r_8 + 0) : Int32).toInt + (20 : Int32).toInt := by exact add_i (by omega) (by omega)
            refine okM_bP (kC_Lists_add I_u_27 (by have FUe : FU = 100000 := rfl; have B_38 := IC_b I_u_27; omega)) (fun u_39 z_37 => ?_)
            have I_u_39 := z_37
            exact okM_some ⟨I_u_39, (by omega), (by omega)⟩
        · rw [mC_Parser_newColumn_J90]
          refine okM_eq (fun c_40 c_40' => ?_) (fun c_40 => ?_)
          · try have e_41 : (r_8 + 10 : Int32).toInt = (r_8 : Int32).toInt + (10 : Int32).toInt := by exact add_i (by omega) (by omega)
            try have e_42 : ((r_8 + 10) + 0 : Int32).toInt = ((r_8 + 10) : Int32).toInt + (0 : Int32).toInt := by exact add_i (by omega) (by omega)
            refine okM_bP (kC_Lists_add I_u_27 (by have FUe : FU = 100000 := rfl; have B_44 := IC_b I_u_27; omega)) (fun u_45 z_43 => ?_)
            have I_u_45 := z_43
            exact okM_some ⟨I_u_45, (by omega), (by omega)⟩
          · try have e_46 : (r_8 + 10 : Int32).toInt = (r_8 : Int32).toInt + (10 : Int32).toInt := by exact add_i (by omega) (by omega)
            try have e_47 : ((r_8 + 10) + 20 : Int32).toInt = ((r_8 + 10) : Int32).toInt + (20 : Int32).toInt := by exact add_i (by omega) (by omega)
            refine okM_bP (kC_Lists_add I_u_27 (by have FUe : FU = 100000 := rfl; have B_49 := IC_b I_u_27; omega)) (fun u_50 z_48 => ?_)
            have I_u_50 := z_48
            exact okM_some ⟨I_u_50, (by omega), (by omega)⟩
      · refine okM_bM (kC_Tokens_takes I_u_16 (by decide)) (fun r_52 u_53 z_51 => ?_)
        obtain ⟨I_u_53, p_54, p_55⟩ := z_51
        refine okM_eq (fun c_56 c_56' => ?_) (fun c_56 => ?_)
        · exact okM_some ⟨I_u_53, (by omega), (by omega)⟩
        · rw [mC_Parser_newColumn_J52]
          refine okM_bM (kC_Tokens_takes I_u_53 (by decide)) (fun r_58 u_59 z_57 => ?_)
          obtain ⟨I_u_59, p_60, p_61⟩ := z_57
          refine okM_bP (kC_Lists_add I_u_59 (by have FUe : FU = 100000 := rfl; have B_63 := IC_b I_u_59; omega)) (fun u_64 z_62 => ?_)
          have I_u_64 := z_62
          refine okM_eq (fun c_65 c_65' => ?_) (fun c_65 => ?_)
          · rw [mC_Parser_newColumn_J90]
            refine okM_eq (fun c_66 c_66' => ?_) (fun c_66 => ?_)
            · try have e_67 : (r_8 + 0 : Int32).toInt = (r_8 : Int32).toInt + (0 : Int32).toInt := by exact add_i (by omega) (by omega)
              try have e_68 : ((r_8 + 0) + 0 : Int32).toInt = ((r_8 + 0) : Int32).toInt + (0 : Int32).toInt := by exact add_i (by omega) (by omega)
              refine okM_bP (kC_Lists_add I_u_64 (by have FUe : FU = 100000 := rfl; have B_70 := IC_b I_u_64; omega)) (fun u_71 z_69 => ?_)
              have I_u_71 := z_69
              exact okM_some ⟨I_u_71, (by omega), (by omega)⟩
            · try have e_72 : (r_8 + 0 : Int32).toInt = (r_8 : Int32).toInt + (0 : Int32).toInt := by exact add_i (by omega) (by omega)
              try have e_73 : ((r_8 + 0) + 20 : Int32).toInt = ((r_8 + 0) : Int32).toInt + (20 : Int32).toInt := by exact add_i (by omega) (by omega)
              refine okM_bP (kC_Lists_add I_u_64 (by have FUe : FU = 100000 := rfl; have B_75 := IC_b I_u_64; omega)) (fun u_76 z_74 => ?_)
              have I_u_76 := z_74
              exact okM_some ⟨I_u_76, (by omega), (by omega)⟩
          · rw [mC_Parser_newColumn_J90]
            refine okM_eq (fun c_77 c_77' => ?_) (fun c_77 => ?_)
            · try have e_78 : (r_8 + 10 : Int32).toInt = (r_8 : Int32).toInt + (10 : Int32).toInt := by exact add_i (by omega) (by omega)
              try have e_79 : ((r_8 + 10) + 0 : Int32).toInt = ((r_8 + 10) : Int32).toInt + (0 : Int32).toInt := by exact add_i (by omega) (by omega)
              refine okM_bP (kC_Lists_add I_u_64 (by have FUe : FU = 100000 := rfl; have B_81 := IC_b I_u_64; omega)) (fun u_82 z_80 => ?_)
              have I_u_82 := z_80
              exact okM_some ⟨I_u_82, (by omega), (by omega)⟩
            · try have e_83 : (r_8 + 10 : Int32).toInt = (r_8 : Int32).toInt + (10 : Int32).toInt := by exact add_i (by omega) (by omega)
              try have e_84 : ((r_8 + 10) + 20 : Int32).toInt = ((r_8 + 10) : Int32).toInt + (20 : Int32).toInt := by exact add_i (by omega) (by omega)
              refine okM_bP (kC_Lists_add I_u_64 (by have FUe : FU = 100000 := rfl; have B_86 := IC_b I_u_64; omega)) (fun u_87 z_85 => ?_)
              have I_u_87 := z_85
              exact okM_some ⟨I_u_87, (by omega), (by omega)⟩
theorem kC_Parser_columns_L27 : ∀ (n : Nat) {x1 : Int32} {x2 : Int32} {u : St} (I : IC u) (h0 : 0 ≤ x2.toInt) (h1 : x2.toInt ≤ 2000) (h2 : 0 ≤ x1.toInt) (h3 : x1.toInt ≤ 1) (hm : (2000 - x2.toInt).toNat < n), okM (mC_Parser_columns_L27 n x1 x2 u) (fun r v => IC v ∧ 0 ≤ r.toInt ∧ r.toInt ≤ 1) := by
  intro n
  induction n with
  | zero => intro x1 x2 u I h0 h1 h2 h3 hm; exact absurd hm (Nat.not_lt_zero _)
  | succ n ih =>
    intro x1 x2 u I h0 h1 h2 h3 hm
    have l0 : (0 : Int32).toInt = 0 := by decide
    have l1 : (1 : Int32).toInt = 1 := by decide
    have l9 : (9 : Int32).toInt = 9 := by decide
    have l33 : (33 : Int32).toInt = 33 := by decide
    have l2000 : (2000 : Int32).toInt = 2000 := by decide
    rw [mC_Parser_columns_L27]
    refine okM_le (fun c_1 => ?_) (fun c_1 => ?_)
    · rw [mC_Parser_columns_J61]
      refine okM_eq (fun c_2 c_2' => ?_) (fun c_2 => ?_)
      · exact okM_some ⟨I, (by omega), (by omega)⟩
      · refine okM_bM (kC_Tokens_takes I (by decide)) (fun r_4 u_5 z_3 => ?_)
        obtain ⟨I_u_5, p_6, p_7⟩ := z_3
        refine okM_eq (fun c_8 c_8' => ?_) (fun c_8 => ?_)
        · exact okM_some ⟨I_u_5, (by omega), (by omega)⟩
        · exact okM_some ⟨I_u_5, (by omega), (by omega)⟩
    · refine okM_eq (fun c_9 c_9' => ?_) (fun c_9 => ?_)
      · rw [mC_Parser_columns_J61]
        refine okM_eq (fun c_10 c_10' => ?_) (fun c_10 => ?_)
        · exact okM_some ⟨I, (by omega), (by omega)⟩
        · refine okM_bM (kC_Tokens_takes I (by decide)) (fun r_12 u_13 z_11 => ?_)
          obtain ⟨I_u_13, p_14, p_15⟩ := z_11
          refine okM_eq (fun c_16 c_16' => ?_) (fun c_16 => ?_)
          · exact okM_some ⟨I_u_13, (by omega), (by omega)⟩
          · exact okM_some ⟨I_u_13, (by omega), (by omega)⟩
      · refine okM_bM (kC_Tokens_takes I (by decide)) (fun r_18 u_19 z_17 => ?_)
        obtain ⟨I_u_19, p_20, p_21⟩ := z_17
        refine okM_eq (fun c_22 c_22' => ?_) (fun c_22 => ?_)
        · rw [mC_Parser_columns_J61]
          refine okM_eq (fun c_23 c_23' => ?_) (fun c_23 => ?_)
          · exact okM_some ⟨I_u_19, (by omega), (by omega)⟩
          · refine okM_bM (kC_Tokens_takes I_u_19 (by decide)) (fun r_25 u_26 z_24 => ?_)
            obtain ⟨I_u_26, p_27, p_28⟩ := z_24
            refine okM_eq (fun c_29 c_29' => ?_) (fun c_29 => ?_)
            · exact okM_some ⟨I_u_26, (by omega), (by omega)⟩
            · exact okM_some ⟨I_u_26, (by omega), (by omega)⟩
        · refine okM_bM (kC_Parser_newColumn I_u_19) (fun r_31 u_32 z_30 => ?_)
          obtain ⟨I_u_32, p_33, p_34⟩ := z_30
          try have e_37 : (x2 + 1 : Int32).toInt = (x2 : Int32).toInt + (1 : Int32).toInt := by exact add_i (by omega) (by omega)
          refine okM_seq (fun y_36 h_35 => ?_)
          have h_35' : y_36.toInt = (x2 + 1 : Int32).toInt := by rw [h_35]
          refine okM_mono (ih I_u_32 (by have B_38 := IC_b I_u_32; omega) (by have B_39 := IC_b I_u_32; omega) (by have B_40 := IC_b I_u_32; omega) (by have B_41 := IC_b I_u_32; omega) (by have B_42 := IC_b I_u_32; omega)) (fun r_44 u_45 z_43 => ?_)
          obtain ⟨I_u_45, p_46, p_47⟩ := z_43
          exact ⟨I_u_45, (by omega), (by omega)⟩
theorem kC_Parser_columns {u : St} (I : IC u) : okM (mC_Parser_columns u) (fun r v => IC v ∧ 0 ≤ r.toInt ∧ r.toInt ≤ 1) := by
  have l0 : (0 : Int32).toInt = 0 := by decide
  have l1 : (1 : Int32).toInt = 1 := by decide
  have l8 : (8 : Int32).toInt = 8 := by decide
  have l2000 : (2000 : Int32).toInt = 2000 := by decide
  rw [mC_Parser_columns]
  refine okM_bM (kC_Tokens_takes I (by decide)) (fun r_2 u_3 z_1 => ?_)
  obtain ⟨I_u_3, p_4, p_5⟩ := z_1
  refine okM_eq (fun c_6 c_6' => ?_) (fun c_6 => ?_)
  · refine okM_mono (kC_Parser_columns_L27 _ I_u_3 (by have FUe : FU = 100000 := rfl; have B_7 := IC_b I_u_3; omega) (by have FUe : FU = 100000 := rfl; have B_8 := IC_b I_u_3; omega) (by have FUe : FU = 100000 := rfl; have B_9 := IC_b I_u_3; omega) (by have FUe : FU = 100000 := rfl; have B_10 := IC_b I_u_3; omega) (by have FUe : FU = 100000 := rfl; have B_11 := IC_b I_u_3; omega)) (fun r_13 u_14 z_12 => ?_)
    obtain ⟨I_u_14, p_15, p_16⟩ := z_12
    exact ⟨I_u_14, (by omega), (by omega)⟩
  · refine okM_bM (kC_Parser_newColumn I_u_3) (fun r_18 u_19 z_17 => ?_)
    obtain ⟨I_u_19, p_20, p_21⟩ := z_17
    refine okM_eq (fun c_22 c_22' => ?_) (fun c_22 => ?_)
    · refine okM_mono (kC_Parser_columns_L27 _ I_u_19 (by have FUe : FU = 100000 := rfl; have B_23 := IC_b I_u_19; omega) (by have FUe : FU = 100000 := rfl; have B_24 := IC_b I_u_19; omega) (by have FUe : FU = 100000 := rfl; have B_25 := IC_b I_u_19; omega) (by have FUe : FU = 100000 := rfl; have B_26 := IC_b I_u_19; omega) (by have FUe : FU = 100000 := rfl; have B_27 := IC_b I_u_19; omega)) (fun r_29 u_30 z_28 => ?_)
      obtain ⟨I_u_30, p_31, p_32⟩ := z_28
      exact ⟨I_u_30, (by omega), (by omega)⟩
    · refine okM_mono (kC_Parser_columns_L27 _ I_u_19 (by have FUe : FU = 100000 := rfl; have B_33 := IC_b I_u_19; omega) (by have FUe : FU = 100000 := rfl; have B_34 := IC_b I_u_19; omega) (by have FUe : FU = 100000 := rfl; have B_35 := IC_b I_u_19; omega) (by have FUe : FU = 100000 := rfl; have B_36 := IC_b I_u_19; omega) (by have FUe : FU = 100000 := rfl; have B_37 := IC_b I_u_19; omega)) (fun r_39 u_40 z_38 => ?_)
      obtain ⟨I_u_40, p_41, p_42⟩ := z_38
      exact ⟨I_u_40, (by omega), (by omega)⟩
theorem kC_Parser_create {u : St} (I : IC u) : okM (mC_Parser_create u) (fun r v => IC v ∧ 0 ≤ r.toInt ∧ r.toInt ≤ 1) := by
  have l0 : (0 : Int32).toInt = 0 := by decide
  have l1 : (1 : Int32).toInt = 1 := by decide
  have l2 : (2 : Int32).toInt = 2 := by decide
  have l8 : (8 : Int32).toInt = 8 := by decide
  have l9 : (9 : Int32).toInt = 9 := by decide
  have l14 : (14 : Int32).toInt = 14 := by decide
  have l51 : (51 : Int32).toInt = 51 := by decide
  have l55 : (55 : Int32).toInt = 55 := by decide
  have l56 : (56 : Int32).toInt = 56 := by decide
  have l57 : (57 : Int32).toInt = 57 := by decide
  rw [mC_Parser_create]
  refine okM_bM (kC_Tokens_takes I (by decide)) (fun r_2 u_3 z_1 => ?_)
  obtain ⟨I_u_3, p_4, p_5⟩ := z_1
  refine okM_eq (fun c_6 c_6' => ?_) (fun c_6 => ?_)
  · refine okM_bM (kC_Tokens_takes I_u_3 (by decide)) (fun r_8 u_9 z_7 => ?_)
    obtain ⟨I_u_9, p_10, p_11⟩ := z_7
    refine okM_gd (zb_of (by omega) (by omega)) ?_
    refine okM_seq (fun u_13 h_12 => ?_)
    have I_u_13 : IC u_13 := by rw [h_12]; exact I_u_9
    refine okM_bM (kC_Tokens_takes I_u_13 (by decide)) (fun r_15 u_16 z_14 => ?_)
    obtain ⟨I_u_16, p_17, p_18⟩ := z_14
    refine okM_eq (fun c_19 c_19' => ?_) (fun c_19 => ?_)
    · exact okM_some ⟨I_u_16, (by omega), (by omega)⟩
    · refine okM_bM (kC_Tokens_takes I_u_16 (by decide)) (fun r_21 u_22 z_20 => ?_)
      obtain ⟨I_u_22, p_23, p_24⟩ := z_20
      refine okM_eq (fun c_25 c_25' => ?_) (fun c_25 => ?_)
      · exact okM_some ⟨I_u_22, (by omega), (by omega)⟩
      · refine okM_bM (kC_Parser_target I_u_22) (fun r_27 u_28 z_26 => ?_)
        obtain ⟨I_u_28, p_29, p_30⟩ := z_26
        refine okM_eq (fun c_31 c_31' => ?_) (fun c_31 => ?_)
        · exact okM_some ⟨I_u_28, (by omega), (by omega)⟩
        · refine okM_bM (kC_Tokens_takes I_u_28 (by decide)) (fun r_33 u_34 z_32 => ?_)
          obtain ⟨I_u_34, p_35, p_36⟩ := z_32
          refine okM_eq (fun c_37 c_37' => ?_) (fun c_37 => ?_)
          · exact okM_some ⟨I_u_34, (by omega), (by omega)⟩
          · refine okM_bM (kC_Tokens_take I_u_34) (fun r_39 u_40 z_38 => ?_)
            obtain ⟨I_u_40, p_41, p_42, p_43⟩ := z_38
            refine okM_seq (fun u_45 h_44 => ?_)
            have I_u_45 : IC u_45 := by rw [h_44]; exact I_u_40
            refine okM_lt (fun c_46 => ?_) (fun c_46 => ?_)
            · exact okM_some ⟨I_u_45, (by omega), (by omega)⟩
            · refine okM_bM (kC_Tokens_takes I_u_45 (by decide)) (fun r_48 u_49 z_47 => ?_)
              obtain ⟨I_u_49, p_50, p_51⟩ := z_47
              refine okM_eq (fun c_52 c_52' => ?_) (fun c_52 => ?_)
              · exact okM_some ⟨I_u_49, (by omega), (by omega)⟩
              · refine okM_bM (kC_Parser_is I_u_49) (fun r_54 u_55 z_53 => ?_)
                obtain ⟨I_u_55, p_56, p_57⟩ := z_53
                refine okM_eq (fun c_58 c_58' => ?_) (fun c_58 => ?_)
                · exact okM_some ⟨I_u_55, (by omega), (by omega)⟩
                · exact okM_some ⟨I_u_55, (by omega), (by omega)⟩
  · refine okM_bM (kC_Parser_title I_u_3) (fun r_60 u_61 z_59 => ?_)
    obtain ⟨I_u_61, p_62, p_63⟩ := z_59
    refine okM_eq (fun c_64 c_64' => ?_) (fun c_64 => ?_)
    · exact okM_some ⟨I_u_61, (by omega), (by omega)⟩
    · refine okM_bM (kC_Parser_columns I_u_61) (fun r_66 u_67 z_65 => ?_)
      obtain ⟨I_u_67, p_68, p_69⟩ := z_65
      refine okM_eq (fun c_70 c_70' => ?_) (fun c_70 => ?_)
      · exact okM_some ⟨I_u_67, (by omega), (by omega)⟩
      · refine okM_bM (kC_Parser_is I_u_67) (fun r_72 u_73 z_71 => ?_)
        obtain ⟨I_u_73, p_74, p_75⟩ := z_71
        refine okM_eq (fun c_76 c_76' => ?_) (fun c_76 => ?_)
        · exact okM_some ⟨I_u_73, (by omega), (by omega)⟩
        · exact okM_some ⟨I_u_73, (by omega), (by omega)⟩
theorem kC_Parser_begin {u : St} (I : IC u) : okM (mC_Parser_begin u) (fun r v => IC v ∧ 0 ≤ r.toInt ∧ r.toInt ≤ 1) := by
  have l0 : (0 : Int32).toInt = 0 := by decide
  have l1 : (1 : Int32).toInt = 1 := by decide
  have l60 : (60 : Int32).toInt = 60 := by decide
  have l61 : (61 : Int32).toInt = 61 := by decide
  have l62 : (62 : Int32).toInt = 62 := by decide
  have l63 : (63 : Int32).toInt = 63 := by decide
  rw [mC_Parser_begin]
  refine okM_seq (fun u_2 h_1 => ?_)
  have I_u_2 : IC u_2 := by rw [h_1]; exact I
  refine okM_bM (kC_Tokens_takes I_u_2 (by decide)) (fun r_4 u_5 z_3 => ?_)
  obtain ⟨I_u_5, p_6, p_7⟩ := z_3
  refine okM_eq (fun c_8 c_8' => ?_) (fun c_8 => ?_)
  · refine okM_bM (kC_Tokens_takes I_u_5 (by decide)) (fun r_10 u_11 z_9 => ?_)
    obtain ⟨I_u_11, p_12, p_13⟩ := z_9
    refine okM_eq (fun c_14 c_14' => ?_) (fun c_14 => ?_)
    · refine okM_bM (kC_Tokens_takes I_u_11 (by decide)) (fun r_16 u_17 z_15 => ?_)
      obtain ⟨I_u_17, p_18, p_19⟩ := z_15
      refine okM_eq (fun c_20 c_20' => ?_) (fun c_20 => ?_)
      · refine okM_seq (fun u_22 h_21 => ?_)
        have I_u_22 : IC u_22 := by rw [h_21]; exact I_u_17
        exact okM_some ⟨I_u_22, (by omega), (by omega)⟩
      · refine okM_seq (fun u_24 h_23 => ?_)
        have I_u_24 : IC u_24 := by rw [h_23]; exact I_u_17
        exact okM_some ⟨I_u_24, (by omega), (by omega)⟩
    · refine okM_seq (fun u_26 h_25 => ?_)
      have I_u_26 : IC u_26 := by rw [h_25]; exact I_u_11
      refine okM_bM (kC_Tokens_takes I_u_26 (by decide)) (fun r_28 u_29 z_27 => ?_)
      obtain ⟨I_u_29, p_30, p_31⟩ := z_27
      refine okM_gd (zb_of (by omega) (by omega)) ?_
      exact okM_some ⟨I_u_29, (by omega), (by omega)⟩
  · refine okM_bM (kC_Tokens_takes I_u_5 (by decide)) (fun r_33 u_34 z_32 => ?_)
    obtain ⟨I_u_34, p_35, p_36⟩ := z_32
    refine okM_gd (zb_of (by omega) (by omega)) ?_
    exact okM_some ⟨I_u_34, (by omega), (by omega)⟩
theorem kC_Parser_shareMode {u : St} (I : IC u) : okM (mC_Parser_shareMode u) (fun r v => IC v ∧ 0 ≤ r.toInt ∧ r.toInt ≤ 6) := by
  have l0 : (0 : Int32).toInt = 0 := by decide
  have l4 : (4 : Int32).toInt = 4 := by decide
  have l5 : (5 : Int32).toInt = 5 := by decide
  have l6 : (6 : Int32).toInt = 6 := by decide
  have l43 : (43 : Int32).toInt = 43 := by decide
  have l71 : (71 : Int32).toInt = 71 := by decide
  have l72 : (72 : Int32).toInt = 72 := by decide
  rw [mC_Parser_shareMode]
  refine okM_bM (kC_Tokens_takes I (by decide)) (fun r_2 u_3 z_1 => ?_)
  obtain ⟨I_u_3, p_4, p_5⟩ := z_1
  refine okM_eq (fun c_6 c_6' => ?_) (fun c_6 => ?_)
  · refine okM_bM (kC_Tokens_takes I_u_3 (by decide)) (fun r_8 u_9 z_7 => ?_)
    obtain ⟨I_u_9, p_10, p_11⟩ := z_7
    refine okM_eq (fun c_12 c_12' => ?_) (fun c_12 => ?_)
    · exact okM_some ⟨I_u_9, (by omega), (by omega)⟩
    · refine okM_bM (kC_Tokens_takes I_u_9 (by decide)) (fun r_14 u_15 z_13 => ?_)
      obtain ⟨I_u_15, p_16, p_17⟩ := z_13
      refine okM_eq (fun c_18 c_18' => ?_) (fun c_18 => ?_)
      · exact okM_some ⟨I_u_15, (by omega), (by omega)⟩
      · exact okM_some ⟨I_u_15, (by omega), (by omega)⟩
  · refine okM_bM (kC_Tokens_takes I_u_3 (by decide)) (fun r_20 u_21 z_19 => ?_)
    obtain ⟨I_u_21, p_22, p_23⟩ := z_19
    refine okM_eq (fun c_24 c_24' => ?_) (fun c_24 => ?_)
    · exact okM_some ⟨I_u_21, (by omega), (by omega)⟩
    · exact okM_some ⟨I_u_21, (by omega), (by omega)⟩
theorem kC_Parser_lockMode {u : St} (I : IC u) : okM (mC_Parser_lockMode u) (fun r v => IC v ∧ 0 ≤ r.toInt ∧ r.toInt ≤ 1) := by
  have l0 : (0 : Int32).toInt = 0 := by decide
  have l1 : (1 : Int32).toInt = 1 := by decide
  have l2 : (2 : Int32).toInt = 2 := by decide
  have l3 : (3 : Int32).toInt = 3 := by decide
  have l8 : (8 : Int32).toInt = 8 := by decide
  have l16 : (16 : Int32).toInt = 16 := by decide
  have l42 : (42 : Int32).toInt = 42 := by decide
  have l70 : (70 : Int32).toInt = 70 := by decide
  have l71 : (71 : Int32).toInt = 71 := by decide
  have l72 : (72 : Int32).toInt = 72 := by decide
  rw [mC_Parser_lockMode]
  refine okM_bM (kC_Tokens_takes I (by decide)) (fun r_2 u_3 z_1 => ?_)
  obtain ⟨I_u_3, p_4, p_5⟩ := z_1
  refine okM_eq (fun c_6 c_6' => ?_) (fun c_6 => ?_)
  · refine okM_bM (kC_Tokens_takes I_u_3 (by decide)) (fun r_8 u_9 z_7 => ?_)
    obtain ⟨I_u_9, p_10, p_11⟩ := z_7
    refine okM_eq (fun c_12 c_12' => ?_) (fun c_12 => ?_)
    · refine okM_bM (kC_Tokens_takes I_u_9 (by decide)) (fun r_14 u_15 z_13 => ?_)
      obtain ⟨I_u_15, p_16, p_17⟩ := z_13
      refine okM_eq (fun c_18 c_18' => ?_) (fun c_18 => ?_)
      · refine okM_bM (kC_Tokens_takes I_u_15 (by decide)) (fun r_20 u_21 z_19 => ?_)
        obtain ⟨I_u_21, p_22, p_23⟩ := z_19
        refine okM_eq (fun c_24 c_24' => ?_) (fun c_24 => ?_)
        · refine okM_seq (fun u_26 h_25 => ?_)
          have I_u_26 : IC u_26 := by rw [h_25]; exact I_u_21
          refine okM_le (fun c_27 => ?_) (fun c_27 => ?_)
          · exact okM_some ⟨I_u_26, (by omega), (by omega)⟩
          · exact okM_some ⟨I_u_26, (by omega), (by omega)⟩
        · refine okM_seq (fun u_29 h_28 => ?_)
          have I_u_29 : IC u_29 := by rw [h_28]; exact I_u_21
          refine okM_le (fun c_30 => ?_) (fun c_30 => ?_)
          · exact okM_some ⟨I_u_29, (by omega), (by omega)⟩
          · exact okM_some ⟨I_u_29, (by omega), (by omega)⟩
      · refine okM_bM (kC_Parser_shareMode I_u_15) (fun r_32 u_33 z_31 => ?_)
        obtain ⟨I_u_33, p_34, p_35⟩ := z_31
        refine okM_seq (fun u_37 h_36 => ?_)
        have I_u_37 : IC u_37 := by rw [h_36]; exact I_u_33
        refine okM_le (fun c_38 => ?_) (fun c_38 => ?_)
        · exact okM_some ⟨I_u_37, (by omega), (by omega)⟩
        · exact okM_some ⟨I_u_37, (by omega), (by omega)⟩
    · refine okM_bM (kC_Tokens_takes I_u_9 (by decide)) (fun r_40 u_41 z_39 => ?_)
      obtain ⟨I_u_41, p_42, p_43⟩ := z_39
      refine okM_eq (fun c_44 c_44' => ?_) (fun c_44 => ?_)
      · refine okM_bM (kC_Tokens_takes I_u_41 (by decide)) (fun r_46 u_47 z_45 => ?_)
        obtain ⟨I_u_47, p_48, p_49⟩ := z_45
        refine okM_eq (fun c_50 c_50' => ?_) (fun c_50 => ?_)
        · rw [mC_Parser_lockMode_J111]
          refine okM_seq (fun u_52 h_51 => ?_)
          have I_u_52 : IC u_52 := by rw [h_51]; exact I_u_47
          refine okM_le (fun c_53 => ?_) (fun c_53 => ?_)
          · exact okM_some ⟨I_u_52, (by omega), (by omega)⟩
          · exact okM_some ⟨I_u_52, (by omega), (by omega)⟩
        · rw [mC_Parser_lockMode_J111]
          refine okM_seq (fun u_55 h_54 => ?_)
          have I_u_55 : IC u_55 := by rw [h_54]; exact I_u_47
          refine okM_le (fun c_56 => ?_) (fun c_56 => ?_)
          · exact okM_some ⟨I_u_55, (by omega), (by omega)⟩
          · exact okM_some ⟨I_u_55, (by omega), (by omega)⟩
      · rw [mC_Parser_lockMode_J111]
        refine okM_seq (fun u_58 h_57 => ?_)
        have I_u_58 : IC u_58 := by rw [h_57]; exact I_u_41
        refine okM_le (fun c_59 => ?_) (fun c_59 => ?_)
        · exact okM_some ⟨I_u_58, (by omega), (by omega)⟩
        · exact okM_some ⟨I_u_58, (by omega), (by omega)⟩
  · refine okM_bM (kC_Tokens_takes I_u_3 (by decide)) (fun r_61 u_62 z_60 => ?_)
    obtain ⟨I_u_62, p_63, p_64⟩ := z_60
    refine okM_eq (fun c_65 c_65' => ?_) (fun c_65 => ?_)
    · refine okM_bM (kC_Tokens_takes I_u_62 (by decide)) (fun r_67 u_68 z_66 => ?_)
      obtain ⟨I_u_68, p_69, p_70⟩ := z_66
      refine okM_eq (fun c_71 c_71' => ?_) (fun c_71 => ?_)
      · rw [mC_Parser_lockMode_J53]
        refine okM_seq (fun u_73 h_72 => ?_)
        have I_u_73 : IC u_73 := by rw [h_72]; exact I_u_68
        refine okM_le (fun c_74 => ?_) (fun c_74 => ?_)
        · exact okM_some ⟨I_u_73, (by omega), (by omega)⟩
        · exact okM_some ⟨I_u_73, (by omega), (by omega)⟩
      · rw [mC_Parser_lockMode_J53]
        refine okM_seq (fun u_76 h_75 => ?_)
        have I_u_76 : IC u_76 := by rw [h_75]; exact I_u_68
        refine okM_le (fun c_77 => ?_) (fun c_77 => ?_)
        · exact okM_some ⟨I_u_76, (by omega), (by omega)⟩
        · exact okM_some ⟨I_u_76, (by omega), (by omega)⟩
    · rw [mC_Parser_lockMode_J53]
      refine okM_seq (fun u_79 h_78 => ?_)
      have I_u_79 : IC u_79 := by rw [h_78]; exact I_u_62
      refine okM_le (fun c_80 => ?_) (fun c_80 => ?_)
      · exact okM_some ⟨I_u_79, (by omega), (by omega)⟩
      · exact okM_some ⟨I_u_79, (by omega), (by omega)⟩
theorem kC_Parser_otherDeed {u : St} (I : IC u) : okM (mC_Parser_otherDeed u) (fun r v => IC v ∧ 0 ≤ r.toInt ∧ r.toInt ≤ 1) := by
  have l0 : (0 : Int32).toInt = 0 := by decide
  have l1 : (1 : Int32).toInt = 1 := by decide
  have l3 : (3 : Int32).toInt = 3 := by decide
  have l10 : (10 : Int32).toInt = 10 := by decide
  have l11 : (11 : Int32).toInt = 11 := by decide
  have l12 : (12 : Int32).toInt = 12 := by decide
  have l13 : (13 : Int32).toInt = 13 := by decide
  have l14 : (14 : Int32).toInt = 14 := by decide
  have l15 : (15 : Int32).toInt = 15 := by decide
  have l18 : (18 : Int32).toInt = 18 := by decide
  have l19 : (19 : Int32).toInt = 19 := by decide
  have l51 : (51 : Int32).toInt = 51 := by decide
  have l58 : (58 : Int32).toInt = 58 := by decide
  have l59 : (59 : Int32).toInt = 59 := by decide
  have l64 : (64 : Int32).toInt = 64 := by decide
  have l65 : (65 : Int32).toInt = 65 := by decide
  have l66 : (66 : Int32).toInt = 66 := by decide
  have l67 : (67 : Int32).toInt = 67 := by decide
  have l68 : (68 : Int32).toInt = 68 := by decide
  have l69 : (69 : Int32).toInt = 69 := by decide
  have l73 : (73 : Int32).toInt = 73 := by decide
  have l74 : (74 : Int32).toInt = 74 := by decide
  rw [mC_Parser_otherDeed]
  refine okM_bM (kC_Tokens_takes I (by decide)) (fun r_2 u_3 z_1 => ?_)
  obtain ⟨I_u_3, p_4, p_5⟩ := z_1
  refine okM_eq (fun c_6 c_6' => ?_) (fun c_6 => ?_)
  · refine okM_bM (kC_Tokens_takes I_u_3 (by decide)) (fun r_8 u_9 z_7 => ?_)
    obtain ⟨I_u_9, p_10, p_11⟩ := z_7
    refine okM_eq (fun c_12 c_12' => ?_) (fun c_12 => ?_)
    · refine okM_bM (kC_Tokens_takes I_u_9 (by decide)) (fun r_14 u_15 z_13 => ?_)
      obtain ⟨I_u_15, p_16, p_17⟩ := z_13
      refine okM_eq (fun c_18 c_18' => ?_) (fun c_18 => ?_)
      · refine okM_bM (kC_Tokens_takes I_u_15 (by decide)) (fun r_20 u_21 z_19 => ?_)
        obtain ⟨I_u_21, p_22, p_23⟩ := z_19
        refine okM_eq (fun c_24 c_24' => ?_) (fun c_24 => ?_)
        · refine okM_bM (kC_Tokens_takes I_u_21 (by decide)) (fun r_26 u_27 z_25 => ?_)
          obtain ⟨I_u_27, p_28, p_29⟩ := z_25
          refine okM_eq (fun c_30 c_30' => ?_) (fun c_30 => ?_)
          · refine okM_bM (kC_Tokens_takes I_u_27 (by decide)) (fun r_32 u_33 z_31 => ?_)
            obtain ⟨I_u_33, p_34, p_35⟩ := z_31
            refine okM_eq (fun c_36 c_36' => ?_) (fun c_36 => ?_)
            · refine okM_bM (kC_Tokens_takes I_u_33 (by decide)) (fun r_38 u_39 z_37 => ?_)
              obtain ⟨I_u_39, p_40, p_41⟩ := z_37
              refine okM_eq (fun c_42 c_42' => ?_) (fun c_42 => ?_)
              · refine okM_bM (kC_Tokens_takes I_u_39 (by decide)) (fun r_44 u_45 z_43 => ?_)
                obtain ⟨I_u_45, p_46, p_47⟩ := z_43
                refine okM_eq (fun c_48 c_48' => ?_) (fun c_48 => ?_)
                · refine okM_bM (kC_Tokens_takes I_u_45 (by decide)) (fun r_50 u_51 z_49 => ?_)
                  obtain ⟨I_u_51, p_52, p_53⟩ := z_49
                  refine okM_eq (fun c_54 c_54' => ?_) (fun c_54 => ?_)
                  · exact okM_some ⟨I_u_51, (by omega), (by omega)⟩
                  · refine okM_bM (kC_Parser_is I_u_51) (fun r_56 u_57 z_55 => ?_)
                    obtain ⟨I_u_57, p_58, p_59⟩ := z_55
                    refine okM_eq (fun c_60 c_60' => ?_) (fun c_60 => ?_)
                    · exact okM_some ⟨I_u_57, (by omega), (by omega)⟩
                    · exact okM_some ⟨I_u_57, (by omega), (by omega)⟩
                · refine okM_bM (kC_Parser_target I_u_45) (fun r_62 u_63 z_61 => ?_)
                  obtain ⟨I_u_63, p_64, p_65⟩ := z_61
                  refine okM_eq (fun c_66 c_66' => ?_) (fun c_66 => ?_)
                  · exact okM_some ⟨I_u_63, (by omega), (by omega)⟩
                  · refine okM_bM (kC_Parser_is I_u_63) (fun r_68 u_69 z_67 => ?_)
                    obtain ⟨I_u_69, p_70, p_71⟩ := z_67
                    refine okM_eq (fun c_72 c_72' => ?_) (fun c_72 => ?_)
                    · exact okM_some ⟨I_u_69, (by omega), (by omega)⟩
                    · exact okM_some ⟨I_u_69, (by omega), (by omega)⟩
              · refine okM_bM (kC_Parser_target I_u_39) (fun r_74 u_75 z_73 => ?_)
                obtain ⟨I_u_75, p_76, p_77⟩ := z_73
                refine okM_eq (fun c_78 c_78' => ?_) (fun c_78 => ?_)
                · exact okM_some ⟨I_u_75, (by omega), (by omega)⟩
                · refine okM_bM (kC_Parser_lockMode I_u_75) (fun r_80 u_81 z_79 => ?_)
                  obtain ⟨I_u_81, p_82, p_83⟩ := z_79
                  refine okM_eq (fun c_84 c_84' => ?_) (fun c_84 => ?_)
                  · exact okM_some ⟨I_u_81, (by omega), (by omega)⟩
                  · refine okM_bM (kC_Parser_is I_u_81) (fun r_86 u_87 z_85 => ?_)
                    obtain ⟨I_u_87, p_88, p_89⟩ := z_85
                    refine okM_eq (fun c_90 c_90' => ?_) (fun c_90 => ?_)
                    · exact okM_some ⟨I_u_87, (by omega), (by omega)⟩
                    · exact okM_some ⟨I_u_87, (by omega), (by omega)⟩
            · refine okM_bM (kC_Parser_title I_u_33) (fun r_92 u_93 z_91 => ?_)
              obtain ⟨I_u_93, p_94, p_95⟩ := z_91
              refine okM_eq (fun c_96 c_96' => ?_) (fun c_96 => ?_)
              · exact okM_some ⟨I_u_93, (by omega), (by omega)⟩
              · refine okM_bM (kC_Parser_is I_u_93) (fun r_98 u_99 z_97 => ?_)
                obtain ⟨I_u_99, p_100, p_101⟩ := z_97
                refine okM_eq (fun c_102 c_102' => ?_) (fun c_102 => ?_)
                · exact okM_some ⟨I_u_99, (by omega), (by omega)⟩
                · exact okM_some ⟨I_u_99, (by omega), (by omega)⟩
          · refine okM_bM (kC_Parser_title I_u_27) (fun r_104 u_105 z_103 => ?_)
            obtain ⟨I_u_105, p_106, p_107⟩ := z_103
            refine okM_eq (fun c_108 c_108' => ?_) (fun c_108 => ?_)
            · exact okM_some ⟨I_u_105, (by omega), (by omega)⟩
            · refine okM_bM (kC_Parser_is I_u_105) (fun r_110 u_111 z_109 => ?_)
              obtain ⟨I_u_111, p_112, p_113⟩ := z_109
              refine okM_eq (fun c_114 c_114' => ?_) (fun c_114 => ?_)
              · exact okM_some ⟨I_u_111, (by omega), (by omega)⟩
              · exact okM_some ⟨I_u_111, (by omega), (by omega)⟩
        · refine okM_bM (kC_Tokens_takes I_u_21 (by decide)) (fun r_116 u_117 z_115 => ?_)
          obtain ⟨I_u_117, p_118, p_119⟩ := z_115
          refine okM_eq (fun c_120 c_120' => ?_) (fun c_120 => ?_)
          · refine okM_bM (kC_Parser_is I_u_117) (fun r_122 u_123 z_121 => ?_)
            obtain ⟨I_u_123, p_124, p_125⟩ := z_121
            refine okM_gd (zb_of (by omega) (by omega)) ?_
            exact okM_some ⟨I_u_123, (by omega), (by omega)⟩
          · refine okM_bM (kC_Parser_title I_u_117) (fun r_127 u_128 z_126 => ?_)
            obtain ⟨I_u_128, p_129, p_130⟩ := z_126
            refine okM_eq (fun c_131 c_131' => ?_) (fun c_131 => ?_)
            · exact okM_some ⟨I_u_128, (by omega), (by omega)⟩
            · refine okM_bM (kC_Parser_is I_u_128) (fun r_133 u_134 z_132 => ?_)
              obtain ⟨I_u_134, p_135, p_136⟩ := z_132
              refine okM_eq (fun c_137 c_137' => ?_) (fun c_137 => ?_)
              · exact okM_some ⟨I_u_134, (by omega), (by omega)⟩
              · exact okM_some ⟨I_u_134, (by omega), (by omega)⟩
      · refine okM_bM (kC_Parser_is I_u_15) (fun r_139 u_140 z_138 => ?_)
        obtain ⟨I_u_140, p_141, p_142⟩ := z_138
        refine okM_gd (zb_of (by omega) (by omega)) ?_
        exact okM_some ⟨I_u_140, (by omega), (by omega)⟩
    · refine okM_bM (kC_Parser_begin I_u_9) (fun r_144 u_145 z_143 => ?_)
      obtain ⟨I_u_145, p_146, p_147⟩ := z_143
      refine okM_gd (zb_of (by omega) (by omega)) ?_
      exact okM_some ⟨I_u_145, (by omega), (by omega)⟩
  · refine okM_bM (kC_Tokens_takes I_u_3 (by decide)) (fun r_149 u_150 z_148 => ?_)
    obtain ⟨I_u_150, p_151, p_152⟩ := z_148
    refine okM_eq (fun c_153 c_153' => ?_) (fun c_153 => ?_)
    · exact okM_some ⟨I_u_150, (by omega), (by omega)⟩
    · refine okM_bM (kC_Parser_target I_u_150) (fun r_155 u_156 z_154 => ?_)
      obtain ⟨I_u_156, p_157, p_158⟩ := z_154
      refine okM_eq (fun c_159 c_159' => ?_) (fun c_159 => ?_)
      · exact okM_some ⟨I_u_156, (by omega), (by omega)⟩
      · refine okM_bM (kC_Parser_is I_u_156) (fun r_161 u_162 z_160 => ?_)
        obtain ⟨I_u_162, p_163, p_164⟩ := z_160
        refine okM_eq (fun c_165 c_165' => ?_) (fun c_165 => ?_)
        · exact okM_some ⟨I_u_162, (by omega), (by omega)⟩
        · exact okM_some ⟨I_u_162, (by omega), (by omega)⟩
theorem kC_Parser_deed {u : St} (I : IC u) : okM (mC_Parser_deed u) (fun r v => IC v) := by
  have l0 : (0 : Int32).toInt = 0 := by decide
  have l3 : (3 : Int32).toInt = 3 := by decide
  have l5 : (5 : Int32).toInt = 5 := by decide
  have l8 : (8 : Int32).toInt = 8 := by decide
  have l22 : (22 : Int32).toInt = 22 := by decide
  have l43 : (43 : Int32).toInt = 43 := by decide
  have l44 : (44 : Int32).toInt = 44 := by decide
  have l45 : (45 : Int32).toInt = 45 := by decide
  have l48 : (48 : Int32).toInt = 48 := by decide
  have l49 : (49 : Int32).toInt = 49 := by decide
  have l50 : (50 : Int32).toInt = 50 := by decide
  rw [mC_Parser_deed]
  refine okM_bM (kC_Tokens_takes I (by decide)) (fun r_2 u_3 z_1 => ?_)
  obtain ⟨I_u_3, p_4, p_5⟩ := z_1
  refine okM_eq (fun c_6 c_6' => ?_) (fun c_6 => ?_)
  · refine okM_bM (kC_Tokens_takes I_u_3 (by decide)) (fun r_8 u_9 z_7 => ?_)
    obtain ⟨I_u_9, p_10, p_11⟩ := z_7
    refine okM_eq (fun c_12 c_12' => ?_) (fun c_12 => ?_)
    · refine okM_bM (kC_Tokens_takes I_u_9 (by decide)) (fun r_14 u_15 z_13 => ?_)
      obtain ⟨I_u_15, p_16, p_17⟩ := z_13
      refine okM_eq (fun c_18 c_18' => ?_) (fun c_18 => ?_)
      · refine okM_bM (kC_Tokens_takes I_u_15 (by decide)) (fun r_20 u_21 z_19 => ?_)
        obtain ⟨I_u_21, p_22, p_23⟩ := z_19
        refine okM_eq (fun c_24 c_24' => ?_) (fun c_24 => ?_)
        · refine okM_eq (fun c_25 c_25' => ?_) (fun c_25 => ?_)
          · refine okM_bM (kC_Tokens_takes I_u_21 (by decide)) (fun r_27 u_28 z_26 => ?_)
            obtain ⟨I_u_28, p_29, p_30⟩ := z_26
            refine okM_eq (fun c_31 c_31' => ?_) (fun c_31 => ?_)
            · refine okM_bM (kC_Tokens_takes I_u_28 (by decide)) (fun r_33 u_34 z_32 => ?_)
              obtain ⟨I_u_34, p_35, p_36⟩ := z_32
              refine okM_eq (fun c_37 c_37' => ?_) (fun c_37 => ?_)
              · refine okM_bM (kC_Parser_otherDeed I_u_34) (fun r_39 u_40 z_38 => ?_)
                obtain ⟨I_u_40, p_41, p_42⟩ := z_38
                refine okM_gd (zb_of (by omega) (by omega)) ?_
                exact okM_some I_u_40
              · refine okM_bM (kC_Parser_create I_u_34) (fun r_44 u_45 z_43 => ?_)
                obtain ⟨I_u_45, p_46, p_47⟩ := z_43
                refine okM_gd (zb_of (by omega) (by omega)) ?_
                exact okM_some I_u_45
            · refine okM_bM (kC_Parser_execute I_u_28) (fun r_49 u_50 z_48 => ?_)
              obtain ⟨I_u_50, p_51, p_52⟩ := z_48
              refine okM_gd (zb_of (by omega) (by omega)) ?_
              exact okM_some I_u_50
          · exact okM_some I_u_21
        · refine okM_bM (kC_Parser_delete I_u_21) (fun r_54 u_55 z_53 => ?_)
          obtain ⟨I_u_55, p_56, p_57⟩ := z_53
          refine okM_gd (zb_of (by omega) (by omega)) ?_
          exact okM_some I_u_55
      · refine okM_bM (kC_Parser_update I_u_15) (fun r_59 u_60 z_58 => ?_)
        obtain ⟨I_u_60, p_61, p_62⟩ := z_58
        refine okM_gd (zb_of (by omega) (by omega)) ?_
        exact okM_some I_u_60
    · refine okM_bM (kC_Tokens_takes I_u_9 (by decide)) (fun r_64 u_65 z_63 => ?_)
      obtain ⟨I_u_65, p_66, p_67⟩ := z_63
      refine okM_eq (fun c_68 c_68' => ?_) (fun c_68 => ?_)
      · exact okM_some I_u_65
      · refine okM_bM (kC_Parser_target I_u_65) (fun r_70 u_71 z_69 => ?_)
        obtain ⟨I_u_71, p_72, p_73⟩ := z_69
        refine okM_eq (fun c_74 c_74' => ?_) (fun c_74 => ?_)
        · exact okM_some I_u_71
        · refine okM_bM (kC_Tokens_takes I_u_71 (by decide)) (fun r_76 u_77 z_75 => ?_)
          obtain ⟨I_u_77, p_78, p_79⟩ := z_75
          refine okM_eq (fun c_80 c_80' => ?_) (fun c_80 => ?_)
          · refine okM_bM (kC_Parser_rows I_u_77) (fun r_82 u_83 z_81 => ?_)
            obtain ⟨I_u_83, p_84, p_85⟩ := z_81
            refine okM_gd (zb_of (by omega) (by omega)) ?_
            exact okM_some I_u_83
          · refine okM_bM (kC_Parser_query I_u_77) (fun r_87 u_88 z_86 => ?_)
            obtain ⟨I_u_88, p_89, p_90⟩ := z_86
            refine okM_gd (zb_of (by omega) (by omega)) ?_
            exact okM_some I_u_88
  · refine okM_bM (kC_Parser_query I_u_3) (fun r_92 u_93 z_91 => ?_)
    obtain ⟨I_u_93, p_94, p_95⟩ := z_91
    refine okM_gd (zb_of (by omega) (by omega)) ?_
    exact okM_some I_u_93
theorem kC_Tokens_ended {u : St} (I : IC u) : ok (mC_Tokens_ended u) (fun r => 0 ≤ r.toInt ∧ r.toInt ≤ 1) := by
  have l0 : (0 : Int32).toInt = 0 := by decide
  have l1 : (1 : Int32).toInt = 1 := by decide
  have l3 : (3 : Int32).toInt = 3 := by decide
  have l4 : (4 : Int32).toInt = 4 := by decide
  rw [mC_Tokens_ended]
  refine ok_lt (fun c_1 => ?_) (fun c_1 => ?_)
  · exact ok_some ⟨(by omega), (by omega)⟩
  · exact ok_some ⟨(by omega), (by omega)⟩
theorem kC_Parser_ends {u : St} (I : IC u) : okM (mC_Parser_ends u) (fun r v => IC v ∧ 0 ≤ r.toInt ∧ r.toInt ≤ 1) := by
  have l0 : (0 : Int32).toInt = 0 := by decide
  have l1 : (1 : Int32).toInt = 1 := by decide
  have l22 : (22 : Int32).toInt = 22 := by decide
  have l75 : (75 : Int32).toInt = 75 := by decide
  rw [mC_Parser_ends]
  refine okM_bM (kC_Tokens_takes I (by decide)) (fun r_2 u_3 z_1 => ?_)
  obtain ⟨I_u_3, p_4, p_5⟩ := z_1
  refine okM_eq (fun c_6 c_6' => ?_) (fun c_6 => ?_)
  · refine okM_seq (fun u_8 h_7 => ?_)
    have I_u_8 : IC u_8 := by rw [h_7]; exact I_u_3
    refine okM_bP (kC_Tokens_ended I_u_8) (fun r_10 z_9 => ?_)
    obtain ⟨p_11, p_12⟩ := z_9
    refine okM_gd (zb_of (by omega) (by omega)) ?_
    exact okM_some ⟨I_u_8, (by omega), (by omega)⟩
  · refine okM_seq (fun u_14 h_13 => ?_)
    have I_u_14 : IC u_14 := by rw [h_13]; exact I_u_3
    refine okM_bP (kC_Tokens_ended I_u_14) (fun r_16 z_15 => ?_)
    obtain ⟨p_17, p_18⟩ := z_15
    refine okM_gd (zb_of (by omega) (by omega)) ?_
    exact okM_some ⟨I_u_14, (by omega), (by omega)⟩
theorem kC_Nodes_isOver {u : St} (I : IC u) : ok (mC_Nodes_isOver u) (fun r => True) := by
  have l7 : (7 : Int32).toInt = 7 := by decide
  rw [mC_Nodes_isOver]
  refine ok_gd (zb_of (by have B_1 := IC_b I; omega) (by have B_2 := IC_b I; omega)) ?_
  exact ok_some trivial
theorem kC_Lists_isOver {u : St} (I : IC u) : ok (mC_Lists_isOver u) (fun r => True) := by
  have l8 : (8 : Int32).toInt = 8 := by decide
  rw [mC_Lists_isOver]
  refine ok_gd (zb_of (by have B_1 := IC_b I; omega) (by have B_2 := IC_b I; omega)) ?_
  exact ok_some trivial
theorem kC_Text_same_4_11_L20 : ∀ (n : Nat) {x1 : Int32} {x3 : Int32} {x4 : Int32} {x5 : Int32} {u : St} (I : IC u) (h0 : 0 ≤ x5.toInt) (h1 : x5.toInt ≤ 31) (h2 : x4.toInt ≤ 31) (hm : (31 - x5.toInt).toNat < n), ok (mC_Text_same_4_11_L20 n x1 x3 x4 x5 u) (fun r => 0 ≤ r.toInt ∧ r.toInt ≤ 1) := by
  intro n
  induction n with
  | zero => intro x1 x3 x4 x5 u I h0 h1 h2 hm; exact absurd hm (Nat.not_lt_zero _)
  | succ n ih =>
    intro x1 x3 x4 x5 u I h0 h1 h2 hm
    have l0 : (0 : Int32).toInt = 0 := by decide
    have l1 : (1 : Int32).toInt = 1 := by decide
    have l31 : (31 : Int32).toInt = 31 := by decide
    rw [mC_Text_same_4_11_L20]
    refine ok_le (fun c_1 => ?_) (fun c_1 => ?_)
    · exact ok_some ⟨(by omega), (by omega)⟩
    · refine ok_bP (kC_Text_startOf I) (fun r_3 z_2 => ?_)
      try have e_4 : (r_3 + x5 : Int32).toInt = (r_3 : Int32).toInt + (x5 : Int32).toInt := by exact add_i (by omega) (by omega)
      refine ok_bP (kC_Text_at_4 I) (fun r_6 z_5 => ?_)
      obtain ⟨p_7, p_8, p_9⟩ := z_5
      refine ok_bP (kC_Text_startOf I) (fun r_11 z_10 => ?_)
      try have e_12 : (r_11 + x5 : Int32).toInt = (r_11 : Int32).toInt + (x5 : Int32).toInt := by exact add_i (by omega) (by omega)
      refine ok_bP (kC_Text_at_11 I) (fun r_14 z_13 => ?_)
      obtain ⟨p_15, p_16, p_17⟩ := z_13
      refine ok_eq (fun c_18 c_18' => ?_) (fun c_18 => ?_)
      · try have e_21 : (x5 + 1 : Int32).toInt = (x5 : Int32).toInt + (1 : Int32).toInt := by exact add_i (by omega) (by omega)
        refine ok_seq (fun y_20 h_19 => ?_)
        have h_19' : y_20.toInt = (x5 + 1 : Int32).toInt := by rw [h_19]
        refine ok_mono (ih I (by have B_22 := IC_b I; omega) (by have B_23 := IC_b I; omega) (by have B_24 := IC_b I; omega) (by have B_25 := IC_b I; omega)) (fun r_27 z_26 => ?_)
        obtain ⟨p_28, p_29⟩ := z_26
        exact ⟨(by omega), (by omega)⟩
      · exact ok_some ⟨(by omega), (by omega)⟩
theorem kC_Text_same_4_11 {x1 : Int32} {x3 : Int32} {u : St} (I : IC u) : ok (mC_Text_same_4_11 x1 x3 u) (fun r => 0 ≤ r.toInt ∧ r.toInt ≤ 1) := by
  have l0 : (0 : Int32).toInt = 0 := by decide
  have l1 : (1 : Int32).toInt = 1 := by decide
  have l31 : (31 : Int32).toInt = 31 := by decide
  rw [mC_Text_same_4_11]
  refine ok_bP (kC_Text_sizeOf I) (fun r_2 z_1 => ?_)
  obtain ⟨p_3, p_4, p_5⟩ := z_1
  refine ok_bP (kC_Text_sizeOf I) (fun r_7 z_6 => ?_)
  obtain ⟨p_8, p_9, p_10⟩ := z_6
  refine ok_eq (fun c_11 c_11' => ?_) (fun c_11 => ?_)
  · refine ok_mono (kC_Text_same_4_11_L20 _ I (by have FUe : FU = 100000 := rfl; have B_12 := IC_b I; omega) (by have FUe : FU = 100000 := rfl; have B_13 := IC_b I; omega) (by have FUe : FU = 100000 := rfl; have B_14 := IC_b I; omega) (by have FUe : FU = 100000 := rfl; have B_15 := IC_b I; omega)) (fun r_17 z_16 => ?_)
    obtain ⟨p_18, p_19⟩ := z_16
    exact ⟨(by omega), (by omega)⟩
  · exact ok_some ⟨(by omega), (by omega)⟩
theorem kC_Catalog_findTable_3_11_L2 : ∀ (n : Nat) {x2 : Int32} {x3 : Int32} {u : St} (I : IC u) (h0 : 0 ≤ x3.toInt) (h1 : x3.toInt ≤ 8) (hm : (8 - x3.toInt).toNat < n), ok (mC_Catalog_findTable_3_11_L2 n x2 x3 u) (fun r => -1 ≤ r.toInt ∧ r.toInt ≤ 8) := by
  intro n
  induction n with
  | zero => intro x2 x3 u I h0 h1 hm; exact absurd hm (Nat.not_lt_zero _)
  | succ n ih =>
    intro x2 x3 u I h0 h1 hm
    have lm1 : (-1 : Int32).toInt = -1 := by decide
    have l0 : (0 : Int32).toInt = 0 := by decide
    have l1 : (1 : Int32).toInt = 1 := by decide
    have l2 : (2 : Int32).toInt = 2 := by decide
    have l8 : (8 : Int32).toInt = 8 := by decide
    rw [mC_Catalog_findTable_3_11_L2]
    refine ok_le (fun c_1 => ?_) (fun c_1 => ?_)
    · exact ok_some ⟨(by omega), (by omega)⟩
    · refine ok_gd (inb_of (by have B_2 := IC_b I; omega) (by have B_3 := IC_b I; omega)) ?_
      refine ok_bP (kC_Text_same_4_11 I) (fun r_5 z_4 => ?_)
      obtain ⟨p_6, p_7⟩ := z_4
      refine ok_eq (fun c_8 c_8' => ?_) (fun c_8 => ?_)
      · try have e_11 : (x3 + 1 : Int32).toInt = (x3 : Int32).toInt + (1 : Int32).toInt := by exact add_i (by omega) (by omega)
        refine ok_seq (fun y_10 h_9 => ?_)
        have h_9' : y_10.toInt = (x3 + 1 : Int32).toInt := by rw [h_9]
        refine ok_mono (ih I (by have B_12 := IC_b I; omega) (by have B_13 := IC_b I; omega) (by have B_14 := IC_b I; omega)) (fun r_16 z_15 => ?_)
        obtain ⟨p_17, p_18⟩ := z_15
        exact ⟨(by omega), (by omega)⟩
      · exact ok_some ⟨(by omega), (by omega)⟩
theorem kC_Catalog_findTable_3_11 {x2 : Int32} {u : St} (I : IC u) : ok (mC_Catalog_findTable_3_11 x2 u) (fun r => -1 ≤ r.toInt ∧ r.toInt ≤ 8) := by
  have l0 : (0 : Int32).toInt = 0 := by decide
  have l1 : (1 : Int32).toInt = 1 := by decide
  have l8 : (8 : Int32).toInt = 8 := by decide
  rw [mC_Catalog_findTable_3_11]
  refine ok_mono (kC_Catalog_findTable_3_11_L2 _ I (by have FUe : FU = 100000 := rfl; have B_1 := IC_b I; omega) (by have FUe : FU = 100000 := rfl; have B_2 := IC_b I; omega) (by have FUe : FU = 100000 := rfl; have B_3 := IC_b I; omega)) (fun r_5 z_4 => ?_)
  obtain ⟨p_6, p_7⟩ := z_4
  exact ⟨(by omega), (by omega)⟩
theorem kC_Lists_at_J29 {x1 : Int32} {x2 : Int32} {s0 : Int32} {u : St} (I : IC u) (h0 : s0.toInt = 0 ∨ (0 ≤ x1.toInt ∧ x1.toInt < 14 ∧ 0 ≤ x2.toInt ∧ x2.toInt < (ga u 17 x1).toInt)) : ok (mC_Lists_at_J29 x1 x2 s0 u) (fun r => (x1.toInt ≠ 0 ∧ x1.toInt ≠ 5 ∧ x1.toInt ≠ 12) ∨ (-1 ≤ r.toInt ∧ r.toInt ≤ 200)) := by
  have z0 : (0 : Int32).toInt = 0 := by decide
  have m1 : (-1 : Int32).toInt = -1 := by decide
  have t1 : lnT 1 = 14 := by decide
  rw [mC_Lists_at_J29, t1]
  refine ok_eq (fun c c' => ok_some (by omega)) (fun c => ?_)
  have F := gst_f (i := x1) (by omega) (by omega)
  have Z := IC_siz I (i := x1) (by omega) (by omega)
  have e : (gst 1 x1 + x2 : Int32).toInt = (gst 1 x1).toInt + x2.toInt := add_i (by omega) (by omega)
  refine ok_gd (inb_of (by omega) (by omega)) (ok_gd (inb_of (by omega) (by omega)) (ok_some ?_))
  by_cases hc : x1.toInt ≠ 0 ∧ x1.toInt ≠ 5 ∧ x1.toInt ≠ 12
  · exact Or.inl hc
  · exact Or.inr (IC_ent I (by omega) (by omega))
theorem kC_Lists_at {x1 : Int32} {x2 : Int32} {u : St} (I : IC u) : ok (mC_Lists_at x1 x2 u) (fun r => (x1.toInt ≠ 0 ∧ x1.toInt ≠ 5 ∧ x1.toInt ≠ 12) ∨ (-1 ≤ r.toInt ∧ r.toInt ≤ 200)) := by
  have l0 : (0 : Int32).toInt = 0 := by decide
  have l1 : (1 : Int32).toInt = 1 := by decide
  have l5 : (5 : Int32).toInt = 5 := by decide
  have l12 : (12 : Int32).toInt = 12 := by decide
  have l14 : (14 : Int32).toInt = 14 := by decide
  have l17 : (17 : Int32).toInt = 17 := by decide
  have l200 : (200 : Int32).toInt = 200 := by decide
  rw [mC_Lists_at]
  refine ok_lt (fun c_1 => ?_) (fun c_1 => ?_)
  · refine ok_mono (kC_Lists_at_J29 I (by have FUe : FU = 100000 := rfl; have B_2 := IC_b I; omega)) (fun r_4 z_3 => ?_)
    have p_5 := z_3
    exact (by omega)
  · refine ok_le (fun c_6 => ?_) (fun c_6 => ?_)
    · refine ok_mono (kC_Lists_at_J29 I (by have FUe : FU = 100000 := rfl; have B_7 := IC_b I; omega)) (fun r_9 z_8 => ?_)
      have p_10 := z_8
      exact (by omega)
    · refine ok_lt (fun c_11 => ?_) (fun c_11 => ?_)
      · refine ok_mono (kC_Lists_at_J29 I (by have FUe : FU = 100000 := rfl; have B_12 := IC_b I; omega)) (fun r_14 z_13 => ?_)
        have p_15 := z_13
        exact (by omega)
      · refine ok_gd (inb_of (by have B_16 := IC_b I; omega) (by have B_17 := IC_b I; omega)) ?_
        refine ok_le (fun c_18 => ?_) (fun c_18 => ?_)
        · refine ok_mono (kC_Lists_at_J29 I (by have FUe : FU = 100000 := rfl; have B_19 := IC_b I; omega)) (fun r_21 z_20 => ?_)
          have p_22 := z_20
          exact (by omega)
        · refine ok_mono (kC_Lists_at_J29 I (by have FUe : FU = 100000 := rfl; have B_23 := IC_b I; omega)) (fun r_25 z_24 => ?_)
          have p_26 := z_24
          exact (by omega)
theorem kC_Meaning_nameOfTable {x1 : Int32} {u : St} (I : IC u) : ok (mC_Meaning_nameOfTable x1 u) (fun r => True) := by
  have l0 : (0 : Int32).toInt = 0 := by decide
  have l10 : (10 : Int32).toInt = 10 := by decide
  have l11 : (11 : Int32).toInt = 11 := by decide
  rw [mC_Meaning_nameOfTable]
  refine ok_bP (kC_Lists_at I) (fun r_2 z_1 => ?_)
  have p_3 := z_1
  refine ok_lt (fun c_4 => ?_) (fun c_4 => ?_)
  · refine ok_bP (kC_Lists_at I) (fun r_6 z_5 => ?_)
    have p_7 := z_5
    exact ok_some trivial
  · exact ok_some trivial
theorem kC_Text_same_11_11_L20 : ∀ (n : Nat) {x1 : Int32} {x3 : Int32} {x4 : Int32} {x5 : Int32} {u : St} (I : IC u) (h0 : 0 ≤ x5.toInt) (h1 : x5.toInt ≤ 31) (h2 : x4.toInt ≤ 31) (hm : (31 - x5.toInt).toNat < n), ok (mC_Text_same_11_11_L20 n x1 x3 x4 x5 u) (fun r => 0 ≤ r.toInt ∧ r.toInt ≤ 1) := by
  intro n
  induction n with
  | zero => intro x1 x3 x4 x5 u I h0 h1 h2 hm; exact absurd hm (Nat.not_lt_zero _)
  | succ n ih =>
    intro x1 x3 x4 x5 u I h0 h1 h2 hm
    have l0 : (0 : Int32).toInt = 0 := by decide
    have l1 : (1 : Int32).toInt = 1 := by decide
    have l31 : (31 : Int32).toInt = 31 := by decide
    rw [mC_Text_same_11_11_L20]
    refine ok_le (fun c_1 => ?_) (fun c_1 => ?_)
    · exact ok_some ⟨(by omega), (by omega)⟩
    · refine ok_bP (kC_Text_startOf I) (fun r_3 z_2 => ?_)
      try have e_4 : (r_3 + x5 : Int32).toInt = (r_3 : Int32).toInt + (x5 : Int32).toInt := by exact add_i (by omega) (by omega)
      refine ok_bP (kC_Text_at_11 I) (fun r_6 z_5 => ?_)
      obtain ⟨p_7, p_8, p_9⟩ := z_5
      refine ok_bP (kC_Text_startOf I) (fun r_11 z_10 => ?_)
      try have e_12 : (r_11 + x5 : Int32).toInt = (r_11 : Int32).toInt + (x5 : Int32).toInt := by exact add_i (by omega) (by omega)
      refine ok_bP (kC_Text_at_11 I) (fun r_14 z_13 => ?_)
      obtain ⟨p_15, p_16, p_17⟩ := z_13
      refine ok_eq (fun c_18 c_18' => ?_) (fun c_18 => ?_)
      · try have e_21 : (x5 + 1 : Int32).toInt = (x5 : Int32).toInt + (1 : Int32).toInt := by exact add_i (by omega) (by omega)
        refine ok_seq (fun y_20 h_19 => ?_)
        have h_19' : y_20.toInt = (x5 + 1 : Int32).toInt := by rw [h_19]
        refine ok_mono (ih I (by have B_22 := IC_b I; omega) (by have B_23 := IC_b I; omega) (by have B_24 := IC_b I; omega) (by have B_25 := IC_b I; omega)) (fun r_27 z_26 => ?_)
        obtain ⟨p_28, p_29⟩ := z_26
        exact ⟨(by omega), (by omega)⟩
      · exact ok_some ⟨(by omega), (by omega)⟩
theorem kC_Text_same_11_11 {x1 : Int32} {x3 : Int32} {u : St} (I : IC u) : ok (mC_Text_same_11_11 x1 x3 u) (fun r => 0 ≤ r.toInt ∧ r.toInt ≤ 1) := by
  have l0 : (0 : Int32).toInt = 0 := by decide
  have l1 : (1 : Int32).toInt = 1 := by decide
  have l31 : (31 : Int32).toInt = 31 := by decide
  rw [mC_Text_same_11_11]
  refine ok_bP (kC_Text_sizeOf I) (fun r_2 z_1 => ?_)
  obtain ⟨p_3, p_4, p_5⟩ := z_1
  refine ok_bP (kC_Text_sizeOf I) (fun r_7 z_6 => ?_)
  obtain ⟨p_8, p_9, p_10⟩ := z_6
  refine ok_eq (fun c_11 c_11' => ?_) (fun c_11 => ?_)
  · refine ok_mono (kC_Text_same_11_11_L20 _ I (by have FUe : FU = 100000 := rfl; have B_12 := IC_b I; omega) (by have FUe : FU = 100000 := rfl; have B_13 := IC_b I; omega) (by have FUe : FU = 100000 := rfl; have B_14 := IC_b I; omega) (by have FUe : FU = 100000 := rfl; have B_15 := IC_b I; omega)) (fun r_17 z_16 => ?_)
    obtain ⟨p_18, p_19⟩ := z_16
    exact ⟨(by omega), (by omega)⟩
  · exact ok_some ⟨(by omega), (by omega)⟩
theorem kC_Meaning_tableCalled_L12 : ∀ (n : Nat) {x1 : Int32} {x2 : Int32} {x3 : Int32} {u : St} (I : IC u) (h0 : 0 ≤ x3.toInt) (h1 : x3.toInt ≤ 200) (h2 : x2.toInt ≤ 200) (h3 : 0 ≤ x2.toInt) (hm : (200 - x3.toInt).toNat < n), ok (mC_Meaning_tableCalled_L12 n x1 x2 x3 u) (fun r => 0 ≤ r.toInt ∧ r.toInt ≤ 200) := by
  intro n
  induction n with
  | zero => intro x1 x2 x3 u I h0 h1 h2 h3 hm; exact absurd hm (Nat.not_lt_zero _)
  | succ n ih =>
    intro x1 x2 x3 u I h0 h1 h2 h3 hm
    have l0 : (0 : Int32).toInt = 0 := by decide
    have l1 : (1 : Int32).toInt = 1 := by decide
    have l200 : (200 : Int32).toInt = 200 := by decide
    rw [mC_Meaning_tableCalled_L12]
    refine ok_le (fun c_1 => ?_) (fun c_1 => ?_)
    · exact ok_some ⟨(by omega), (by omega)⟩
    · refine ok_bP (kC_Meaning_nameOfTable I) (fun r_3 z_2 => ?_)
      refine ok_bP (kC_Text_same_11_11 I) (fun r_5 z_4 => ?_)
      obtain ⟨p_6, p_7⟩ := z_4
      refine ok_eq (fun c_8 c_8' => ?_) (fun c_8 => ?_)
      · try have e_11 : (x3 + 1 : Int32).toInt = (x3 : Int32).toInt + (1 : Int32).toInt := by exact add_i (by omega) (by omega)
        refine ok_seq (fun y_10 h_9 => ?_)
        have h_9' : y_10.toInt = (x3 + 1 : Int32).toInt := by rw [h_9]
        refine ok_mono (ih I (by have B_12 := IC_b I; omega) (by have B_13 := IC_b I; omega) (by have B_14 := IC_b I; omega) (by have B_15 := IC_b I; omega) (by have B_16 := IC_b I; omega)) (fun r_18 z_17 => ?_)
        obtain ⟨p_19, p_20⟩ := z_17
        exact ⟨(by omega), (by omega)⟩
      · exact ok_some ⟨(by omega), (by omega)⟩
theorem kC_Meaning_tableCalled {x1 : Int32} {u : St} (I : IC u) : ok (mC_Meaning_tableCalled x1 u) (fun r => 0 ≤ r.toInt ∧ r.toInt ≤ 200) := by
  have l0 : (0 : Int32).toInt = 0 := by decide
  have l10 : (10 : Int32).toInt = 10 := by decide
  have l200 : (200 : Int32).toInt = 200 := by decide
  rw [mC_Meaning_tableCalled]
  refine ok_bP (kC_Lists_size I) (fun r_2 z_1 => ?_)
  obtain ⟨p_3, p_4⟩ := z_1
  refine ok_mono (kC_Meaning_tableCalled_L12 _ I (by have FUe : FU = 100000 := rfl; have B_5 := IC_b I; omega) (by have FUe : FU = 100000 := rfl; have B_6 := IC_b I; omega) (by have FUe : FU = 100000 := rfl; have B_7 := IC_b I; omega) (by have FUe : FU = 100000 := rfl; have B_8 := IC_b I; omega) (by have FUe : FU = 100000 := rfl; have B_9 := IC_b I; omega)) (fun r_11 z_10 => ?_)
  obtain ⟨p_12, p_13⟩ := z_10
  exact ⟨(by omega), (by omega)⟩
theorem kC_Meaning_tableError_L49 : ∀ (n : Nat) {x1 : Int32} {u : St} (I : IC u) (h0 : 0 ≤ x1.toInt) (h1 : x1.toInt ≤ 200) (hm : (200 - x1.toInt).toNat < n), okM (mC_Meaning_tableError_L49 n x1 u) (fun r v => IC v ∧ 0 ≤ r.toInt ∧ r.toInt ≤ 5) := by
  intro n
  induction n with
  | zero => intro x1 u I h0 h1 hm; exact absurd hm (Nat.not_lt_zero _)
  | succ n ih =>
    intro x1 u I h0 h1 hm
    have l0 : (0 : Int32).toInt = 0 := by decide
    have l1 : (1 : Int32).toInt = 1 := by decide
    have l3 : (3 : Int32).toInt = 3 := by decide
    have l4 : (4 : Int32).toInt = 4 := by decide
    have l5 : (5 : Int32).toInt = 5 := by decide
    have l10 : (10 : Int32).toInt = 10 := by decide
    have l12 : (12 : Int32).toInt = 12 := by decide
    have l200 : (200 : Int32).toInt = 200 := by decide
    rw [mC_Meaning_tableError_L49]
    refine okM_bP (kC_Lists_size I) (fun r_2 z_1 => ?_)
    obtain ⟨p_3, p_4⟩ := z_1
    refine okM_le (fun c_5 => ?_) (fun c_5 => ?_)
    · exact okM_some ⟨I, (by omega), (by omega)⟩
    · refine okM_bP (kC_Lists_at I) (fun r_7 z_6 => ?_)
      have p_8 := z_6
      refine okM_bP (kC_Catalog_findTable_3_11 I) (fun r_10 z_9 => ?_)
      obtain ⟨p_11, p_12⟩ := z_9
      refine okM_le (fun c_13 => ?_) (fun c_13 => ?_)
      · refine okM_bP (kC_Meaning_nameOfTable I) (fun r_15 z_14 => ?_)
        refine okM_bP (kC_Meaning_tableCalled I) (fun r_17 z_16 => ?_)
        obtain ⟨p_18, p_19⟩ := z_16
        refine okM_le (fun c_20 => ?_) (fun c_20 => ?_)
        · refine okM_bP (kC_Lists_add I (by have FUe : FU = 100000 := rfl; have B_22 := IC_b I; omega)) (fun u_23 z_21 => ?_)
          have I_u_23 := z_21
          try have e_26 : (x1 + 1 : Int32).toInt = (x1 : Int32).toInt + (1 : Int32).toInt := by exact add_i (by omega) (by omega)
          refine okM_seq (fun y_25 h_24 => ?_)
          have h_24' : y_25.toInt = (x1 + 1 : Int32).toInt := by rw [h_24]
          refine okM_mono (ih I_u_23 (by have B_27 := IC_b I_u_23; omega) (by have B_28 := IC_b I_u_23; omega) (by have B_29 := IC_b I_u_23; omega)) (fun r_31 u_32 z_30 => ?_)
          obtain ⟨I_u_32, p_33, p_34⟩ := z_30
          exact ⟨I_u_32, (by omega), (by omega)⟩
        · exact okM_some ⟨I, (by omega), (by omega)⟩
      · exact okM_some ⟨I, (by omega), (by omega)⟩
theorem kC_Meaning_tableError {u : St} (I : IC u) : okM (mC_Meaning_tableError u) (fun r v => IC v) := by
  have l0 : (0 : Int32).toInt = 0 := by decide
  have l4 : (4 : Int32).toInt = 4 := by decide
  have l12 : (12 : Int32).toInt = 12 := by decide
  have l13 : (13 : Int32).toInt = 13 := by decide
  have l200 : (200 : Int32).toInt = 200 := by decide
  rw [mC_Meaning_tableError]
  refine okM_lt (fun c_1 => ?_) (fun c_1 => ?_)
  · refine okM_mono (kC_Meaning_tableError_L49 _ I (by have FUe : FU = 100000 := rfl; have B_2 := IC_b I; omega) (by have FUe : FU = 100000 := rfl; have B_3 := IC_b I; omega) (by have FUe : FU = 100000 := rfl; have B_4 := IC_b I; omega)) (fun r_6 u_7 z_5 => ?_)
    obtain ⟨I_u_7, p_8, p_9⟩ := z_5
    exact I_u_7
  · refine okM_bP (kC_Catalog_findTable_3_11 I) (fun r_11 z_10 => ?_)
    obtain ⟨p_12, p_13⟩ := z_10
    refine okM_seq (fun u_15 h_14 => ?_)
    have I_u_15 : IC u_15 := by rw [h_14]; exact I
    refine okM_le (fun c_16 => ?_) (fun c_16 => ?_)
    · refine okM_mono (kC_Meaning_tableError_L49 _ I_u_15 (by have FUe : FU = 100000 := rfl; have B_17 := IC_b I_u_15; omega) (by have FUe : FU = 100000 := rfl; have B_18 := IC_b I_u_15; omega) (by have FUe : FU = 100000 := rfl; have B_19 := IC_b I_u_15; omega)) (fun r_21 u_22 z_20 => ?_)
      obtain ⟨I_u_22, p_23, p_24⟩ := z_20
      exact I_u_22
    · exact okM_some I_u_15
theorem kC_Nodes_kindOf {x1 : Int32} {u : St} (I : IC u) : ok (mC_Nodes_kindOf x1 u) (fun r => r.toInt = -1 ∨ (0 ≤ x1.toInt ∧ x1.toInt < 200 ∧ r.toInt = (ga u 8 x1).toInt)) := by
  have lm1 : (-1 : Int32).toInt = -1 := by decide
  have l0 : (0 : Int32).toInt = 0 := by decide
  have l1 : (1 : Int32).toInt = 1 := by decide
  have l6 : (6 : Int32).toInt = 6 := by decide
  have l8 : (8 : Int32).toInt = 8 := by decide
  have l200 : (200 : Int32).toInt = 200 := by decide
  rw [mC_Nodes_kindOf]
  refine ok_lt (fun c_1 => ?_) (fun c_1 => ?_)
  · exact ok_some (by have B_2 := IC_b I; omega)
  · refine ok_le (fun c_3 => ?_) (fun c_3 => ?_)
    · exact ok_some (by have B_4 := IC_b I; omega)
    · refine ok_gd (inb_of (by have B_5 := IC_b I; omega) (by have B_6 := IC_b I; omega)) ?_
      exact ok_some (by have B_7 := IC_b I; omega)
theorem kC_Nodes_qualifierOf {x1 : Int32} {u : St} (I : IC u) : ok (mC_Nodes_qualifierOf x1 u) (fun r => True) := by
  have lm1 : (-1 : Int32).toInt = -1 := by decide
  have l0 : (0 : Int32).toInt = 0 := by decide
  have l6 : (6 : Int32).toInt = 6 := by decide
  have l16 : (16 : Int32).toInt = 16 := by decide
  rw [mC_Nodes_qualifierOf]
  refine ok_lt (fun c_1 => ?_) (fun c_1 => ?_)
  · exact ok_some trivial
  · refine ok_le (fun c_2 => ?_) (fun c_2 => ?_)
    · exact ok_some trivial
    · refine ok_gd (inb_of (by have B_3 := IC_b I; omega) (by have B_4 := IC_b I; omega)) ?_
      exact ok_some trivial
theorem kC_Nodes_spanOf {x1 : Int32} {u : St} (I : IC u) : ok (mC_Nodes_spanOf x1 u) (fun r => True) := by
  have lm1 : (-1 : Int32).toInt = -1 := by decide
  have l0 : (0 : Int32).toInt = 0 := by decide
  have l6 : (6 : Int32).toInt = 6 := by decide
  have l15 : (15 : Int32).toInt = 15 := by decide
  rw [mC_Nodes_spanOf]
  refine ok_lt (fun c_1 => ?_) (fun c_1 => ?_)
  · exact ok_some trivial
  · refine ok_le (fun c_2 => ?_) (fun c_2 => ?_)
    · exact ok_some trivial
    · refine ok_gd (inb_of (by have B_3 := IC_b I; omega) (by have B_4 := IC_b I; omega)) ?_
      exact ok_some trivial
theorem kC_Catalog_findColumn_3_11_L3 : ∀ (n : Nat) {x1 : Int32} {x3 : Int32} {x4 : Int32} {u : St} (I : IC u) (h0 : 0 ≤ x4.toInt) (h1 : x4.toInt ≤ 8) (hm : (8 - x4.toInt).toNat < n), ok (mC_Catalog_findColumn_3_11_L3 n x1 x3 x4 u) (fun r => -1 ≤ r.toInt ∧ r.toInt ≤ 8) := by
  intro n
  induction n with
  | zero => intro x1 x3 x4 u I h0 h1 hm; exact absurd hm (Nat.not_lt_zero _)
  | succ n ih =>
    intro x1 x3 x4 u I h0 h1 hm
    have lm1 : (-1 : Int32).toInt = -1 := by decide
    have l0 : (0 : Int32).toInt = 0 := by decide
    have l1 : (1 : Int32).toInt = 1 := by decide
    have l4 : (4 : Int32).toInt = 4 := by decide
    have l8 : (8 : Int32).toInt = 8 := by decide
    rw [mC_Catalog_findColumn_3_11_L3]
    refine ok_bP (kC_Catalog_columnsOf I) (fun r_2 z_1 => ?_)
    obtain ⟨p_3, p_4, p_5⟩ := z_1
    refine ok_le (fun c_6 => ?_) (fun c_6 => ?_)
    · exact ok_some ⟨(by omega), (by omega)⟩
    · try have e_7 : (x1 * 8 : Int32).toInt = (x1 : Int32).toInt * 8 := by exact muc_i l8 (by omega) (by omega)
      try have e_8 : ((x1 * 8) + x4 : Int32).toInt = ((x1 * 8) : Int32).toInt + (x4 : Int32).toInt := by exact add_i (by omega) (by omega)
      refine ok_gd (inb_of (by have B_9 := IC_b I; omega) (by have B_10 := IC_b I; omega)) ?_
      refine ok_bP (kC_Text_same_4_11 I) (fun r_12 z_11 => ?_)
      obtain ⟨p_13, p_14⟩ := z_11
      refine ok_eq (fun c_15 c_15' => ?_) (fun c_15 => ?_)
      · try have e_18 : (x4 + 1 : Int32).toInt = (x4 : Int32).toInt + (1 : Int32).toInt := by exact add_i (by omega) (by omega)
        refine ok_seq (fun y_17 h_16 => ?_)
        have h_16' : y_17.toInt = (x4 + 1 : Int32).toInt := by rw [h_16]
        refine ok_mono (ih I (by have B_19 := IC_b I; omega) (by have B_20 := IC_b I; omega) (by have B_21 := IC_b I; omega)) (fun r_23 z_22 => ?_)
        obtain ⟨p_24, p_25⟩ := z_22
        exact ⟨(by omega), (by omega)⟩
      · exact ok_some ⟨(by omega), (by omega)⟩
theorem kC_Catalog_findColumn_3_11 {x1 : Int32} {x3 : Int32} {u : St} (I : IC u) : ok (mC_Catalog_findColumn_3_11 x1 x3 u) (fun r => -1 ≤ r.toInt ∧ r.toInt ≤ 8) := by
  have l0 : (0 : Int32).toInt = 0 := by decide
  have l1 : (1 : Int32).toInt = 1 := by decide
  have l8 : (8 : Int32).toInt = 8 := by decide
  rw [mC_Catalog_findColumn_3_11]
  refine ok_mono (kC_Catalog_findColumn_3_11_L3 _ I (by have FUe : FU = 100000 := rfl; have B_1 := IC_b I; omega) (by have FUe : FU = 100000 := rfl; have B_2 := IC_b I; omega) (by have FUe : FU = 100000 := rfl; have B_3 := IC_b I; omega)) (fun r_5 z_4 => ?_)
  obtain ⟨p_6, p_7⟩ := z_4
  exact ⟨(by omega), (by omega)⟩
theorem kC_Nodes_putPlace {x1 : Int32} {x2 : Int32} {x3 : Int32} {u : St} (I : IC u) (h0 : x2.toInt ≤ 300) : ok (mC_Nodes_putPlace x1 x2 x3 u) (fun v => IC v) := by
  have l0 : (0 : Int32).toInt = 0 := by decide
  have l6 : (6 : Int32).toInt = 6 := by decide
  rw [mC_Nodes_putPlace]
  refine ok_lt (fun c_1 => ?_) (fun c_1 => ?_)
  · exact ok_some I
  · refine ok_le (fun c_2 => ?_) (fun c_2 => ?_)
    · exact ok_some I
    · refine ok_gd (inb_of (by have B_3 := IC_b I; omega) (by have B_4 := IC_b I; omega)) ?_
      refine ok_seq (fun u_6 h_5 => ?_)
      have I_u_6 : IC u_6 := by rw [h_5]; exact IC_a9 I (by omega)
      refine ok_gd (inb_of (by have B_7 := IC_b I_u_6; omega) (by have B_8 := IC_b I_u_6; omega)) ?_
      refine ok_seq (fun u_10 h_9 => ?_)
      have I_u_10 : IC u_10 := by rw [h_9]; exact I_u_6
      exact ok_some I_u_10
theorem kC_Catalog_typeOf {x1 : Int32} {x2 : Int32} {u : St} (I : IC u) : ok (mC_Catalog_typeOf x1 x2 u) (fun r => True) := by
  have l0 : (0 : Int32).toInt = 0 := by decide
  have l1 : (1 : Int32).toInt = 1 := by decide
  have l5 : (5 : Int32).toInt = 5 := by decide
  have l8 : (8 : Int32).toInt = 8 := by decide
  rw [mC_Catalog_typeOf]
  refine ok_lt (fun c_1 => ?_) (fun c_1 => ?_)
  · rw [mC_Catalog_typeOf_J18]
    refine ok_pos (by decide) ?_
    exact ok_some trivial
  · refine ok_bP (kC_Catalog_columnsOf I) (fun r_3 z_2 => ?_)
    obtain ⟨p_4, p_5, p_6⟩ := z_2
    refine ok_le (fun c_7 => ?_) (fun c_7 => ?_)
    · rw [mC_Catalog_typeOf_J18]
      refine ok_pos (by decide) ?_
      exact ok_some trivial
    · rw [mC_Catalog_typeOf_J18]
      refine ok_neg (by decide) ?_
      try have e_8 : (x1 * 8 : Int32).toInt = (x1 : Int32).toInt * 8 := by exact muc_i l8 (by omega) (by omega)
      try have e_9 : ((x1 * 8) + x2 : Int32).toInt = ((x1 * 8) : Int32).toInt + (x2 : Int32).toInt := by exact add_i (by omega) (by omega)
      refine ok_gd (inb_of (by have B_10 := IC_b I; omega) (by have B_11 := IC_b I; omega)) ?_
      exact ok_some trivial
theorem kC_Nodes_putType {x1 : Int32} {x2 : Int32} {u : St} (I : IC u) : ok (mC_Nodes_putType x1 x2 u) (fun v => IC v) := by
  have l0 : (0 : Int32).toInt = 0 := by decide
  have l6 : (6 : Int32).toInt = 6 := by decide
  rw [mC_Nodes_putType]
  refine ok_lt (fun c_1 => ?_) (fun c_1 => ?_)
  · exact ok_some I
  · refine ok_le (fun c_2 => ?_) (fun c_2 => ?_)
    · exact ok_some I
    · refine ok_gd (inb_of (by have B_3 := IC_b I; omega) (by have B_4 := IC_b I; omega)) ?_
      refine ok_seq (fun u_6 h_5 => ?_)
      have I_u_6 : IC u_6 := by rw [h_5]; exact I
      exact ok_some I_u_6
theorem kC_Meaning_findPlace_L39 : ∀ (n : Nat) {x1 : Int32} {x2 : Int32} {x4 : Int32} {x5 : Int32} {x6 : Int32} {u : St} (I : IC u) (h0 : 0 ≤ x6.toInt) (h1 : x6.toInt ≤ 200) (h2 : x2.toInt ≤ 200) (hm : (200 - x6.toInt).toNat < n), okM (mC_Meaning_findPlace_L39 n x1 x2 x4 x5 x6 u) (fun r v => IC v) := by
  intro n
  induction n with
  | zero => intro x1 x2 x4 x5 x6 u I h0 h1 h2 hm; exact absurd hm (Nat.not_lt_zero _)
  | succ n ih =>
    intro x1 x2 x4 x5 x6 u I h0 h1 h2 hm
    have l0 : (0 : Int32).toInt = 0 := by decide
    have l1 : (1 : Int32).toInt = 1 := by decide
    have l3 : (3 : Int32).toInt = 3 := by decide
    have l4 : (4 : Int32).toInt = 4 := by decide
    have l6 : (6 : Int32).toInt = 6 := by decide
    have l7 : (7 : Int32).toInt = 7 := by decide
    have l200 : (200 : Int32).toInt = 200 := by decide
    have l300 : (300 : Int32).toInt = 300 := by decide
    rw [mC_Meaning_findPlace_L39]
    refine okM_le (fun c_1 => ?_) (fun c_1 => ?_)
    · refine okM_lt (fun c_2 => ?_) (fun c_2 => ?_)
      · refine okM_eq (fun c_3 c_3' => ?_) (fun c_3 => ?_)
        · exact okM_some I
        · refine okM_le (fun c_4 => ?_) (fun c_4 => ?_)
          · exact okM_some I
          · exact okM_some I
      · exact okM_some I
    · refine okM_bP (kC_Lists_at I) (fun r_6 z_5 => ?_)
      have p_7 := z_5
      refine okM_bP (kC_Nodes_spanOf I) (fun r_9 z_8 => ?_)
      refine okM_bP (kC_Catalog_findColumn_3_11 I) (fun r_11 z_10 => ?_)
      obtain ⟨p_12, p_13⟩ := z_10
      refine okM_lt (fun c_14 => ?_) (fun c_14 => ?_)
      · try have e_17 : (x6 + 1 : Int32).toInt = (x6 : Int32).toInt + (1 : Int32).toInt := by exact add_i (by omega) (by omega)
        refine okM_seq (fun y_16 h_15 => ?_)
        have h_15' : y_16.toInt = (x6 + 1 : Int32).toInt := by rw [h_15]
        refine okM_mono (ih I (by have B_18 := IC_b I; omega) (by have B_19 := IC_b I; omega) (by have B_20 := IC_b I; omega) (by have B_21 := IC_b I; omega)) (fun r_23 u_24 z_22 => ?_)
        have I_u_24 := z_22
        exact I_u_24
      · refine okM_lt (fun c_25 => ?_) (fun c_25 => ?_)
        · rw [mC_Meaning_findPlace_J97]
          refine okM_bP (kC_Nodes_putPlace I (by have FUe : FU = 100000 := rfl; have B_27 := IC_b I; omega)) (fun u_28 z_26 => ?_)
          have I_u_28 := z_26
          refine okM_bP (kC_Catalog_typeOf I_u_28) (fun r_30 z_29 => ?_)
          refine okM_bP (kC_Nodes_putType I_u_28) (fun u_32 z_31 => ?_)
          have I_u_32 := z_31
          try have e_35 : (x5 + 1 : Int32).toInt = (x5 : Int32).toInt + (1 : Int32).toInt := by exact add_i (by omega) (by omega)
          refine okM_seq (fun y_34 h_33 => ?_)
          have h_33' : y_34.toInt = (x5 + 1 : Int32).toInt := by rw [h_33]
          try have e_38 : (x6 + 1 : Int32).toInt = (x6 : Int32).toInt + (1 : Int32).toInt := by exact add_i (by omega) (by omega)
          refine okM_seq (fun y_37 h_36 => ?_)
          have h_36' : y_37.toInt = (x6 + 1 : Int32).toInt := by rw [h_36]
          refine okM_mono (ih I_u_32 (by have B_39 := IC_b I_u_32; omega) (by have B_40 := IC_b I_u_32; omega) (by have B_41 := IC_b I_u_32; omega) (by have B_42 := IC_b I_u_32; omega)) (fun r_44 u_45 z_43 => ?_)
          have I_u_45 := z_43
          exact I_u_45
        · refine okM_eq (fun c_46 c_46' => ?_) (fun c_46 => ?_)
          · rw [mC_Meaning_findPlace_J97]
            refine okM_bP (kC_Nodes_putPlace I (by have FUe : FU = 100000 := rfl; have B_48 := IC_b I; omega)) (fun u_49 z_47 => ?_)
            have I_u_49 := z_47
            refine okM_bP (kC_Catalog_typeOf I_u_49) (fun r_51 z_50 => ?_)
            refine okM_bP (kC_Nodes_putType I_u_49) (fun u_53 z_52 => ?_)
            have I_u_53 := z_52
            try have e_56 : (x5 + 1 : Int32).toInt = (x5 : Int32).toInt + (1 : Int32).toInt := by exact add_i (by omega) (by omega)
            refine okM_seq (fun y_55 h_54 => ?_)
            have h_54' : y_55.toInt = (x5 + 1 : Int32).toInt := by rw [h_54]
            try have e_59 : (x6 + 1 : Int32).toInt = (x6 : Int32).toInt + (1 : Int32).toInt := by exact add_i (by omega) (by omega)
            refine okM_seq (fun y_58 h_57 => ?_)
            have h_57' : y_58.toInt = (x6 + 1 : Int32).toInt := by rw [h_57]
            refine okM_mono (ih I_u_53 (by have B_60 := IC_b I_u_53; omega) (by have B_61 := IC_b I_u_53; omega) (by have B_62 := IC_b I_u_53; omega) (by have B_63 := IC_b I_u_53; omega)) (fun r_65 u_66 z_64 => ?_)
            have I_u_66 := z_64
            exact I_u_66
          · try have e_69 : (x6 + 1 : Int32).toInt = (x6 : Int32).toInt + (1 : Int32).toInt := by exact add_i (by omega) (by omega)
            refine okM_seq (fun y_68 h_67 => ?_)
            have h_67' : y_68.toInt = (x6 + 1 : Int32).toInt := by rw [h_67]
            refine okM_mono (ih I (by have B_70 := IC_b I; omega) (by have B_71 := IC_b I; omega) (by have B_72 := IC_b I; omega) (by have B_73 := IC_b I; omega)) (fun r_75 u_76 z_74 => ?_)
            have I_u_76 := z_74
            exact I_u_76
theorem kC_Meaning_findPlace {x1 : Int32} {u : St} (I : IC u) : okM (mC_Meaning_findPlace x1 u) (fun r v => IC v) := by
  have lm1 : (-1 : Int32).toInt = -1 := by decide
  have l0 : (0 : Int32).toInt = 0 := by decide
  have l3 : (3 : Int32).toInt = 3 := by decide
  have l200 : (200 : Int32).toInt = 200 := by decide
  rw [mC_Meaning_findPlace]
  refine okM_bP (kC_Lists_size I) (fun r_2 z_1 => ?_)
  obtain ⟨p_3, p_4⟩ := z_1
  refine okM_bP (kC_Nodes_qualifierOf I) (fun r_6 z_5 => ?_)
  refine okM_le (fun c_7 => ?_) (fun c_7 => ?_)
  · refine okM_bP (kC_Meaning_tableCalled I) (fun r_9 z_8 => ?_)
    obtain ⟨p_10, p_11⟩ := z_8
    refine okM_mono (kC_Meaning_findPlace_L39 _ I (by have FUe : FU = 100000 := rfl; have B_12 := IC_b I; omega) (by have FUe : FU = 100000 := rfl; have B_13 := IC_b I; omega) (by have FUe : FU = 100000 := rfl; have B_14 := IC_b I; omega) (by have FUe : FU = 100000 := rfl; have B_15 := IC_b I; omega)) (fun r_17 u_18 z_16 => ?_)
    have I_u_18 := z_16
    exact I_u_18
  · refine okM_mono (kC_Meaning_findPlace_L39 _ I (by have FUe : FU = 100000 := rfl; have B_19 := IC_b I; omega) (by have FUe : FU = 100000 := rfl; have B_20 := IC_b I; omega) (by have FUe : FU = 100000 := rfl; have B_21 := IC_b I; omega) (by have FUe : FU = 100000 := rfl; have B_22 := IC_b I; omega)) (fun r_24 u_25 z_23 => ?_)
    have I_u_25 := z_23
    exact I_u_25
theorem kC_Nodes_putFault {x1 : Int32} {x2 : Int32} {u : St} (I : IC u) : ok (mC_Nodes_putFault x1 x2 u) (fun v => IC v) := by
  have l0 : (0 : Int32).toInt = 0 := by decide
  have l6 : (6 : Int32).toInt = 6 := by decide
  rw [mC_Nodes_putFault]
  refine ok_lt (fun c_1 => ?_) (fun c_1 => ?_)
  · exact ok_some I
  · refine ok_le (fun c_2 => ?_) (fun c_2 => ?_)
    · exact ok_some I
    · refine ok_gd (inb_of (by have B_3 := IC_b I; omega) (by have B_4 := IC_b I; omega)) ?_
      refine ok_seq (fun u_6 h_5 => ?_)
      have I_u_6 : IC u_6 := by rw [h_5]; exact I
      exact ok_some I_u_6
theorem kC_Meaning_findPlaces_L2 : ∀ (n : Nat) {x1 : Int32} {u : St} (I : IC u) (h0 : 0 ≤ x1.toInt) (h1 : x1.toInt ≤ 200) (hm : (200 - x1.toInt).toNat < n), ok (mC_Meaning_findPlaces_L2 n x1 u) (fun v => IC v) := by
  intro n
  induction n with
  | zero => intro x1 u I h0 h1 hm; exact absurd hm (Nat.not_lt_zero _)
  | succ n ih =>
    intro x1 u I h0 h1 hm
    have l0 : (0 : Int32).toInt = 0 := by decide
    have l1 : (1 : Int32).toInt = 1 := by decide
    have l4 : (4 : Int32).toInt = 4 := by decide
    have l200 : (200 : Int32).toInt = 200 := by decide
    rw [mC_Meaning_findPlaces_L2]
    refine ok_bP (kC_Nodes_size I) (fun r_2 z_1 => ?_)
    have p_3 := z_1
    refine ok_le (fun c_4 => ?_) (fun c_4 => ?_)
    · exact ok_some I
    · refine ok_bP (kC_Nodes_kindOf I) (fun r_6 z_5 => ?_)
      have p_7 := z_5
      refine ok_eq (fun c_8 c_8' => ?_) (fun c_8 => ?_)
      · refine ok_bM (kC_Meaning_findPlace I) (fun r_10 u_11 z_9 => ?_)
        have I_u_11 := z_9
        refine ok_bP (kC_Nodes_putFault I_u_11) (fun u_13 z_12 => ?_)
        have I_u_13 := z_12
        try have e_16 : (x1 + 1 : Int32).toInt = (x1 : Int32).toInt + (1 : Int32).toInt := by exact add_i (by omega) (by omega)
        refine ok_seq (fun y_15 h_14 => ?_)
        have h_14' : y_15.toInt = (x1 + 1 : Int32).toInt := by rw [h_14]
        refine ok_mono (ih I_u_13 (by have B_17 := IC_b I_u_13; omega) (by have B_18 := IC_b I_u_13; omega) (by have B_19 := IC_b I_u_13; omega)) (fun u_21 z_20 => ?_)
        have I_u_21 := z_20
        exact I_u_21
      · try have e_24 : (x1 + 1 : Int32).toInt = (x1 : Int32).toInt + (1 : Int32).toInt := by exact add_i (by omega) (by omega)
        refine ok_seq (fun y_23 h_22 => ?_)
        have h_22' : y_23.toInt = (x1 + 1 : Int32).toInt := by rw [h_22]
        refine ok_mono (ih I (by have B_25 := IC_b I; omega) (by have B_26 := IC_b I; omega) (by have B_27 := IC_b I; omega)) (fun u_29 z_28 => ?_)
        have I_u_29 := z_28
        exact I_u_29
theorem kC_Meaning_findPlaces {u : St} (I : IC u) : ok (mC_Meaning_findPlaces u) (fun v => IC v) := by
  have l0 : (0 : Int32).toInt = 0 := by decide
  have l200 : (200 : Int32).toInt = 200 := by decide
  rw [mC_Meaning_findPlaces]
  refine ok_mono (kC_Meaning_findPlaces_L2 _ I (by have FUe : FU = 100000 := rfl; have B_1 := IC_b I; omega) (by have FUe : FU = 100000 := rfl; have B_2 := IC_b I; omega) (by have FUe : FU = 100000 := rfl; have B_3 := IC_b I; omega)) (fun u_5 z_4 => ?_)
  have I_u_5 := z_4
  exact I_u_5
theorem kC_Meaning_findColumnsSet_L2 : ∀ (n : Nat) {x1 : Int32} {u : St} (I : IC u) (h0 : 0 ≤ x1.toInt) (h1 : x1.toInt ≤ 200) (hm : (200 - x1.toInt).toNat < n), ok (mC_Meaning_findColumnsSet_L2 n x1 u) (fun v => IC v) := by
  intro n
  induction n with
  | zero => intro x1 u I h0 h1 hm; exact absurd hm (Nat.not_lt_zero _)
  | succ n ih =>
    intro x1 u I h0 h1 hm
    have l0 : (0 : Int32).toInt = 0 := by decide
    have l1 : (1 : Int32).toInt = 1 := by decide
    have l4 : (4 : Int32).toInt = 4 := by decide
    have l5 : (5 : Int32).toInt = 5 := by decide
    have l12 : (12 : Int32).toInt = 12 := by decide
    have l13 : (13 : Int32).toInt = 13 := by decide
    have l200 : (200 : Int32).toInt = 200 := by decide
    rw [mC_Meaning_findColumnsSet_L2]
    refine ok_bP (kC_Lists_size I) (fun r_2 z_1 => ?_)
    obtain ⟨p_3, p_4⟩ := z_1
    refine ok_le (fun c_5 => ?_) (fun c_5 => ?_)
    · exact ok_some I
    · refine ok_bP (kC_Lists_at I) (fun r_7 z_6 => ?_)
      have p_8 := z_6
      refine ok_bP (kC_Catalog_findColumn_3_11 I) (fun r_10 z_9 => ?_)
      obtain ⟨p_11, p_12⟩ := z_9
      refine ok_bP (kC_Lists_add I (by have FUe : FU = 100000 := rfl; have B_14 := IC_b I; omega)) (fun u_15 z_13 => ?_)
      have I_u_15 := z_13
      try have e_18 : (x1 + 1 : Int32).toInt = (x1 : Int32).toInt + (1 : Int32).toInt := by exact add_i (by omega) (by omega)
      refine ok_seq (fun y_17 h_16 => ?_)
      have h_16' : y_17.toInt = (x1 + 1 : Int32).toInt := by rw [h_16]
      refine ok_mono (ih I_u_15 (by have B_19 := IC_b I_u_15; omega) (by have B_20 := IC_b I_u_15; omega) (by have B_21 := IC_b I_u_15; omega)) (fun u_23 z_22 => ?_)
      have I_u_23 := z_22
      exact I_u_23
theorem kC_Meaning_findColumnsSet {u : St} (I : IC u) : ok (mC_Meaning_findColumnsSet u) (fun v => IC v) := by
  have l0 : (0 : Int32).toInt = 0 := by decide
  have l200 : (200 : Int32).toInt = 200 := by decide
  rw [mC_Meaning_findColumnsSet]
  refine ok_mono (kC_Meaning_findColumnsSet_L2 _ I (by have FUe : FU = 100000 := rfl; have B_1 := IC_b I; omega) (by have FUe : FU = 100000 := rfl; have B_2 := IC_b I; omega) (by have FUe : FU = 100000 := rfl; have B_3 := IC_b I; omega)) (fun u_5 z_4 => ?_)
  have I_u_5 := z_4
  exact I_u_5
theorem kC_Nodes_putNeed {x1 : Int32} {x2 : Int32} {u : St} (I : IC u) : ok (mC_Nodes_putNeed x1 x2 u) (fun v => IC v) := by
  have l0 : (0 : Int32).toInt = 0 := by decide
  have l6 : (6 : Int32).toInt = 6 := by decide
  rw [mC_Nodes_putNeed]
  refine ok_lt (fun c_1 => ?_) (fun c_1 => ?_)
  · exact ok_some I
  · refine ok_le (fun c_2 => ?_) (fun c_2 => ?_)
    · exact ok_some I
    · refine ok_gd (inb_of (by have B_3 := IC_b I; omega) (by have B_4 := IC_b I; omega)) ?_
      refine ok_seq (fun u_6 h_5 => ?_)
      have I_u_6 : IC u_6 := by rw [h_5]; exact I
      exact ok_some I_u_6
theorem kC_Meaning_tellColumns_L3 : ∀ (n : Nat) {x1 : Int32} {x2 : Int32} {x3 : Int32} {x4 : Int32} {u : St} (I : IC u) (h0 : -1 ≤ x4.toInt) (h1 : x3.toInt ≤ 200) (h2 : x4.toInt ≤ 201) (hm : (201 - x4.toInt).toNat < n), ok (mC_Meaning_tellColumns_L3 n x1 x2 x3 x4 u) (fun v => IC v) := by
  intro n
  induction n with
  | zero => intro x1 x2 x3 x4 u I h0 h1 h2 hm; exact absurd hm (Nat.not_lt_zero _)
  | succ n ih =>
    intro x1 x2 x3 x4 u I h0 h1 h2 hm
    have l1 : (1 : Int32).toInt = 1 := by decide
    have l13 : (13 : Int32).toInt = 13 := by decide
    have l200 : (200 : Int32).toInt = 200 := by decide
    have l201 : (201 : Int32).toInt = 201 := by decide
    rw [mC_Meaning_tellColumns_L3]
    refine ok_le (fun c_1 => ?_) (fun c_1 => ?_)
    · exact ok_some I
    · refine ok_bP (kC_Lists_at I) (fun r_3 z_2 => ?_)
      have p_4 := z_2
      try have e_5 : (x4 - x2 : Int32).toInt = (x4 : Int32).toInt - (x2 : Int32).toInt := by exact sub_i (by omega) (by omega)
      refine ok_bP (kC_Catalog_typeOf I) (fun r_7 z_6 => ?_)
      refine ok_bP (kC_Nodes_putNeed I) (fun u_9 z_8 => ?_)
      have I_u_9 := z_8
      try have e_12 : (x4 + 1 : Int32).toInt = (x4 : Int32).toInt + (1 : Int32).toInt := by exact add_i (by omega) (by omega)
      refine ok_seq (fun y_11 h_10 => ?_)
      have h_10' : y_11.toInt = (x4 + 1 : Int32).toInt := by rw [h_10]
      refine ok_mono (ih I_u_9 (by have B_13 := IC_b I_u_9; omega) (by have B_14 := IC_b I_u_9; omega) (by have B_15 := IC_b I_u_9; omega) (by have B_16 := IC_b I_u_9; omega)) (fun u_18 z_17 => ?_)
      have I_u_18 := z_17
      exact I_u_18
theorem kC_Meaning_tellColumns {x1 : Int32} {x2 : Int32} {x3 : Int32} {u : St} (I : IC u) (h0 : -1 ≤ x2.toInt) (h1 : x3.toInt ≤ 200) (h2 : x2.toInt ≤ 200) : ok (mC_Meaning_tellColumns x1 x2 x3 u) (fun v => IC v) := by
  have l1 : (1 : Int32).toInt = 1 := by decide
  have l200 : (200 : Int32).toInt = 200 := by decide
  have l201 : (201 : Int32).toInt = 201 := by decide
  rw [mC_Meaning_tellColumns]
  refine ok_mono (kC_Meaning_tellColumns_L3 _ I (by have FUe : FU = 100000 := rfl; have B_1 := IC_b I; omega) (by have FUe : FU = 100000 := rfl; have B_2 := IC_b I; omega) (by have FUe : FU = 100000 := rfl; have B_3 := IC_b I; omega) (by have FUe : FU = 100000 := rfl; have B_4 := IC_b I; omega)) (fun u_6 z_5 => ?_)
  have I_u_6 := z_5
  exact I_u_6
theorem kC_Meaning_tellNeeds_L105 : ∀ (n : Nat) {x1 : Int32} {x2 : Int32} {u : St} (I : IC u) (h0 : 0 ≤ x2.toInt) (h1 : x2.toInt ≤ 200) (h2 : -1 ≤ x1.toInt) (h3 : x1.toInt ≤ 200) (hm : (200 - x2.toInt).toNat < n), ok (mC_Meaning_tellNeeds_L105 n x1 x2 u) (fun v => IC v) := by
  intro n
  induction n with
  | zero => intro x1 x2 u I h0 h1 h2 h3 hm; exact absurd hm (Nat.not_lt_zero _)
  | succ n ih =>
    intro x1 x2 u I h0 h1 h2 h3 hm
    have l0 : (0 : Int32).toInt = 0 := by decide
    have l1 : (1 : Int32).toInt = 1 := by decide
    have l6 : (6 : Int32).toInt = 6 := by decide
    have l12 : (12 : Int32).toInt = 12 := by decide
    have l200 : (200 : Int32).toInt = 200 := by decide
    rw [mC_Meaning_tellNeeds_L105]
    refine ok_bP (kC_Lists_size I) (fun r_2 z_1 => ?_)
    obtain ⟨p_3, p_4⟩ := z_1
    refine ok_le (fun c_5 => ?_) (fun c_5 => ?_)
    · exact ok_some I
    · refine ok_bP (kC_Lists_at I) (fun r_7 z_6 => ?_)
      have p_8 := z_6
      refine ok_bP (kC_Meaning_tellColumns I (by have FUe : FU = 100000 := rfl; have B_10 := IC_b I; omega) (by have FUe : FU = 100000 := rfl; have B_11 := IC_b I; omega) (by have FUe : FU = 100000 := rfl; have B_12 := IC_b I; omega)) (fun u_13 z_9 => ?_)
      have I_u_13 := z_9
      try have e_16 : (x2 + 1 : Int32).toInt = (x2 : Int32).toInt + (1 : Int32).toInt := by exact add_i (by omega) (by omega)
      refine ok_seq (fun y_15 h_14 => ?_)
      have h_14' : y_15.toInt = (x2 + 1 : Int32).toInt := by rw [h_14]
      refine ok_mono (ih I_u_13 (by have B_17 := IC_b I_u_13; omega) (by have B_18 := IC_b I_u_13; omega) (by have B_19 := IC_b I_u_13; omega) (by have B_20 := IC_b I_u_13; omega) (by have B_21 := IC_b I_u_13; omega)) (fun u_23 z_22 => ?_)
      have I_u_23 := z_22
      exact I_u_23
theorem kC_Meaning_tellNeeds_L17 : ∀ (n : Nat) {x1 : Int32} {u : St} (I : IC u) (h0 : 0 ≤ x1.toInt) (h1 : x1.toInt ≤ 200) (hm : (200 - x1.toInt).toNat < n), ok (mC_Meaning_tellNeeds_L17 n x1 u) (fun v => IC v) := by
  intro n
  induction n with
  | zero => intro x1 u I h0 h1 hm; exact absurd hm (Nat.not_lt_zero _)
  | succ n ih =>
    intro x1 u I h0 h1 hm
    have l0 : (0 : Int32).toInt = 0 := by decide
    have l1 : (1 : Int32).toInt = 1 := by decide
    have l4 : (4 : Int32).toInt = 4 := by decide
    have l5 : (5 : Int32).toInt = 5 := by decide
    have l10 : (10 : Int32).toInt = 10 := by decide
    have l13 : (13 : Int32).toInt = 13 := by decide
    have l200 : (200 : Int32).toInt = 200 := by decide
    rw [mC_Meaning_tellNeeds_L17]
    refine ok_bP (kC_Lists_size I) (fun r_2 z_1 => ?_)
    obtain ⟨p_3, p_4⟩ := z_1
    refine ok_le (fun c_5 => ?_) (fun c_5 => ?_)
    · refine ok_eq (fun c_6 c_6' => ?_) (fun c_6 => ?_)
      · refine ok_bP (kC_Lists_size I) (fun r_8 z_7 => ?_)
        obtain ⟨p_9, p_10⟩ := z_7
        refine ok_bP (kC_Meaning_tellColumns I (by have FUe : FU = 100000 := rfl; have B_12 := IC_b I; omega) (by have FUe : FU = 100000 := rfl; have B_13 := IC_b I; omega) (by have FUe : FU = 100000 := rfl; have B_14 := IC_b I; omega)) (fun u_15 z_11 => ?_)
        have I_u_15 := z_11
        refine ok_mono (kC_Meaning_tellNeeds_L105 _ I_u_15 (by have FUe : FU = 100000 := rfl; have B_16 := IC_b I_u_15; omega) (by have FUe : FU = 100000 := rfl; have B_17 := IC_b I_u_15; omega) (by have FUe : FU = 100000 := rfl; have B_18 := IC_b I_u_15; omega) (by have FUe : FU = 100000 := rfl; have B_19 := IC_b I_u_15; omega) (by have FUe : FU = 100000 := rfl; have B_20 := IC_b I_u_15; omega)) (fun u_22 z_21 => ?_)
        have I_u_22 := z_21
        exact I_u_22
      · refine ok_mono (kC_Meaning_tellNeeds_L105 _ I (by have FUe : FU = 100000 := rfl; have B_23 := IC_b I; omega) (by have FUe : FU = 100000 := rfl; have B_24 := IC_b I; omega) (by have FUe : FU = 100000 := rfl; have B_25 := IC_b I; omega) (by have FUe : FU = 100000 := rfl; have B_26 := IC_b I; omega) (by have FUe : FU = 100000 := rfl; have B_27 := IC_b I; omega)) (fun u_29 z_28 => ?_)
        have I_u_29 := z_28
        exact I_u_29
    · refine ok_bP (kC_Lists_at I) (fun r_31 z_30 => ?_)
      have p_32 := z_30
      refine ok_bP (kC_Lists_at I) (fun r_34 z_33 => ?_)
      have p_35 := z_33
      refine ok_bP (kC_Catalog_typeOf I) (fun r_37 z_36 => ?_)
      refine ok_bP (kC_Nodes_putNeed I) (fun u_39 z_38 => ?_)
      have I_u_39 := z_38
      try have e_42 : (x1 + 1 : Int32).toInt = (x1 : Int32).toInt + (1 : Int32).toInt := by exact add_i (by omega) (by omega)
      refine ok_seq (fun y_41 h_40 => ?_)
      have h_40' : y_41.toInt = (x1 + 1 : Int32).toInt := by rw [h_40]
      refine ok_mono (ih I_u_39 (by have B_43 := IC_b I_u_39; omega) (by have B_44 := IC_b I_u_39; omega) (by have B_45 := IC_b I_u_39; omega)) (fun u_47 z_46 => ?_)
      have I_u_47 := z_46
      exact I_u_47
theorem kC_Meaning_tellNeeds {u : St} (I : IC u) : ok (mC_Meaning_tellNeeds u) (fun v => IC v) := by
  have l0 : (0 : Int32).toInt = 0 := by decide
  have l3 : (3 : Int32).toInt = 3 := by decide
  have l18 : (18 : Int32).toInt = 18 := by decide
  have l200 : (200 : Int32).toInt = 200 := by decide
  rw [mC_Meaning_tellNeeds]
  refine ok_bP (kC_Nodes_putNeed I) (fun u_2 z_1 => ?_)
  have I_u_2 := z_1
  refine ok_mono (kC_Meaning_tellNeeds_L17 _ I_u_2 (by have FUe : FU = 100000 := rfl; have B_3 := IC_b I_u_2; omega) (by have FUe : FU = 100000 := rfl; have B_4 := IC_b I_u_2; omega) (by have FUe : FU = 100000 := rfl; have B_5 := IC_b I_u_2; omega)) (fun u_7 z_6 => ?_)
  have I_u_7 := z_6
  exact I_u_7
theorem kC_Nodes_firstOf {x1 : Int32} {u : St} (I : IC u) : ok (mC_Nodes_firstOf x1 u) (fun r => r.toInt ≤ 300 ∨ (ga u 8 x1).toInt ≠ 28) := by
  have lm1 : (-1 : Int32).toInt = -1 := by decide
  have l0 : (0 : Int32).toInt = 0 := by decide
  have l6 : (6 : Int32).toInt = 6 := by decide
  have l8 : (8 : Int32).toInt = 8 := by decide
  have l9 : (9 : Int32).toInt = 9 := by decide
  have l28 : (28 : Int32).toInt = 28 := by decide
  have l300 : (300 : Int32).toInt = 300 := by decide
  rw [mC_Nodes_firstOf]
  have F := IC_par I x1
  refine ok_lt (fun c_1 => ?_) (fun c_1 => ?_)
  · exact ok_some (by have B_2 := IC_b I; omega)
  · refine ok_le (fun c_3 => ?_) (fun c_3 => ?_)
    · exact ok_some (by have B_4 := IC_b I; omega)
    · refine ok_gd (inb_of (by have B_5 := IC_b I; omega) (by have B_6 := IC_b I; omega)) ?_
      exact ok_some (by have B_7 := IC_b I; omega)
theorem kC_Nodes_parentOf {x1 : Int32} {u : St} (I : IC u) : ok (mC_Nodes_parentOf x1 u) (fun r => True) := by
  have lm1 : (-1 : Int32).toInt = -1 := by decide
  have l0 : (0 : Int32).toInt = 0 := by decide
  have l6 : (6 : Int32).toInt = 6 := by decide
  have l12 : (12 : Int32).toInt = 12 := by decide
  rw [mC_Nodes_parentOf]
  refine ok_lt (fun c_1 => ?_) (fun c_1 => ?_)
  · exact ok_some trivial
  · refine ok_le (fun c_2 => ?_) (fun c_2 => ?_)
    · exact ok_some trivial
    · refine ok_gd (inb_of (by have B_3 := IC_b I; omega) (by have B_4 := IC_b I; omega)) ?_
      exact ok_some trivial
theorem kC_Nodes_needOf {x1 : Int32} {u : St} (I : IC u) : ok (mC_Nodes_needOf x1 u) (fun r => True) := by
  have l0 : (0 : Int32).toInt = 0 := by decide
  have l6 : (6 : Int32).toInt = 6 := by decide
  have l13 : (13 : Int32).toInt = 13 := by decide
  rw [mC_Nodes_needOf]
  refine ok_lt (fun c_1 => ?_) (fun c_1 => ?_)
  · exact ok_some trivial
  · refine ok_le (fun c_2 => ?_) (fun c_2 => ?_)
    · exact ok_some trivial
    · refine ok_gd (inb_of (by have B_3 := IC_b I; omega) (by have B_4 := IC_b I; omega)) ?_
      exact ok_some trivial
theorem kC_Nodes_compares {x0 : Int32} {u : St} (I : IC u) : ok (mC_Nodes_compares x0 u) (fun r => 0 ≤ r.toInt ∧ r.toInt ≤ 1) := by
  have l0 : (0 : Int32).toInt = 0 := by decide
  have l1 : (1 : Int32).toInt = 1 := by decide
  have l17 : (17 : Int32).toInt = 17 := by decide
  have l22 : (22 : Int32).toInt = 22 := by decide
  rw [mC_Nodes_compares]
  refine ok_lt (fun c_1 => ?_) (fun c_1 => ?_)
  · exact ok_some ⟨(by omega), (by omega)⟩
  · refine ok_lt (fun c_2 => ?_) (fun c_2 => ?_)
    · exact ok_some ⟨(by omega), (by omega)⟩
    · exact ok_some ⟨(by omega), (by omega)⟩
theorem kC_Nodes_secondOf {x1 : Int32} {u : St} (I : IC u) : ok (mC_Nodes_secondOf x1 u) (fun r => True) := by
  have lm1 : (-1 : Int32).toInt = -1 := by decide
  have l0 : (0 : Int32).toInt = 0 := by decide
  have l6 : (6 : Int32).toInt = 6 := by decide
  have l10 : (10 : Int32).toInt = 10 := by decide
  rw [mC_Nodes_secondOf]
  refine ok_lt (fun c_1 => ?_) (fun c_1 => ?_)
  · exact ok_some trivial
  · refine ok_le (fun c_2 => ?_) (fun c_2 => ?_)
    · exact ok_some trivial
    · refine ok_gd (inb_of (by have B_3 := IC_b I; omega) (by have B_4 := IC_b I; omega)) ?_
      exact ok_some trivial
theorem kC_Nodes_typeOf {x1 : Int32} {u : St} (I : IC u) : ok (mC_Nodes_typeOf x1 u) (fun r => True) := by
  have lm1 : (-1 : Int32).toInt = -1 := by decide
  have l0 : (0 : Int32).toInt = 0 := by decide
  have l6 : (6 : Int32).toInt = 6 := by decide
  have l11 : (11 : Int32).toInt = 11 := by decide
  rw [mC_Nodes_typeOf]
  refine ok_lt (fun c_1 => ?_) (fun c_1 => ?_)
  · exact ok_some trivial
  · refine ok_le (fun c_2 => ?_) (fun c_2 => ?_)
    · exact ok_some trivial
    · refine ok_gd (inb_of (by have B_3 := IC_b I; omega) (by have B_4 := IC_b I; omega)) ?_
      exact ok_some trivial
theorem kC_Meaning_typeByKind {x0 : Int32} {u : St} (I : IC u) : ok (mC_Meaning_typeByKind x0 u) (fun r => True) := by
  have z0 : (0 : Int32).toInt = 0 := by decide
  have l29 : (29 : Int32).toInt = 29 := by decide
  have t3 : lnT 3 = 29 := by decide
  rw [mC_Meaning_typeByKind, t3]
  refine ok_lt (fun c => ok_some trivial) (fun c => ?_)
  exact ok_lt (fun c => ok_gd (inb_of (by omega) (by omega)) (ok_some trivial)) (fun c => ok_some trivial)
theorem kC_Meaning_typeAhead_L14 : ∀ (n : Nat) {x2 : Int32} {x3 : Int32} {x4 : Int32} {u : St} (I : IC u) (h0 : 0 ≤ x4.toInt) (h1 : x4.toInt ≤ 200) (hm : (200 - x4.toInt).toNat < n), ok (mC_Meaning_typeAhead_L14 n x2 x3 x4 u) (fun r => True) := by
  intro n
  induction n with
  | zero => intro x2 x3 x4 u I h0 h1 hm; exact absurd hm (Nat.not_lt_zero _)
  | succ n ih =>
    intro x2 x3 x4 u I h0 h1 hm
    have l0 : (0 : Int32).toInt = 0 := by decide
    have l1 : (1 : Int32).toInt = 1 := by decide
    have l4 : (4 : Int32).toInt = 4 := by decide
    have l8 : (8 : Int32).toInt = 8 := by decide
    have l9 : (9 : Int32).toInt = 9 := by decide
    have l28 : (28 : Int32).toInt = 28 := by decide
    have l200 : (200 : Int32).toInt = 200 := by decide
    rw [mC_Meaning_typeAhead_L14]
    refine ok_le (fun c_1 => ?_) (fun c_1 => ?_)
    · rw [mC_Meaning_typeAhead_J58]
      refine ok_eq (fun c_2 c_2' => ?_) (fun c_2 => ?_)
      · refine ok_bP (kC_Nodes_typeOf I) (fun r_4 z_3 => ?_)
        exact ok_some trivial
      · refine ok_eq (fun c_5 c_5' => ?_) (fun c_5 => ?_)
        · refine ok_bP (kC_Nodes_firstOf I) (fun r_7 z_6 => ?_)
          have p_8 := z_6
          try have e_9 : (r_7 - 1 : Int32).toInt = (r_7 : Int32).toInt - (1 : Int32).toInt := by exact sub_i (by omega) (by omega)
          refine ok_bP (kC_Lists_at I) (fun r_11 z_10 => ?_)
          have p_12 := z_10
          exact ok_some trivial
        · refine ok_bP (kC_Meaning_typeByKind I) (fun r_14 z_13 => ?_)
          exact ok_some trivial
    · refine ok_eq (fun c_15 c_15' => ?_) (fun c_15 => ?_)
      · rw [mC_Meaning_typeAhead_J34]
        refine ok_bP (kC_Nodes_firstOf I) (fun r_17 z_16 => ?_)
        have p_18 := z_16
        refine ok_bP (kC_Nodes_kindOf I) (fun r_20 z_19 => ?_)
        have p_21 := z_19
        try have e_24 : (x4 + 1 : Int32).toInt = (x4 : Int32).toInt + (1 : Int32).toInt := by exact add_i (by omega) (by omega)
        refine ok_seq (fun y_23 h_22 => ?_)
        have h_22' : y_23.toInt = (x4 + 1 : Int32).toInt := by rw [h_22]
        refine ok_mono (ih I (by have B_25 := IC_b I; omega) (by have B_26 := IC_b I; omega) (by have B_27 := IC_b I; omega)) (fun r_29 z_28 => ?_)
        exact trivial
      · refine ok_eq (fun c_30 c_30' => ?_) (fun c_30 => ?_)
        · rw [mC_Meaning_typeAhead_J34]
          refine ok_bP (kC_Nodes_firstOf I) (fun r_32 z_31 => ?_)
          have p_33 := z_31
          refine ok_bP (kC_Nodes_kindOf I) (fun r_35 z_34 => ?_)
          have p_36 := z_34
          try have e_39 : (x4 + 1 : Int32).toInt = (x4 : Int32).toInt + (1 : Int32).toInt := by exact add_i (by omega) (by omega)
          refine ok_seq (fun y_38 h_37 => ?_)
          have h_37' : y_38.toInt = (x4 + 1 : Int32).toInt := by rw [h_37]
          refine ok_mono (ih I (by have B_40 := IC_b I; omega) (by have B_41 := IC_b I; omega) (by have B_42 := IC_b I; omega)) (fun r_44 z_43 => ?_)
          exact trivial
        · rw [mC_Meaning_typeAhead_J58]
          refine ok_eq (fun c_45 c_45' => ?_) (fun c_45 => ?_)
          · refine ok_bP (kC_Nodes_typeOf I) (fun r_47 z_46 => ?_)
            exact ok_some trivial
          · refine ok_eq (fun c_48 c_48' => ?_) (fun c_48 => ?_)
            · refine ok_bP (kC_Nodes_firstOf I) (fun r_50 z_49 => ?_)
              have p_51 := z_49
              try have e_52 : (r_50 - 1 : Int32).toInt = (r_50 : Int32).toInt - (1 : Int32).toInt := by exact sub_i (by omega) (by omega)
              refine ok_bP (kC_Lists_at I) (fun r_54 z_53 => ?_)
              have p_55 := z_53
              exact ok_some trivial
            · refine ok_bP (kC_Meaning_typeByKind I) (fun r_57 z_56 => ?_)
              exact ok_some trivial
theorem kC_Meaning_typeAhead {x1 : Int32} {u : St} (I : IC u) : ok (mC_Meaning_typeAhead x1 u) (fun r => True) := by
  have l0 : (0 : Int32).toInt = 0 := by decide
  have l200 : (200 : Int32).toInt = 200 := by decide
  rw [mC_Meaning_typeAhead]
  refine ok_bP (kC_Nodes_kindOf I) (fun r_2 z_1 => ?_)
  have p_3 := z_1
  refine ok_mono (kC_Meaning_typeAhead_L14 _ I (by have FUe : FU = 100000 := rfl; have B_4 := IC_b I; omega) (by have FUe : FU = 100000 := rfl; have B_5 := IC_b I; omega) (by have FUe : FU = 100000 := rfl; have B_6 := IC_b I; omega)) (fun r_8 z_7 => ?_)
  exact trivial
theorem kC_Meaning_neededAt {x1 : Int32} {u : St} (I : IC u) : ok (mC_Meaning_neededAt x1 u) (fun r => True) := by
  have l0 : (0 : Int32).toInt = 0 := by decide
  have l2 : (2 : Int32).toInt = 2 := by decide
  have l29 : (29 : Int32).toInt = 29 := by decide
  rw [mC_Meaning_neededAt]
  have t2 : lnT 2 = 29 := by decide
  refine ok_bP (kC_Nodes_parentOf I) (fun r_2 z_1 => ?_)
  refine ok_bP (kC_Nodes_kindOf I) (fun r_4 z_3 => ?_)
  have p_5 := z_3
  refine ok_lt (fun c_6 => ?_) (fun c_6 => ?_)
  · refine ok_bP (kC_Nodes_needOf I) (fun r_8 z_7 => ?_)
    exact ok_some trivial
  · refine ok_lt (fun c_9 => ?_) (fun c_9 => ?_)
    · refine ok_bP (kC_Nodes_compares I) (fun r_11 z_10 => ?_)
      obtain ⟨p_12, p_13⟩ := z_10
      refine ok_eq (fun c_14 c_14' => ?_) (fun c_14 => ?_)
      · refine ok_gd (inb_of (by have B_15 := IC_b I; omega) (by have B_16 := IC_b I; omega)) ?_
        exact ok_some trivial
      · refine ok_bP (kC_Nodes_firstOf I) (fun r_18 z_17 => ?_)
        have p_19 := z_17
        refine ok_eq (fun c_20 c_20' => ?_) (fun c_20 => ?_)
        · refine ok_bP (kC_Nodes_secondOf I) (fun r_22 z_21 => ?_)
          refine ok_bP (kC_Meaning_typeAhead I) (fun r_24 z_23 => ?_)
          exact ok_some trivial
        · refine ok_bP (kC_Meaning_typeAhead I) (fun r_26 z_25 => ?_)
          exact ok_some trivial
    · refine ok_bP (kC_Nodes_needOf I) (fun r_28 z_27 => ?_)
      exact ok_some trivial
theorem kC_Lists_put {x1 : Int32} {x2 : Int32} {x3 : Int32} {u : St} (I : IC u) (h0 : (x1.toInt ≠ 0 ∧ x1.toInt ≠ 5 ∧ x1.toInt ≠ 12) ∨ (-1 ≤ x3.toInt ∧ x3.toInt ≤ 200)) : ok (mC_Lists_put x1 x2 x3 u) (fun v => IC v) := by
  have z0 : (0 : Int32).toInt = 0 := by decide
  have l14 : (14 : Int32).toInt = 14 := by decide
  have t1 : lnT 1 = 14 := by decide
  rw [mC_Lists_put, t1]
  refine ok_lt (fun c => ok_some I) (fun c => ?_)
  refine ok_le (fun c => ok_some I) (fun c2 => ?_)
  refine ok_lt (fun c => ok_some I) (fun c3 => ?_)
  have F := gst_f (i := x1) (by omega) (by omega)
  have Z := IC_siz I (i := x1) (by omega) (by omega)
  have gi : inb x1 14 = true := inb_of (by omega) (by omega)
  refine ok_gd gi ?_
  refine ok_le (fun c => ok_some I) (fun c4 => ?_)
  have e : (gst 1 x1 + x2 : Int32).toInt = (gst 1 x1).toInt + x2.toInt := add_i (by omega) (by omega)
  have e' := cl_of (i := gst 1 x1 + x2) (by omega)
  refine ok_gd gi (ok_gd (inb_of (by omega) (by omega)) (ok_seq (fun u1 h => ok_some ?_)))
  rw [h]
  exact IC_a18 I (fun q => by omega)
theorem kC_Meaning_parameterType_L19 : ∀ (n : Nat) {x1 : Int32} {x2 : Int32} {x3 : Int32} {u : St} (I : IC u) (h0 : 0 ≤ x3.toInt) (h1 : x3.toInt ≤ 300) (h2 : x2.toInt ≤ 300) (hm : (300 - x3.toInt).toNat < n), okM (mC_Meaning_parameterType_L19 n x1 x2 x3 u) (fun r v => IC v) := by
  intro n
  induction n with
  | zero => intro x1 x2 x3 u I h0 h1 h2 hm; exact absurd hm (Nat.not_lt_zero _)
  | succ n ih =>
    intro x1 x2 x3 u I h0 h1 h2 hm
    have l0 : (0 : Int32).toInt = 0 := by decide
    have l1 : (1 : Int32).toInt = 1 := by decide
    have l2 : (2 : Int32).toInt = 2 := by decide
    have l5 : (5 : Int32).toInt = 5 := by decide
    have l8 : (8 : Int32).toInt = 8 := by decide
    have l12 : (12 : Int32).toInt = 12 := by decide
    have l200 : (200 : Int32).toInt = 200 := by decide
    have l300 : (300 : Int32).toInt = 300 := by decide
    rw [mC_Meaning_parameterType_L19]
    refine okM_le (fun c_1 => ?_) (fun c_1 => ?_)
    · try have e_2 : (x2 - 1 : Int32).toInt = (x2 : Int32).toInt - (1 : Int32).toInt := by exact sub_i (by omega) (by omega)
      refine okM_bP (kC_Lists_at I) (fun r_4 z_3 => ?_)
      have p_5 := z_3
      refine okM_eq (fun c_6 c_6' => ?_) (fun c_6 => ?_)
      · refine okM_bP (kC_Meaning_neededAt I) (fun r_8 z_7 => ?_)
        refine okM_eq (fun c_9 c_9' => ?_) (fun c_9 => ?_)
        · try have e_10 : (x2 - 1 : Int32).toInt = (x2 : Int32).toInt - (1 : Int32).toInt := by exact sub_i (by omega) (by omega)
          refine okM_bP (kC_Lists_put I (by have FUe : FU = 100000 := rfl; have B_12 := IC_b I; omega)) (fun u_13 z_11 => ?_)
          have I_u_13 := z_11
          try have e_14 : (x2 - 1 : Int32).toInt = (x2 : Int32).toInt - (1 : Int32).toInt := by exact sub_i (by omega) (by omega)
          refine okM_bP (kC_Lists_at I_u_13) (fun r_16 z_15 => ?_)
          have p_17 := z_15
          exact okM_some I_u_13
        · try have e_18 : (x2 - 1 : Int32).toInt = (x2 : Int32).toInt - (1 : Int32).toInt := by exact sub_i (by omega) (by omega)
          refine okM_bP (kC_Lists_put I (by have FUe : FU = 100000 := rfl; have B_20 := IC_b I; omega)) (fun u_21 z_19 => ?_)
          have I_u_21 := z_19
          try have e_22 : (x2 - 1 : Int32).toInt = (x2 : Int32).toInt - (1 : Int32).toInt := by exact sub_i (by omega) (by omega)
          refine okM_bP (kC_Lists_at I_u_21) (fun r_24 z_23 => ?_)
          have p_25 := z_23
          exact okM_some I_u_21
      · try have e_26 : (x2 - 1 : Int32).toInt = (x2 : Int32).toInt - (1 : Int32).toInt := by exact sub_i (by omega) (by omega)
        refine okM_bP (kC_Lists_at I) (fun r_28 z_27 => ?_)
        have p_29 := z_27
        exact okM_some I
    · refine okM_bP (kC_Lists_add I (by have FUe : FU = 100000 := rfl; have B_31 := IC_b I; omega)) (fun u_32 z_30 => ?_)
      have I_u_32 := z_30
      try have e_35 : (x3 + 1 : Int32).toInt = (x3 : Int32).toInt + (1 : Int32).toInt := by exact add_i (by omega) (by omega)
      refine okM_seq (fun y_34 h_33 => ?_)
      have h_33' : y_34.toInt = (x3 + 1 : Int32).toInt := by rw [h_33]
      refine okM_mono (ih I_u_32 (by have B_36 := IC_b I_u_32; omega) (by have B_37 := IC_b I_u_32; omega) (by have B_38 := IC_b I_u_32; omega) (by have B_39 := IC_b I_u_32; omega)) (fun r_41 u_42 z_40 => ?_)
      have I_u_42 := z_40
      exact I_u_42
theorem kC_Meaning_parameterType {x1 : Int32} {u : St} (I : IC u) (h0 : (ga u 8 x1).toInt = 28) : okM (mC_Meaning_parameterType x1 u) (fun r v => IC v) := by
  have l0 : (0 : Int32).toInt = 0 := by decide
  have l8 : (8 : Int32).toInt = 8 := by decide
  have l300 : (300 : Int32).toInt = 300 := by decide
  rw [mC_Meaning_parameterType]
  refine okM_bP (kC_Nodes_firstOf I) (fun r_2 z_1 => ?_)
  have p_3 := z_1
  refine okM_bP (kC_Lists_size I) (fun r_5 z_4 => ?_)
  obtain ⟨p_6, p_7⟩ := z_4
  refine okM_mono (kC_Meaning_parameterType_L19 _ I (by have FUe : FU = 100000 := rfl; have B_8 := IC_b I; omega) (by have FUe : FU = 100000 := rfl; have B_9 := IC_b I; omega) (by have FUe : FU = 100000 := rfl; have B_10 := IC_b I; omega) (by have FUe : FU = 100000 := rfl; have B_11 := IC_b I; omega)) (fun r_13 u_14 z_12 => ?_)
  have I_u_14 := z_12
  exact I_u_14
theorem kC_Meaning_typeParameters_L2 : ∀ (n : Nat) {x1 : Int32} {u : St} (I : IC u) (h0 : 0 ≤ x1.toInt) (h1 : x1.toInt ≤ 200) (hm : (200 - x1.toInt).toNat < n), ok (mC_Meaning_typeParameters_L2 n x1 u) (fun v => IC v) := by
  intro n
  induction n with
  | zero => intro x1 u I h0 h1 hm; exact absurd hm (Nat.not_lt_zero _)
  | succ n ih =>
    intro x1 u I h0 h1 hm
    have l0 : (0 : Int32).toInt = 0 := by decide
    have l1 : (1 : Int32).toInt = 1 := by decide
    have l8 : (8 : Int32).toInt = 8 := by decide
    have l28 : (28 : Int32).toInt = 28 := by decide
    have l200 : (200 : Int32).toInt = 200 := by decide
    rw [mC_Meaning_typeParameters_L2]
    refine ok_bP (kC_Nodes_size I) (fun r_2 z_1 => ?_)
    have p_3 := z_1
    refine ok_le (fun c_4 => ?_) (fun c_4 => ?_)
    · exact ok_some I
    · refine ok_bP (kC_Nodes_kindOf I) (fun r_6 z_5 => ?_)
      have p_7 := z_5
      refine ok_eq (fun c_8 c_8' => ?_) (fun c_8 => ?_)
      · refine ok_bM (kC_Meaning_parameterType I (by have FUe : FU = 100000 := rfl; have B_10 := IC_b I; omega)) (fun r_11 u_12 z_9 => ?_)
        have I_u_12 := z_9
        refine ok_bP (kC_Nodes_putType I_u_12) (fun u_14 z_13 => ?_)
        have I_u_14 := z_13
        try have e_17 : (x1 + 1 : Int32).toInt = (x1 : Int32).toInt + (1 : Int32).toInt := by exact add_i (by omega) (by omega)
        refine ok_seq (fun y_16 h_15 => ?_)
        have h_15' : y_16.toInt = (x1 + 1 : Int32).toInt := by rw [h_15]
        refine ok_mono (ih I_u_14 (by have B_18 := IC_b I_u_14; omega) (by have B_19 := IC_b I_u_14; omega) (by have B_20 := IC_b I_u_14; omega)) (fun u_22 z_21 => ?_)
        have I_u_22 := z_21
        exact I_u_22
      · try have e_25 : (x1 + 1 : Int32).toInt = (x1 : Int32).toInt + (1 : Int32).toInt := by exact add_i (by omega) (by omega)
        refine ok_seq (fun y_24 h_23 => ?_)
        have h_23' : y_24.toInt = (x1 + 1 : Int32).toInt := by rw [h_23]
        refine ok_mono (ih I (by have B_26 := IC_b I; omega) (by have B_27 := IC_b I; omega) (by have B_28 := IC_b I; omega)) (fun u_30 z_29 => ?_)
        have I_u_30 := z_29
        exact I_u_30
theorem kC_Meaning_typeParameters {u : St} (I : IC u) : ok (mC_Meaning_typeParameters u) (fun v => IC v) := by
  have l0 : (0 : Int32).toInt = 0 := by decide
  have l200 : (200 : Int32).toInt = 200 := by decide
  rw [mC_Meaning_typeParameters]
  refine ok_mono (kC_Meaning_typeParameters_L2 _ I (by have FUe : FU = 100000 := rfl; have B_1 := IC_b I; omega) (by have FUe : FU = 100000 := rfl; have B_2 := IC_b I; omega) (by have FUe : FU = 100000 := rfl; have B_3 := IC_b I; omega)) (fun u_5 z_4 => ?_)
  have I_u_5 := z_4
  exact I_u_5
theorem kC_Meaning_indexError {u : St} (I : IC u) : okM (mC_Meaning_indexError u) (fun r v => IC v) := by
  have l0 : (0 : Int32).toInt = 0 := by decide
  have l6 : (6 : Int32).toInt = 6 := by decide
  have l13 : (13 : Int32).toInt = 13 := by decide
  have l14 : (14 : Int32).toInt = 14 := by decide
  have l15 : (15 : Int32).toInt = 15 := by decide
  rw [mC_Meaning_indexError]
  refine okM_bP (kC_Catalog_findColumn_3_11 I) (fun r_2 z_1 => ?_)
  obtain ⟨p_3, p_4⟩ := z_1
  refine okM_seq (fun u_6 h_5 => ?_)
  have I_u_6 : IC u_6 := by rw [h_5]; exact I
  refine okM_le (fun c_7 => ?_) (fun c_7 => ?_)
  · exact okM_some I_u_6
  · exact okM_some I_u_6
theorem kC_Nodes_faultOf {x1 : Int32} {u : St} (I : IC u) : ok (mC_Nodes_faultOf x1 u) (fun r => True) := by
  have l0 : (0 : Int32).toInt = 0 := by decide
  have l6 : (6 : Int32).toInt = 6 := by decide
  have l14 : (14 : Int32).toInt = 14 := by decide
  rw [mC_Nodes_faultOf]
  refine ok_lt (fun c_1 => ?_) (fun c_1 => ?_)
  · exact ok_some trivial
  · refine ok_le (fun c_2 => ?_) (fun c_2 => ?_)
    · exact ok_some trivial
    · refine ok_gd (inb_of (by have B_3 := IC_b I; omega) (by have B_4 := IC_b I; omega)) ?_
      exact ok_some trivial
theorem kC_Meaning_fits {x0 : Int32} {x1 : Int32} {u : St} (I : IC u) : ok (mC_Meaning_fits x0 x1 u) (fun r => 0 ≤ r.toInt ∧ r.toInt ≤ 1) := by
  have l0 : (0 : Int32).toInt = 0 := by decide
  have l1 : (1 : Int32).toInt = 1 := by decide
  rw [mC_Meaning_fits]
  refine ok_le (fun c_1 => ?_) (fun c_1 => ?_)
  · exact ok_some ⟨(by omega), (by omega)⟩
  · refine ok_le (fun c_2 => ?_) (fun c_2 => ?_)
    · exact ok_some ⟨(by omega), (by omega)⟩
    · refine ok_eq (fun c_3 c_3' => ?_) (fun c_3 => ?_)
      · exact ok_some ⟨(by omega), (by omega)⟩
      · exact ok_some ⟨(by omega), (by omega)⟩
theorem kC_Meaning_operandsFit {x1 : Int32} {u : St} (I : IC u) : ok (mC_Meaning_operandsFit x1 u) (fun r => 0 ≤ r.toInt ∧ r.toInt ≤ 1) := by
  have l0 : (0 : Int32).toInt = 0 := by decide
  have l1 : (1 : Int32).toInt = 1 := by decide
  have l2 : (2 : Int32).toInt = 2 := by decide
  have l3 : (3 : Int32).toInt = 3 := by decide
  have l8 : (8 : Int32).toInt = 8 := by decide
  have l9 : (9 : Int32).toInt = 9 := by decide
  have l29 : (29 : Int32).toInt = 29 := by decide
  rw [mC_Meaning_operandsFit]
  have t2 : lnT 2 = 29 := by decide
  refine ok_bP (kC_Nodes_kindOf I) (fun r_2 z_1 => ?_)
  have p_3 := z_1
  refine ok_bP (kC_Nodes_works I) (fun r_5 z_4 => ?_)
  obtain ⟨p_6, p_7, p_8⟩ := z_4
  refine ok_eq (fun c_9 c_9' => ?_) (fun c_9 => ?_)
  · exact ok_some ⟨(by omega), (by omega)⟩
  · refine ok_bP (kC_Nodes_firstOf I) (fun r_11 z_10 => ?_)
    have p_12 := z_10
    refine ok_bP (kC_Nodes_typeOf I) (fun r_14 z_13 => ?_)
    refine ok_bP (kC_Nodes_secondOf I) (fun r_16 z_15 => ?_)
    refine ok_bP (kC_Nodes_typeOf I) (fun r_18 z_17 => ?_)
    refine ok_eq (fun c_19 c_19' => ?_) (fun c_19 => ?_)
    · refine ok_eq (fun c_20 c_20' => ?_) (fun c_20 => ?_)
      · exact ok_some ⟨(by omega), (by omega)⟩
      · exact ok_some ⟨(by omega), (by omega)⟩
    · refine ok_eq (fun c_21 c_21' => ?_) (fun c_21 => ?_)
      · refine ok_eq (fun c_22 c_22' => ?_) (fun c_22 => ?_)
        · exact ok_some ⟨(by omega), (by omega)⟩
        · exact ok_some ⟨(by omega), (by omega)⟩
      · refine ok_bP (kC_Nodes_compares I) (fun r_24 z_23 => ?_)
        obtain ⟨p_25, p_26⟩ := z_23
        refine ok_eq (fun c_27 c_27' => ?_) (fun c_27 => ?_)
        · refine ok_gd (inb_of (by have B_28 := IC_b I; omega) (by have B_29 := IC_b I; omega)) ?_
          refine ok_bP (kC_Meaning_fits I) (fun r_31 z_30 => ?_)
          obtain ⟨p_32, p_33⟩ := z_30
          refine ok_eq (fun c_34 c_34' => ?_) (fun c_34 => ?_)
          · exact ok_some ⟨(by omega), (by omega)⟩
          · refine ok_gd (inb_of (by have B_35 := IC_b I; omega) (by have B_36 := IC_b I; omega)) ?_
            refine ok_bP (kC_Meaning_fits I) (fun r_38 z_37 => ?_)
            obtain ⟨p_39, p_40⟩ := z_37
            refine ok_eq (fun c_41 c_41' => ?_) (fun c_41 => ?_)
            · exact ok_some ⟨(by omega), (by omega)⟩
            · exact ok_some ⟨(by omega), (by omega)⟩
        · refine ok_bP (kC_Meaning_fits I) (fun r_43 z_42 => ?_)
          obtain ⟨p_44, p_45⟩ := z_42
          refine ok_gd (zb_of (by omega) (by omega)) ?_
          exact ok_some ⟨(by omega), (by omega)⟩
theorem kC_Meaning_typeFor {x1 : Int32} {u : St} (I : IC u) : ok (mC_Meaning_typeFor x1 u) (fun r => True) := by
  have l0 : (0 : Int32).toInt = 0 := by decide
  have l1 : (1 : Int32).toInt = 1 := by decide
  have l4 : (4 : Int32).toInt = 4 := by decide
  have l8 : (8 : Int32).toInt = 8 := by decide
  have l9 : (9 : Int32).toInt = 9 := by decide
  have l28 : (28 : Int32).toInt = 28 := by decide
  rw [mC_Meaning_typeFor]
  refine ok_bP (kC_Nodes_kindOf I) (fun r_2 z_1 => ?_)
  have p_3 := z_1
  refine ok_eq (fun c_4 c_4' => ?_) (fun c_4 => ?_)
  · refine ok_bP (kC_Nodes_firstOf I) (fun r_6 z_5 => ?_)
    have p_7 := z_5
    refine ok_bP (kC_Nodes_typeOf I) (fun r_9 z_8 => ?_)
    exact ok_some trivial
  · refine ok_eq (fun c_10 c_10' => ?_) (fun c_10 => ?_)
    · refine ok_bP (kC_Nodes_firstOf I) (fun r_12 z_11 => ?_)
      have p_13 := z_11
      refine ok_bP (kC_Nodes_typeOf I) (fun r_15 z_14 => ?_)
      exact ok_some trivial
    · refine ok_eq (fun c_16 c_16' => ?_) (fun c_16 => ?_)
      · rw [mC_Meaning_typeFor_J53]
        refine ok_neg (by decide) ?_
        refine ok_bP (kC_Nodes_typeOf I) (fun r_18 z_17 => ?_)
        exact ok_some trivial
      · refine ok_eq (fun c_19 c_19' => ?_) (fun c_19 => ?_)
        · rw [mC_Meaning_typeFor_J53]
          refine ok_neg (by decide) ?_
          refine ok_bP (kC_Nodes_typeOf I) (fun r_21 z_20 => ?_)
          exact ok_some trivial
        · rw [mC_Meaning_typeFor_J53]
          refine ok_pos (by decide) ?_
          refine ok_bP (kC_Meaning_typeByKind I) (fun r_23 z_22 => ?_)
          exact ok_some trivial
theorem kC_Meaning_judge {x1 : Int32} {u : St} (I : IC u) : okM (mC_Meaning_judge x1 u) (fun r v => IC v) := by
  have l0 : (0 : Int32).toInt = 0 := by decide
  have l8 : (8 : Int32).toInt = 8 := by decide
  rw [mC_Meaning_judge]
  refine okM_bP (kC_Nodes_faultOf I) (fun r_2 z_1 => ?_)
  refine okM_eq (fun c_3 c_3' => ?_) (fun c_3 => ?_)
  · refine okM_bP (kC_Meaning_operandsFit I) (fun r_5 z_4 => ?_)
    obtain ⟨p_6, p_7⟩ := z_4
    refine okM_eq (fun c_8 c_8' => ?_) (fun c_8 => ?_)
    · exact okM_some I
    · refine okM_bP (kC_Meaning_typeFor I) (fun r_10 z_9 => ?_)
      refine okM_bP (kC_Nodes_putType I) (fun u_12 z_11 => ?_)
      have I_u_12 := z_11
      refine okM_bP (kC_Nodes_needOf I_u_12) (fun r_14 z_13 => ?_)
      refine okM_bP (kC_Meaning_fits I_u_12) (fun r_16 z_15 => ?_)
      obtain ⟨p_17, p_18⟩ := z_15
      refine okM_eq (fun c_19 c_19' => ?_) (fun c_19 => ?_)
      · exact okM_some I_u_12
      · exact okM_some I_u_12
  · exact okM_some I
theorem kC_Meaning_judgeTo_L7 : ∀ (n : Nat) {x1 : Int32} {x2 : Int32} {x3 : Int32} {u : St} (I : IC u) (h0 : 0 ≤ x1.toInt) (h1 : x1.toInt ≤ 300) (h2 : 0 ≤ x3.toInt) (h3 : x3.toInt ≤ 300) (hm : (300 - x3.toInt).toNat < n), okM (mC_Meaning_judgeTo_L7 n x1 x2 x3 u) (fun r v => IC v) := by
  intro n
  induction n with
  | zero => intro x1 x2 x3 u I h0 h1 h2 h3 hm; exact absurd hm (Nat.not_lt_zero _)
  | succ n ih =>
    intro x1 x2 x3 u I h0 h1 h2 h3 hm
    have l0 : (0 : Int32).toInt = 0 := by decide
    have l1 : (1 : Int32).toInt = 1 := by decide
    have l300 : (300 : Int32).toInt = 300 := by decide
    rw [mC_Meaning_judgeTo_L7]
    refine okM_le (fun c_1 => ?_) (fun c_1 => ?_)
    · refine okM_seq (fun u_3 h_2 => ?_)
      have I_u_3 : IC u_3 := by rw [h_2]; exact IC_s24 I (by have B_4 := IC_b I; omega) (by have B_5 := IC_b I; omega)
      have g_6 : (u_3.1 24).toInt = (x1 : Int32).toInt := by rw [h_2]; rfl
      exact okM_some I_u_3
    · refine okM_eq (fun c_7 c_7' => ?_) (fun c_7 => ?_)
      · refine okM_bM (kC_Meaning_judge I) (fun r_9 u_10 z_8 => ?_)
        have I_u_10 := z_8
        try have e_13 : (x3 + 1 : Int32).toInt = (x3 : Int32).toInt + (1 : Int32).toInt := by exact add_i (by omega) (by omega)
        refine okM_seq (fun y_12 h_11 => ?_)
        have h_11' : y_12.toInt = (x3 + 1 : Int32).toInt := by rw [h_11]
        refine okM_mono (ih I_u_10 (by have B_14 := IC_b I_u_10; omega) (by have B_15 := IC_b I_u_10; omega) (by have B_16 := IC_b I_u_10; omega) (by have B_17 := IC_b I_u_10; omega) (by have B_18 := IC_b I_u_10; omega)) (fun r_20 u_21 z_19 => ?_)
        have I_u_21 := z_19
        exact I_u_21
      · refine okM_seq (fun u_23 h_22 => ?_)
        have I_u_23 : IC u_23 := by rw [h_22]; exact IC_s24 I (by have B_24 := IC_b I; omega) (by have B_25 := IC_b I; omega)
        have g_26 : (u_23.1 24).toInt = (x1 : Int32).toInt := by rw [h_22]; rfl
        exact okM_some I_u_23
