theorem kC_Parser_rows {u : St} (I : IC u) : okM (mC_Parser_rows u) (fun r v => IC v ∧ Fq [4, 6, 7, 8, 10] [8, 9, 10, 11, 12, 13, 14, 15, 16, 17, 18] u v ∧ 0 ≤ r.toInt ∧ r.toInt ≤ 1) := by
  have l0 : (0 : Int32).toInt = 0 := by decide
  have l1 : (1 : Int32).toInt = 1 := by decide
  have l46 : (46 : Int32).toInt = 46 := by decide
  have l2000 : (2000 : Int32).toInt = 2000 := by decide
  rw [mC_Parser_rows]
  refine okM_bM (kC_Tokens_takes I (by decide)) (fun r_2 u_3 z_1 => ?_)
  obtain ⟨I_u_3, G_u_3, p_4, p_5⟩ := z_1
  have F_u_3 : Fq [4, 6, 7, 8, 10] [8, 9, 10, 11, 12, 13, 14, 15, 16, 17, 18] u u_3 := Fq_tr (Fq_rfl u) G_u_3 rfl rfl
  refine okM_mono (kC_Parser_rows_L12 _ I_u_3 (by have FUe : FU = 100000 := rfl; have B_6 := IC_b I_u_3; omega) (by have FUe : FU = 100000 := rfl; have B_7 := IC_b I_u_3; omega) (by have FUe : FU = 100000 := rfl; have B_8 := IC_b I_u_3; omega) (by have FUe : FU = 100000 := rfl; have B_9 := IC_b I_u_3; omega) (by have FUe : FU = 100000 := rfl; have B_10 := IC_b I_u_3; omega)) (fun r_12 u_13 z_11 => ?_)
  obtain ⟨I_u_13, G_u_13, p_14, p_15⟩ := z_11
  have F_u_13 : Fq [4, 6, 7, 8, 10] [8, 9, 10, 11, 12, 13, 14, 15, 16, 17, 18] u u_13 := Fq_tr F_u_3 G_u_13 rfl rfl
  exact ⟨I_u_13, F_u_13, (by omega), (by omega)⟩
theorem kC_Parser_setting {u : St} (I : IC u) : okM (mC_Parser_setting u) (fun r v => IC v ∧ Fq [4, 6, 7, 8] [8, 9, 10, 11, 12, 13, 14, 15, 16, 17, 18] u v ∧ 0 ≤ r.toInt ∧ r.toInt ≤ 1) := by
  have lm1 : (-1 : Int32).toInt = -1 := by decide
  have l0 : (0 : Int32).toInt = 0 := by decide
  have l1 : (1 : Int32).toInt = 1 := by decide
  have l5 : (5 : Int32).toInt = 5 := by decide
  have l12 : (12 : Int32).toInt = 12 := by decide
  have l13 : (13 : Int32).toInt = 13 := by decide
  have l23 : (23 : Int32).toInt = 23 := by decide
  have l200 : (200 : Int32).toInt = 200 := by decide
  rw [mC_Parser_setting]
  refine okM_bM (kC_Tokens_take I) (fun r_2 u_3 z_1 => ?_)
  obtain ⟨I_u_3, G_u_3, p_4, p_5, p_6⟩ := z_1
  have F_u_3 : Fq [4, 6, 7, 8] [8, 9, 10, 11, 12, 13, 14, 15, 16, 17, 18] u u_3 := Fq_tr (Fq_rfl u) G_u_3 rfl rfl
  refine okM_lt (fun c_7 => ?_) (fun c_7 => ?_)
  · rw [mC_Parser_setting_J35]
    refine okM_bP (kC_Lists_add I_u_3 (by have FUe : FU = 100000 := rfl; have B_9 := IC_b I_u_3; omega)) (fun u_10 z_8 => ?_)
    obtain ⟨I_u_10, G_u_10⟩ := z_8
    have F_u_10 : Fq [4, 6, 7, 8] [8, 9, 10, 11, 12, 13, 14, 15, 16, 17, 18] u u_10 := Fq_tr F_u_3 G_u_10 rfl rfl
    refine okM_bP (kC_Lists_add I_u_10 (by have FUe : FU = 100000 := rfl; have B_12 := IC_b I_u_10; omega)) (fun u_13 z_11 => ?_)
    obtain ⟨I_u_13, G_u_13⟩ := z_11
    have F_u_13 : Fq [4, 6, 7, 8] [8, 9, 10, 11, 12, 13, 14, 15, 16, 17, 18] u u_13 := Fq_tr F_u_10 G_u_13 rfl rfl
    refine okM_pos (by decide) ?_
    exact okM_some ⟨I_u_13, F_u_13, (by omega), (by omega)⟩
  · refine okM_bM (kC_Tokens_takes I_u_3 (by decide)) (fun r_15 u_16 z_14 => ?_)
    obtain ⟨I_u_16, G_u_16, p_17, p_18⟩ := z_14
    have F_u_16 : Fq [4, 6, 7, 8] [8, 9, 10, 11, 12, 13, 14, 15, 16, 17, 18] u u_16 := Fq_tr F_u_3 G_u_16 rfl rfl
    refine okM_eq (fun c_19 c_19' => ?_) (fun c_19 => ?_)
    · rw [mC_Parser_setting_J35]
      refine okM_bP (kC_Lists_add I_u_16 (by have FUe : FU = 100000 := rfl; have B_21 := IC_b I_u_16; omega)) (fun u_22 z_20 => ?_)
      obtain ⟨I_u_22, G_u_22⟩ := z_20
      have F_u_22 : Fq [4, 6, 7, 8] [8, 9, 10, 11, 12, 13, 14, 15, 16, 17, 18] u u_22 := Fq_tr F_u_16 G_u_22 rfl rfl
      refine okM_bP (kC_Lists_add I_u_22 (by have FUe : FU = 100000 := rfl; have B_24 := IC_b I_u_22; omega)) (fun u_25 z_23 => ?_)
      obtain ⟨I_u_25, G_u_25⟩ := z_23
      have F_u_25 : Fq [4, 6, 7, 8] [8, 9, 10, 11, 12, 13, 14, 15, 16, 17, 18] u u_25 := Fq_tr F_u_22 G_u_25 rfl rfl
      refine okM_pos (by decide) ?_
      exact okM_some ⟨I_u_25, F_u_25, (by omega), (by omega)⟩
    · refine okM_bM (kC_Parser_expression I_u_16 (by decide) (by decide)) (fun r_27 u_28 z_26 => ?_)
      obtain ⟨I_u_28, G_u_28, p_29, p_30⟩ := z_26
      have F_u_28 : Fq [4, 6, 7, 8] [8, 9, 10, 11, 12, 13, 14, 15, 16, 17, 18] u u_28 := Fq_tr F_u_16 G_u_28 rfl rfl
      rw [mC_Parser_setting_J35]
      refine okM_bP (kC_Lists_add I_u_28 (by have FUe : FU = 100000 := rfl; have B_32 := IC_b I_u_28; omega)) (fun u_33 z_31 => ?_)
      obtain ⟨I_u_33, G_u_33⟩ := z_31
      have F_u_33 : Fq [4, 6, 7, 8] [8, 9, 10, 11, 12, 13, 14, 15, 16, 17, 18] u u_33 := Fq_tr F_u_28 G_u_33 rfl rfl
      refine okM_bP (kC_Lists_add I_u_33 (by have FUe : FU = 100000 := rfl; have B_35 := IC_b I_u_33; omega)) (fun u_36 z_34 => ?_)
      obtain ⟨I_u_36, G_u_36⟩ := z_34
      have F_u_36 : Fq [4, 6, 7, 8] [8, 9, 10, 11, 12, 13, 14, 15, 16, 17, 18] u u_36 := Fq_tr F_u_33 G_u_36 rfl rfl
      refine okM_lt (fun c_37 => ?_) (fun c_37 => ?_)
      · exact okM_some ⟨I_u_36, F_u_36, (by omega), (by omega)⟩
      · exact okM_some ⟨I_u_36, F_u_36, (by omega), (by omega)⟩
theorem kC_Parser_ownTable {u : St} (I : IC u) : ok (mC_Parser_ownTable u) (fun v => IC v ∧ Fq [8] [17, 18] u v) := by
  have lm1 : (-1 : Int32).toInt = -1 := by decide
  have l0 : (0 : Int32).toInt = 0 := by decide
  have l1 : (1 : Int32).toInt = 1 := by decide
  have l5 : (5 : Int32).toInt = 5 := by decide
  have l10 : (10 : Int32).toInt = 10 := by decide
  have l11 : (11 : Int32).toInt = 11 := by decide
  have l12 : (12 : Int32).toInt = 12 := by decide
  have l200 : (200 : Int32).toInt = 200 := by decide
  rw [mC_Parser_ownTable]
  refine ok_bP (kC_Lists_add I (by have FUe : FU = 100000 := rfl; have B_2 := IC_b I; omega)) (fun u_3 z_1 => ?_)
  obtain ⟨I_u_3, G_u_3⟩ := z_1
  have F_u_3 : Fq [8] [17, 18] u u_3 := Fq_tr (Fq_rfl u) G_u_3 rfl rfl
  refine ok_bP (kC_Lists_add I_u_3 (by have FUe : FU = 100000 := rfl; have B_5 := IC_b I_u_3; omega)) (fun u_6 z_4 => ?_)
  obtain ⟨I_u_6, G_u_6⟩ := z_4
  have F_u_6 : Fq [8] [17, 18] u u_6 := Fq_tr F_u_3 G_u_6 rfl rfl
  exact ok_some ⟨I_u_6, F_u_6⟩
theorem kC_Parser_update_L34 : ∀ (n : Nat) {x1 : Int32} {x2 : Int32} {u : St} (I : IC u) (h0 : 0 ≤ x2.toInt) (h1 : x2.toInt ≤ 2000) (h2 : 0 ≤ x1.toInt) (h3 : x1.toInt ≤ 1) (hm : (2000 - x2.toInt).toNat < n), okM (mC_Parser_update_L34 n x1 x2 u) (fun r v => IC v ∧ Fq [4, 6, 7, 8, 10, 18] [8, 9, 10, 11, 12, 13, 14, 15, 16, 17, 18] u v ∧ 0 ≤ r.toInt ∧ r.toInt ≤ 1) := by
  intro n
  induction n with
  | zero => intro x1 x2 u I h0 h1 h2 h3 hm; exact absurd hm (Nat.not_lt_zero _)
  | succ n ih =>
    intro x1 x2 u I h0 h1 h2 h3 hm
    have l0 : (0 : Int32).toInt = 0 := by decide
    have l1 : (1 : Int32).toInt = 1 := by decide
    have l6 : (6 : Int32).toInt = 6 := by decide
    have l33 : (33 : Int32).toInt = 33 := by decide
    have l2000 : (2000 : Int32).toInt = 2000 := by decide
    rw [mC_Parser_update_L34]
    refine okM_le (fun c_1 => ?_) (fun c_1 => ?_)
    · rw [mC_Parser_update_J68]
      refine okM_bP (kC_Parser_ownTable I) (fun u_3 z_2 => ?_)
      obtain ⟨I_u_3, G_u_3⟩ := z_2
      have F_u_3 : Fq [4, 6, 7, 8, 10, 18] [8, 9, 10, 11, 12, 13, 14, 15, 16, 17, 18] u u_3 := Fq_tr (Fq_rfl u) G_u_3 rfl rfl
      refine okM_eq (fun c_4 c_4' => ?_) (fun c_4 => ?_)
      · exact okM_some ⟨I_u_3, F_u_3, (by omega), (by omega)⟩
      · refine okM_bM (kC_Parser_where I_u_3) (fun r_6 u_7 z_5 => ?_)
        obtain ⟨I_u_7, G_u_7, p_8, p_9⟩ := z_5
        have F_u_7 : Fq [4, 6, 7, 8, 10, 18] [8, 9, 10, 11, 12, 13, 14, 15, 16, 17, 18] u u_7 := Fq_tr F_u_3 G_u_7 rfl rfl
        refine okM_eq (fun c_10 c_10' => ?_) (fun c_10 => ?_)
        · exact okM_some ⟨I_u_7, F_u_7, (by omega), (by omega)⟩
        · refine okM_bM (kC_Parser_is I_u_7) (fun r_12 u_13 z_11 => ?_)
          obtain ⟨I_u_13, G_u_13, p_14, p_15⟩ := z_11
          have F_u_13 : Fq [4, 6, 7, 8, 10, 18] [8, 9, 10, 11, 12, 13, 14, 15, 16, 17, 18] u u_13 := Fq_tr F_u_7 G_u_13 rfl rfl
          refine okM_eq (fun c_16 c_16' => ?_) (fun c_16 => ?_)
          · exact okM_some ⟨I_u_13, F_u_13, (by omega), (by omega)⟩
          · exact okM_some ⟨I_u_13, F_u_13, (by omega), (by omega)⟩
    · refine okM_eq (fun c_17 c_17' => ?_) (fun c_17 => ?_)
      · rw [mC_Parser_update_J68]
        refine okM_bP (kC_Parser_ownTable I) (fun u_19 z_18 => ?_)
        obtain ⟨I_u_19, G_u_19⟩ := z_18
        have F_u_19 : Fq [4, 6, 7, 8, 10, 18] [8, 9, 10, 11, 12, 13, 14, 15, 16, 17, 18] u u_19 := Fq_tr (Fq_rfl u) G_u_19 rfl rfl
        refine okM_eq (fun c_20 c_20' => ?_) (fun c_20 => ?_)
        · exact okM_some ⟨I_u_19, F_u_19, (by omega), (by omega)⟩
        · refine okM_bM (kC_Parser_where I_u_19) (fun r_22 u_23 z_21 => ?_)
          obtain ⟨I_u_23, G_u_23, p_24, p_25⟩ := z_21
          have F_u_23 : Fq [4, 6, 7, 8, 10, 18] [8, 9, 10, 11, 12, 13, 14, 15, 16, 17, 18] u u_23 := Fq_tr F_u_19 G_u_23 rfl rfl
          refine okM_eq (fun c_26 c_26' => ?_) (fun c_26 => ?_)
          · exact okM_some ⟨I_u_23, F_u_23, (by omega), (by omega)⟩
          · refine okM_bM (kC_Parser_is I_u_23) (fun r_28 u_29 z_27 => ?_)
            obtain ⟨I_u_29, G_u_29, p_30, p_31⟩ := z_27
            have F_u_29 : Fq [4, 6, 7, 8, 10, 18] [8, 9, 10, 11, 12, 13, 14, 15, 16, 17, 18] u u_29 := Fq_tr F_u_23 G_u_29 rfl rfl
            refine okM_eq (fun c_32 c_32' => ?_) (fun c_32 => ?_)
            · exact okM_some ⟨I_u_29, F_u_29, (by omega), (by omega)⟩
            · exact okM_some ⟨I_u_29, F_u_29, (by omega), (by omega)⟩
      · refine okM_bM (kC_Tokens_takes I (by decide)) (fun r_34 u_35 z_33 => ?_)
        obtain ⟨I_u_35, G_u_35, p_36, p_37⟩ := z_33
        have F_u_35 : Fq [4, 6, 7, 8, 10, 18] [8, 9, 10, 11, 12, 13, 14, 15, 16, 17, 18] u u_35 := Fq_tr (Fq_rfl u) G_u_35 rfl rfl
        refine okM_eq (fun c_38 c_38' => ?_) (fun c_38 => ?_)
        · rw [mC_Parser_update_J68]
          refine okM_bP (kC_Parser_ownTable I_u_35) (fun u_40 z_39 => ?_)
          obtain ⟨I_u_40, G_u_40⟩ := z_39
          have F_u_40 : Fq [4, 6, 7, 8, 10, 18] [8, 9, 10, 11, 12, 13, 14, 15, 16, 17, 18] u u_40 := Fq_tr F_u_35 G_u_40 rfl rfl
          refine okM_eq (fun c_41 c_41' => ?_) (fun c_41 => ?_)
          · exact okM_some ⟨I_u_40, F_u_40, (by omega), (by omega)⟩
          · refine okM_bM (kC_Parser_where I_u_40) (fun r_43 u_44 z_42 => ?_)
            obtain ⟨I_u_44, G_u_44, p_45, p_46⟩ := z_42
            have F_u_44 : Fq [4, 6, 7, 8, 10, 18] [8, 9, 10, 11, 12, 13, 14, 15, 16, 17, 18] u u_44 := Fq_tr F_u_40 G_u_44 rfl rfl
            refine okM_eq (fun c_47 c_47' => ?_) (fun c_47 => ?_)
            · exact okM_some ⟨I_u_44, F_u_44, (by omega), (by omega)⟩
            · refine okM_bM (kC_Parser_is I_u_44) (fun r_49 u_50 z_48 => ?_)
              obtain ⟨I_u_50, G_u_50, p_51, p_52⟩ := z_48
              have F_u_50 : Fq [4, 6, 7, 8, 10, 18] [8, 9, 10, 11, 12, 13, 14, 15, 16, 17, 18] u u_50 := Fq_tr F_u_44 G_u_50 rfl rfl
              refine okM_eq (fun c_53 c_53' => ?_) (fun c_53 => ?_)
              · exact okM_some ⟨I_u_50, F_u_50, (by omega), (by omega)⟩
              · exact okM_some ⟨I_u_50, F_u_50, (by omega), (by omega)⟩
        · refine okM_bM (kC_Parser_setting I_u_35) (fun r_55 u_56 z_54 => ?_)
          obtain ⟨I_u_56, G_u_56, p_57, p_58⟩ := z_54
          have F_u_56 : Fq [4, 6, 7, 8, 10, 18] [8, 9, 10, 11, 12, 13, 14, 15, 16, 17, 18] u u_56 := Fq_tr F_u_35 G_u_56 rfl rfl
          try have e_61 : (x2 + 1 : Int32).toInt = (x2 : Int32).toInt + (1 : Int32).toInt := by exact add_i (by omega) (by omega)
          refine okM_seq (fun y_60 h_59 => ?_)
          have h_59' : y_60.toInt = (x2 + 1 : Int32).toInt := by rw [h_59]
          refine okM_mono (ih I_u_56 (by have B_62 := IC_b I_u_56; omega) (by have B_63 := IC_b I_u_56; omega) (by have B_64 := IC_b I_u_56; omega) (by have B_65 := IC_b I_u_56; omega) (by have B_66 := IC_b I_u_56; omega)) (fun r_68 u_69 z_67 => ?_)
          obtain ⟨I_u_69, G_u_69, p_70, p_71⟩ := z_67
          have F_u_69 : Fq [4, 6, 7, 8, 10, 18] [8, 9, 10, 11, 12, 13, 14, 15, 16, 17, 18] u u_69 := Fq_tr F_u_56 G_u_69 rfl rfl
          exact ⟨I_u_69, F_u_69, (by omega), (by omega)⟩
theorem kC_Parser_update {u : St} (I : IC u) : okM (mC_Parser_update u) (fun r v => IC v ∧ Fq [4, 6, 7, 8, 10, 12, 18] [8, 9, 10, 11, 12, 13, 14, 15, 16, 17, 18] u v ∧ 0 ≤ r.toInt ∧ r.toInt ≤ 1) := by
  have l0 : (0 : Int32).toInt = 0 := by decide
  have l1 : (1 : Int32).toInt = 1 := by decide
  have l47 : (47 : Int32).toInt = 47 := by decide
  have l2000 : (2000 : Int32).toInt = 2000 := by decide
  rw [mC_Parser_update]
  refine okM_bM (kC_Parser_target I) (fun r_2 u_3 z_1 => ?_)
  obtain ⟨I_u_3, G_u_3, p_4, p_5⟩ := z_1
  have F_u_3 : Fq [4, 6, 7, 8, 10, 12, 18] [8, 9, 10, 11, 12, 13, 14, 15, 16, 17, 18] u u_3 := Fq_tr (Fq_rfl u) G_u_3 rfl rfl
  refine okM_eq (fun c_6 c_6' => ?_) (fun c_6 => ?_)
  · refine okM_mono (kC_Parser_update_L34 _ I_u_3 (by have FUe : FU = 100000 := rfl; have B_7 := IC_b I_u_3; omega) (by have FUe : FU = 100000 := rfl; have B_8 := IC_b I_u_3; omega) (by have FUe : FU = 100000 := rfl; have B_9 := IC_b I_u_3; omega) (by have FUe : FU = 100000 := rfl; have B_10 := IC_b I_u_3; omega) (by have FUe : FU = 100000 := rfl; have B_11 := IC_b I_u_3; omega)) (fun r_13 u_14 z_12 => ?_)
    obtain ⟨I_u_14, G_u_14, p_15, p_16⟩ := z_12
    have F_u_14 : Fq [4, 6, 7, 8, 10, 12, 18] [8, 9, 10, 11, 12, 13, 14, 15, 16, 17, 18] u u_14 := Fq_tr F_u_3 G_u_14 rfl rfl
    exact ⟨I_u_14, F_u_14, (by omega), (by omega)⟩
  · refine okM_bM (kC_Tokens_takes I_u_3 (by decide)) (fun r_18 u_19 z_17 => ?_)
    obtain ⟨I_u_19, G_u_19, p_20, p_21⟩ := z_17
    have F_u_19 : Fq [4, 6, 7, 8, 10, 12, 18] [8, 9, 10, 11, 12, 13, 14, 15, 16, 17, 18] u u_19 := Fq_tr F_u_3 G_u_19 rfl rfl
    refine okM_eq (fun c_22 c_22' => ?_) (fun c_22 => ?_)
    · refine okM_mono (kC_Parser_update_L34 _ I_u_19 (by have FUe : FU = 100000 := rfl; have B_23 := IC_b I_u_19; omega) (by have FUe : FU = 100000 := rfl; have B_24 := IC_b I_u_19; omega) (by have FUe : FU = 100000 := rfl; have B_25 := IC_b I_u_19; omega) (by have FUe : FU = 100000 := rfl; have B_26 := IC_b I_u_19; omega) (by have FUe : FU = 100000 := rfl; have B_27 := IC_b I_u_19; omega)) (fun r_29 u_30 z_28 => ?_)
      obtain ⟨I_u_30, G_u_30, p_31, p_32⟩ := z_28
      have F_u_30 : Fq [4, 6, 7, 8, 10, 12, 18] [8, 9, 10, 11, 12, 13, 14, 15, 16, 17, 18] u u_30 := Fq_tr F_u_19 G_u_30 rfl rfl
      exact ⟨I_u_30, F_u_30, (by omega), (by omega)⟩
    · refine okM_bM (kC_Parser_setting I_u_19) (fun r_34 u_35 z_33 => ?_)
      obtain ⟨I_u_35, G_u_35, p_36, p_37⟩ := z_33
      have F_u_35 : Fq [4, 6, 7, 8, 10, 12, 18] [8, 9, 10, 11, 12, 13, 14, 15, 16, 17, 18] u u_35 := Fq_tr F_u_19 G_u_35 rfl rfl
      refine okM_eq (fun c_38 c_38' => ?_) (fun c_38 => ?_)
      · refine okM_mono (kC_Parser_update_L34 _ I_u_35 (by have FUe : FU = 100000 := rfl; have B_39 := IC_b I_u_35; omega) (by have FUe : FU = 100000 := rfl; have B_40 := IC_b I_u_35; omega) (by have FUe : FU = 100000 := rfl; have B_41 := IC_b I_u_35; omega) (by have FUe : FU = 100000 := rfl; have B_42 := IC_b I_u_35; omega) (by have FUe : FU = 100000 := rfl; have B_43 := IC_b I_u_35; omega)) (fun r_45 u_46 z_44 => ?_)
        obtain ⟨I_u_46, G_u_46, p_47, p_48⟩ := z_44
        have F_u_46 : Fq [4, 6, 7, 8, 10, 12, 18] [8, 9, 10, 11, 12, 13, 14, 15, 16, 17, 18] u u_46 := Fq_tr F_u_35 G_u_46 rfl rfl
        exact ⟨I_u_46, F_u_46, (by omega), (by omega)⟩
      · refine okM_mono (kC_Parser_update_L34 _ I_u_35 (by have FUe : FU = 100000 := rfl; have B_49 := IC_b I_u_35; omega) (by have FUe : FU = 100000 := rfl; have B_50 := IC_b I_u_35; omega) (by have FUe : FU = 100000 := rfl; have B_51 := IC_b I_u_35; omega) (by have FUe : FU = 100000 := rfl; have B_52 := IC_b I_u_35; omega) (by have FUe : FU = 100000 := rfl; have B_53 := IC_b I_u_35; omega)) (fun r_55 u_56 z_54 => ?_)
        obtain ⟨I_u_56, G_u_56, p_57, p_58⟩ := z_54
        have F_u_56 : Fq [4, 6, 7, 8, 10, 12, 18] [8, 9, 10, 11, 12, 13, 14, 15, 16, 17, 18] u u_56 := Fq_tr F_u_35 G_u_56 rfl rfl
        exact ⟨I_u_56, F_u_56, (by omega), (by omega)⟩
theorem kC_Parser_delete {u : St} (I : IC u) : okM (mC_Parser_delete u) (fun r v => IC v ∧ Fq [4, 6, 7, 8, 10, 12, 18] [8, 9, 10, 11, 12, 13, 14, 15, 16, 17, 18] u v ∧ 0 ≤ r.toInt ∧ r.toInt ≤ 1) := by
  have l0 : (0 : Int32).toInt = 0 := by decide
  have l1 : (1 : Int32).toInt = 1 := by decide
  have l7 : (7 : Int32).toInt = 7 := by decide
  have l34 : (34 : Int32).toInt = 34 := by decide
  rw [mC_Parser_delete]
  refine okM_bM (kC_Tokens_takes I (by decide)) (fun r_2 u_3 z_1 => ?_)
  obtain ⟨I_u_3, G_u_3, p_4, p_5⟩ := z_1
  have F_u_3 : Fq [4, 6, 7, 8, 10, 12, 18] [8, 9, 10, 11, 12, 13, 14, 15, 16, 17, 18] u u_3 := Fq_tr (Fq_rfl u) G_u_3 rfl rfl
  refine okM_eq (fun c_6 c_6' => ?_) (fun c_6 => ?_)
  · rw [mC_Parser_delete_J24]
    refine okM_bP (kC_Parser_ownTable I_u_3) (fun u_8 z_7 => ?_)
    obtain ⟨I_u_8, G_u_8⟩ := z_7
    have F_u_8 : Fq [4, 6, 7, 8, 10, 12, 18] [8, 9, 10, 11, 12, 13, 14, 15, 16, 17, 18] u u_8 := Fq_tr F_u_3 G_u_8 rfl rfl
    refine okM_pos (by decide) ?_
    exact okM_some ⟨I_u_8, F_u_8, (by omega), (by omega)⟩
  · refine okM_bM (kC_Parser_target I_u_3) (fun r_10 u_11 z_9 => ?_)
    obtain ⟨I_u_11, G_u_11, p_12, p_13⟩ := z_9
    have F_u_11 : Fq [4, 6, 7, 8, 10, 12, 18] [8, 9, 10, 11, 12, 13, 14, 15, 16, 17, 18] u u_11 := Fq_tr F_u_3 G_u_11 rfl rfl
    refine okM_eq (fun c_14 c_14' => ?_) (fun c_14 => ?_)
    · rw [mC_Parser_delete_J24]
      refine okM_bP (kC_Parser_ownTable I_u_11) (fun u_16 z_15 => ?_)
      obtain ⟨I_u_16, G_u_16⟩ := z_15
      have F_u_16 : Fq [4, 6, 7, 8, 10, 12, 18] [8, 9, 10, 11, 12, 13, 14, 15, 16, 17, 18] u u_16 := Fq_tr F_u_11 G_u_16 rfl rfl
      refine okM_pos (by decide) ?_
      exact okM_some ⟨I_u_16, F_u_16, (by omega), (by omega)⟩
    · rw [mC_Parser_delete_J24]
      refine okM_bP (kC_Parser_ownTable I_u_11) (fun u_18 z_17 => ?_)
      obtain ⟨I_u_18, G_u_18⟩ := z_17
      have F_u_18 : Fq [4, 6, 7, 8, 10, 12, 18] [8, 9, 10, 11, 12, 13, 14, 15, 16, 17, 18] u u_18 := Fq_tr F_u_11 G_u_18 rfl rfl
      refine okM_neg (by decide) ?_
      refine okM_bM (kC_Parser_where I_u_18) (fun r_20 u_21 z_19 => ?_)
      obtain ⟨I_u_21, G_u_21, p_22, p_23⟩ := z_19
      have F_u_21 : Fq [4, 6, 7, 8, 10, 12, 18] [8, 9, 10, 11, 12, 13, 14, 15, 16, 17, 18] u u_21 := Fq_tr F_u_18 G_u_21 rfl rfl
      refine okM_eq (fun c_24 c_24' => ?_) (fun c_24 => ?_)
      · exact okM_some ⟨I_u_21, F_u_21, (by omega), (by omega)⟩
      · refine okM_bM (kC_Parser_is I_u_21) (fun r_26 u_27 z_25 => ?_)
        obtain ⟨I_u_27, G_u_27, p_28, p_29⟩ := z_25
        have F_u_27 : Fq [4, 6, 7, 8, 10, 12, 18] [8, 9, 10, 11, 12, 13, 14, 15, 16, 17, 18] u u_27 := Fq_tr F_u_21 G_u_27 rfl rfl
        refine okM_eq (fun c_30 c_30' => ?_) (fun c_30 => ?_)
        · exact okM_some ⟨I_u_27, F_u_27, (by omega), (by omega)⟩
        · exact okM_some ⟨I_u_27, F_u_27, (by omega), (by omega)⟩
theorem kC_Parser_execute {u : St} (I : IC u) : okM (mC_Parser_execute u) (fun r v => IC v ∧ Fq [4, 6, 7, 8, 10, 11] [8, 9, 10, 11, 12, 13, 14, 15, 16, 17, 18] u v ∧ 0 ≤ r.toInt ∧ r.toInt ≤ 1) := by
  have l0 : (0 : Int32).toInt = 0 := by decide
  have l1 : (1 : Int32).toInt = 1 := by decide
  have l8 : (8 : Int32).toInt = 8 := by decide
  have l9 : (9 : Int32).toInt = 9 := by decide
  have l17 : (17 : Int32).toInt = 17 := by decide
  rw [mC_Parser_execute]
  refine okM_bM (kC_Parser_title I) (fun r_2 u_3 z_1 => ?_)
  obtain ⟨I_u_3, G_u_3, p_4, p_5⟩ := z_1
  have F_u_3 : Fq [4, 6, 7, 8, 10, 11] [8, 9, 10, 11, 12, 13, 14, 15, 16, 17, 18] u u_3 := Fq_tr (Fq_rfl u) G_u_3 rfl rfl
  refine okM_eq (fun c_6 c_6' => ?_) (fun c_6 => ?_)
  · rw [mC_Parser_execute_J48]
    refine okM_eq (fun c_7 c_7' => ?_) (fun c_7 => ?_)
    · exact okM_some ⟨I_u_3, F_u_3, (by omega), (by omega)⟩
    · refine okM_bM (kC_Parser_is I_u_3) (fun r_9 u_10 z_8 => ?_)
      obtain ⟨I_u_10, G_u_10, p_11, p_12⟩ := z_8
      have F_u_10 : Fq [4, 6, 7, 8, 10, 11] [8, 9, 10, 11, 12, 13, 14, 15, 16, 17, 18] u u_10 := Fq_tr F_u_3 G_u_10 rfl rfl
      refine okM_eq (fun c_13 c_13' => ?_) (fun c_13 => ?_)
      · exact okM_some ⟨I_u_10, F_u_10, (by omega), (by omega)⟩
      · exact okM_some ⟨I_u_10, F_u_10, (by omega), (by omega)⟩
  · refine okM_bM (kC_Tokens_takes I_u_3 (by decide)) (fun r_15 u_16 z_14 => ?_)
    obtain ⟨I_u_16, G_u_16, p_17, p_18⟩ := z_14
    have F_u_16 : Fq [4, 6, 7, 8, 10, 11] [8, 9, 10, 11, 12, 13, 14, 15, 16, 17, 18] u u_16 := Fq_tr F_u_3 G_u_16 rfl rfl
    refine okM_eq (fun c_19 c_19' => ?_) (fun c_19 => ?_)
    · rw [mC_Parser_execute_J48]
      refine okM_eq (fun c_20 c_20' => ?_) (fun c_20 => ?_)
      · exact okM_some ⟨I_u_16, F_u_16, (by omega), (by omega)⟩
      · refine okM_bM (kC_Parser_is I_u_16) (fun r_22 u_23 z_21 => ?_)
        obtain ⟨I_u_23, G_u_23, p_24, p_25⟩ := z_21
        have F_u_23 : Fq [4, 6, 7, 8, 10, 11] [8, 9, 10, 11, 12, 13, 14, 15, 16, 17, 18] u u_23 := Fq_tr F_u_16 G_u_23 rfl rfl
        refine okM_eq (fun c_26 c_26' => ?_) (fun c_26 => ?_)
        · exact okM_some ⟨I_u_23, F_u_23, (by omega), (by omega)⟩
        · exact okM_some ⟨I_u_23, F_u_23, (by omega), (by omega)⟩
    · refine okM_bM (kC_Parser_expressions I_u_16) (fun r_28 u_29 z_27 => ?_)
      obtain ⟨I_u_29, G_u_29, p_30, p_31⟩ := z_27
      have F_u_29 : Fq [4, 6, 7, 8, 10, 11] [8, 9, 10, 11, 12, 13, 14, 15, 16, 17, 18] u u_29 := Fq_tr F_u_16 G_u_29 rfl rfl
      refine okM_eq (fun c_32 c_32' => ?_) (fun c_32 => ?_)
      · rw [mC_Parser_execute_J48]
        refine okM_pos (by decide) ?_
        exact okM_some ⟨I_u_29, F_u_29, (by omega), (by omega)⟩
      · refine okM_bM (kC_Tokens_takes I_u_29 (by decide)) (fun r_34 u_35 z_33 => ?_)
        obtain ⟨I_u_35, G_u_35, p_36, p_37⟩ := z_33
        have F_u_35 : Fq [4, 6, 7, 8, 10, 11] [8, 9, 10, 11, 12, 13, 14, 15, 16, 17, 18] u u_35 := Fq_tr F_u_29 G_u_35 rfl rfl
        refine okM_eq (fun c_38 c_38' => ?_) (fun c_38 => ?_)
        · rw [mC_Parser_execute_J48]
          refine okM_pos (by decide) ?_
          exact okM_some ⟨I_u_35, F_u_35, (by omega), (by omega)⟩
        · rw [mC_Parser_execute_J48]
          refine okM_neg (by decide) ?_
          refine okM_bM (kC_Parser_is I_u_35) (fun r_40 u_41 z_39 => ?_)
          obtain ⟨I_u_41, G_u_41, p_42, p_43⟩ := z_39
          have F_u_41 : Fq [4, 6, 7, 8, 10, 11] [8, 9, 10, 11, 12, 13, 14, 15, 16, 17, 18] u u_41 := Fq_tr F_u_35 G_u_41 rfl rfl
          refine okM_eq (fun c_44 c_44' => ?_) (fun c_44 => ?_)
          · exact okM_some ⟨I_u_41, F_u_41, (by omega), (by omega)⟩
          · exact okM_some ⟨I_u_41, F_u_41, (by omega), (by omega)⟩
theorem kC_Parser_typeWord {u : St} (I : IC u) : okM (mC_Parser_typeWord u) (fun r v => IC v ∧ Fq [4] [] u v ∧ 0 ≤ r.toInt ∧ r.toInt ≤ 3) := by
  have l0 : (0 : Int32).toInt = 0 := by decide
  have l1 : (1 : Int32).toInt = 1 := by decide
  have l2 : (2 : Int32).toInt = 2 := by decide
  have l3 : (3 : Int32).toInt = 3 := by decide
  have l52 : (52 : Int32).toInt = 52 := by decide
  have l53 : (53 : Int32).toInt = 53 := by decide
  have l54 : (54 : Int32).toInt = 54 := by decide
  rw [mC_Parser_typeWord]
  refine okM_bM (kC_Tokens_takes I (by decide)) (fun r_2 u_3 z_1 => ?_)
  obtain ⟨I_u_3, G_u_3, p_4, p_5⟩ := z_1
  have F_u_3 : Fq [4] [] u u_3 := Fq_tr (Fq_rfl u) G_u_3 rfl rfl
  refine okM_eq (fun c_6 c_6' => ?_) (fun c_6 => ?_)
  · refine okM_bM (kC_Tokens_takes I_u_3 (by decide)) (fun r_8 u_9 z_7 => ?_)
    obtain ⟨I_u_9, G_u_9, p_10, p_11⟩ := z_7
    have F_u_9 : Fq [4] [] u u_9 := Fq_tr F_u_3 G_u_9 rfl rfl
    refine okM_eq (fun c_12 c_12' => ?_) (fun c_12 => ?_)
    · refine okM_bM (kC_Tokens_takes I_u_9 (by decide)) (fun r_14 u_15 z_13 => ?_)
      obtain ⟨I_u_15, G_u_15, p_16, p_17⟩ := z_13
      have F_u_15 : Fq [4] [] u u_15 := Fq_tr F_u_9 G_u_15 rfl rfl
      refine okM_eq (fun c_18 c_18' => ?_) (fun c_18 => ?_)
      · exact okM_some ⟨I_u_15, F_u_15, (by omega), (by omega)⟩
      · exact okM_some ⟨I_u_15, F_u_15, (by omega), (by omega)⟩
    · exact okM_some ⟨I_u_9, F_u_9, (by omega), (by omega)⟩
  · exact okM_some ⟨I_u_3, F_u_3, (by omega), (by omega)⟩
theorem kC_Parser_newColumn {u : St} (I : IC u) : okM (mC_Parser_newColumn u) (fun r v => IC v ∧ Fq [4, 8] [17, 18] u v ∧ 0 ≤ r.toInt ∧ r.toInt ≤ 1) := by
  have l0 : (0 : Int32).toInt = 0 := by decide
  have l1 : (1 : Int32).toInt = 1 := by decide
  have l5 : (5 : Int32).toInt = 5 := by decide
  have l6 : (6 : Int32).toInt = 6 := by decide
  have l7 : (7 : Int32).toInt = 7 := by decide
  have l10 : (10 : Int32).toInt = 10 := by decide
  have l12 : (12 : Int32).toInt = 12 := by decide
  have l13 : (13 : Int32).toInt = 13 := by decide
  have l14 : (14 : Int32).toInt = 14 := by decide
  have l20 : (20 : Int32).toInt = 20 := by decide
  have l55 : (55 : Int32).toInt = 55 := by decide
  have l200 : (200 : Int32).toInt = 200 := by decide
  rw [mC_Parser_newColumn]
  refine okM_bM (kC_Tokens_take I) (fun r_2 u_3 z_1 => ?_)
  obtain ⟨I_u_3, G_u_3, p_4, p_5, p_6⟩ := z_1
  have F_u_3 : Fq [4, 8] [17, 18] u u_3 := Fq_tr (Fq_rfl u) G_u_3 rfl rfl
  refine okM_bM (kC_Parser_typeWord I_u_3) (fun r_8 u_9 z_7 => ?_)
  obtain ⟨I_u_9, G_u_9, p_10, p_11⟩ := z_7
  have F_u_9 : Fq [4, 8] [17, 18] u u_9 := Fq_tr F_u_3 G_u_9 rfl rfl
  refine okM_lt (fun c_12 => ?_) (fun c_12 => ?_)
  · exact okM_some ⟨I_u_9, F_u_9, (by omega), (by omega)⟩
  · refine okM_eq (fun c_13 c_13' => ?_) (fun c_13 => ?_)
    · exact okM_some ⟨I_u_9, F_u_9, (by omega), (by omega)⟩
    · refine okM_bM (kC_Tokens_takes I_u_9 (by decide)) (fun r_15 u_16 z_14 => ?_)
      obtain ⟨I_u_16, G_u_16, p_17, p_18⟩ := z_14
      have F_u_16 : Fq [4, 8] [17, 18] u u_16 := Fq_tr F_u_9 G_u_16 rfl rfl
      refine okM_eq (fun c_19 c_19' => ?_) (fun c_19 => ?_)
      · rw [mC_Parser_newColumn_J52]
        refine okM_bM (kC_Tokens_takes I_u_16 (by decide)) (fun r_21 u_22 z_20 => ?_)
        obtain ⟨I_u_22, G_u_22, p_23, p_24⟩ := z_20
        have F_u_22 : Fq [4, 8] [17, 18] u u_22 := Fq_tr F_u_16 G_u_22 rfl rfl
        refine okM_bP (kC_Lists_add I_u_22 (by have FUe : FU = 100000 := rfl; have B_26 := IC_b I_u_22; omega)) (fun u_27 z_25 => ?_)
        obtain ⟨I_u_27, G_u_27⟩ := z_25
        have F_u_27 : Fq [4, 8] [17, 18] u u_27 := Fq_tr F_u_22 G_u_27 rfl rfl
        refine okM_eq (fun c_28 c_28' => ?_) (fun c_28 => ?_)
        · rw [mC_Parser_newColumn_J90]
          refine okM_eq (fun c_29 c_29' => ?_) (fun c_29 => ?_)
          · try have e_30 : (r_8 + 0 : Int32).toInt = (r_8 : Int32).toInt + (0 : Int32).toInt := by exact add_i (by omega) (by omega)
            try have e_31 : ((r_8 + 0) + 0 : Int32).toInt = ((r_8 + 0) : Int32).toInt + (0 : Int32).toInt := by exact add_i (by omega) (by omega)
            refine okM_bP (kC_Lists_add I_u_27 (by have FUe : FU = 100000 := rfl; have B_33 := IC_b I_u_27; omega)) (fun u_34 z_32 => ?_)
            obtain ⟨I_u_34, G_u_34⟩ := z_32
            have F_u_34 : Fq [4, 8] [17, 18] u u_34 := Fq_tr F_u_27 G_u_34 rfl rfl
            exact okM_some ⟨I_u_34, F_u_34, (by omega), (by omega)⟩
          · try have e_35 : (r_8 + 0 : Int32).toInt = (r_8 : Int32).toInt + (0 : Int32).toInt := by exact add_i (by omega) (by omega)
            try have e_36 : ((r_8 + 0) + 20 : Int32).toInt = ((r_8 + 0) : Int32).toInt + (20 : Int32).toInt := by exact add_i (by omega) (by omega)
            refine okM_bP (kC_Lists_add I_u_27 (by have FUe : FU = 100000 := rfl; have B_38 := IC_b I_u_27; omega)) (fun u_39 z_37 => ?_)
            obtain ⟨I_u_39, G_u_39⟩ := z_37
            have F_u_39 : Fq [4, 8] [17, 18] u u_39 := Fq_tr F_u_27 G_u_39 rfl rfl
            exact okM_some ⟨I_u_39, F_u_39, (by omega), (by omega)⟩
        · rw [mC_Parser_newColumn_J90]
          refine okM_eq (fun c_40 c_40' => ?_) (fun c_40 => ?_)
          · try have e_41 : (r_8 + 10 : Int32).toInt = (r_8 : Int32).toInt + (10 : Int32).toInt := by exact add_i (by omega) (by omega)
            try have e_42 : ((r_8 + 10) + 0 : Int32).toInt = ((r_8 + 10) : Int32).toInt + (0 : Int32).toInt := by exact add_i (by omega) (by omega)
            refine okM_bP (kC_Lists_add I_u_27 (by have FUe : FU = 100000 := rfl; have B_44 := IC_b I_u_27; omega)) (fun u_45 z_43 => ?_)
            obtain ⟨I_u_45, G_u_45⟩ := z_43
            have F_u_45 : Fq [4, 8] [17, 18] u u_45 := Fq_tr F_u_27 G_u_45 rfl rfl
            exact okM_some ⟨I_u_45, F_u_45, (by omega), (by omega)⟩
          · try have e_46 : (r_8 + 10 : Int32).toInt = (r_8 : Int32).toInt + (10 : Int32).toInt := by exact add_i (by omega) (by omega)
            try have e_47 : ((r_8 + 10) + 20 : Int32).toInt = ((r_8 + 10) : Int32).toInt + (20 : Int32).toInt := by exact add_i (by omega) (by omega)
            refine okM_bP (kC_Lists_add I_u_27 (by have FUe : FU = 100000 := rfl; have B_49 := IC_b I_u_27; omega)) (fun u_50 z_48 => ?_)
            obtain ⟨I_u_50, G_u_50⟩ := z_48
            have F_u_50 : Fq [4, 8] [17, 18] u u_50 := Fq_tr F_u_27 G_u_50 rfl rfl
            exact okM_some ⟨I_u_50, F_u_50, (by omega), (by omega)⟩
      · refine okM_bM (kC_Tokens_takes I_u_16 (by decide)) (fun r_52 u_53 z_51 => ?_)
        obtain ⟨I_u_53, G_u_53, p_54, p_55⟩ := z_51
        have F_u_53 : Fq [4, 8] [17, 18] u u_53 := Fq_tr F_u_16 G_u_53 rfl rfl
        refine okM_eq (fun c_56 c_56' => ?_) (fun c_56 => ?_)
        · exact okM_some ⟨I_u_53, F_u_53, (by omega), (by omega)⟩
        · rw [mC_Parser_newColumn_J52]
          refine okM_bM (kC_Tokens_takes I_u_53 (by decide)) (fun r_58 u_59 z_57 => ?_)
          obtain ⟨I_u_59, G_u_59, p_60, p_61⟩ := z_57
          have F_u_59 : Fq [4, 8] [17, 18] u u_59 := Fq_tr F_u_53 G_u_59 rfl rfl
          refine okM_bP (kC_Lists_add I_u_59 (by have FUe : FU = 100000 := rfl; have B_63 := IC_b I_u_59; omega)) (fun u_64 z_62 => ?_)
          obtain ⟨I_u_64, G_u_64⟩ := z_62
          have F_u_64 : Fq [4, 8] [17, 18] u u_64 := Fq_tr F_u_59 G_u_64 rfl rfl
          refine okM_eq (fun c_65 c_65' => ?_) (fun c_65 => ?_)
          · rw [mC_Parser_newColumn_J90]
            refine okM_eq (fun c_66 c_66' => ?_) (fun c_66 => ?_)
            · try have e_67 : (r_8 + 0 : Int32).toInt = (r_8 : Int32).toInt + (0 : Int32).toInt := by exact add_i (by omega) (by omega)
              try have e_68 : ((r_8 + 0) + 0 : Int32).toInt = ((r_8 + 0) : Int32).toInt + (0 : Int32).toInt := by exact add_i (by omega) (by omega)
              refine okM_bP (kC_Lists_add I_u_64 (by have FUe : FU = 100000 := rfl; have B_70 := IC_b I_u_64; omega)) (fun u_71 z_69 => ?_)
              obtain ⟨I_u_71, G_u_71⟩ := z_69
              have F_u_71 : Fq [4, 8] [17, 18] u u_71 := Fq_tr F_u_64 G_u_71 rfl rfl
              exact okM_some ⟨I_u_71, F_u_71, (by omega), (by omega)⟩
            · try have e_72 : (r_8 + 0 : Int32).toInt = (r_8 : Int32).toInt + (0 : Int32).toInt := by exact add_i (by omega) (by omega)
              try have e_73 : ((r_8 + 0) + 20 : Int32).toInt = ((r_8 + 0) : Int32).toInt + (20 : Int32).toInt := by exact add_i (by omega) (by omega)
              refine okM_bP (kC_Lists_add I_u_64 (by have FUe : FU = 100000 := rfl; have B_75 := IC_b I_u_64; omega)) (fun u_76 z_74 => ?_)
              obtain ⟨I_u_76, G_u_76⟩ := z_74
              have F_u_76 : Fq [4, 8] [17, 18] u u_76 := Fq_tr F_u_64 G_u_76 rfl rfl
              exact okM_some ⟨I_u_76, F_u_76, (by omega), (by omega)⟩
          · rw [mC_Parser_newColumn_J90]
            refine okM_eq (fun c_77 c_77' => ?_) (fun c_77 => ?_)
            · try have e_78 : (r_8 + 10 : Int32).toInt = (r_8 : Int32).toInt + (10 : Int32).toInt := by exact add_i (by omega) (by omega)
              try have e_79 : ((r_8 + 10) + 0 : Int32).toInt = ((r_8 + 10) : Int32).toInt + (0 : Int32).toInt := by exact add_i (by omega) (by omega)
              refine okM_bP (kC_Lists_add I_u_64 (by have FUe : FU = 100000 := rfl; have B_81 := IC_b I_u_64; omega)) (fun u_82 z_80 => ?_)
              obtain ⟨I_u_82, G_u_82⟩ := z_80
              have F_u_82 : Fq [4, 8] [17, 18] u u_82 := Fq_tr F_u_64 G_u_82 rfl rfl
              exact okM_some ⟨I_u_82, F_u_82, (by omega), (by omega)⟩
            · try have e_83 : (r_8 + 10 : Int32).toInt = (r_8 : Int32).toInt + (10 : Int32).toInt := by exact add_i (by omega) (by omega)
              try have e_84 : ((r_8 + 10) + 20 : Int32).toInt = ((r_8 + 10) : Int32).toInt + (20 : Int32).toInt := by exact add_i (by omega) (by omega)
              refine okM_bP (kC_Lists_add I_u_64 (by have FUe : FU = 100000 := rfl; have B_86 := IC_b I_u_64; omega)) (fun u_87 z_85 => ?_)
              obtain ⟨I_u_87, G_u_87⟩ := z_85
              have F_u_87 : Fq [4, 8] [17, 18] u u_87 := Fq_tr F_u_64 G_u_87 rfl rfl
              exact okM_some ⟨I_u_87, F_u_87, (by omega), (by omega)⟩
theorem kC_Parser_columns_L27 : ∀ (n : Nat) {x1 : Int32} {x2 : Int32} {u : St} (I : IC u) (h0 : 0 ≤ x2.toInt) (h1 : x2.toInt ≤ 2000) (h2 : 0 ≤ x1.toInt) (h3 : x1.toInt ≤ 1) (hm : (2000 - x2.toInt).toNat < n), okM (mC_Parser_columns_L27 n x1 x2 u) (fun r v => IC v ∧ Fq [4, 8] [17, 18] u v ∧ 0 ≤ r.toInt ∧ r.toInt ≤ 1) := by
  intro n
  induction n with
  | zero => intro x1 x2 u I h0 h1 h2 h3 hm; exact absurd hm (Nat.not_lt_zero _)
  | succ n ih =>
    intro x1 x2 u I h0 h1 h2 h3 hm
    have l0 : (0 : Int32).toInt = 0 := by decide
    have l1 : (1 : Int32).toInt = 1 := by decide
    have l9 : (9 : Int32).toInt = 9 := by decide
    have l33 : (33 : Int32).toInt = 33 := by decide
    have l2000 : (2000 : Int32).toInt = 2000 := by decide
    rw [mC_Parser_columns_L27]
    refine okM_le (fun c_1 => ?_) (fun c_1 => ?_)
    · rw [mC_Parser_columns_J61]
      refine okM_eq (fun c_2 c_2' => ?_) (fun c_2 => ?_)
      · exact okM_some ⟨I, (Fq_rfl u), (by omega), (by omega)⟩
      · refine okM_bM (kC_Tokens_takes I (by decide)) (fun r_4 u_5 z_3 => ?_)
        obtain ⟨I_u_5, G_u_5, p_6, p_7⟩ := z_3
        have F_u_5 : Fq [4, 8] [17, 18] u u_5 := Fq_tr (Fq_rfl u) G_u_5 rfl rfl
        refine okM_eq (fun c_8 c_8' => ?_) (fun c_8 => ?_)
        · exact okM_some ⟨I_u_5, F_u_5, (by omega), (by omega)⟩
        · exact okM_some ⟨I_u_5, F_u_5, (by omega), (by omega)⟩
    · refine okM_eq (fun c_9 c_9' => ?_) (fun c_9 => ?_)
      · rw [mC_Parser_columns_J61]
        refine okM_eq (fun c_10 c_10' => ?_) (fun c_10 => ?_)
        · exact okM_some ⟨I, (Fq_rfl u), (by omega), (by omega)⟩
        · refine okM_bM (kC_Tokens_takes I (by decide)) (fun r_12 u_13 z_11 => ?_)
          obtain ⟨I_u_13, G_u_13, p_14, p_15⟩ := z_11
          have F_u_13 : Fq [4, 8] [17, 18] u u_13 := Fq_tr (Fq_rfl u) G_u_13 rfl rfl
          refine okM_eq (fun c_16 c_16' => ?_) (fun c_16 => ?_)
          · exact okM_some ⟨I_u_13, F_u_13, (by omega), (by omega)⟩
          · exact okM_some ⟨I_u_13, F_u_13, (by omega), (by omega)⟩
      · refine okM_bM (kC_Tokens_takes I (by decide)) (fun r_18 u_19 z_17 => ?_)
        obtain ⟨I_u_19, G_u_19, p_20, p_21⟩ := z_17
        have F_u_19 : Fq [4, 8] [17, 18] u u_19 := Fq_tr (Fq_rfl u) G_u_19 rfl rfl
        refine okM_eq (fun c_22 c_22' => ?_) (fun c_22 => ?_)
        · rw [mC_Parser_columns_J61]
          refine okM_eq (fun c_23 c_23' => ?_) (fun c_23 => ?_)
          · exact okM_some ⟨I_u_19, F_u_19, (by omega), (by omega)⟩
          · refine okM_bM (kC_Tokens_takes I_u_19 (by decide)) (fun r_25 u_26 z_24 => ?_)
            obtain ⟨I_u_26, G_u_26, p_27, p_28⟩ := z_24
            have F_u_26 : Fq [4, 8] [17, 18] u u_26 := Fq_tr F_u_19 G_u_26 rfl rfl
            refine okM_eq (fun c_29 c_29' => ?_) (fun c_29 => ?_)
            · exact okM_some ⟨I_u_26, F_u_26, (by omega), (by omega)⟩
            · exact okM_some ⟨I_u_26, F_u_26, (by omega), (by omega)⟩
        · refine okM_bM (kC_Parser_newColumn I_u_19) (fun r_31 u_32 z_30 => ?_)
          obtain ⟨I_u_32, G_u_32, p_33, p_34⟩ := z_30
          have F_u_32 : Fq [4, 8] [17, 18] u u_32 := Fq_tr F_u_19 G_u_32 rfl rfl
          try have e_37 : (x2 + 1 : Int32).toInt = (x2 : Int32).toInt + (1 : Int32).toInt := by exact add_i (by omega) (by omega)
          refine okM_seq (fun y_36 h_35 => ?_)
          have h_35' : y_36.toInt = (x2 + 1 : Int32).toInt := by rw [h_35]
          refine okM_mono (ih I_u_32 (by have B_38 := IC_b I_u_32; omega) (by have B_39 := IC_b I_u_32; omega) (by have B_40 := IC_b I_u_32; omega) (by have B_41 := IC_b I_u_32; omega) (by have B_42 := IC_b I_u_32; omega)) (fun r_44 u_45 z_43 => ?_)
          obtain ⟨I_u_45, G_u_45, p_46, p_47⟩ := z_43
          have F_u_45 : Fq [4, 8] [17, 18] u u_45 := Fq_tr F_u_32 G_u_45 rfl rfl
          exact ⟨I_u_45, F_u_45, (by omega), (by omega)⟩
theorem kC_Parser_columns {u : St} (I : IC u) : okM (mC_Parser_columns u) (fun r v => IC v ∧ Fq [4, 8] [17, 18] u v ∧ 0 ≤ r.toInt ∧ r.toInt ≤ 1) := by
  have l0 : (0 : Int32).toInt = 0 := by decide
  have l1 : (1 : Int32).toInt = 1 := by decide
  have l8 : (8 : Int32).toInt = 8 := by decide
  have l2000 : (2000 : Int32).toInt = 2000 := by decide
  rw [mC_Parser_columns]
  refine okM_bM (kC_Tokens_takes I (by decide)) (fun r_2 u_3 z_1 => ?_)
  obtain ⟨I_u_3, G_u_3, p_4, p_5⟩ := z_1
  have F_u_3 : Fq [4, 8] [17, 18] u u_3 := Fq_tr (Fq_rfl u) G_u_3 rfl rfl
  refine okM_eq (fun c_6 c_6' => ?_) (fun c_6 => ?_)
  · refine okM_mono (kC_Parser_columns_L27 _ I_u_3 (by have FUe : FU = 100000 := rfl; have B_7 := IC_b I_u_3; omega) (by have FUe : FU = 100000 := rfl; have B_8 := IC_b I_u_3; omega) (by have FUe : FU = 100000 := rfl; have B_9 := IC_b I_u_3; omega) (by have FUe : FU = 100000 := rfl; have B_10 := IC_b I_u_3; omega) (by have FUe : FU = 100000 := rfl; have B_11 := IC_b I_u_3; omega)) (fun r_13 u_14 z_12 => ?_)
    obtain ⟨I_u_14, G_u_14, p_15, p_16⟩ := z_12
    have F_u_14 : Fq [4, 8] [17, 18] u u_14 := Fq_tr F_u_3 G_u_14 rfl rfl
    exact ⟨I_u_14, F_u_14, (by omega), (by omega)⟩
  · refine okM_bM (kC_Parser_newColumn I_u_3) (fun r_18 u_19 z_17 => ?_)
    obtain ⟨I_u_19, G_u_19, p_20, p_21⟩ := z_17
    have F_u_19 : Fq [4, 8] [17, 18] u u_19 := Fq_tr F_u_3 G_u_19 rfl rfl
    refine okM_eq (fun c_22 c_22' => ?_) (fun c_22 => ?_)
    · refine okM_mono (kC_Parser_columns_L27 _ I_u_19 (by have FUe : FU = 100000 := rfl; have B_23 := IC_b I_u_19; omega) (by have FUe : FU = 100000 := rfl; have B_24 := IC_b I_u_19; omega) (by have FUe : FU = 100000 := rfl; have B_25 := IC_b I_u_19; omega) (by have FUe : FU = 100000 := rfl; have B_26 := IC_b I_u_19; omega) (by have FUe : FU = 100000 := rfl; have B_27 := IC_b I_u_19; omega)) (fun r_29 u_30 z_28 => ?_)
      obtain ⟨I_u_30, G_u_30, p_31, p_32⟩ := z_28
      have F_u_30 : Fq [4, 8] [17, 18] u u_30 := Fq_tr F_u_19 G_u_30 rfl rfl
      exact ⟨I_u_30, F_u_30, (by omega), (by omega)⟩
    · refine okM_mono (kC_Parser_columns_L27 _ I_u_19 (by have FUe : FU = 100000 := rfl; have B_33 := IC_b I_u_19; omega) (by have FUe : FU = 100000 := rfl; have B_34 := IC_b I_u_19; omega) (by have FUe : FU = 100000 := rfl; have B_35 := IC_b I_u_19; omega) (by have FUe : FU = 100000 := rfl; have B_36 := IC_b I_u_19; omega) (by have FUe : FU = 100000 := rfl; have B_37 := IC_b I_u_19; omega)) (fun r_39 u_40 z_38 => ?_)
      obtain ⟨I_u_40, G_u_40, p_41, p_42⟩ := z_38
      have F_u_40 : Fq [4, 8] [17, 18] u u_40 := Fq_tr F_u_19 G_u_40 rfl rfl
      exact ⟨I_u_40, F_u_40, (by omega), (by omega)⟩
theorem kC_Parser_create {u : St} (I : IC u) : okM (mC_Parser_create u) (fun r v => IC v ∧ Fq [4, 8, 10, 11, 12, 14, 19] [17, 18] u v ∧ 0 ≤ r.toInt ∧ r.toInt ≤ 1) := by
  have l0 : (0 : Int32).toInt = 0 := by decide
  have l1 : (1 : Int32).toInt = 1 := by decide
  have l2 : (2 : Int32).toInt = 2 := by decide
  have l8 : (8 : Int32).toInt = 8 := by decide
  have l9 : (9 : Int32).toInt = 9 := by decide
  have l14 : (14 : Int32).toInt = 14 := by decide
  have l51 : (51 : Int32).toInt = 51 := by decide
  have l55 : (55 : Int32).toInt = 55 := by decide
  have l56 : (56 : Int32).toInt = 56 := by decide
  have l57 : (57 : Int32).toInt = 57 := by decide
  rw [mC_Parser_create]
  refine okM_bM (kC_Tokens_takes I (by decide)) (fun r_2 u_3 z_1 => ?_)
  obtain ⟨I_u_3, G_u_3, p_4, p_5⟩ := z_1
  have F_u_3 : Fq [4, 8, 10, 11, 12, 14, 19] [17, 18] u u_3 := Fq_tr (Fq_rfl u) G_u_3 rfl rfl
  refine okM_eq (fun c_6 c_6' => ?_) (fun c_6 => ?_)
  · refine okM_bM (kC_Tokens_takes I_u_3 (by decide)) (fun r_8 u_9 z_7 => ?_)
    obtain ⟨I_u_9, G_u_9, p_10, p_11⟩ := z_7
    have F_u_9 : Fq [4, 8, 10, 11, 12, 14, 19] [17, 18] u u_9 := Fq_tr F_u_3 G_u_9 rfl rfl
    refine okM_gd (zb_of (by omega) (by omega)) ?_
    refine okM_seq (fun u_13 h_12 => ?_)
    have I_u_13 : IC u_13 := by rw [h_12]; exact I_u_9
    have F_u_13 : Fq [4, 8, 10, 11, 12, 14, 19] [17, 18] u u_13 := by rw [h_12]; exact Fq_ss F_u_9 rfl
    refine okM_bM (kC_Tokens_takes I_u_13 (by decide)) (fun r_15 u_16 z_14 => ?_)
    obtain ⟨I_u_16, G_u_16, p_17, p_18⟩ := z_14
    have F_u_16 : Fq [4, 8, 10, 11, 12, 14, 19] [17, 18] u u_16 := Fq_tr F_u_13 G_u_16 rfl rfl
    refine okM_eq (fun c_19 c_19' => ?_) (fun c_19 => ?_)
    · exact okM_some ⟨I_u_16, F_u_16, (by omega), (by omega)⟩
    · refine okM_bM (kC_Tokens_takes I_u_16 (by decide)) (fun r_21 u_22 z_20 => ?_)
      obtain ⟨I_u_22, G_u_22, p_23, p_24⟩ := z_20
      have F_u_22 : Fq [4, 8, 10, 11, 12, 14, 19] [17, 18] u u_22 := Fq_tr F_u_16 G_u_22 rfl rfl
      refine okM_eq (fun c_25 c_25' => ?_) (fun c_25 => ?_)
      · exact okM_some ⟨I_u_22, F_u_22, (by omega), (by omega)⟩
      · refine okM_bM (kC_Parser_target I_u_22) (fun r_27 u_28 z_26 => ?_)
        obtain ⟨I_u_28, G_u_28, p_29, p_30⟩ := z_26
        have F_u_28 : Fq [4, 8, 10, 11, 12, 14, 19] [17, 18] u u_28 := Fq_tr F_u_22 G_u_28 rfl rfl
        refine okM_eq (fun c_31 c_31' => ?_) (fun c_31 => ?_)
        · exact okM_some ⟨I_u_28, F_u_28, (by omega), (by omega)⟩
        · refine okM_bM (kC_Tokens_takes I_u_28 (by decide)) (fun r_33 u_34 z_32 => ?_)
          obtain ⟨I_u_34, G_u_34, p_35, p_36⟩ := z_32
          have F_u_34 : Fq [4, 8, 10, 11, 12, 14, 19] [17, 18] u u_34 := Fq_tr F_u_28 G_u_34 rfl rfl
          refine okM_eq (fun c_37 c_37' => ?_) (fun c_37 => ?_)
          · exact okM_some ⟨I_u_34, F_u_34, (by omega), (by omega)⟩
          · refine okM_bM (kC_Tokens_take I_u_34) (fun r_39 u_40 z_38 => ?_)
            obtain ⟨I_u_40, G_u_40, p_41, p_42, p_43⟩ := z_38
            have F_u_40 : Fq [4, 8, 10, 11, 12, 14, 19] [17, 18] u u_40 := Fq_tr F_u_34 G_u_40 rfl rfl
            refine okM_seq (fun u_45 h_44 => ?_)
            have I_u_45 : IC u_45 := by rw [h_44]; exact I_u_40
            have F_u_45 : Fq [4, 8, 10, 11, 12, 14, 19] [17, 18] u u_45 := by rw [h_44]; exact Fq_ss F_u_40 rfl
            refine okM_lt (fun c_46 => ?_) (fun c_46 => ?_)
            · exact okM_some ⟨I_u_45, F_u_45, (by omega), (by omega)⟩
            · refine okM_bM (kC_Tokens_takes I_u_45 (by decide)) (fun r_48 u_49 z_47 => ?_)
              obtain ⟨I_u_49, G_u_49, p_50, p_51⟩ := z_47
              have F_u_49 : Fq [4, 8, 10, 11, 12, 14, 19] [17, 18] u u_49 := Fq_tr F_u_45 G_u_49 rfl rfl
              refine okM_eq (fun c_52 c_52' => ?_) (fun c_52 => ?_)
              · exact okM_some ⟨I_u_49, F_u_49, (by omega), (by omega)⟩
              · refine okM_bM (kC_Parser_is I_u_49) (fun r_54 u_55 z_53 => ?_)
                obtain ⟨I_u_55, G_u_55, p_56, p_57⟩ := z_53
                have F_u_55 : Fq [4, 8, 10, 11, 12, 14, 19] [17, 18] u u_55 := Fq_tr F_u_49 G_u_55 rfl rfl
                refine okM_eq (fun c_58 c_58' => ?_) (fun c_58 => ?_)
                · exact okM_some ⟨I_u_55, F_u_55, (by omega), (by omega)⟩
                · exact okM_some ⟨I_u_55, F_u_55, (by omega), (by omega)⟩
  · refine okM_bM (kC_Parser_title I_u_3) (fun r_60 u_61 z_59 => ?_)
    obtain ⟨I_u_61, G_u_61, p_62, p_63⟩ := z_59
    have F_u_61 : Fq [4, 8, 10, 11, 12, 14, 19] [17, 18] u u_61 := Fq_tr F_u_3 G_u_61 rfl rfl
    refine okM_eq (fun c_64 c_64' => ?_) (fun c_64 => ?_)
    · exact okM_some ⟨I_u_61, F_u_61, (by omega), (by omega)⟩
    · refine okM_bM (kC_Parser_columns I_u_61) (fun r_66 u_67 z_65 => ?_)
      obtain ⟨I_u_67, G_u_67, p_68, p_69⟩ := z_65
      have F_u_67 : Fq [4, 8, 10, 11, 12, 14, 19] [17, 18] u u_67 := Fq_tr F_u_61 G_u_67 rfl rfl
      refine okM_eq (fun c_70 c_70' => ?_) (fun c_70 => ?_)
      · exact okM_some ⟨I_u_67, F_u_67, (by omega), (by omega)⟩
      · refine okM_bM (kC_Parser_is I_u_67) (fun r_72 u_73 z_71 => ?_)
        obtain ⟨I_u_73, G_u_73, p_74, p_75⟩ := z_71
        have F_u_73 : Fq [4, 8, 10, 11, 12, 14, 19] [17, 18] u u_73 := Fq_tr F_u_67 G_u_73 rfl rfl
        refine okM_eq (fun c_76 c_76' => ?_) (fun c_76 => ?_)
        · exact okM_some ⟨I_u_73, F_u_73, (by omega), (by omega)⟩
        · exact okM_some ⟨I_u_73, F_u_73, (by omega), (by omega)⟩
theorem kC_Parser_begin {u : St} (I : IC u) : okM (mC_Parser_begin u) (fun r v => IC v ∧ Fq [4, 10, 16] [] u v ∧ 0 ≤ r.toInt ∧ r.toInt ≤ 1) := by
  have l0 : (0 : Int32).toInt = 0 := by decide
  have l1 : (1 : Int32).toInt = 1 := by decide
  have l60 : (60 : Int32).toInt = 60 := by decide
  have l61 : (61 : Int32).toInt = 61 := by decide
  have l62 : (62 : Int32).toInt = 62 := by decide
  have l63 : (63 : Int32).toInt = 63 := by decide
  rw [mC_Parser_begin]
  refine okM_seq (fun u_2 h_1 => ?_)
  have I_u_2 : IC u_2 := by rw [h_1]; exact I
  have F_u_2 : Fq [4, 10, 16] [] u u_2 := by rw [h_1]; exact Fq_ss (Fq_rfl u) rfl
  refine okM_bM (kC_Tokens_takes I_u_2 (by decide)) (fun r_4 u_5 z_3 => ?_)
  obtain ⟨I_u_5, G_u_5, p_6, p_7⟩ := z_3
  have F_u_5 : Fq [4, 10, 16] [] u u_5 := Fq_tr F_u_2 G_u_5 rfl rfl
  refine okM_eq (fun c_8 c_8' => ?_) (fun c_8 => ?_)
  · refine okM_bM (kC_Tokens_takes I_u_5 (by decide)) (fun r_10 u_11 z_9 => ?_)
    obtain ⟨I_u_11, G_u_11, p_12, p_13⟩ := z_9
    have F_u_11 : Fq [4, 10, 16] [] u u_11 := Fq_tr F_u_5 G_u_11 rfl rfl
    refine okM_eq (fun c_14 c_14' => ?_) (fun c_14 => ?_)
    · refine okM_bM (kC_Tokens_takes I_u_11 (by decide)) (fun r_16 u_17 z_15 => ?_)
      obtain ⟨I_u_17, G_u_17, p_18, p_19⟩ := z_15
      have F_u_17 : Fq [4, 10, 16] [] u u_17 := Fq_tr F_u_11 G_u_17 rfl rfl
      refine okM_eq (fun c_20 c_20' => ?_) (fun c_20 => ?_)
      · refine okM_seq (fun u_22 h_21 => ?_)
        have I_u_22 : IC u_22 := by rw [h_21]; exact I_u_17
        have F_u_22 : Fq [4, 10, 16] [] u u_22 := by rw [h_21]; exact Fq_ss F_u_17 rfl
        exact okM_some ⟨I_u_22, F_u_22, (by omega), (by omega)⟩
      · refine okM_seq (fun u_24 h_23 => ?_)
        have I_u_24 : IC u_24 := by rw [h_23]; exact I_u_17
        have F_u_24 : Fq [4, 10, 16] [] u u_24 := by rw [h_23]; exact Fq_ss F_u_17 rfl
        exact okM_some ⟨I_u_24, F_u_24, (by omega), (by omega)⟩
    · refine okM_seq (fun u_26 h_25 => ?_)
      have I_u_26 : IC u_26 := by rw [h_25]; exact I_u_11
      have F_u_26 : Fq [4, 10, 16] [] u u_26 := by rw [h_25]; exact Fq_ss F_u_11 rfl
      refine okM_bM (kC_Tokens_takes I_u_26 (by decide)) (fun r_28 u_29 z_27 => ?_)
      obtain ⟨I_u_29, G_u_29, p_30, p_31⟩ := z_27
      have F_u_29 : Fq [4, 10, 16] [] u u_29 := Fq_tr F_u_26 G_u_29 rfl rfl
      refine okM_gd (zb_of (by omega) (by omega)) ?_
      exact okM_some ⟨I_u_29, F_u_29, (by omega), (by omega)⟩
  · refine okM_bM (kC_Tokens_takes I_u_5 (by decide)) (fun r_33 u_34 z_32 => ?_)
    obtain ⟨I_u_34, G_u_34, p_35, p_36⟩ := z_32
    have F_u_34 : Fq [4, 10, 16] [] u u_34 := Fq_tr F_u_5 G_u_34 rfl rfl
    refine okM_gd (zb_of (by omega) (by omega)) ?_
    exact okM_some ⟨I_u_34, F_u_34, (by omega), (by omega)⟩
theorem kC_Parser_shareMode {u : St} (I : IC u) : okM (mC_Parser_shareMode u) (fun r v => IC v ∧ Fq [4] [] u v ∧ 0 ≤ r.toInt ∧ r.toInt ≤ 6) := by
  have l0 : (0 : Int32).toInt = 0 := by decide
  have l4 : (4 : Int32).toInt = 4 := by decide
  have l5 : (5 : Int32).toInt = 5 := by decide
  have l6 : (6 : Int32).toInt = 6 := by decide
  have l43 : (43 : Int32).toInt = 43 := by decide
  have l71 : (71 : Int32).toInt = 71 := by decide
  have l72 : (72 : Int32).toInt = 72 := by decide
  rw [mC_Parser_shareMode]
  refine okM_bM (kC_Tokens_takes I (by decide)) (fun r_2 u_3 z_1 => ?_)
  obtain ⟨I_u_3, G_u_3, p_4, p_5⟩ := z_1
  have F_u_3 : Fq [4] [] u u_3 := Fq_tr (Fq_rfl u) G_u_3 rfl rfl
  refine okM_eq (fun c_6 c_6' => ?_) (fun c_6 => ?_)
  · refine okM_bM (kC_Tokens_takes I_u_3 (by decide)) (fun r_8 u_9 z_7 => ?_)
    obtain ⟨I_u_9, G_u_9, p_10, p_11⟩ := z_7
    have F_u_9 : Fq [4] [] u u_9 := Fq_tr F_u_3 G_u_9 rfl rfl
    refine okM_eq (fun c_12 c_12' => ?_) (fun c_12 => ?_)
    · exact okM_some ⟨I_u_9, F_u_9, (by omega), (by omega)⟩
    · refine okM_bM (kC_Tokens_takes I_u_9 (by decide)) (fun r_14 u_15 z_13 => ?_)
      obtain ⟨I_u_15, G_u_15, p_16, p_17⟩ := z_13
      have F_u_15 : Fq [4] [] u u_15 := Fq_tr F_u_9 G_u_15 rfl rfl
      refine okM_eq (fun c_18 c_18' => ?_) (fun c_18 => ?_)
      · exact okM_some ⟨I_u_15, F_u_15, (by omega), (by omega)⟩
      · exact okM_some ⟨I_u_15, F_u_15, (by omega), (by omega)⟩
  · refine okM_bM (kC_Tokens_takes I_u_3 (by decide)) (fun r_20 u_21 z_19 => ?_)
    obtain ⟨I_u_21, G_u_21, p_22, p_23⟩ := z_19
    have F_u_21 : Fq [4] [] u u_21 := Fq_tr F_u_3 G_u_21 rfl rfl
    refine okM_eq (fun c_24 c_24' => ?_) (fun c_24 => ?_)
    · exact okM_some ⟨I_u_21, F_u_21, (by omega), (by omega)⟩
    · exact okM_some ⟨I_u_21, F_u_21, (by omega), (by omega)⟩
theorem kC_Parser_lockMode {u : St} (I : IC u) : okM (mC_Parser_lockMode u) (fun r v => IC v ∧ Fq [4, 16] [] u v ∧ 0 ≤ r.toInt ∧ r.toInt ≤ 1) := by
  have l0 : (0 : Int32).toInt = 0 := by decide
  have l1 : (1 : Int32).toInt = 1 := by decide
  have l2 : (2 : Int32).toInt = 2 := by decide
  have l3 : (3 : Int32).toInt = 3 := by decide
  have l8 : (8 : Int32).toInt = 8 := by decide
  have l16 : (16 : Int32).toInt = 16 := by decide
  have l42 : (42 : Int32).toInt = 42 := by decide
  have l70 : (70 : Int32).toInt = 70 := by decide
  have l71 : (71 : Int32).toInt = 71 := by decide
  have l72 : (72 : Int32).toInt = 72 := by decide
  rw [mC_Parser_lockMode]
  refine okM_bM (kC_Tokens_takes I (by decide)) (fun r_2 u_3 z_1 => ?_)
  obtain ⟨I_u_3, G_u_3, p_4, p_5⟩ := z_1
  have F_u_3 : Fq [4, 16] [] u u_3 := Fq_tr (Fq_rfl u) G_u_3 rfl rfl
  refine okM_eq (fun c_6 c_6' => ?_) (fun c_6 => ?_)
  · refine okM_bM (kC_Tokens_takes I_u_3 (by decide)) (fun r_8 u_9 z_7 => ?_)
    obtain ⟨I_u_9, G_u_9, p_10, p_11⟩ := z_7
    have F_u_9 : Fq [4, 16] [] u u_9 := Fq_tr F_u_3 G_u_9 rfl rfl
    refine okM_eq (fun c_12 c_12' => ?_) (fun c_12 => ?_)
    · refine okM_bM (kC_Tokens_takes I_u_9 (by decide)) (fun r_14 u_15 z_13 => ?_)
      obtain ⟨I_u_15, G_u_15, p_16, p_17⟩ := z_13
      have F_u_15 : Fq [4, 16] [] u u_15 := Fq_tr F_u_9 G_u_15 rfl rfl
      refine okM_eq (fun c_18 c_18' => ?_) (fun c_18 => ?_)
      · refine okM_bM (kC_Tokens_takes I_u_15 (by decide)) (fun r_20 u_21 z_19 => ?_)
        obtain ⟨I_u_21, G_u_21, p_22, p_23⟩ := z_19
        have F_u_21 : Fq [4, 16] [] u u_21 := Fq_tr F_u_15 G_u_21 rfl rfl
        refine okM_eq (fun c_24 c_24' => ?_) (fun c_24 => ?_)
        · refine okM_seq (fun u_26 h_25 => ?_)
          have I_u_26 : IC u_26 := by rw [h_25]; exact I_u_21
          have F_u_26 : Fq [4, 16] [] u u_26 := by rw [h_25]; exact Fq_ss F_u_21 rfl
          refine okM_le (fun c_27 => ?_) (fun c_27 => ?_)
          · exact okM_some ⟨I_u_26, F_u_26, (by omega), (by omega)⟩
          · exact okM_some ⟨I_u_26, F_u_26, (by omega), (by omega)⟩
        · refine okM_seq (fun u_29 h_28 => ?_)
          have I_u_29 : IC u_29 := by rw [h_28]; exact I_u_21
          have F_u_29 : Fq [4, 16] [] u u_29 := by rw [h_28]; exact Fq_ss F_u_21 rfl
          refine okM_le (fun c_30 => ?_) (fun c_30 => ?_)
          · exact okM_some ⟨I_u_29, F_u_29, (by omega), (by omega)⟩
          · exact okM_some ⟨I_u_29, F_u_29, (by omega), (by omega)⟩
      · refine okM_bM (kC_Parser_shareMode I_u_15) (fun r_32 u_33 z_31 => ?_)
        obtain ⟨I_u_33, G_u_33, p_34, p_35⟩ := z_31
        have F_u_33 : Fq [4, 16] [] u u_33 := Fq_tr F_u_15 G_u_33 rfl rfl
        refine okM_seq (fun u_37 h_36 => ?_)
        have I_u_37 : IC u_37 := by rw [h_36]; exact I_u_33
        have F_u_37 : Fq [4, 16] [] u u_37 := by rw [h_36]; exact Fq_ss F_u_33 rfl
        refine okM_le (fun c_38 => ?_) (fun c_38 => ?_)
        · exact okM_some ⟨I_u_37, F_u_37, (by omega), (by omega)⟩
        · exact okM_some ⟨I_u_37, F_u_37, (by omega), (by omega)⟩
    · refine okM_bM (kC_Tokens_takes I_u_9 (by decide)) (fun r_40 u_41 z_39 => ?_)
      obtain ⟨I_u_41, G_u_41, p_42, p_43⟩ := z_39
      have F_u_41 : Fq [4, 16] [] u u_41 := Fq_tr F_u_9 G_u_41 rfl rfl
      refine okM_eq (fun c_44 c_44' => ?_) (fun c_44 => ?_)
      · refine okM_bM (kC_Tokens_takes I_u_41 (by decide)) (fun r_46 u_47 z_45 => ?_)
        obtain ⟨I_u_47, G_u_47, p_48, p_49⟩ := z_45
        have F_u_47 : Fq [4, 16] [] u u_47 := Fq_tr F_u_41 G_u_47 rfl rfl
        refine okM_eq (fun c_50 c_50' => ?_) (fun c_50 => ?_)
        · rw [mC_Parser_lockMode_J111]
          refine okM_seq (fun u_52 h_51 => ?_)
          have I_u_52 : IC u_52 := by rw [h_51]; exact I_u_47
          have F_u_52 : Fq [4, 16] [] u u_52 := by rw [h_51]; exact Fq_ss F_u_47 rfl
          refine okM_le (fun c_53 => ?_) (fun c_53 => ?_)
          · exact okM_some ⟨I_u_52, F_u_52, (by omega), (by omega)⟩
          · exact okM_some ⟨I_u_52, F_u_52, (by omega), (by omega)⟩
        · rw [mC_Parser_lockMode_J111]
          refine okM_seq (fun u_55 h_54 => ?_)
          have I_u_55 : IC u_55 := by rw [h_54]; exact I_u_47
          have F_u_55 : Fq [4, 16] [] u u_55 := by rw [h_54]; exact Fq_ss F_u_47 rfl
          refine okM_le (fun c_56 => ?_) (fun c_56 => ?_)
          · exact okM_some ⟨I_u_55, F_u_55, (by omega), (by omega)⟩
          · exact okM_some ⟨I_u_55, F_u_55, (by omega), (by omega)⟩
      · rw [mC_Parser_lockMode_J111]
        refine okM_seq (fun u_58 h_57 => ?_)
        have I_u_58 : IC u_58 := by rw [h_57]; exact I_u_41
        have F_u_58 : Fq [4, 16] [] u u_58 := by rw [h_57]; exact Fq_ss F_u_41 rfl
        refine okM_le (fun c_59 => ?_) (fun c_59 => ?_)
        · exact okM_some ⟨I_u_58, F_u_58, (by omega), (by omega)⟩
        · exact okM_some ⟨I_u_58, F_u_58, (by omega), (by omega)⟩
  · refine okM_bM (kC_Tokens_takes I_u_3 (by decide)) (fun r_61 u_62 z_60 => ?_)
    obtain ⟨I_u_62, G_u_62, p_63, p_64⟩ := z_60
    have F_u_62 : Fq [4, 16] [] u u_62 := Fq_tr F_u_3 G_u_62 rfl rfl
    refine okM_eq (fun c_65 c_65' => ?_) (fun c_65 => ?_)
    · refine okM_bM (kC_Tokens_takes I_u_62 (by decide)) (fun r_67 u_68 z_66 => ?_)
      obtain ⟨I_u_68, G_u_68, p_69, p_70⟩ := z_66
      have F_u_68 : Fq [4, 16] [] u u_68 := Fq_tr F_u_62 G_u_68 rfl rfl
      refine okM_eq (fun c_71 c_71' => ?_) (fun c_71 => ?_)
      · rw [mC_Parser_lockMode_J53]
        refine okM_seq (fun u_73 h_72 => ?_)
        have I_u_73 : IC u_73 := by rw [h_72]; exact I_u_68
        have F_u_73 : Fq [4, 16] [] u u_73 := by rw [h_72]; exact Fq_ss F_u_68 rfl
        refine okM_le (fun c_74 => ?_) (fun c_74 => ?_)
        · exact okM_some ⟨I_u_73, F_u_73, (by omega), (by omega)⟩
        · exact okM_some ⟨I_u_73, F_u_73, (by omega), (by omega)⟩
      · rw [mC_Parser_lockMode_J53]
        refine okM_seq (fun u_76 h_75 => ?_)
        have I_u_76 : IC u_76 := by rw [h_75]; exact I_u_68
        have F_u_76 : Fq [4, 16] [] u u_76 := by rw [h_75]; exact Fq_ss F_u_68 rfl
        refine okM_le (fun c_77 => ?_) (fun c_77 => ?_)
        · exact okM_some ⟨I_u_76, F_u_76, (by omega), (by omega)⟩
        · exact okM_some ⟨I_u_76, F_u_76, (by omega), (by omega)⟩
    · rw [mC_Parser_lockMode_J53]
      refine okM_seq (fun u_79 h_78 => ?_)
      have I_u_79 : IC u_79 := by rw [h_78]; exact I_u_62
      have F_u_79 : Fq [4, 16] [] u u_79 := by rw [h_78]; exact Fq_ss F_u_62 rfl
      refine okM_le (fun c_80 => ?_) (fun c_80 => ?_)
      · exact okM_some ⟨I_u_79, F_u_79, (by omega), (by omega)⟩
      · exact okM_some ⟨I_u_79, F_u_79, (by omega), (by omega)⟩
theorem kC_Parser_otherDeed {u : St} (I : IC u) : okM (mC_Parser_otherDeed u) (fun r v => IC v ∧ Fq [4, 10, 11, 12, 16] [] u v ∧ 0 ≤ r.toInt ∧ r.toInt ≤ 1) := by
  have l0 : (0 : Int32).toInt = 0 := by decide
  have l1 : (1 : Int32).toInt = 1 := by decide
  have l3 : (3 : Int32).toInt = 3 := by decide
  have l10 : (10 : Int32).toInt = 10 := by decide
  have l11 : (11 : Int32).toInt = 11 := by decide
  have l12 : (12 : Int32).toInt = 12 := by decide
  have l13 : (13 : Int32).toInt = 13 := by decide
  have l14 : (14 : Int32).toInt = 14 := by decide
  have l15 : (15 : Int32).toInt = 15 := by decide
  have l18 : (18 : Int32).toInt = 18 := by decide
  have l19 : (19 : Int32).toInt = 19 := by decide
  have l51 : (51 : Int32).toInt = 51 := by decide
  have l58 : (58 : Int32).toInt = 58 := by decide
  have l59 : (59 : Int32).toInt = 59 := by decide
  have l64 : (64 : Int32).toInt = 64 := by decide
  have l65 : (65 : Int32).toInt = 65 := by decide
  have l66 : (66 : Int32).toInt = 66 := by decide
  have l67 : (67 : Int32).toInt = 67 := by decide
  have l68 : (68 : Int32).toInt = 68 := by decide
  have l69 : (69 : Int32).toInt = 69 := by decide
  have l73 : (73 : Int32).toInt = 73 := by decide
  have l74 : (74 : Int32).toInt = 74 := by decide
  rw [mC_Parser_otherDeed]
  refine okM_bM (kC_Tokens_takes I (by decide)) (fun r_2 u_3 z_1 => ?_)
  obtain ⟨I_u_3, G_u_3, p_4, p_5⟩ := z_1
  have F_u_3 : Fq [4, 10, 11, 12, 16] [] u u_3 := Fq_tr (Fq_rfl u) G_u_3 rfl rfl
  refine okM_eq (fun c_6 c_6' => ?_) (fun c_6 => ?_)
  · refine okM_bM (kC_Tokens_takes I_u_3 (by decide)) (fun r_8 u_9 z_7 => ?_)
    obtain ⟨I_u_9, G_u_9, p_10, p_11⟩ := z_7
    have F_u_9 : Fq [4, 10, 11, 12, 16] [] u u_9 := Fq_tr F_u_3 G_u_9 rfl rfl
    refine okM_eq (fun c_12 c_12' => ?_) (fun c_12 => ?_)
    · refine okM_bM (kC_Tokens_takes I_u_9 (by decide)) (fun r_14 u_15 z_13 => ?_)
      obtain ⟨I_u_15, G_u_15, p_16, p_17⟩ := z_13
      have F_u_15 : Fq [4, 10, 11, 12, 16] [] u u_15 := Fq_tr F_u_9 G_u_15 rfl rfl
      refine okM_eq (fun c_18 c_18' => ?_) (fun c_18 => ?_)
      · refine okM_bM (kC_Tokens_takes I_u_15 (by decide)) (fun r_20 u_21 z_19 => ?_)
        obtain ⟨I_u_21, G_u_21, p_22, p_23⟩ := z_19
        have F_u_21 : Fq [4, 10, 11, 12, 16] [] u u_21 := Fq_tr F_u_15 G_u_21 rfl rfl
        refine okM_eq (fun c_24 c_24' => ?_) (fun c_24 => ?_)
        · refine okM_bM (kC_Tokens_takes I_u_21 (by decide)) (fun r_26 u_27 z_25 => ?_)
          obtain ⟨I_u_27, G_u_27, p_28, p_29⟩ := z_25
          have F_u_27 : Fq [4, 10, 11, 12, 16] [] u u_27 := Fq_tr F_u_21 G_u_27 rfl rfl
          refine okM_eq (fun c_30 c_30' => ?_) (fun c_30 => ?_)
          · refine okM_bM (kC_Tokens_takes I_u_27 (by decide)) (fun r_32 u_33 z_31 => ?_)
            obtain ⟨I_u_33, G_u_33, p_34, p_35⟩ := z_31
            have F_u_33 : Fq [4, 10, 11, 12, 16] [] u u_33 := Fq_tr F_u_27 G_u_33 rfl rfl
            refine okM_eq (fun c_36 c_36' => ?_) (fun c_36 => ?_)
            · refine okM_bM (kC_Tokens_takes I_u_33 (by decide)) (fun r_38 u_39 z_37 => ?_)
              obtain ⟨I_u_39, G_u_39, p_40, p_41⟩ := z_37
              have F_u_39 : Fq [4, 10, 11, 12, 16] [] u u_39 := Fq_tr F_u_33 G_u_39 rfl rfl
              refine okM_eq (fun c_42 c_42' => ?_) (fun c_42 => ?_)
              · refine okM_bM (kC_Tokens_takes I_u_39 (by decide)) (fun r_44 u_45 z_43 => ?_)
                obtain ⟨I_u_45, G_u_45, p_46, p_47⟩ := z_43
                have F_u_45 : Fq [4, 10, 11, 12, 16] [] u u_45 := Fq_tr F_u_39 G_u_45 rfl rfl
                refine okM_eq (fun c_48 c_48' => ?_) (fun c_48 => ?_)
                · refine okM_bM (kC_Tokens_takes I_u_45 (by decide)) (fun r_50 u_51 z_49 => ?_)
                  obtain ⟨I_u_51, G_u_51, p_52, p_53⟩ := z_49
                  have F_u_51 : Fq [4, 10, 11, 12, 16] [] u u_51 := Fq_tr F_u_45 G_u_51 rfl rfl
                  refine okM_eq (fun c_54 c_54' => ?_) (fun c_54 => ?_)
                  · exact okM_some ⟨I_u_51, F_u_51, (by omega), (by omega)⟩
                  · refine okM_bM (kC_Parser_is I_u_51) (fun r_56 u_57 z_55 => ?_)
                    obtain ⟨I_u_57, G_u_57, p_58, p_59⟩ := z_55
                    have F_u_57 : Fq [4, 10, 11, 12, 16] [] u u_57 := Fq_tr F_u_51 G_u_57 rfl rfl
                    refine okM_eq (fun c_60 c_60' => ?_) (fun c_60 => ?_)
                    · exact okM_some ⟨I_u_57, F_u_57, (by omega), (by omega)⟩
                    · exact okM_some ⟨I_u_57, F_u_57, (by omega), (by omega)⟩
                · refine okM_bM (kC_Parser_target I_u_45) (fun r_62 u_63 z_61 => ?_)
                  obtain ⟨I_u_63, G_u_63, p_64, p_65⟩ := z_61
                  have F_u_63 : Fq [4, 10, 11, 12, 16] [] u u_63 := Fq_tr F_u_45 G_u_63 rfl rfl
                  refine okM_eq (fun c_66 c_66' => ?_) (fun c_66 => ?_)
                  · exact okM_some ⟨I_u_63, F_u_63, (by omega), (by omega)⟩
                  · refine okM_bM (kC_Parser_is I_u_63) (fun r_68 u_69 z_67 => ?_)
                    obtain ⟨I_u_69, G_u_69, p_70, p_71⟩ := z_67
                    have F_u_69 : Fq [4, 10, 11, 12, 16] [] u u_69 := Fq_tr F_u_63 G_u_69 rfl rfl
                    refine okM_eq (fun c_72 c_72' => ?_) (fun c_72 => ?_)
                    · exact okM_some ⟨I_u_69, F_u_69, (by omega), (by omega)⟩
                    · exact okM_some ⟨I_u_69, F_u_69, (by omega), (by omega)⟩
              · refine okM_bM (kC_Parser_target I_u_39) (fun r_74 u_75 z_73 => ?_)
                obtain ⟨I_u_75, G_u_75, p_76, p_77⟩ := z_73
                have F_u_75 : Fq [4, 10, 11, 12, 16] [] u u_75 := Fq_tr F_u_39 G_u_75 rfl rfl
                refine okM_eq (fun c_78 c_78' => ?_) (fun c_78 => ?_)
                · exact okM_some ⟨I_u_75, F_u_75, (by omega), (by omega)⟩
                · refine okM_bM (kC_Parser_lockMode I_u_75) (fun r_80 u_81 z_79 => ?_)
                  obtain ⟨I_u_81, G_u_81, p_82, p_83⟩ := z_79
                  have F_u_81 : Fq [4, 10, 11, 12, 16] [] u u_81 := Fq_tr F_u_75 G_u_81 rfl rfl
                  refine okM_eq (fun c_84 c_84' => ?_) (fun c_84 => ?_)
                  · exact okM_some ⟨I_u_81, F_u_81, (by omega), (by omega)⟩
                  · refine okM_bM (kC_Parser_is I_u_81) (fun r_86 u_87 z_85 => ?_)
                    obtain ⟨I_u_87, G_u_87, p_88, p_89⟩ := z_85
                    have F_u_87 : Fq [4, 10, 11, 12, 16] [] u u_87 := Fq_tr F_u_81 G_u_87 rfl rfl
                    refine okM_eq (fun c_90 c_90' => ?_) (fun c_90 => ?_)
                    · exact okM_some ⟨I_u_87, F_u_87, (by omega), (by omega)⟩
                    · exact okM_some ⟨I_u_87, F_u_87, (by omega), (by omega)⟩
            · refine okM_bM (kC_Parser_title I_u_33) (fun r_92 u_93 z_91 => ?_)
              obtain ⟨I_u_93, G_u_93, p_94, p_95⟩ := z_91
              have F_u_93 : Fq [4, 10, 11, 12, 16] [] u u_93 := Fq_tr F_u_33 G_u_93 rfl rfl
              refine okM_eq (fun c_96 c_96' => ?_) (fun c_96 => ?_)
              · exact okM_some ⟨I_u_93, F_u_93, (by omega), (by omega)⟩
              · refine okM_bM (kC_Parser_is I_u_93) (fun r_98 u_99 z_97 => ?_)
                obtain ⟨I_u_99, G_u_99, p_100, p_101⟩ := z_97
                have F_u_99 : Fq [4, 10, 11, 12, 16] [] u u_99 := Fq_tr F_u_93 G_u_99 rfl rfl
                refine okM_eq (fun c_102 c_102' => ?_) (fun c_102 => ?_)
                · exact okM_some ⟨I_u_99, F_u_99, (by omega), (by omega)⟩
                · exact okM_some ⟨I_u_99, F_u_99, (by omega), (by omega)⟩
          · refine okM_bM (kC_Parser_title I_u_27) (fun r_104 u_105 z_103 => ?_)
            obtain ⟨I_u_105, G_u_105, p_106, p_107⟩ := z_103
            have F_u_105 : Fq [4, 10, 11, 12, 16] [] u u_105 := Fq_tr F_u_27 G_u_105 rfl rfl
            refine okM_eq (fun c_108 c_108' => ?_) (fun c_108 => ?_)
            · exact okM_some ⟨I_u_105, F_u_105, (by omega), (by omega)⟩
            · refine okM_bM (kC_Parser_is I_u_105) (fun r_110 u_111 z_109 => ?_)
              obtain ⟨I_u_111, G_u_111, p_112, p_113⟩ := z_109
              have F_u_111 : Fq [4, 10, 11, 12, 16] [] u u_111 := Fq_tr F_u_105 G_u_111 rfl rfl
              refine okM_eq (fun c_114 c_114' => ?_) (fun c_114 => ?_)
              · exact okM_some ⟨I_u_111, F_u_111, (by omega), (by omega)⟩
              · exact okM_some ⟨I_u_111, F_u_111, (by omega), (by omega)⟩
        · refine okM_bM (kC_Tokens_takes I_u_21 (by decide)) (fun r_116 u_117 z_115 => ?_)
          obtain ⟨I_u_117, G_u_117, p_118, p_119⟩ := z_115
          have F_u_117 : Fq [4, 10, 11, 12, 16] [] u u_117 := Fq_tr F_u_21 G_u_117 rfl rfl
          refine okM_eq (fun c_120 c_120' => ?_) (fun c_120 => ?_)
          · refine okM_bM (kC_Parser_is I_u_117) (fun r_122 u_123 z_121 => ?_)
            obtain ⟨I_u_123, G_u_123, p_124, p_125⟩ := z_121
            have F_u_123 : Fq [4, 10, 11, 12, 16] [] u u_123 := Fq_tr F_u_117 G_u_123 rfl rfl
            refine okM_gd (zb_of (by omega) (by omega)) ?_
            exact okM_some ⟨I_u_123, F_u_123, (by omega), (by omega)⟩
          · refine okM_bM (kC_Parser_title I_u_117) (fun r_127 u_128 z_126 => ?_)
            obtain ⟨I_u_128, G_u_128, p_129, p_130⟩ := z_126
            have F_u_128 : Fq [4, 10, 11, 12, 16] [] u u_128 := Fq_tr F_u_117 G_u_128 rfl rfl
            refine okM_eq (fun c_131 c_131' => ?_) (fun c_131 => ?_)
            · exact okM_some ⟨I_u_128, F_u_128, (by omega), (by omega)⟩
            · refine okM_bM (kC_Parser_is I_u_128) (fun r_133 u_134 z_132 => ?_)
              obtain ⟨I_u_134, G_u_134, p_135, p_136⟩ := z_132
              have F_u_134 : Fq [4, 10, 11, 12, 16] [] u u_134 := Fq_tr F_u_128 G_u_134 rfl rfl
              refine okM_eq (fun c_137 c_137' => ?_) (fun c_137 => ?_)
              · exact okM_some ⟨I_u_134, F_u_134, (by omega), (by omega)⟩
              · exact okM_some ⟨I_u_134, F_u_134, (by omega), (by omega)⟩
      · refine okM_bM (kC_Parser_is I_u_15) (fun r_139 u_140 z_138 => ?_)
        obtain ⟨I_u_140, G_u_140, p_141, p_142⟩ := z_138
        have F_u_140 : Fq [4, 10, 11, 12, 16] [] u u_140 := Fq_tr F_u_15 G_u_140 rfl rfl
        refine okM_gd (zb_of (by omega) (by omega)) ?_
        exact okM_some ⟨I_u_140, F_u_140, (by omega), (by omega)⟩
    · refine okM_bM (kC_Parser_begin I_u_9) (fun r_144 u_145 z_143 => ?_)
      obtain ⟨I_u_145, G_u_145, p_146, p_147⟩ := z_143
      have F_u_145 : Fq [4, 10, 11, 12, 16] [] u u_145 := Fq_tr F_u_9 G_u_145 rfl rfl
      refine okM_gd (zb_of (by omega) (by omega)) ?_
      exact okM_some ⟨I_u_145, F_u_145, (by omega), (by omega)⟩
  · refine okM_bM (kC_Tokens_takes I_u_3 (by decide)) (fun r_149 u_150 z_148 => ?_)
    obtain ⟨I_u_150, G_u_150, p_151, p_152⟩ := z_148
    have F_u_150 : Fq [4, 10, 11, 12, 16] [] u u_150 := Fq_tr F_u_3 G_u_150 rfl rfl
    refine okM_eq (fun c_153 c_153' => ?_) (fun c_153 => ?_)
    · exact okM_some ⟨I_u_150, F_u_150, (by omega), (by omega)⟩
    · refine okM_bM (kC_Parser_target I_u_150) (fun r_155 u_156 z_154 => ?_)
      obtain ⟨I_u_156, G_u_156, p_157, p_158⟩ := z_154
      have F_u_156 : Fq [4, 10, 11, 12, 16] [] u u_156 := Fq_tr F_u_150 G_u_156 rfl rfl
      refine okM_eq (fun c_159 c_159' => ?_) (fun c_159 => ?_)
      · exact okM_some ⟨I_u_156, F_u_156, (by omega), (by omega)⟩
      · refine okM_bM (kC_Parser_is I_u_156) (fun r_161 u_162 z_160 => ?_)
        obtain ⟨I_u_162, G_u_162, p_163, p_164⟩ := z_160
        have F_u_162 : Fq [4, 10, 11, 12, 16] [] u u_162 := Fq_tr F_u_156 G_u_162 rfl rfl
        refine okM_eq (fun c_165 c_165' => ?_) (fun c_165 => ?_)
        · exact okM_some ⟨I_u_162, F_u_162, (by omega), (by omega)⟩
        · exact okM_some ⟨I_u_162, F_u_162, (by omega), (by omega)⟩
