theorem kC_Parser_deed {u : St} (I : IC u) : okM (mC_Parser_deed u) (fun r v => IC v ∧ Fq [4, 6, 7, 8, 10, 11, 12, 14, 16, 17, 18, 19, 20, 21, 23] [8, 9, 10, 11, 12, 13, 14, 15, 16, 17, 18] u v) := by
  have l0 : (0 : Int32).toInt = 0 := by decide
  have l3 : (3 : Int32).toInt = 3 := by decide
  have l5 : (5 : Int32).toInt = 5 := by decide
  have l8 : (8 : Int32).toInt = 8 := by decide
  have l22 : (22 : Int32).toInt = 22 := by decide
  have l43 : (43 : Int32).toInt = 43 := by decide
  have l44 : (44 : Int32).toInt = 44 := by decide
  have l45 : (45 : Int32).toInt = 45 := by decide
  have l48 : (48 : Int32).toInt = 48 := by decide
  have l49 : (49 : Int32).toInt = 49 := by decide
  have l50 : (50 : Int32).toInt = 50 := by decide
  rw [mC_Parser_deed]
  refine okM_bM (kC_Tokens_takes I (by decide)) (fun r_2 u_3 z_1 => ?_)
  obtain ⟨I_u_3, G_u_3, p_4, p_5⟩ := z_1
  have F_u_3 : Fq [4, 6, 7, 8, 10, 11, 12, 14, 16, 17, 18, 19, 20, 21, 23] [8, 9, 10, 11, 12, 13, 14, 15, 16, 17, 18] u u_3 := Fq_tr (Fq_rfl u) G_u_3 rfl rfl
  refine okM_eq (fun c_6 c_6' => ?_) (fun c_6 => ?_)
  · refine okM_bM (kC_Tokens_takes I_u_3 (by decide)) (fun r_8 u_9 z_7 => ?_)
    obtain ⟨I_u_9, G_u_9, p_10, p_11⟩ := z_7
    have F_u_9 : Fq [4, 6, 7, 8, 10, 11, 12, 14, 16, 17, 18, 19, 20, 21, 23] [8, 9, 10, 11, 12, 13, 14, 15, 16, 17, 18] u u_9 := Fq_tr F_u_3 G_u_9 rfl rfl
    refine okM_eq (fun c_12 c_12' => ?_) (fun c_12 => ?_)
    · refine okM_bM (kC_Tokens_takes I_u_9 (by decide)) (fun r_14 u_15 z_13 => ?_)
      obtain ⟨I_u_15, G_u_15, p_16, p_17⟩ := z_13
      have F_u_15 : Fq [4, 6, 7, 8, 10, 11, 12, 14, 16, 17, 18, 19, 20, 21, 23] [8, 9, 10, 11, 12, 13, 14, 15, 16, 17, 18] u u_15 := Fq_tr F_u_9 G_u_15 rfl rfl
      refine okM_eq (fun c_18 c_18' => ?_) (fun c_18 => ?_)
      · refine okM_bM (kC_Tokens_takes I_u_15 (by decide)) (fun r_20 u_21 z_19 => ?_)
        obtain ⟨I_u_21, G_u_21, p_22, p_23⟩ := z_19
        have F_u_21 : Fq [4, 6, 7, 8, 10, 11, 12, 14, 16, 17, 18, 19, 20, 21, 23] [8, 9, 10, 11, 12, 13, 14, 15, 16, 17, 18] u u_21 := Fq_tr F_u_15 G_u_21 rfl rfl
        refine okM_eq (fun c_24 c_24' => ?_) (fun c_24 => ?_)
        · refine okM_eq (fun c_25 c_25' => ?_) (fun c_25 => ?_)
          · refine okM_bM (kC_Tokens_takes I_u_21 (by decide)) (fun r_27 u_28 z_26 => ?_)
            obtain ⟨I_u_28, G_u_28, p_29, p_30⟩ := z_26
            have F_u_28 : Fq [4, 6, 7, 8, 10, 11, 12, 14, 16, 17, 18, 19, 20, 21, 23] [8, 9, 10, 11, 12, 13, 14, 15, 16, 17, 18] u u_28 := Fq_tr F_u_21 G_u_28 rfl rfl
            refine okM_eq (fun c_31 c_31' => ?_) (fun c_31 => ?_)
            · refine okM_bM (kC_Tokens_takes I_u_28 (by decide)) (fun r_33 u_34 z_32 => ?_)
              obtain ⟨I_u_34, G_u_34, p_35, p_36⟩ := z_32
              have F_u_34 : Fq [4, 6, 7, 8, 10, 11, 12, 14, 16, 17, 18, 19, 20, 21, 23] [8, 9, 10, 11, 12, 13, 14, 15, 16, 17, 18] u u_34 := Fq_tr F_u_28 G_u_34 rfl rfl
              refine okM_eq (fun c_37 c_37' => ?_) (fun c_37 => ?_)
              · refine okM_bM (kC_Parser_otherDeed I_u_34) (fun r_39 u_40 z_38 => ?_)
                obtain ⟨I_u_40, G_u_40, p_41, p_42⟩ := z_38
                have F_u_40 : Fq [4, 6, 7, 8, 10, 11, 12, 14, 16, 17, 18, 19, 20, 21, 23] [8, 9, 10, 11, 12, 13, 14, 15, 16, 17, 18] u u_40 := Fq_tr F_u_34 G_u_40 rfl rfl
                refine okM_gd (zb_of (by omega) (by omega)) ?_
                exact okM_some ⟨I_u_40, F_u_40⟩
              · refine okM_bM (kC_Parser_create I_u_34) (fun r_44 u_45 z_43 => ?_)
                obtain ⟨I_u_45, G_u_45, p_46, p_47⟩ := z_43
                have F_u_45 : Fq [4, 6, 7, 8, 10, 11, 12, 14, 16, 17, 18, 19, 20, 21, 23] [8, 9, 10, 11, 12, 13, 14, 15, 16, 17, 18] u u_45 := Fq_tr F_u_34 G_u_45 rfl rfl
                refine okM_gd (zb_of (by omega) (by omega)) ?_
                exact okM_some ⟨I_u_45, F_u_45⟩
            · refine okM_bM (kC_Parser_execute I_u_28) (fun r_49 u_50 z_48 => ?_)
              obtain ⟨I_u_50, G_u_50, p_51, p_52⟩ := z_48
              have F_u_50 : Fq [4, 6, 7, 8, 10, 11, 12, 14, 16, 17, 18, 19, 20, 21, 23] [8, 9, 10, 11, 12, 13, 14, 15, 16, 17, 18] u u_50 := Fq_tr F_u_28 G_u_50 rfl rfl
              refine okM_gd (zb_of (by omega) (by omega)) ?_
              exact okM_some ⟨I_u_50, F_u_50⟩
          · exact okM_some ⟨I_u_21, F_u_21⟩
        · refine okM_bM (kC_Parser_delete I_u_21) (fun r_54 u_55 z_53 => ?_)
          obtain ⟨I_u_55, G_u_55, p_56, p_57⟩ := z_53
          have F_u_55 : Fq [4, 6, 7, 8, 10, 11, 12, 14, 16, 17, 18, 19, 20, 21, 23] [8, 9, 10, 11, 12, 13, 14, 15, 16, 17, 18] u u_55 := Fq_tr F_u_21 G_u_55 rfl rfl
          refine okM_gd (zb_of (by omega) (by omega)) ?_
          exact okM_some ⟨I_u_55, F_u_55⟩
      · refine okM_bM (kC_Parser_update I_u_15) (fun r_59 u_60 z_58 => ?_)
        obtain ⟨I_u_60, G_u_60, p_61, p_62⟩ := z_58
        have F_u_60 : Fq [4, 6, 7, 8, 10, 11, 12, 14, 16, 17, 18, 19, 20, 21, 23] [8, 9, 10, 11, 12, 13, 14, 15, 16, 17, 18] u u_60 := Fq_tr F_u_15 G_u_60 rfl rfl
        refine okM_gd (zb_of (by omega) (by omega)) ?_
        exact okM_some ⟨I_u_60, F_u_60⟩
    · refine okM_bM (kC_Tokens_takes I_u_9 (by decide)) (fun r_64 u_65 z_63 => ?_)
      obtain ⟨I_u_65, G_u_65, p_66, p_67⟩ := z_63
      have F_u_65 : Fq [4, 6, 7, 8, 10, 11, 12, 14, 16, 17, 18, 19, 20, 21, 23] [8, 9, 10, 11, 12, 13, 14, 15, 16, 17, 18] u u_65 := Fq_tr F_u_9 G_u_65 rfl rfl
      refine okM_eq (fun c_68 c_68' => ?_) (fun c_68 => ?_)
      · exact okM_some ⟨I_u_65, F_u_65⟩
      · refine okM_bM (kC_Parser_target I_u_65) (fun r_70 u_71 z_69 => ?_)
        obtain ⟨I_u_71, G_u_71, p_72, p_73⟩ := z_69
        have F_u_71 : Fq [4, 6, 7, 8, 10, 11, 12, 14, 16, 17, 18, 19, 20, 21, 23] [8, 9, 10, 11, 12, 13, 14, 15, 16, 17, 18] u u_71 := Fq_tr F_u_65 G_u_71 rfl rfl
        refine okM_eq (fun c_74 c_74' => ?_) (fun c_74 => ?_)
        · exact okM_some ⟨I_u_71, F_u_71⟩
        · refine okM_bM (kC_Tokens_takes I_u_71 (by decide)) (fun r_76 u_77 z_75 => ?_)
          obtain ⟨I_u_77, G_u_77, p_78, p_79⟩ := z_75
          have F_u_77 : Fq [4, 6, 7, 8, 10, 11, 12, 14, 16, 17, 18, 19, 20, 21, 23] [8, 9, 10, 11, 12, 13, 14, 15, 16, 17, 18] u u_77 := Fq_tr F_u_71 G_u_77 rfl rfl
          refine okM_eq (fun c_80 c_80' => ?_) (fun c_80 => ?_)
          · refine okM_bM (kC_Parser_rows I_u_77) (fun r_82 u_83 z_81 => ?_)
            obtain ⟨I_u_83, G_u_83, p_84, p_85⟩ := z_81
            have F_u_83 : Fq [4, 6, 7, 8, 10, 11, 12, 14, 16, 17, 18, 19, 20, 21, 23] [8, 9, 10, 11, 12, 13, 14, 15, 16, 17, 18] u u_83 := Fq_tr F_u_77 G_u_83 rfl rfl
            refine okM_gd (zb_of (by omega) (by omega)) ?_
            exact okM_some ⟨I_u_83, F_u_83⟩
          · refine okM_bM (kC_Parser_query I_u_77) (fun r_87 u_88 z_86 => ?_)
            obtain ⟨I_u_88, G_u_88, p_89, p_90⟩ := z_86
            have F_u_88 : Fq [4, 6, 7, 8, 10, 11, 12, 14, 16, 17, 18, 19, 20, 21, 23] [8, 9, 10, 11, 12, 13, 14, 15, 16, 17, 18] u u_88 := Fq_tr F_u_77 G_u_88 rfl rfl
            refine okM_gd (zb_of (by omega) (by omega)) ?_
            exact okM_some ⟨I_u_88, F_u_88⟩
  · refine okM_bM (kC_Parser_query I_u_3) (fun r_92 u_93 z_91 => ?_)
    obtain ⟨I_u_93, G_u_93, p_94, p_95⟩ := z_91
    have F_u_93 : Fq [4, 6, 7, 8, 10, 11, 12, 14, 16, 17, 18, 19, 20, 21, 23] [8, 9, 10, 11, 12, 13, 14, 15, 16, 17, 18] u u_93 := Fq_tr F_u_3 G_u_93 rfl rfl
    refine okM_gd (zb_of (by omega) (by omega)) ?_
    exact okM_some ⟨I_u_93, F_u_93⟩
theorem kC_Tokens_ended {u : St} (I : IC u) : ok (mC_Tokens_ended u) (fun r => 0 ≤ r.toInt ∧ r.toInt ≤ 1) := by
  have l0 : (0 : Int32).toInt = 0 := by decide
  have l1 : (1 : Int32).toInt = 1 := by decide
  have l3 : (3 : Int32).toInt = 3 := by decide
  have l4 : (4 : Int32).toInt = 4 := by decide
  rw [mC_Tokens_ended]
  refine ok_lt (fun c_1 => ?_) (fun c_1 => ?_)
  · exact ok_some ⟨(by omega), (by omega)⟩
  · exact ok_some ⟨(by omega), (by omega)⟩
theorem kC_Parser_ends {u : St} (I : IC u) : okM (mC_Parser_ends u) (fun r v => IC v ∧ Fq [4, 9] [] u v ∧ 0 ≤ r.toInt ∧ r.toInt ≤ 1) := by
  have l0 : (0 : Int32).toInt = 0 := by decide
  have l1 : (1 : Int32).toInt = 1 := by decide
  have l22 : (22 : Int32).toInt = 22 := by decide
  have l75 : (75 : Int32).toInt = 75 := by decide
  rw [mC_Parser_ends]
  refine okM_bM (kC_Tokens_takes I (by decide)) (fun r_2 u_3 z_1 => ?_)
  obtain ⟨I_u_3, G_u_3, p_4, p_5⟩ := z_1
  have F_u_3 : Fq [4, 9] [] u u_3 := Fq_tr (Fq_rfl u) G_u_3 rfl rfl
  refine okM_eq (fun c_6 c_6' => ?_) (fun c_6 => ?_)
  · refine okM_seq (fun u_8 h_7 => ?_)
    have I_u_8 : IC u_8 := by rw [h_7]; exact I_u_3
    have F_u_8 : Fq [4, 9] [] u u_8 := by rw [h_7]; exact Fq_ss F_u_3 rfl
    refine okM_bP (kC_Tokens_ended I_u_8) (fun r_10 z_9 => ?_)
    obtain ⟨p_11, p_12⟩ := z_9
    refine okM_gd (zb_of (by omega) (by omega)) ?_
    exact okM_some ⟨I_u_8, F_u_8, (by omega), (by omega)⟩
  · refine okM_seq (fun u_14 h_13 => ?_)
    have I_u_14 : IC u_14 := by rw [h_13]; exact I_u_3
    have F_u_14 : Fq [4, 9] [] u u_14 := by rw [h_13]; exact Fq_ss F_u_3 rfl
    refine okM_bP (kC_Tokens_ended I_u_14) (fun r_16 z_15 => ?_)
    obtain ⟨p_17, p_18⟩ := z_15
    refine okM_gd (zb_of (by omega) (by omega)) ?_
    exact okM_some ⟨I_u_14, F_u_14, (by omega), (by omega)⟩
theorem kC_Nodes_isOver {u : St} (I : IC u) : ok (mC_Nodes_isOver u) (fun r => True) := by
  have l7 : (7 : Int32).toInt = 7 := by decide
  rw [mC_Nodes_isOver]
  refine ok_gd (zb_of (by have B_1 := IC_b I; omega) (by have B_2 := IC_b I; omega)) ?_
  exact ok_some trivial
theorem kC_Lists_isOver {u : St} (I : IC u) : ok (mC_Lists_isOver u) (fun r => True) := by
  have l8 : (8 : Int32).toInt = 8 := by decide
  rw [mC_Lists_isOver]
  refine ok_gd (zb_of (by have B_1 := IC_b I; omega) (by have B_2 := IC_b I; omega)) ?_
  exact ok_some trivial
theorem kC_Text_same_4_11_L20 : ∀ (n : Nat) {x1 : Int32} {x3 : Int32} {x4 : Int32} {x5 : Int32} {u : St} (I : IC u) (h0 : 0 ≤ x5.toInt) (h1 : x5.toInt ≤ 31) (h2 : x4.toInt ≤ 31) (hm : (31 - x5.toInt).toNat < n), ok (mC_Text_same_4_11_L20 n x1 x3 x4 x5 u) (fun r => 0 ≤ r.toInt ∧ r.toInt ≤ 1) := by
  intro n
  induction n with
  | zero => intro x1 x3 x4 x5 u I h0 h1 h2 hm; exact absurd hm (Nat.not_lt_zero _)
  | succ n ih =>
    intro x1 x3 x4 x5 u I h0 h1 h2 hm
    have l0 : (0 : Int32).toInt = 0 := by decide
    have l1 : (1 : Int32).toInt = 1 := by decide
    have l31 : (31 : Int32).toInt = 31 := by decide
    rw [mC_Text_same_4_11_L20]
    refine ok_le (fun c_1 => ?_) (fun c_1 => ?_)
    · exact ok_some ⟨(by omega), (by omega)⟩
    · refine ok_bP (kC_Text_startOf I) (fun r_3 z_2 => ?_)
      try have e_4 : (r_3 + x5 : Int32).toInt = (r_3 : Int32).toInt + (x5 : Int32).toInt := by exact add_i (by omega) (by omega)
      refine ok_bP (kC_Text_at_4 I) (fun r_6 z_5 => ?_)
      obtain ⟨p_7, p_8, p_9⟩ := z_5
      refine ok_bP (kC_Text_startOf I) (fun r_11 z_10 => ?_)
      try have e_12 : (r_11 + x5 : Int32).toInt = (r_11 : Int32).toInt + (x5 : Int32).toInt := by exact add_i (by omega) (by omega)
      refine ok_bP (kC_Text_at_11 I) (fun r_14 z_13 => ?_)
      obtain ⟨p_15, p_16, p_17⟩ := z_13
      refine ok_eq (fun c_18 c_18' => ?_) (fun c_18 => ?_)
      · try have e_21 : (x5 + 1 : Int32).toInt = (x5 : Int32).toInt + (1 : Int32).toInt := by exact add_i (by omega) (by omega)
        refine ok_seq (fun y_20 h_19 => ?_)
        have h_19' : y_20.toInt = (x5 + 1 : Int32).toInt := by rw [h_19]
        refine ok_mono (ih I (by have B_22 := IC_b I; omega) (by have B_23 := IC_b I; omega) (by have B_24 := IC_b I; omega) (by have B_25 := IC_b I; omega)) (fun r_27 z_26 => ?_)
        obtain ⟨p_28, p_29⟩ := z_26
        exact ⟨(by omega), (by omega)⟩
      · exact ok_some ⟨(by omega), (by omega)⟩
theorem kC_Text_same_4_11 {x1 : Int32} {x3 : Int32} {u : St} (I : IC u) : ok (mC_Text_same_4_11 x1 x3 u) (fun r => 0 ≤ r.toInt ∧ r.toInt ≤ 1) := by
  have l0 : (0 : Int32).toInt = 0 := by decide
  have l1 : (1 : Int32).toInt = 1 := by decide
  have l31 : (31 : Int32).toInt = 31 := by decide
  rw [mC_Text_same_4_11]
  refine ok_bP (kC_Text_sizeOf I) (fun r_2 z_1 => ?_)
  obtain ⟨p_3, p_4, p_5⟩ := z_1
  refine ok_bP (kC_Text_sizeOf I) (fun r_7 z_6 => ?_)
  obtain ⟨p_8, p_9, p_10⟩ := z_6
  refine ok_eq (fun c_11 c_11' => ?_) (fun c_11 => ?_)
  · refine ok_mono (kC_Text_same_4_11_L20 _ I (by have FUe : FU = 100000 := rfl; have B_12 := IC_b I; omega) (by have FUe : FU = 100000 := rfl; have B_13 := IC_b I; omega) (by have FUe : FU = 100000 := rfl; have B_14 := IC_b I; omega) (by have FUe : FU = 100000 := rfl; have B_15 := IC_b I; omega)) (fun r_17 z_16 => ?_)
    obtain ⟨p_18, p_19⟩ := z_16
    exact ⟨(by omega), (by omega)⟩
  · exact ok_some ⟨(by omega), (by omega)⟩
theorem kC_Catalog_findTable_3_11_L2 : ∀ (n : Nat) {x2 : Int32} {x3 : Int32} {u : St} (I : IC u) (h0 : 0 ≤ x3.toInt) (h1 : x3.toInt ≤ 8) (hm : (8 - x3.toInt).toNat < n), ok (mC_Catalog_findTable_3_11_L2 n x2 x3 u) (fun r => -1 ≤ r.toInt ∧ r.toInt ≤ 8) := by
  intro n
  induction n with
  | zero => intro x2 x3 u I h0 h1 hm; exact absurd hm (Nat.not_lt_zero _)
  | succ n ih =>
    intro x2 x3 u I h0 h1 hm
    have lm1 : (-1 : Int32).toInt = -1 := by decide
    have l0 : (0 : Int32).toInt = 0 := by decide
    have l1 : (1 : Int32).toInt = 1 := by decide
    have l2 : (2 : Int32).toInt = 2 := by decide
    have l8 : (8 : Int32).toInt = 8 := by decide
    rw [mC_Catalog_findTable_3_11_L2]
    refine ok_le (fun c_1 => ?_) (fun c_1 => ?_)
    · exact ok_some ⟨(by omega), (by omega)⟩
    · refine ok_gd (inb_of (by have B_2 := IC_b I; omega) (by have B_3 := IC_b I; omega)) ?_
      refine ok_bP (kC_Text_same_4_11 I) (fun r_5 z_4 => ?_)
      obtain ⟨p_6, p_7⟩ := z_4
      refine ok_eq (fun c_8 c_8' => ?_) (fun c_8 => ?_)
      · try have e_11 : (x3 + 1 : Int32).toInt = (x3 : Int32).toInt + (1 : Int32).toInt := by exact add_i (by omega) (by omega)
        refine ok_seq (fun y_10 h_9 => ?_)
        have h_9' : y_10.toInt = (x3 + 1 : Int32).toInt := by rw [h_9]
        refine ok_mono (ih I (by have B_12 := IC_b I; omega) (by have B_13 := IC_b I; omega) (by have B_14 := IC_b I; omega)) (fun r_16 z_15 => ?_)
        obtain ⟨p_17, p_18⟩ := z_15
        exact ⟨(by omega), (by omega)⟩
      · exact ok_some ⟨(by omega), (by omega)⟩
theorem kC_Catalog_findTable_3_11 {x2 : Int32} {u : St} (I : IC u) : ok (mC_Catalog_findTable_3_11 x2 u) (fun r => -1 ≤ r.toInt ∧ r.toInt ≤ 8) := by
  have l0 : (0 : Int32).toInt = 0 := by decide
  have l1 : (1 : Int32).toInt = 1 := by decide
  have l8 : (8 : Int32).toInt = 8 := by decide
  rw [mC_Catalog_findTable_3_11]
  refine ok_mono (kC_Catalog_findTable_3_11_L2 _ I (by have FUe : FU = 100000 := rfl; have B_1 := IC_b I; omega) (by have FUe : FU = 100000 := rfl; have B_2 := IC_b I; omega) (by have FUe : FU = 100000 := rfl; have B_3 := IC_b I; omega)) (fun r_5 z_4 => ?_)
  obtain ⟨p_6, p_7⟩ := z_4
  exact ⟨(by omega), (by omega)⟩
theorem kC_Lists_at_J29 {x1 : Int32} {x2 : Int32} {s0 : Int32} {u : St} (I : IC u) (h0 : s0.toInt = 0 ∨ (0 ≤ x1.toInt ∧ x1.toInt < 14 ∧ 0 ≤ x2.toInt ∧ x2.toInt < (ga u 17 x1).toInt)) : ok (mC_Lists_at_J29 x1 x2 s0 u) (fun r => (x1.toInt ≠ 0 ∧ x1.toInt ≠ 5 ∧ x1.toInt ≠ 12) ∨ (-1 ≤ r.toInt ∧ r.toInt ≤ 200)) := by
  have z0 : (0 : Int32).toInt = 0 := by decide
  have m1 : (-1 : Int32).toInt = -1 := by decide
  have t1 : lnT 1 = 14 := by decide
  rw [mC_Lists_at_J29, t1]
  refine ok_eq (fun c c' => ok_some (by omega)) (fun c => ?_)
  have F := gst_f (i := x1) (by omega) (by omega)
  have Z := IC_siz I (i := x1) (by omega) (by omega)
  have e : (gst 1 x1 + x2 : Int32).toInt = (gst 1 x1).toInt + x2.toInt := add_i (by omega) (by omega)
  refine ok_gd (inb_of (by omega) (by omega)) (ok_gd (inb_of (by omega) (by omega)) (ok_some ?_))
  by_cases hc : x1.toInt ≠ 0 ∧ x1.toInt ≠ 5 ∧ x1.toInt ≠ 12
  · exact Or.inl hc
  · exact Or.inr (IC_ent I (by omega) (by omega))
theorem kC_Lists_at {x1 : Int32} {x2 : Int32} {u : St} (I : IC u) : ok (mC_Lists_at x1 x2 u) (fun r => (x1.toInt ≠ 0 ∧ x1.toInt ≠ 5 ∧ x1.toInt ≠ 12) ∨ (-1 ≤ r.toInt ∧ r.toInt ≤ 200)) := by
  have l0 : (0 : Int32).toInt = 0 := by decide
  have l1 : (1 : Int32).toInt = 1 := by decide
  have l5 : (5 : Int32).toInt = 5 := by decide
  have l12 : (12 : Int32).toInt = 12 := by decide
  have l14 : (14 : Int32).toInt = 14 := by decide
  have l17 : (17 : Int32).toInt = 17 := by decide
  have l200 : (200 : Int32).toInt = 200 := by decide
  rw [mC_Lists_at]
  refine ok_lt (fun c_1 => ?_) (fun c_1 => ?_)
  · refine ok_mono (kC_Lists_at_J29 I (by have FUe : FU = 100000 := rfl; have B_2 := IC_b I; omega)) (fun r_4 z_3 => ?_)
    have p_5 := z_3
    exact (by omega)
  · refine ok_le (fun c_6 => ?_) (fun c_6 => ?_)
    · refine ok_mono (kC_Lists_at_J29 I (by have FUe : FU = 100000 := rfl; have B_7 := IC_b I; omega)) (fun r_9 z_8 => ?_)
      have p_10 := z_8
      exact (by omega)
    · refine ok_lt (fun c_11 => ?_) (fun c_11 => ?_)
      · refine ok_mono (kC_Lists_at_J29 I (by have FUe : FU = 100000 := rfl; have B_12 := IC_b I; omega)) (fun r_14 z_13 => ?_)
        have p_15 := z_13
        exact (by omega)
      · refine ok_gd (inb_of (by have B_16 := IC_b I; omega) (by have B_17 := IC_b I; omega)) ?_
        refine ok_le (fun c_18 => ?_) (fun c_18 => ?_)
        · refine ok_mono (kC_Lists_at_J29 I (by have FUe : FU = 100000 := rfl; have B_19 := IC_b I; omega)) (fun r_21 z_20 => ?_)
          have p_22 := z_20
          exact (by omega)
        · refine ok_mono (kC_Lists_at_J29 I (by have FUe : FU = 100000 := rfl; have B_23 := IC_b I; omega)) (fun r_25 z_24 => ?_)
          have p_26 := z_24
          exact (by omega)
theorem kC_Meaning_nameOfTable {x1 : Int32} {u : St} (I : IC u) : ok (mC_Meaning_nameOfTable x1 u) (fun r => True) := by
  have l0 : (0 : Int32).toInt = 0 := by decide
  have l10 : (10 : Int32).toInt = 10 := by decide
  have l11 : (11 : Int32).toInt = 11 := by decide
  rw [mC_Meaning_nameOfTable]
  refine ok_bP (kC_Lists_at I) (fun r_2 z_1 => ?_)
  have p_3 := z_1
  refine ok_lt (fun c_4 => ?_) (fun c_4 => ?_)
  · refine ok_bP (kC_Lists_at I) (fun r_6 z_5 => ?_)
    have p_7 := z_5
    exact ok_some trivial
  · exact ok_some trivial
theorem kC_Text_same_11_11_L20 : ∀ (n : Nat) {x1 : Int32} {x3 : Int32} {x4 : Int32} {x5 : Int32} {u : St} (I : IC u) (h0 : 0 ≤ x5.toInt) (h1 : x5.toInt ≤ 31) (h2 : x4.toInt ≤ 31) (hm : (31 - x5.toInt).toNat < n), ok (mC_Text_same_11_11_L20 n x1 x3 x4 x5 u) (fun r => 0 ≤ r.toInt ∧ r.toInt ≤ 1) := by
  intro n
  induction n with
  | zero => intro x1 x3 x4 x5 u I h0 h1 h2 hm; exact absurd hm (Nat.not_lt_zero _)
  | succ n ih =>
    intro x1 x3 x4 x5 u I h0 h1 h2 hm
    have l0 : (0 : Int32).toInt = 0 := by decide
    have l1 : (1 : Int32).toInt = 1 := by decide
    have l31 : (31 : Int32).toInt = 31 := by decide
    rw [mC_Text_same_11_11_L20]
    refine ok_le (fun c_1 => ?_) (fun c_1 => ?_)
    · exact ok_some ⟨(by omega), (by omega)⟩
    · refine ok_bP (kC_Text_startOf I) (fun r_3 z_2 => ?_)
      try have e_4 : (r_3 + x5 : Int32).toInt = (r_3 : Int32).toInt + (x5 : Int32).toInt := by exact add_i (by omega) (by omega)
      refine ok_bP (kC_Text_at_11 I) (fun r_6 z_5 => ?_)
      obtain ⟨p_7, p_8, p_9⟩ := z_5
      refine ok_bP (kC_Text_startOf I) (fun r_11 z_10 => ?_)
      try have e_12 : (r_11 + x5 : Int32).toInt = (r_11 : Int32).toInt + (x5 : Int32).toInt := by exact add_i (by omega) (by omega)
      refine ok_bP (kC_Text_at_11 I) (fun r_14 z_13 => ?_)
      obtain ⟨p_15, p_16, p_17⟩ := z_13
      refine ok_eq (fun c_18 c_18' => ?_) (fun c_18 => ?_)
      · try have e_21 : (x5 + 1 : Int32).toInt = (x5 : Int32).toInt + (1 : Int32).toInt := by exact add_i (by omega) (by omega)
        refine ok_seq (fun y_20 h_19 => ?_)
        have h_19' : y_20.toInt = (x5 + 1 : Int32).toInt := by rw [h_19]
        refine ok_mono (ih I (by have B_22 := IC_b I; omega) (by have B_23 := IC_b I; omega) (by have B_24 := IC_b I; omega) (by have B_25 := IC_b I; omega)) (fun r_27 z_26 => ?_)
        obtain ⟨p_28, p_29⟩ := z_26
        exact ⟨(by omega), (by omega)⟩
      · exact ok_some ⟨(by omega), (by omega)⟩
theorem kC_Text_same_11_11 {x1 : Int32} {x3 : Int32} {u : St} (I : IC u) : ok (mC_Text_same_11_11 x1 x3 u) (fun r => 0 ≤ r.toInt ∧ r.toInt ≤ 1) := by
  have l0 : (0 : Int32).toInt = 0 := by decide
  have l1 : (1 : Int32).toInt = 1 := by decide
  have l31 : (31 : Int32).toInt = 31 := by decide
  rw [mC_Text_same_11_11]
  refine ok_bP (kC_Text_sizeOf I) (fun r_2 z_1 => ?_)
  obtain ⟨p_3, p_4, p_5⟩ := z_1
  refine ok_bP (kC_Text_sizeOf I) (fun r_7 z_6 => ?_)
  obtain ⟨p_8, p_9, p_10⟩ := z_6
  refine ok_eq (fun c_11 c_11' => ?_) (fun c_11 => ?_)
  · refine ok_mono (kC_Text_same_11_11_L20 _ I (by have FUe : FU = 100000 := rfl; have B_12 := IC_b I; omega) (by have FUe : FU = 100000 := rfl; have B_13 := IC_b I; omega) (by have FUe : FU = 100000 := rfl; have B_14 := IC_b I; omega) (by have FUe : FU = 100000 := rfl; have B_15 := IC_b I; omega)) (fun r_17 z_16 => ?_)
    obtain ⟨p_18, p_19⟩ := z_16
    exact ⟨(by omega), (by omega)⟩
  · exact ok_some ⟨(by omega), (by omega)⟩
theorem kC_Meaning_tableCalled_L12 : ∀ (n : Nat) {x1 : Int32} {x2 : Int32} {x3 : Int32} {u : St} (I : IC u) (h0 : 0 ≤ x3.toInt) (h1 : x3.toInt ≤ 200) (h2 : x2.toInt ≤ 200) (h3 : 0 ≤ x2.toInt) (hm : (200 - x3.toInt).toNat < n), ok (mC_Meaning_tableCalled_L12 n x1 x2 x3 u) (fun r => 0 ≤ r.toInt ∧ r.toInt ≤ 200) := by
  intro n
  induction n with
  | zero => intro x1 x2 x3 u I h0 h1 h2 h3 hm; exact absurd hm (Nat.not_lt_zero _)
  | succ n ih =>
    intro x1 x2 x3 u I h0 h1 h2 h3 hm
    have l0 : (0 : Int32).toInt = 0 := by decide
    have l1 : (1 : Int32).toInt = 1 := by decide
    have l200 : (200 : Int32).toInt = 200 := by decide
    rw [mC_Meaning_tableCalled_L12]
    refine ok_le (fun c_1 => ?_) (fun c_1 => ?_)
    · exact ok_some ⟨(by omega), (by omega)⟩
    · refine ok_bP (kC_Meaning_nameOfTable I) (fun r_3 z_2 => ?_)
      refine ok_bP (kC_Text_same_11_11 I) (fun r_5 z_4 => ?_)
      obtain ⟨p_6, p_7⟩ := z_4
      refine ok_eq (fun c_8 c_8' => ?_) (fun c_8 => ?_)
      · try have e_11 : (x3 + 1 : Int32).toInt = (x3 : Int32).toInt + (1 : Int32).toInt := by exact add_i (by omega) (by omega)
        refine ok_seq (fun y_10 h_9 => ?_)
        have h_9' : y_10.toInt = (x3 + 1 : Int32).toInt := by rw [h_9]
        refine ok_mono (ih I (by have B_12 := IC_b I; omega) (by have B_13 := IC_b I; omega) (by have B_14 := IC_b I; omega) (by have B_15 := IC_b I; omega) (by have B_16 := IC_b I; omega)) (fun r_18 z_17 => ?_)
        obtain ⟨p_19, p_20⟩ := z_17
        exact ⟨(by omega), (by omega)⟩
      · exact ok_some ⟨(by omega), (by omega)⟩
theorem kC_Meaning_tableCalled {x1 : Int32} {u : St} (I : IC u) : ok (mC_Meaning_tableCalled x1 u) (fun r => 0 ≤ r.toInt ∧ r.toInt ≤ 200) := by
  have l0 : (0 : Int32).toInt = 0 := by decide
  have l10 : (10 : Int32).toInt = 10 := by decide
  have l200 : (200 : Int32).toInt = 200 := by decide
  rw [mC_Meaning_tableCalled]
  refine ok_bP (kC_Lists_size I) (fun r_2 z_1 => ?_)
  obtain ⟨p_3, p_4⟩ := z_1
  refine ok_mono (kC_Meaning_tableCalled_L12 _ I (by have FUe : FU = 100000 := rfl; have B_5 := IC_b I; omega) (by have FUe : FU = 100000 := rfl; have B_6 := IC_b I; omega) (by have FUe : FU = 100000 := rfl; have B_7 := IC_b I; omega) (by have FUe : FU = 100000 := rfl; have B_8 := IC_b I; omega) (by have FUe : FU = 100000 := rfl; have B_9 := IC_b I; omega)) (fun r_11 z_10 => ?_)
  obtain ⟨p_12, p_13⟩ := z_10
  exact ⟨(by omega), (by omega)⟩
theorem kC_Meaning_tableError_L49 : ∀ (n : Nat) {x1 : Int32} {u : St} (I : IC u) (h0 : 0 ≤ x1.toInt) (h1 : x1.toInt ≤ 200) (hm : (200 - x1.toInt).toNat < n), okM (mC_Meaning_tableError_L49 n x1 u) (fun r v => IC v ∧ Fq [8] [17, 18] u v ∧ 0 ≤ r.toInt ∧ r.toInt ≤ 5) := by
  intro n
  induction n with
  | zero => intro x1 u I h0 h1 hm; exact absurd hm (Nat.not_lt_zero _)
  | succ n ih =>
    intro x1 u I h0 h1 hm
    have l0 : (0 : Int32).toInt = 0 := by decide
    have l1 : (1 : Int32).toInt = 1 := by decide
    have l3 : (3 : Int32).toInt = 3 := by decide
    have l4 : (4 : Int32).toInt = 4 := by decide
    have l5 : (5 : Int32).toInt = 5 := by decide
    have l10 : (10 : Int32).toInt = 10 := by decide
    have l12 : (12 : Int32).toInt = 12 := by decide
    have l200 : (200 : Int32).toInt = 200 := by decide
    rw [mC_Meaning_tableError_L49]
    refine okM_bP (kC_Lists_size I) (fun r_2 z_1 => ?_)
    obtain ⟨p_3, p_4⟩ := z_1
    refine okM_le (fun c_5 => ?_) (fun c_5 => ?_)
    · exact okM_some ⟨I, (Fq_rfl u), (by omega), (by omega)⟩
    · refine okM_bP (kC_Lists_at I) (fun r_7 z_6 => ?_)
      have p_8 := z_6
      refine okM_bP (kC_Catalog_findTable_3_11 I) (fun r_10 z_9 => ?_)
      obtain ⟨p_11, p_12⟩ := z_9
      refine okM_le (fun c_13 => ?_) (fun c_13 => ?_)
      · refine okM_bP (kC_Meaning_nameOfTable I) (fun r_15 z_14 => ?_)
        refine okM_bP (kC_Meaning_tableCalled I) (fun r_17 z_16 => ?_)
        obtain ⟨p_18, p_19⟩ := z_16
        refine okM_le (fun c_20 => ?_) (fun c_20 => ?_)
        · refine okM_bP (kC_Lists_add I (by have FUe : FU = 100000 := rfl; have B_22 := IC_b I; omega)) (fun u_23 z_21 => ?_)
          obtain ⟨I_u_23, G_u_23⟩ := z_21
          have F_u_23 : Fq [8] [17, 18] u u_23 := Fq_tr (Fq_rfl u) G_u_23 rfl rfl
          try have e_26 : (x1 + 1 : Int32).toInt = (x1 : Int32).toInt + (1 : Int32).toInt := by exact add_i (by omega) (by omega)
          refine okM_seq (fun y_25 h_24 => ?_)
          have h_24' : y_25.toInt = (x1 + 1 : Int32).toInt := by rw [h_24]
          refine okM_mono (ih I_u_23 (by have B_27 := IC_b I_u_23; omega) (by have B_28 := IC_b I_u_23; omega) (by have B_29 := IC_b I_u_23; omega)) (fun r_31 u_32 z_30 => ?_)
          obtain ⟨I_u_32, G_u_32, p_33, p_34⟩ := z_30
          have F_u_32 : Fq [8] [17, 18] u u_32 := Fq_tr F_u_23 G_u_32 rfl rfl
          exact ⟨I_u_32, F_u_32, (by omega), (by omega)⟩
        · exact okM_some ⟨I, (Fq_rfl u), (by omega), (by omega)⟩
      · exact okM_some ⟨I, (Fq_rfl u), (by omega), (by omega)⟩
theorem kC_Meaning_tableError {u : St} (I : IC u) : okM (mC_Meaning_tableError u) (fun r v => IC v ∧ Fq [8, 13] [17, 18] u v) := by
  have l0 : (0 : Int32).toInt = 0 := by decide
  have l4 : (4 : Int32).toInt = 4 := by decide
  have l12 : (12 : Int32).toInt = 12 := by decide
  have l13 : (13 : Int32).toInt = 13 := by decide
  have l200 : (200 : Int32).toInt = 200 := by decide
  rw [mC_Meaning_tableError]
  refine okM_lt (fun c_1 => ?_) (fun c_1 => ?_)
  · refine okM_mono (kC_Meaning_tableError_L49 _ I (by have FUe : FU = 100000 := rfl; have B_2 := IC_b I; omega) (by have FUe : FU = 100000 := rfl; have B_3 := IC_b I; omega) (by have FUe : FU = 100000 := rfl; have B_4 := IC_b I; omega)) (fun r_6 u_7 z_5 => ?_)
    obtain ⟨I_u_7, G_u_7, p_8, p_9⟩ := z_5
    have F_u_7 : Fq [8, 13] [17, 18] u u_7 := Fq_tr (Fq_rfl u) G_u_7 rfl rfl
    exact ⟨I_u_7, F_u_7⟩
  · refine okM_bP (kC_Catalog_findTable_3_11 I) (fun r_11 z_10 => ?_)
    obtain ⟨p_12, p_13⟩ := z_10
    refine okM_seq (fun u_15 h_14 => ?_)
    have I_u_15 : IC u_15 := by rw [h_14]; exact I
    have F_u_15 : Fq [8, 13] [17, 18] u u_15 := by rw [h_14]; exact Fq_ss (Fq_rfl u) rfl
    refine okM_le (fun c_16 => ?_) (fun c_16 => ?_)
    · refine okM_mono (kC_Meaning_tableError_L49 _ I_u_15 (by have FUe : FU = 100000 := rfl; have B_17 := IC_b I_u_15; omega) (by have FUe : FU = 100000 := rfl; have B_18 := IC_b I_u_15; omega) (by have FUe : FU = 100000 := rfl; have B_19 := IC_b I_u_15; omega)) (fun r_21 u_22 z_20 => ?_)
      obtain ⟨I_u_22, G_u_22, p_23, p_24⟩ := z_20
      have F_u_22 : Fq [8, 13] [17, 18] u u_22 := Fq_tr F_u_15 G_u_22 rfl rfl
      exact ⟨I_u_22, F_u_22⟩
    · exact okM_some ⟨I_u_15, F_u_15⟩
theorem kC_Nodes_kindOf {x1 : Int32} {u : St} (I : IC u) : ok (mC_Nodes_kindOf x1 u) (fun r => r.toInt = -1 ∨ (0 ≤ x1.toInt ∧ x1.toInt < 200 ∧ r.toInt = (ga u 8 x1).toInt)) := by
  have lm1 : (-1 : Int32).toInt = -1 := by decide
  have l0 : (0 : Int32).toInt = 0 := by decide
  have l1 : (1 : Int32).toInt = 1 := by decide
  have l6 : (6 : Int32).toInt = 6 := by decide
  have l8 : (8 : Int32).toInt = 8 := by decide
  have l200 : (200 : Int32).toInt = 200 := by decide
  rw [mC_Nodes_kindOf]
  refine ok_lt (fun c_1 => ?_) (fun c_1 => ?_)
  · exact ok_some (by have B_2 := IC_b I; omega)
  · refine ok_le (fun c_3 => ?_) (fun c_3 => ?_)
    · exact ok_some (by have B_4 := IC_b I; omega)
    · refine ok_gd (inb_of (by have B_5 := IC_b I; omega) (by have B_6 := IC_b I; omega)) ?_
      exact ok_some (by have B_7 := IC_b I; omega)
theorem kC_Nodes_qualifierOf {x1 : Int32} {u : St} (I : IC u) : ok (mC_Nodes_qualifierOf x1 u) (fun r => True) := by
  have lm1 : (-1 : Int32).toInt = -1 := by decide
  have l0 : (0 : Int32).toInt = 0 := by decide
  have l6 : (6 : Int32).toInt = 6 := by decide
  have l16 : (16 : Int32).toInt = 16 := by decide
  rw [mC_Nodes_qualifierOf]
  refine ok_lt (fun c_1 => ?_) (fun c_1 => ?_)
  · exact ok_some trivial
  · refine ok_le (fun c_2 => ?_) (fun c_2 => ?_)
    · exact ok_some trivial
    · refine ok_gd (inb_of (by have B_3 := IC_b I; omega) (by have B_4 := IC_b I; omega)) ?_
      exact ok_some trivial
theorem kC_Nodes_spanOf {x1 : Int32} {u : St} (I : IC u) : ok (mC_Nodes_spanOf x1 u) (fun r => True) := by
  have lm1 : (-1 : Int32).toInt = -1 := by decide
  have l0 : (0 : Int32).toInt = 0 := by decide
  have l6 : (6 : Int32).toInt = 6 := by decide
  have l15 : (15 : Int32).toInt = 15 := by decide
  rw [mC_Nodes_spanOf]
  refine ok_lt (fun c_1 => ?_) (fun c_1 => ?_)
  · exact ok_some trivial
  · refine ok_le (fun c_2 => ?_) (fun c_2 => ?_)
    · exact ok_some trivial
    · refine ok_gd (inb_of (by have B_3 := IC_b I; omega) (by have B_4 := IC_b I; omega)) ?_
      exact ok_some trivial
theorem kC_Catalog_findColumn_3_11_L3 : ∀ (n : Nat) {x1 : Int32} {x3 : Int32} {x4 : Int32} {u : St} (I : IC u) (h0 : 0 ≤ x4.toInt) (h1 : x4.toInt ≤ 8) (hm : (8 - x4.toInt).toNat < n), ok (mC_Catalog_findColumn_3_11_L3 n x1 x3 x4 u) (fun r => -1 ≤ r.toInt ∧ r.toInt ≤ 8) := by
  intro n
  induction n with
  | zero => intro x1 x3 x4 u I h0 h1 hm; exact absurd hm (Nat.not_lt_zero _)
  | succ n ih =>
    intro x1 x3 x4 u I h0 h1 hm
    have lm1 : (-1 : Int32).toInt = -1 := by decide
    have l0 : (0 : Int32).toInt = 0 := by decide
    have l1 : (1 : Int32).toInt = 1 := by decide
    have l4 : (4 : Int32).toInt = 4 := by decide
    have l8 : (8 : Int32).toInt = 8 := by decide
    rw [mC_Catalog_findColumn_3_11_L3]
    refine ok_bP (kC_Catalog_columnsOf I) (fun r_2 z_1 => ?_)
    obtain ⟨p_3, p_4, p_5⟩ := z_1
    refine ok_le (fun c_6 => ?_) (fun c_6 => ?_)
    · exact ok_some ⟨(by omega), (by omega)⟩
    · try have e_7 : (x1 * 8 : Int32).toInt = (x1 : Int32).toInt * 8 := by exact muc_i l8 (by omega) (by omega)
      try have e_8 : ((x1 * 8) + x4 : Int32).toInt = ((x1 * 8) : Int32).toInt + (x4 : Int32).toInt := by exact add_i (by omega) (by omega)
      refine ok_gd (inb_of (by have B_9 := IC_b I; omega) (by have B_10 := IC_b I; omega)) ?_
      refine ok_bP (kC_Text_same_4_11 I) (fun r_12 z_11 => ?_)
      obtain ⟨p_13, p_14⟩ := z_11
      refine ok_eq (fun c_15 c_15' => ?_) (fun c_15 => ?_)
      · try have e_18 : (x4 + 1 : Int32).toInt = (x4 : Int32).toInt + (1 : Int32).toInt := by exact add_i (by omega) (by omega)
        refine ok_seq (fun y_17 h_16 => ?_)
        have h_16' : y_17.toInt = (x4 + 1 : Int32).toInt := by rw [h_16]
        refine ok_mono (ih I (by have B_19 := IC_b I; omega) (by have B_20 := IC_b I; omega) (by have B_21 := IC_b I; omega)) (fun r_23 z_22 => ?_)
        obtain ⟨p_24, p_25⟩ := z_22
        exact ⟨(by omega), (by omega)⟩
      · exact ok_some ⟨(by omega), (by omega)⟩
theorem kC_Catalog_findColumn_3_11 {x1 : Int32} {x3 : Int32} {u : St} (I : IC u) : ok (mC_Catalog_findColumn_3_11 x1 x3 u) (fun r => -1 ≤ r.toInt ∧ r.toInt ≤ 8) := by
  have l0 : (0 : Int32).toInt = 0 := by decide
  have l1 : (1 : Int32).toInt = 1 := by decide
  have l8 : (8 : Int32).toInt = 8 := by decide
  rw [mC_Catalog_findColumn_3_11]
  refine ok_mono (kC_Catalog_findColumn_3_11_L3 _ I (by have FUe : FU = 100000 := rfl; have B_1 := IC_b I; omega) (by have FUe : FU = 100000 := rfl; have B_2 := IC_b I; omega) (by have FUe : FU = 100000 := rfl; have B_3 := IC_b I; omega)) (fun r_5 z_4 => ?_)
  obtain ⟨p_6, p_7⟩ := z_4
  exact ⟨(by omega), (by omega)⟩
theorem kC_Nodes_putPlace {x1 : Int32} {x2 : Int32} {x3 : Int32} {u : St} (I : IC u) (h0 : x2.toInt ≤ 300) : ok (mC_Nodes_putPlace x1 x2 x3 u) (fun v => IC v ∧ Fq [] [9, 10] u v) := by
  have l0 : (0 : Int32).toInt = 0 := by decide
  have l6 : (6 : Int32).toInt = 6 := by decide
  rw [mC_Nodes_putPlace]
  have B0 := IC_b I
  refine ok_lt (fun c_1 => ?_) (fun c_1 => ?_)
  · exact ok_some ⟨I, (Fq_rfl u)⟩
  · refine ok_le (fun c_2 => ?_) (fun c_2 => ?_)
    · exact ok_some ⟨I, (Fq_rfl u)⟩
    · refine ok_gd (inb_of (by have B_3 := IC_b I; omega) (by have B_4 := IC_b I; omega)) ?_
      refine ok_seq (fun u_6 h_5 => ?_)
      have I_u_6 : IC u_6 := by rw [h_5]; exact IC_a9 I (by omega)
      have F_u_6 : Fq [] [9, 10] u u_6 := by rw [h_5]; exact Fq_sa (Fq_rfl u) rfl
      refine ok_gd (inb_of (by have B_7 := IC_b I_u_6; omega) (by have B_8 := IC_b I_u_6; omega)) ?_
      refine ok_seq (fun u_10 h_9 => ?_)
      have I_u_10 : IC u_10 := by rw [h_9]; exact I_u_6
      have F_u_10 : Fq [] [9, 10] u u_10 := by rw [h_9]; exact Fq_sa F_u_6 rfl
      exact ok_some ⟨I_u_10, F_u_10⟩
theorem kC_Catalog_typeOf {x1 : Int32} {x2 : Int32} {u : St} (I : IC u) : ok (mC_Catalog_typeOf x1 x2 u) (fun r => True) := by
  have l0 : (0 : Int32).toInt = 0 := by decide
  have l1 : (1 : Int32).toInt = 1 := by decide
  have l5 : (5 : Int32).toInt = 5 := by decide
  have l8 : (8 : Int32).toInt = 8 := by decide
  rw [mC_Catalog_typeOf]
  refine ok_lt (fun c_1 => ?_) (fun c_1 => ?_)
  · rw [mC_Catalog_typeOf_J18]
    refine ok_pos (by decide) ?_
    exact ok_some trivial
  · refine ok_bP (kC_Catalog_columnsOf I) (fun r_3 z_2 => ?_)
    obtain ⟨p_4, p_5, p_6⟩ := z_2
    refine ok_le (fun c_7 => ?_) (fun c_7 => ?_)
    · rw [mC_Catalog_typeOf_J18]
      refine ok_pos (by decide) ?_
      exact ok_some trivial
    · rw [mC_Catalog_typeOf_J18]
      refine ok_neg (by decide) ?_
      try have e_8 : (x1 * 8 : Int32).toInt = (x1 : Int32).toInt * 8 := by exact muc_i l8 (by omega) (by omega)
      try have e_9 : ((x1 * 8) + x2 : Int32).toInt = ((x1 * 8) : Int32).toInt + (x2 : Int32).toInt := by exact add_i (by omega) (by omega)
      refine ok_gd (inb_of (by have B_10 := IC_b I; omega) (by have B_11 := IC_b I; omega)) ?_
      exact ok_some trivial
theorem kC_Nodes_putType {x1 : Int32} {x2 : Int32} {u : St} (I : IC u) : ok (mC_Nodes_putType x1 x2 u) (fun v => IC v ∧ Fq [] [11] u v) := by
  have l0 : (0 : Int32).toInt = 0 := by decide
  have l6 : (6 : Int32).toInt = 6 := by decide
  rw [mC_Nodes_putType]
  refine ok_lt (fun c_1 => ?_) (fun c_1 => ?_)
  · exact ok_some ⟨I, (Fq_rfl u)⟩
  · refine ok_le (fun c_2 => ?_) (fun c_2 => ?_)
    · exact ok_some ⟨I, (Fq_rfl u)⟩
    · refine ok_gd (inb_of (by have B_3 := IC_b I; omega) (by have B_4 := IC_b I; omega)) ?_
      refine ok_seq (fun u_6 h_5 => ?_)
      have I_u_6 : IC u_6 := by rw [h_5]; exact I
      have F_u_6 : Fq [] [11] u u_6 := by rw [h_5]; exact Fq_sa (Fq_rfl u) rfl
      exact ok_some ⟨I_u_6, F_u_6⟩
theorem kC_Meaning_findPlace_L39 : ∀ (n : Nat) {x1 : Int32} {x2 : Int32} {x4 : Int32} {x5 : Int32} {x6 : Int32} {u : St} (I : IC u) (h0 : 0 ≤ x6.toInt) (h1 : x6.toInt ≤ 200) (h2 : x2.toInt ≤ 200) (hm : (200 - x6.toInt).toNat < n), okM (mC_Meaning_findPlace_L39 n x1 x2 x4 x5 x6 u) (fun r v => IC v ∧ Fq [] [9, 10, 11] u v) := by
  intro n
  induction n with
  | zero => intro x1 x2 x4 x5 x6 u I h0 h1 h2 hm; exact absurd hm (Nat.not_lt_zero _)
  | succ n ih =>
    intro x1 x2 x4 x5 x6 u I h0 h1 h2 hm
    have l0 : (0 : Int32).toInt = 0 := by decide
    have l1 : (1 : Int32).toInt = 1 := by decide
    have l3 : (3 : Int32).toInt = 3 := by decide
    have l4 : (4 : Int32).toInt = 4 := by decide
    have l6 : (6 : Int32).toInt = 6 := by decide
    have l7 : (7 : Int32).toInt = 7 := by decide
    have l200 : (200 : Int32).toInt = 200 := by decide
    have l300 : (300 : Int32).toInt = 300 := by decide
    rw [mC_Meaning_findPlace_L39]
    refine okM_le (fun c_1 => ?_) (fun c_1 => ?_)
    · refine okM_lt (fun c_2 => ?_) (fun c_2 => ?_)
      · refine okM_eq (fun c_3 c_3' => ?_) (fun c_3 => ?_)
        · exact okM_some ⟨I, (Fq_rfl u)⟩
        · refine okM_le (fun c_4 => ?_) (fun c_4 => ?_)
          · exact okM_some ⟨I, (Fq_rfl u)⟩
          · exact okM_some ⟨I, (Fq_rfl u)⟩
      · exact okM_some ⟨I, (Fq_rfl u)⟩
    · refine okM_bP (kC_Lists_at I) (fun r_6 z_5 => ?_)
      have p_7 := z_5
      refine okM_bP (kC_Nodes_spanOf I) (fun r_9 z_8 => ?_)
      refine okM_bP (kC_Catalog_findColumn_3_11 I) (fun r_11 z_10 => ?_)
      obtain ⟨p_12, p_13⟩ := z_10
      refine okM_lt (fun c_14 => ?_) (fun c_14 => ?_)
      · try have e_17 : (x6 + 1 : Int32).toInt = (x6 : Int32).toInt + (1 : Int32).toInt := by exact add_i (by omega) (by omega)
        refine okM_seq (fun y_16 h_15 => ?_)
        have h_15' : y_16.toInt = (x6 + 1 : Int32).toInt := by rw [h_15]
        refine okM_mono (ih I (by have B_18 := IC_b I; omega) (by have B_19 := IC_b I; omega) (by have B_20 := IC_b I; omega) (by have B_21 := IC_b I; omega)) (fun r_23 u_24 z_22 => ?_)
        obtain ⟨I_u_24, G_u_24⟩ := z_22
        have F_u_24 : Fq [] [9, 10, 11] u u_24 := Fq_tr (Fq_rfl u) G_u_24 rfl rfl
        exact ⟨I_u_24, F_u_24⟩
      · refine okM_lt (fun c_25 => ?_) (fun c_25 => ?_)
        · rw [mC_Meaning_findPlace_J97]
          refine okM_bP (kC_Nodes_putPlace I (by have FUe : FU = 100000 := rfl; have B_27 := IC_b I; omega)) (fun u_28 z_26 => ?_)
          obtain ⟨I_u_28, G_u_28⟩ := z_26
          have F_u_28 : Fq [] [9, 10, 11] u u_28 := Fq_tr (Fq_rfl u) G_u_28 rfl rfl
          refine okM_bP (kC_Catalog_typeOf I_u_28) (fun r_30 z_29 => ?_)
          refine okM_bP (kC_Nodes_putType I_u_28) (fun u_32 z_31 => ?_)
          obtain ⟨I_u_32, G_u_32⟩ := z_31
          have F_u_32 : Fq [] [9, 10, 11] u u_32 := Fq_tr F_u_28 G_u_32 rfl rfl
          try have e_35 : (x5 + 1 : Int32).toInt = (x5 : Int32).toInt + (1 : Int32).toInt := by exact add_i (by omega) (by omega)
          refine okM_seq (fun y_34 h_33 => ?_)
          have h_33' : y_34.toInt = (x5 + 1 : Int32).toInt := by rw [h_33]
          try have e_38 : (x6 + 1 : Int32).toInt = (x6 : Int32).toInt + (1 : Int32).toInt := by exact add_i (by omega) (by omega)
          refine okM_seq (fun y_37 h_36 => ?_)
          have h_36' : y_37.toInt = (x6 + 1 : Int32).toInt := by rw [h_36]
          refine okM_mono (ih I_u_32 (by have B_39 := IC_b I_u_32; omega) (by have B_40 := IC_b I_u_32; omega) (by have B_41 := IC_b I_u_32; omega) (by have B_42 := IC_b I_u_32; omega)) (fun r_44 u_45 z_43 => ?_)
          obtain ⟨I_u_45, G_u_45⟩ := z_43
          have F_u_45 : Fq [] [9, 10, 11] u u_45 := Fq_tr F_u_32 G_u_45 rfl rfl
          exact ⟨I_u_45, F_u_45⟩
        · refine okM_eq (fun c_46 c_46' => ?_) (fun c_46 => ?_)
          · rw [mC_Meaning_findPlace_J97]
            refine okM_bP (kC_Nodes_putPlace I (by have FUe : FU = 100000 := rfl; have B_48 := IC_b I; omega)) (fun u_49 z_47 => ?_)
            obtain ⟨I_u_49, G_u_49⟩ := z_47
            have F_u_49 : Fq [] [9, 10, 11] u u_49 := Fq_tr (Fq_rfl u) G_u_49 rfl rfl
            refine okM_bP (kC_Catalog_typeOf I_u_49) (fun r_51 z_50 => ?_)
            refine okM_bP (kC_Nodes_putType I_u_49) (fun u_53 z_52 => ?_)
            obtain ⟨I_u_53, G_u_53⟩ := z_52
            have F_u_53 : Fq [] [9, 10, 11] u u_53 := Fq_tr F_u_49 G_u_53 rfl rfl
            try have e_56 : (x5 + 1 : Int32).toInt = (x5 : Int32).toInt + (1 : Int32).toInt := by exact add_i (by omega) (by omega)
            refine okM_seq (fun y_55 h_54 => ?_)
            have h_54' : y_55.toInt = (x5 + 1 : Int32).toInt := by rw [h_54]
            try have e_59 : (x6 + 1 : Int32).toInt = (x6 : Int32).toInt + (1 : Int32).toInt := by exact add_i (by omega) (by omega)
            refine okM_seq (fun y_58 h_57 => ?_)
            have h_57' : y_58.toInt = (x6 + 1 : Int32).toInt := by rw [h_57]
            refine okM_mono (ih I_u_53 (by have B_60 := IC_b I_u_53; omega) (by have B_61 := IC_b I_u_53; omega) (by have B_62 := IC_b I_u_53; omega) (by have B_63 := IC_b I_u_53; omega)) (fun r_65 u_66 z_64 => ?_)
            obtain ⟨I_u_66, G_u_66⟩ := z_64
            have F_u_66 : Fq [] [9, 10, 11] u u_66 := Fq_tr F_u_53 G_u_66 rfl rfl
            exact ⟨I_u_66, F_u_66⟩
          · try have e_69 : (x6 + 1 : Int32).toInt = (x6 : Int32).toInt + (1 : Int32).toInt := by exact add_i (by omega) (by omega)
            refine okM_seq (fun y_68 h_67 => ?_)
            have h_67' : y_68.toInt = (x6 + 1 : Int32).toInt := by rw [h_67]
            refine okM_mono (ih I (by have B_70 := IC_b I; omega) (by have B_71 := IC_b I; omega) (by have B_72 := IC_b I; omega) (by have B_73 := IC_b I; omega)) (fun r_75 u_76 z_74 => ?_)
            obtain ⟨I_u_76, G_u_76⟩ := z_74
            have F_u_76 : Fq [] [9, 10, 11] u u_76 := Fq_tr (Fq_rfl u) G_u_76 rfl rfl
            exact ⟨I_u_76, F_u_76⟩
theorem kC_Meaning_findPlace {x1 : Int32} {u : St} (I : IC u) : okM (mC_Meaning_findPlace x1 u) (fun r v => IC v ∧ Fq [] [9, 10, 11] u v) := by
  have lm1 : (-1 : Int32).toInt = -1 := by decide
  have l0 : (0 : Int32).toInt = 0 := by decide
  have l3 : (3 : Int32).toInt = 3 := by decide
  have l200 : (200 : Int32).toInt = 200 := by decide
  rw [mC_Meaning_findPlace]
  refine okM_bP (kC_Lists_size I) (fun r_2 z_1 => ?_)
  obtain ⟨p_3, p_4⟩ := z_1
  refine okM_bP (kC_Nodes_qualifierOf I) (fun r_6 z_5 => ?_)
  refine okM_le (fun c_7 => ?_) (fun c_7 => ?_)
  · refine okM_bP (kC_Meaning_tableCalled I) (fun r_9 z_8 => ?_)
    obtain ⟨p_10, p_11⟩ := z_8
    refine okM_mono (kC_Meaning_findPlace_L39 _ I (by have FUe : FU = 100000 := rfl; have B_12 := IC_b I; omega) (by have FUe : FU = 100000 := rfl; have B_13 := IC_b I; omega) (by have FUe : FU = 100000 := rfl; have B_14 := IC_b I; omega) (by have FUe : FU = 100000 := rfl; have B_15 := IC_b I; omega)) (fun r_17 u_18 z_16 => ?_)
    obtain ⟨I_u_18, G_u_18⟩ := z_16
    have F_u_18 : Fq [] [9, 10, 11] u u_18 := Fq_tr (Fq_rfl u) G_u_18 rfl rfl
    exact ⟨I_u_18, F_u_18⟩
  · refine okM_mono (kC_Meaning_findPlace_L39 _ I (by have FUe : FU = 100000 := rfl; have B_19 := IC_b I; omega) (by have FUe : FU = 100000 := rfl; have B_20 := IC_b I; omega) (by have FUe : FU = 100000 := rfl; have B_21 := IC_b I; omega) (by have FUe : FU = 100000 := rfl; have B_22 := IC_b I; omega)) (fun r_24 u_25 z_23 => ?_)
    obtain ⟨I_u_25, G_u_25⟩ := z_23
    have F_u_25 : Fq [] [9, 10, 11] u u_25 := Fq_tr (Fq_rfl u) G_u_25 rfl rfl
    exact ⟨I_u_25, F_u_25⟩
theorem kC_Nodes_putFault {x1 : Int32} {x2 : Int32} {u : St} (I : IC u) : ok (mC_Nodes_putFault x1 x2 u) (fun v => IC v ∧ Fq [] [14] u v) := by
  have l0 : (0 : Int32).toInt = 0 := by decide
  have l6 : (6 : Int32).toInt = 6 := by decide
  rw [mC_Nodes_putFault]
  refine ok_lt (fun c_1 => ?_) (fun c_1 => ?_)
  · exact ok_some ⟨I, (Fq_rfl u)⟩
  · refine ok_le (fun c_2 => ?_) (fun c_2 => ?_)
    · exact ok_some ⟨I, (Fq_rfl u)⟩
    · refine ok_gd (inb_of (by have B_3 := IC_b I; omega) (by have B_4 := IC_b I; omega)) ?_
      refine ok_seq (fun u_6 h_5 => ?_)
      have I_u_6 : IC u_6 := by rw [h_5]; exact I
      have F_u_6 : Fq [] [14] u u_6 := by rw [h_5]; exact Fq_sa (Fq_rfl u) rfl
      exact ok_some ⟨I_u_6, F_u_6⟩
theorem kC_Meaning_findPlaces_L2 : ∀ (n : Nat) {x1 : Int32} {u : St} (I : IC u) (h0 : 0 ≤ x1.toInt) (h1 : x1.toInt ≤ 200) (hm : (200 - x1.toInt).toNat < n), ok (mC_Meaning_findPlaces_L2 n x1 u) (fun v => IC v ∧ Fq [] [9, 10, 11, 14] u v) := by
  intro n
  induction n with
  | zero => intro x1 u I h0 h1 hm; exact absurd hm (Nat.not_lt_zero _)
  | succ n ih =>
    intro x1 u I h0 h1 hm
    have l0 : (0 : Int32).toInt = 0 := by decide
    have l1 : (1 : Int32).toInt = 1 := by decide
    have l4 : (4 : Int32).toInt = 4 := by decide
    have l200 : (200 : Int32).toInt = 200 := by decide
    rw [mC_Meaning_findPlaces_L2]
    refine ok_bP (kC_Nodes_size I) (fun r_2 z_1 => ?_)
    have p_3 := z_1
    refine ok_le (fun c_4 => ?_) (fun c_4 => ?_)
    · exact ok_some ⟨I, (Fq_rfl u)⟩
    · refine ok_bP (kC_Nodes_kindOf I) (fun r_6 z_5 => ?_)
      have p_7 := z_5
      refine ok_eq (fun c_8 c_8' => ?_) (fun c_8 => ?_)
      · refine ok_bM (kC_Meaning_findPlace I) (fun r_10 u_11 z_9 => ?_)
        obtain ⟨I_u_11, G_u_11⟩ := z_9
        have F_u_11 : Fq [] [9, 10, 11, 14] u u_11 := Fq_tr (Fq_rfl u) G_u_11 rfl rfl
        refine ok_bP (kC_Nodes_putFault I_u_11) (fun u_13 z_12 => ?_)
        obtain ⟨I_u_13, G_u_13⟩ := z_12
        have F_u_13 : Fq [] [9, 10, 11, 14] u u_13 := Fq_tr F_u_11 G_u_13 rfl rfl
        try have e_16 : (x1 + 1 : Int32).toInt = (x1 : Int32).toInt + (1 : Int32).toInt := by exact add_i (by omega) (by omega)
        refine ok_seq (fun y_15 h_14 => ?_)
        have h_14' : y_15.toInt = (x1 + 1 : Int32).toInt := by rw [h_14]
        refine ok_mono (ih I_u_13 (by have B_17 := IC_b I_u_13; omega) (by have B_18 := IC_b I_u_13; omega) (by have B_19 := IC_b I_u_13; omega)) (fun u_21 z_20 => ?_)
        obtain ⟨I_u_21, G_u_21⟩ := z_20
        have F_u_21 : Fq [] [9, 10, 11, 14] u u_21 := Fq_tr F_u_13 G_u_21 rfl rfl
        exact ⟨I_u_21, F_u_21⟩
      · try have e_24 : (x1 + 1 : Int32).toInt = (x1 : Int32).toInt + (1 : Int32).toInt := by exact add_i (by omega) (by omega)
        refine ok_seq (fun y_23 h_22 => ?_)
        have h_22' : y_23.toInt = (x1 + 1 : Int32).toInt := by rw [h_22]
        refine ok_mono (ih I (by have B_25 := IC_b I; omega) (by have B_26 := IC_b I; omega) (by have B_27 := IC_b I; omega)) (fun u_29 z_28 => ?_)
        obtain ⟨I_u_29, G_u_29⟩ := z_28
        have F_u_29 : Fq [] [9, 10, 11, 14] u u_29 := Fq_tr (Fq_rfl u) G_u_29 rfl rfl
        exact ⟨I_u_29, F_u_29⟩
theorem kC_Meaning_findPlaces {u : St} (I : IC u) : ok (mC_Meaning_findPlaces u) (fun v => IC v ∧ Fq [] [9, 10, 11, 14] u v) := by
  have l0 : (0 : Int32).toInt = 0 := by decide
  have l200 : (200 : Int32).toInt = 200 := by decide
  rw [mC_Meaning_findPlaces]
  refine ok_mono (kC_Meaning_findPlaces_L2 _ I (by have FUe : FU = 100000 := rfl; have B_1 := IC_b I; omega) (by have FUe : FU = 100000 := rfl; have B_2 := IC_b I; omega) (by have FUe : FU = 100000 := rfl; have B_3 := IC_b I; omega)) (fun u_5 z_4 => ?_)
  obtain ⟨I_u_5, G_u_5⟩ := z_4
  have F_u_5 : Fq [] [9, 10, 11, 14] u u_5 := Fq_tr (Fq_rfl u) G_u_5 rfl rfl
  exact ⟨I_u_5, F_u_5⟩
theorem kC_Meaning_findColumnsSet_L2 : ∀ (n : Nat) {x1 : Int32} {u : St} (I : IC u) (h0 : 0 ≤ x1.toInt) (h1 : x1.toInt ≤ 200) (hm : (200 - x1.toInt).toNat < n), ok (mC_Meaning_findColumnsSet_L2 n x1 u) (fun v => IC v ∧ Fq [8] [17, 18] u v) := by
  intro n
  induction n with
  | zero => intro x1 u I h0 h1 hm; exact absurd hm (Nat.not_lt_zero _)
  | succ n ih =>
    intro x1 u I h0 h1 hm
    have l0 : (0 : Int32).toInt = 0 := by decide
    have l1 : (1 : Int32).toInt = 1 := by decide
    have l4 : (4 : Int32).toInt = 4 := by decide
    have l5 : (5 : Int32).toInt = 5 := by decide
    have l12 : (12 : Int32).toInt = 12 := by decide
    have l13 : (13 : Int32).toInt = 13 := by decide
    have l200 : (200 : Int32).toInt = 200 := by decide
    rw [mC_Meaning_findColumnsSet_L2]
    refine ok_bP (kC_Lists_size I) (fun r_2 z_1 => ?_)
    obtain ⟨p_3, p_4⟩ := z_1
    refine ok_le (fun c_5 => ?_) (fun c_5 => ?_)
    · exact ok_some ⟨I, (Fq_rfl u)⟩
    · refine ok_bP (kC_Lists_at I) (fun r_7 z_6 => ?_)
      have p_8 := z_6
      refine ok_bP (kC_Catalog_findColumn_3_11 I) (fun r_10 z_9 => ?_)
      obtain ⟨p_11, p_12⟩ := z_9
      refine ok_bP (kC_Lists_add I (by have FUe : FU = 100000 := rfl; have B_14 := IC_b I; omega)) (fun u_15 z_13 => ?_)
      obtain ⟨I_u_15, G_u_15⟩ := z_13
      have F_u_15 : Fq [8] [17, 18] u u_15 := Fq_tr (Fq_rfl u) G_u_15 rfl rfl
      try have e_18 : (x1 + 1 : Int32).toInt = (x1 : Int32).toInt + (1 : Int32).toInt := by exact add_i (by omega) (by omega)
      refine ok_seq (fun y_17 h_16 => ?_)
      have h_16' : y_17.toInt = (x1 + 1 : Int32).toInt := by rw [h_16]
      refine ok_mono (ih I_u_15 (by have B_19 := IC_b I_u_15; omega) (by have B_20 := IC_b I_u_15; omega) (by have B_21 := IC_b I_u_15; omega)) (fun u_23 z_22 => ?_)
      obtain ⟨I_u_23, G_u_23⟩ := z_22
      have F_u_23 : Fq [8] [17, 18] u u_23 := Fq_tr F_u_15 G_u_23 rfl rfl
      exact ⟨I_u_23, F_u_23⟩
theorem kC_Meaning_findColumnsSet {u : St} (I : IC u) : ok (mC_Meaning_findColumnsSet u) (fun v => IC v ∧ Fq [8] [17, 18] u v) := by
  have l0 : (0 : Int32).toInt = 0 := by decide
  have l200 : (200 : Int32).toInt = 200 := by decide
  rw [mC_Meaning_findColumnsSet]
  refine ok_mono (kC_Meaning_findColumnsSet_L2 _ I (by have FUe : FU = 100000 := rfl; have B_1 := IC_b I; omega) (by have FUe : FU = 100000 := rfl; have B_2 := IC_b I; omega) (by have FUe : FU = 100000 := rfl; have B_3 := IC_b I; omega)) (fun u_5 z_4 => ?_)
  obtain ⟨I_u_5, G_u_5⟩ := z_4
  have F_u_5 : Fq [8] [17, 18] u u_5 := Fq_tr (Fq_rfl u) G_u_5 rfl rfl
  exact ⟨I_u_5, F_u_5⟩
theorem kC_Nodes_putNeed {x1 : Int32} {x2 : Int32} {u : St} (I : IC u) : ok (mC_Nodes_putNeed x1 x2 u) (fun v => IC v ∧ Fq [] [13] u v) := by
  have l0 : (0 : Int32).toInt = 0 := by decide
  have l6 : (6 : Int32).toInt = 6 := by decide
  rw [mC_Nodes_putNeed]
  refine ok_lt (fun c_1 => ?_) (fun c_1 => ?_)
  · exact ok_some ⟨I, (Fq_rfl u)⟩
  · refine ok_le (fun c_2 => ?_) (fun c_2 => ?_)
    · exact ok_some ⟨I, (Fq_rfl u)⟩
    · refine ok_gd (inb_of (by have B_3 := IC_b I; omega) (by have B_4 := IC_b I; omega)) ?_
      refine ok_seq (fun u_6 h_5 => ?_)
      have I_u_6 : IC u_6 := by rw [h_5]; exact I
      have F_u_6 : Fq [] [13] u u_6 := by rw [h_5]; exact Fq_sa (Fq_rfl u) rfl
      exact ok_some ⟨I_u_6, F_u_6⟩
theorem kC_Meaning_tellColumns_L3 : ∀ (n : Nat) {x1 : Int32} {x2 : Int32} {x3 : Int32} {x4 : Int32} {u : St} (I : IC u) (h0 : -1 ≤ x4.toInt) (h1 : x3.toInt ≤ 200) (h2 : x4.toInt ≤ 201) (hm : (201 - x4.toInt).toNat < n), ok (mC_Meaning_tellColumns_L3 n x1 x2 x3 x4 u) (fun v => IC v ∧ Fq [] [13] u v) := by
  intro n
  induction n with
  | zero => intro x1 x2 x3 x4 u I h0 h1 h2 hm; exact absurd hm (Nat.not_lt_zero _)
  | succ n ih =>
    intro x1 x2 x3 x4 u I h0 h1 h2 hm
    have l1 : (1 : Int32).toInt = 1 := by decide
    have l13 : (13 : Int32).toInt = 13 := by decide
    have l200 : (200 : Int32).toInt = 200 := by decide
    have l201 : (201 : Int32).toInt = 201 := by decide
    rw [mC_Meaning_tellColumns_L3]
    refine ok_le (fun c_1 => ?_) (fun c_1 => ?_)
    · exact ok_some ⟨I, (Fq_rfl u)⟩
    · refine ok_bP (kC_Lists_at I) (fun r_3 z_2 => ?_)
      have p_4 := z_2
      try have e_5 : (x4 - x2 : Int32).toInt = (x4 : Int32).toInt - (x2 : Int32).toInt := by exact sub_i (by omega) (by omega)
      refine ok_bP (kC_Catalog_typeOf I) (fun r_7 z_6 => ?_)
      refine ok_bP (kC_Nodes_putNeed I) (fun u_9 z_8 => ?_)
      obtain ⟨I_u_9, G_u_9⟩ := z_8
      have F_u_9 : Fq [] [13] u u_9 := Fq_tr (Fq_rfl u) G_u_9 rfl rfl
      try have e_12 : (x4 + 1 : Int32).toInt = (x4 : Int32).toInt + (1 : Int32).toInt := by exact add_i (by omega) (by omega)
      refine ok_seq (fun y_11 h_10 => ?_)
      have h_10' : y_11.toInt = (x4 + 1 : Int32).toInt := by rw [h_10]
      refine ok_mono (ih I_u_9 (by have B_13 := IC_b I_u_9; omega) (by have B_14 := IC_b I_u_9; omega) (by have B_15 := IC_b I_u_9; omega) (by have B_16 := IC_b I_u_9; omega)) (fun u_18 z_17 => ?_)
      obtain ⟨I_u_18, G_u_18⟩ := z_17
      have F_u_18 : Fq [] [13] u u_18 := Fq_tr F_u_9 G_u_18 rfl rfl
      exact ⟨I_u_18, F_u_18⟩
theorem kC_Meaning_tellColumns {x1 : Int32} {x2 : Int32} {x3 : Int32} {u : St} (I : IC u) (h0 : -1 ≤ x2.toInt) (h1 : x3.toInt ≤ 200) (h2 : x2.toInt ≤ 200) : ok (mC_Meaning_tellColumns x1 x2 x3 u) (fun v => IC v ∧ Fq [] [13] u v) := by
  have l1 : (1 : Int32).toInt = 1 := by decide
  have l200 : (200 : Int32).toInt = 200 := by decide
  have l201 : (201 : Int32).toInt = 201 := by decide
  rw [mC_Meaning_tellColumns]
  refine ok_mono (kC_Meaning_tellColumns_L3 _ I (by have FUe : FU = 100000 := rfl; have B_1 := IC_b I; omega) (by have FUe : FU = 100000 := rfl; have B_2 := IC_b I; omega) (by have FUe : FU = 100000 := rfl; have B_3 := IC_b I; omega) (by have FUe : FU = 100000 := rfl; have B_4 := IC_b I; omega)) (fun u_6 z_5 => ?_)
  obtain ⟨I_u_6, G_u_6⟩ := z_5
  have F_u_6 : Fq [] [13] u u_6 := Fq_tr (Fq_rfl u) G_u_6 rfl rfl
  exact ⟨I_u_6, F_u_6⟩
theorem kC_Meaning_tellNeeds_L105 : ∀ (n : Nat) {x1 : Int32} {x2 : Int32} {u : St} (I : IC u) (h0 : 0 ≤ x2.toInt) (h1 : x2.toInt ≤ 200) (h2 : -1 ≤ x1.toInt) (h3 : x1.toInt ≤ 200) (hm : (200 - x2.toInt).toNat < n), ok (mC_Meaning_tellNeeds_L105 n x1 x2 u) (fun v => IC v ∧ Fq [] [13] u v) := by
  intro n
  induction n with
  | zero => intro x1 x2 u I h0 h1 h2 h3 hm; exact absurd hm (Nat.not_lt_zero _)
  | succ n ih =>
    intro x1 x2 u I h0 h1 h2 h3 hm
    have l0 : (0 : Int32).toInt = 0 := by decide
    have l1 : (1 : Int32).toInt = 1 := by decide
    have l6 : (6 : Int32).toInt = 6 := by decide
    have l12 : (12 : Int32).toInt = 12 := by decide
    have l200 : (200 : Int32).toInt = 200 := by decide
    rw [mC_Meaning_tellNeeds_L105]
    refine ok_bP (kC_Lists_size I) (fun r_2 z_1 => ?_)
    obtain ⟨p_3, p_4⟩ := z_1
    refine ok_le (fun c_5 => ?_) (fun c_5 => ?_)
    · exact ok_some ⟨I, (Fq_rfl u)⟩
    · refine ok_bP (kC_Lists_at I) (fun r_7 z_6 => ?_)
      have p_8 := z_6
      refine ok_bP (kC_Meaning_tellColumns I (by have FUe : FU = 100000 := rfl; have B_10 := IC_b I; omega) (by have FUe : FU = 100000 := rfl; have B_11 := IC_b I; omega) (by have FUe : FU = 100000 := rfl; have B_12 := IC_b I; omega)) (fun u_13 z_9 => ?_)
      obtain ⟨I_u_13, G_u_13⟩ := z_9
      have F_u_13 : Fq [] [13] u u_13 := Fq_tr (Fq_rfl u) G_u_13 rfl rfl
      try have e_16 : (x2 + 1 : Int32).toInt = (x2 : Int32).toInt + (1 : Int32).toInt := by exact add_i (by omega) (by omega)
      refine ok_seq (fun y_15 h_14 => ?_)
      have h_14' : y_15.toInt = (x2 + 1 : Int32).toInt := by rw [h_14]
      refine ok_mono (ih I_u_13 (by have B_17 := IC_b I_u_13; omega) (by have B_18 := IC_b I_u_13; omega) (by have B_19 := IC_b I_u_13; omega) (by have B_20 := IC_b I_u_13; omega) (by have B_21 := IC_b I_u_13; omega)) (fun u_23 z_22 => ?_)
      obtain ⟨I_u_23, G_u_23⟩ := z_22
      have F_u_23 : Fq [] [13] u u_23 := Fq_tr F_u_13 G_u_23 rfl rfl
      exact ⟨I_u_23, F_u_23⟩
theorem kC_Meaning_tellNeeds_L17 : ∀ (n : Nat) {x1 : Int32} {u : St} (I : IC u) (h0 : 0 ≤ x1.toInt) (h1 : x1.toInt ≤ 200) (hm : (200 - x1.toInt).toNat < n), ok (mC_Meaning_tellNeeds_L17 n x1 u) (fun v => IC v ∧ Fq [] [13] u v) := by
  intro n
  induction n with
  | zero => intro x1 u I h0 h1 hm; exact absurd hm (Nat.not_lt_zero _)
  | succ n ih =>
    intro x1 u I h0 h1 hm
    have l0 : (0 : Int32).toInt = 0 := by decide
    have l1 : (1 : Int32).toInt = 1 := by decide
    have l4 : (4 : Int32).toInt = 4 := by decide
    have l5 : (5 : Int32).toInt = 5 := by decide
    have l10 : (10 : Int32).toInt = 10 := by decide
    have l13 : (13 : Int32).toInt = 13 := by decide
    have l200 : (200 : Int32).toInt = 200 := by decide
    rw [mC_Meaning_tellNeeds_L17]
    refine ok_bP (kC_Lists_size I) (fun r_2 z_1 => ?_)
    obtain ⟨p_3, p_4⟩ := z_1
    refine ok_le (fun c_5 => ?_) (fun c_5 => ?_)
    · refine ok_eq (fun c_6 c_6' => ?_) (fun c_6 => ?_)
      · refine ok_bP (kC_Lists_size I) (fun r_8 z_7 => ?_)
        obtain ⟨p_9, p_10⟩ := z_7
        refine ok_bP (kC_Meaning_tellColumns I (by have FUe : FU = 100000 := rfl; have B_12 := IC_b I; omega) (by have FUe : FU = 100000 := rfl; have B_13 := IC_b I; omega) (by have FUe : FU = 100000 := rfl; have B_14 := IC_b I; omega)) (fun u_15 z_11 => ?_)
        obtain ⟨I_u_15, G_u_15⟩ := z_11
        have F_u_15 : Fq [] [13] u u_15 := Fq_tr (Fq_rfl u) G_u_15 rfl rfl
        refine ok_mono (kC_Meaning_tellNeeds_L105 _ I_u_15 (by have FUe : FU = 100000 := rfl; have B_16 := IC_b I_u_15; omega) (by have FUe : FU = 100000 := rfl; have B_17 := IC_b I_u_15; omega) (by have FUe : FU = 100000 := rfl; have B_18 := IC_b I_u_15; omega) (by have FUe : FU = 100000 := rfl; have B_19 := IC_b I_u_15; omega) (by have FUe : FU = 100000 := rfl; have B_20 := IC_b I_u_15; omega)) (fun u_22 z_21 => ?_)
        obtain ⟨I_u_22, G_u_22⟩ := z_21
        have F_u_22 : Fq [] [13] u u_22 := Fq_tr F_u_15 G_u_22 rfl rfl
        exact ⟨I_u_22, F_u_22⟩
      · refine ok_mono (kC_Meaning_tellNeeds_L105 _ I (by have FUe : FU = 100000 := rfl; have B_23 := IC_b I; omega) (by have FUe : FU = 100000 := rfl; have B_24 := IC_b I; omega) (by have FUe : FU = 100000 := rfl; have B_25 := IC_b I; omega) (by have FUe : FU = 100000 := rfl; have B_26 := IC_b I; omega) (by have FUe : FU = 100000 := rfl; have B_27 := IC_b I; omega)) (fun u_29 z_28 => ?_)
        obtain ⟨I_u_29, G_u_29⟩ := z_28
        have F_u_29 : Fq [] [13] u u_29 := Fq_tr (Fq_rfl u) G_u_29 rfl rfl
        exact ⟨I_u_29, F_u_29⟩
    · refine ok_bP (kC_Lists_at I) (fun r_31 z_30 => ?_)
      have p_32 := z_30
      refine ok_bP (kC_Lists_at I) (fun r_34 z_33 => ?_)
      have p_35 := z_33
      refine ok_bP (kC_Catalog_typeOf I) (fun r_37 z_36 => ?_)
      refine ok_bP (kC_Nodes_putNeed I) (fun u_39 z_38 => ?_)
      obtain ⟨I_u_39, G_u_39⟩ := z_38
      have F_u_39 : Fq [] [13] u u_39 := Fq_tr (Fq_rfl u) G_u_39 rfl rfl
      try have e_42 : (x1 + 1 : Int32).toInt = (x1 : Int32).toInt + (1 : Int32).toInt := by exact add_i (by omega) (by omega)
      refine ok_seq (fun y_41 h_40 => ?_)
      have h_40' : y_41.toInt = (x1 + 1 : Int32).toInt := by rw [h_40]
      refine ok_mono (ih I_u_39 (by have B_43 := IC_b I_u_39; omega) (by have B_44 := IC_b I_u_39; omega) (by have B_45 := IC_b I_u_39; omega)) (fun u_47 z_46 => ?_)
      obtain ⟨I_u_47, G_u_47⟩ := z_46
      have F_u_47 : Fq [] [13] u u_47 := Fq_tr F_u_39 G_u_47 rfl rfl
      exact ⟨I_u_47, F_u_47⟩
theorem kC_Meaning_tellNeeds {u : St} (I : IC u) : ok (mC_Meaning_tellNeeds u) (fun v => IC v ∧ Fq [] [13] u v) := by
  have l0 : (0 : Int32).toInt = 0 := by decide
  have l3 : (3 : Int32).toInt = 3 := by decide
  have l18 : (18 : Int32).toInt = 18 := by decide
  have l200 : (200 : Int32).toInt = 200 := by decide
  rw [mC_Meaning_tellNeeds]
  refine ok_bP (kC_Nodes_putNeed I) (fun u_2 z_1 => ?_)
  obtain ⟨I_u_2, G_u_2⟩ := z_1
  have F_u_2 : Fq [] [13] u u_2 := Fq_tr (Fq_rfl u) G_u_2 rfl rfl
  refine ok_mono (kC_Meaning_tellNeeds_L17 _ I_u_2 (by have FUe : FU = 100000 := rfl; have B_3 := IC_b I_u_2; omega) (by have FUe : FU = 100000 := rfl; have B_4 := IC_b I_u_2; omega) (by have FUe : FU = 100000 := rfl; have B_5 := IC_b I_u_2; omega)) (fun u_7 z_6 => ?_)
  obtain ⟨I_u_7, G_u_7⟩ := z_6
  have F_u_7 : Fq [] [13] u u_7 := Fq_tr F_u_2 G_u_7 rfl rfl
  exact ⟨I_u_7, F_u_7⟩
theorem kC_Nodes_firstOf {x1 : Int32} {u : St} (I : IC u) : ok (mC_Nodes_firstOf x1 u) (fun r => r.toInt ≤ 300 ∨ (ga u 8 x1).toInt ≠ 28) := by
  have lm1 : (-1 : Int32).toInt = -1 := by decide
  have l0 : (0 : Int32).toInt = 0 := by decide
  have l6 : (6 : Int32).toInt = 6 := by decide
  have l8 : (8 : Int32).toInt = 8 := by decide
  have l9 : (9 : Int32).toInt = 9 := by decide
  have l28 : (28 : Int32).toInt = 28 := by decide
  have l300 : (300 : Int32).toInt = 300 := by decide
  rw [mC_Nodes_firstOf]
  have F := IC_par I x1
  refine ok_lt (fun c_1 => ?_) (fun c_1 => ?_)
  · exact ok_some (by have B_2 := IC_b I; omega)
  · refine ok_le (fun c_3 => ?_) (fun c_3 => ?_)
    · exact ok_some (by have B_4 := IC_b I; omega)
    · refine ok_gd (inb_of (by have B_5 := IC_b I; omega) (by have B_6 := IC_b I; omega)) ?_
      exact ok_some (by have B_7 := IC_b I; omega)
theorem kC_Nodes_parentOf {x1 : Int32} {u : St} (I : IC u) : ok (mC_Nodes_parentOf x1 u) (fun r => True) := by
  have lm1 : (-1 : Int32).toInt = -1 := by decide
  have l0 : (0 : Int32).toInt = 0 := by decide
  have l6 : (6 : Int32).toInt = 6 := by decide
  have l12 : (12 : Int32).toInt = 12 := by decide
  rw [mC_Nodes_parentOf]
  refine ok_lt (fun c_1 => ?_) (fun c_1 => ?_)
  · exact ok_some trivial
  · refine ok_le (fun c_2 => ?_) (fun c_2 => ?_)
    · exact ok_some trivial
    · refine ok_gd (inb_of (by have B_3 := IC_b I; omega) (by have B_4 := IC_b I; omega)) ?_
      exact ok_some trivial
