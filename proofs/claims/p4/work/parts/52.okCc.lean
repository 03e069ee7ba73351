theorem kC_Nodes_works {x0 : Int32} {u : St} (I : IC u) : ok (mC_Nodes_works x0 u) (fun r => 0 ≤ r.toInt ∧ r.toInt ≤ 1 ∧ (r.toInt = 0 ∨ (6 ≤ x0.toInt ∧ x0.toInt ≤ 27))) := by
  have l0 : (0 : Int32).toInt = 0 := by decide
  have l1 : (1 : Int32).toInt = 1 := by decide
  have l6 : (6 : Int32).toInt = 6 := by decide
  have l27 : (27 : Int32).toInt = 27 := by decide
  rw [mC_Nodes_works]
  refine ok_lt (fun c_1 => ?_) (fun c_1 => ?_)
  · exact ok_some ⟨(by omega), (by omega), (by omega)⟩
  · refine ok_lt (fun c_2 => ?_) (fun c_2 => ?_)
    · exact ok_some ⟨(by omega), (by omega), (by omega)⟩
    · exact ok_some ⟨(by omega), (by omega), (by omega)⟩
theorem kC_Nodes_again_L17 : ∀ (n : Nat) {x2 : Int32} {x3 : Int32} {x4 : Int32} {x5 : Int32} {u : St} (I : IC u) (h0 : 0 ≤ x5.toInt) (h1 : x5.toInt ≤ 200) (h2 : -1 ≤ x4.toInt) (h3 : x4.toInt < 200) (hm : (200 - x5.toInt).toNat < n), okM (mC_Nodes_again_L17 n x2 x3 x4 x5 u) (fun r v => IC v ∧ Fq [6, 7] [8, 9, 10, 11, 12, 13, 14, 15, 16] u v ∧ -1 ≤ r.toInt ∧ r.toInt < 200) := by
  intro n
  induction n with
  | zero => intro x2 x3 x4 x5 u I h0 h1 h2 h3 hm; exact absurd hm (Nat.not_lt_zero _)
  | succ n ih =>
    intro x2 x3 x4 x5 u I h0 h1 h2 h3 hm
    have l0 : (0 : Int32).toInt = 0 := by decide
    have l1 : (1 : Int32).toInt = 1 := by decide
    have l7 : (7 : Int32).toInt = 7 := by decide
    have l8 : (8 : Int32).toInt = 8 := by decide
    have l9 : (9 : Int32).toInt = 9 := by decide
    have l10 : (10 : Int32).toInt = 10 := by decide
    have l15 : (15 : Int32).toInt = 15 := by decide
    have l16 : (16 : Int32).toInt = 16 := by decide
    have l28 : (28 : Int32).toInt = 28 := by decide
    have l200 : (200 : Int32).toInt = 200 := by decide
    have l300 : (300 : Int32).toInt = 300 := by decide
    rw [mC_Nodes_again_L17]
    have F := IC_par I x5
    refine okM_lt (fun c_1 => ?_) (fun c_1 => ?_)
    · exact okM_some ⟨I, (Fq_rfl u), (by omega), (by omega)⟩
    · refine okM_le (fun c_2 => ?_) (fun c_2 => ?_)
      · exact okM_some ⟨I, (Fq_rfl u), (by omega), (by omega)⟩
      · refine okM_eq (fun c_3 c_3' => ?_) (fun c_3 => ?_)
        · refine okM_gd (inb_of (by have B_4 := IC_b I; omega) (by have B_5 := IC_b I; omega)) ?_
          refine okM_bP (kC_Nodes_works I) (fun r_7 z_6 => ?_)
          obtain ⟨p_8, p_9, p_10⟩ := z_6
          refine okM_eq (fun c_11 c_11' => ?_) (fun c_11 => ?_)
          · refine okM_gd (inb_of (by have B_12 := IC_b I; omega) (by have B_13 := IC_b I; omega)) ?_
            refine okM_gd (inb_of (by have B_14 := IC_b I; omega) (by have B_15 := IC_b I; omega)) ?_
            refine okM_gd (inb_of (by have B_16 := IC_b I; omega) (by have B_17 := IC_b I; omega)) ?_
            refine okM_gd (inb_of (by have B_18 := IC_b I; omega) (by have B_19 := IC_b I; omega)) ?_
            refine okM_bM (kC_Nodes_leaf I (by have FUe : FU = 100000 := rfl; have B_21 := IC_b I; omega)) (fun r_22 u_23 z_20 => ?_)
            obtain ⟨I_u_23, G_u_23, p_24, p_25⟩ := z_20
            have F_u_23 : Fq [6, 7] [8, 9, 10, 11, 12, 13, 14, 15, 16] u u_23 := Fq_tr (Fq_rfl u) G_u_23 rfl rfl
            try have e_28 : (x5 + 1 : Int32).toInt = (x5 : Int32).toInt + (1 : Int32).toInt := by exact add_i (by omega) (by omega)
            refine okM_seq (fun y_27 h_26 => ?_)
            have h_26' : y_27.toInt = (x5 + 1 : Int32).toInt := by rw [h_26]
            refine okM_mono (ih I_u_23 (by have B_29 := IC_b I_u_23; omega) (by have B_30 := IC_b I_u_23; omega) (by have B_31 := IC_b I_u_23; omega) (by have B_32 := IC_b I_u_23; omega) (by have B_33 := IC_b I_u_23; omega)) (fun r_35 u_36 z_34 => ?_)
            obtain ⟨I_u_36, G_u_36, p_37, p_38⟩ := z_34
            have F_u_36 : Fq [6, 7] [8, 9, 10, 11, 12, 13, 14, 15, 16] u u_36 := Fq_tr F_u_23 G_u_36 rfl rfl
            exact ⟨I_u_36, F_u_36, (by omega), (by omega)⟩
          · refine okM_gd (inb_of (by have B_39 := IC_b I; omega) (by have B_40 := IC_b I; omega)) ?_
            refine okM_le (fun c_41 => ?_) (fun c_41 => ?_)
            · refine okM_gd (inb_of (by have B_42 := IC_b I; omega) (by have B_43 := IC_b I; omega)) ?_
              refine okM_gd (inb_of (by have B_44 := IC_b I; omega) (by have B_45 := IC_b I; omega)) ?_
              refine okM_gd (inb_of (by have B_46 := IC_b I; omega) (by have B_47 := IC_b I; omega)) ?_
              try have e_48 : ((ga u 9 x5) + x3 : Int32).toInt = ((ga u 9 x5) : Int32).toInt + (x3 : Int32).toInt := by have B_49 := IC_b I; exact add_i (by omega) (by omega)
              try have e_50 : ((ga u 10 x5) + x3 : Int32).toInt = ((ga u 10 x5) : Int32).toInt + (x3 : Int32).toInt := by have B_51 := IC_b I; exact add_i (by omega) (by omega)
              refine okM_bM (kC_Nodes_join I (by have FUe : FU = 100000 := rfl; have B_53 := IC_b I; omega)) (fun r_54 u_55 z_52 => ?_)
              obtain ⟨I_u_55, G_u_55, p_56, p_57⟩ := z_52
              have F_u_55 : Fq [6, 7] [8, 9, 10, 11, 12, 13, 14, 15, 16] u u_55 := Fq_tr (Fq_rfl u) G_u_55 rfl rfl
              try have e_60 : (x5 + 1 : Int32).toInt = (x5 : Int32).toInt + (1 : Int32).toInt := by exact add_i (by omega) (by omega)
              refine okM_seq (fun y_59 h_58 => ?_)
              have h_58' : y_59.toInt = (x5 + 1 : Int32).toInt := by rw [h_58]
              refine okM_mono (ih I_u_55 (by have B_61 := IC_b I_u_55; omega) (by have B_62 := IC_b I_u_55; omega) (by have B_63 := IC_b I_u_55; omega) (by have B_64 := IC_b I_u_55; omega) (by have B_65 := IC_b I_u_55; omega)) (fun r_67 u_68 z_66 => ?_)
              obtain ⟨I_u_68, G_u_68, p_69, p_70⟩ := z_66
              have F_u_68 : Fq [6, 7] [8, 9, 10, 11, 12, 13, 14, 15, 16] u u_68 := Fq_tr F_u_55 G_u_68 rfl rfl
              exact ⟨I_u_68, F_u_68, (by omega), (by omega)⟩
            · refine okM_gd (inb_of (by have B_71 := IC_b I; omega) (by have B_72 := IC_b I; omega)) ?_
              refine okM_gd (inb_of (by have B_73 := IC_b I; omega) (by have B_74 := IC_b I; omega)) ?_
              try have e_75 : ((ga u 9 x5) + x3 : Int32).toInt = ((ga u 9 x5) : Int32).toInt + (x3 : Int32).toInt := by have B_76 := IC_b I; exact add_i (by omega) (by omega)
              refine okM_bM (kC_Nodes_top I (by have FUe : FU = 100000 := rfl; have B_78 := IC_b I; omega)) (fun r_79 u_80 z_77 => ?_)
              obtain ⟨I_u_80, G_u_80, p_81, p_82⟩ := z_77
              have F_u_80 : Fq [6, 7] [8, 9, 10, 11, 12, 13, 14, 15, 16] u u_80 := Fq_tr (Fq_rfl u) G_u_80 rfl rfl
              try have e_85 : (x5 + 1 : Int32).toInt = (x5 : Int32).toInt + (1 : Int32).toInt := by exact add_i (by omega) (by omega)
              refine okM_seq (fun y_84 h_83 => ?_)
              have h_83' : y_84.toInt = (x5 + 1 : Int32).toInt := by rw [h_83]
              refine okM_mono (ih I_u_80 (by have B_86 := IC_b I_u_80; omega) (by have B_87 := IC_b I_u_80; omega) (by have B_88 := IC_b I_u_80; omega) (by have B_89 := IC_b I_u_80; omega) (by have B_90 := IC_b I_u_80; omega)) (fun r_92 u_93 z_91 => ?_)
              obtain ⟨I_u_93, G_u_93, p_94, p_95⟩ := z_91
              have F_u_93 : Fq [6, 7] [8, 9, 10, 11, 12, 13, 14, 15, 16] u u_93 := Fq_tr F_u_80 G_u_93 rfl rfl
              exact ⟨I_u_93, F_u_93, (by omega), (by omega)⟩
        · exact okM_some ⟨I, (Fq_rfl u), (by omega), (by omega)⟩
theorem kC_Nodes_again {x1 : Int32} {x2 : Int32} {u : St} (I : IC u) : okM (mC_Nodes_again x1 x2 u) (fun r v => IC v ∧ Fq [6, 7] [8, 9, 10, 11, 12, 13, 14, 15, 16] u v ∧ -1 ≤ r.toInt ∧ r.toInt < 200) := by
  have z0 : (0 : Int32).toInt = 0 := by decide
  have FUe : FU = 100000 := rfl
  rw [mC_Nodes_again]
  refine okM_seq (fun y1 h1 => okM_seq (fun y2 h2 => ?_))
  have e : 0 ≤ y2.toInt := by
    rw [h2]
    by_cases h : x1 < 0
    · rw [if_pos h]; omega
    · rw [if_neg h]
      have := Int32.le_iff_toInt_le.mp (Int32.not_lt.mp h)
      omega
  by_cases h : y2.toInt ≤ 200
  · exact kC_Nodes_again_L17 _ I e h (by omega) (by omega) (by omega)
  · have l200 : (200 : Int32).toInt = 200 := by decide
    rw [show FU = 99999 + 1 from rfl, mC_Nodes_again_L17]
    refine okM_lt (fun c => okM_some ⟨I, Fq_rfl u, by omega, by omega⟩) (fun c => ?_)
    exact okM_le (fun c => okM_some ⟨I, Fq_rfl u, by omega, by omega⟩) (fun c => by exfalso; omega)
theorem kC_Parser_aggregate {u : St} (I : IC u) : okM (mC_Parser_aggregate u) (fun r v => IC v ∧ Fq [4] [] u v ∧ -1 ≤ r.toInt ∧ r.toInt ≤ 9) := by
  have lm1 : (-1 : Int32).toInt = -1 := by decide
  have l0 : (0 : Int32).toInt = 0 := by decide
  have l1 : (1 : Int32).toInt = 1 := by decide
  have l6 : (6 : Int32).toInt = 6 := by decide
  have l7 : (7 : Int32).toInt = 7 := by decide
  have l8 : (8 : Int32).toInt = 8 := by decide
  have l9 : (9 : Int32).toInt = 9 := by decide
  have l10 : (10 : Int32).toInt = 10 := by decide
  have l11 : (11 : Int32).toInt = 11 := by decide
  have l12 : (12 : Int32).toInt = 12 := by decide
  have l13 : (13 : Int32).toInt = 13 := by decide
  rw [mC_Parser_aggregate]
  refine okM_bM (kC_Tokens_takes I (by decide)) (fun r_2 u_3 z_1 => ?_)
  obtain ⟨I_u_3, G_u_3, p_4, p_5⟩ := z_1
  have F_u_3 : Fq [4] [] u u_3 := Fq_tr (Fq_rfl u) G_u_3 rfl rfl
  refine okM_eq (fun c_6 c_6' => ?_) (fun c_6 => ?_)
  · refine okM_bM (kC_Tokens_takes I_u_3 (by decide)) (fun r_8 u_9 z_7 => ?_)
    obtain ⟨I_u_9, G_u_9, p_10, p_11⟩ := z_7
    have F_u_9 : Fq [4] [] u u_9 := Fq_tr F_u_3 G_u_9 rfl rfl
    refine okM_eq (fun c_12 c_12' => ?_) (fun c_12 => ?_)
    · refine okM_bM (kC_Tokens_takes I_u_9 (by decide)) (fun r_14 u_15 z_13 => ?_)
      obtain ⟨I_u_15, G_u_15, p_16, p_17⟩ := z_13
      have F_u_15 : Fq [4] [] u u_15 := Fq_tr F_u_9 G_u_15 rfl rfl
      refine okM_eq (fun c_18 c_18' => ?_) (fun c_18 => ?_)
      · refine okM_bM (kC_Tokens_takes I_u_15 (by decide)) (fun r_20 u_21 z_19 => ?_)
        obtain ⟨I_u_21, G_u_21, p_22, p_23⟩ := z_19
        have F_u_21 : Fq [4] [] u u_21 := Fq_tr F_u_15 G_u_21 rfl rfl
        refine okM_eq (fun c_24 c_24' => ?_) (fun c_24 => ?_)
        · exact okM_some ⟨I_u_21, F_u_21, (by omega), (by omega)⟩
        · exact okM_some ⟨I_u_21, F_u_21, (by omega), (by omega)⟩
      · exact okM_some ⟨I_u_15, F_u_15, (by omega), (by omega)⟩
    · exact okM_some ⟨I_u_9, F_u_9, (by omega), (by omega)⟩
  · exact okM_some ⟨I_u_3, F_u_3, (by omega), (by omega)⟩
theorem kC_Tokens_numberOf_L5 : ∀ (n : Nat) {x1 : Int32} {x2 : Int64} {x4 : Int32} {u : St} (I : IC u) (h0 : 0 ≤ x4.toInt) (h1 : x4.toInt ≤ 31) (hm : (31 - x4.toInt).toNat < n), ok (mC_Tokens_numberOf_L5 n x1 x2 x4 u) (fun r => True) := by
  intro n
  induction n with
  | zero => intro x1 x2 x4 u I h0 h1 hm; exact absurd hm (Nat.not_lt_zero _)
  | succ n ih =>
    intro x1 x2 x4 u I h0 h1 hm
    have l0 : (0 : Int32).toInt = 0 := by decide
    have l1 : (1 : Int32).toInt = 1 := by decide
    have l10 : (10 : Int32).toInt = 10 := by decide
    have l31 : (31 : Int32).toInt = 31 := by decide
    have l48 : (48 : Int32).toInt = 48 := by decide
    rw [mC_Tokens_numberOf_L5]
    refine ok_bP (kC_Text_sizeOf I) (fun r_2 z_1 => ?_)
    obtain ⟨p_3, p_4, p_5⟩ := z_1
    refine ok_le (fun c_6 => ?_) (fun c_6 => ?_)
    · exact ok_some trivial
    · refine ok_bP (kC_Text_startOf I) (fun r_8 z_7 => ?_)
      try have e_9 : (r_8 + x4 : Int32).toInt = (r_8 : Int32).toInt + (x4 : Int32).toInt := by exact add_i (by omega) (by omega)
      refine ok_bP (kC_Text_at_11 I) (fun r_11 z_10 => ?_)
      obtain ⟨p_12, p_13, p_14⟩ := z_10
      try have e_17 : (x2 * 10 : Int32).toInt = (x2 : Int32).toInt * 10 := by exact muc_i l10 (by omega) (by omega)
      try have e_18 : ((x2 * 10) + (Int32.toInt64 (r_11 - 48)) : Int32).toInt = ((x2 * 10) : Int32).toInt + ((Int32.toInt64 (r_11 - 48)) : Int32).toInt := by exact add_i (by omega) (by omega)
      refine ok_seq (fun y_16 h_15 => ?_)
      try have e_21 : (x4 + 1 : Int32).toInt = (x4 : Int32).toInt + (1 : Int32).toInt := by exact add_i (by omega) (by omega)
      refine ok_seq (fun y_20 h_19 => ?_)
      have h_19' : y_20.toInt = (x4 + 1 : Int32).toInt := by rw [h_19]
      refine ok_mono (ih I (by have B_22 := IC_b I; omega) (by have B_23 := IC_b I; omega) (by have B_24 := IC_b I; omega)) (fun r_26 z_25 => ?_)
      exact trivial
theorem kC_Tokens_numberOf {x1 : Int32} {u : St} (I : IC u) : ok (mC_Tokens_numberOf x1 u) (fun r => x1.toInt < 0 ∨ (x1 &&& 31).toInt ≠ 1 ∨ (Int64.toInt32 r).toInt ≤ 300) := by
  have z0 : (0 : Int32).toInt = 0 := by decide
  have l1 : (1 : Int32).toInt = 1 := by decide
  have l48 : (48 : Int32).toInt = 48 := by decide
  have FUe : FU = 100000 := rfl
  rw [mC_Tokens_numberOf]
  by_cases hc : x1.toInt < 0 ∨ (x1 &&& 31).toInt ≠ 1
  · exact ok_mono (kC_Tokens_numberOf_L5 _ I (by omega) (by omega) (by omega)) (fun r _ => by omega)
  · rw [show FU = 99998 + 1 + 1 from rfl, mC_Tokens_numberOf_L5]
    refine ok_bP (kC_Text_sizeOf I) (fun r hr => ?_)
    refine ok_le (fun c => by exfalso; omega) (fun c => ?_)
    refine ok_bP (kC_Text_startOf I) (fun r2 _ => ?_)
    refine ok_bP (kC_Text_at_11 I) (fun r3 h3 => ?_)
    refine ok_seq (fun y4 hy4 => ok_seq (fun y5 hy5 => ?_))
    have e5 : y5.toInt = 1 := by rw [hy5]; decide
    rw [mC_Tokens_numberOf_L5]
    refine ok_bP (kC_Text_sizeOf I) (fun r4 hr4 => ?_)
    refine ok_le (fun c => ok_some ?_) (fun c => by exfalso; omega)
    have e6 : Int64.toInt32 y4 = r3 - 48 := by
      rw [hy4]
      simp
    have e7 := sub_i (a := r3) (b := 48) (by omega) (by omega)
    rw [e6]
    omega
theorem kC_Parser_leaf {u : St} (I : IC u) : okM (mC_Parser_leaf u) (fun r v => IC v ∧ Fq [4, 6, 7] [8, 9, 10, 11, 12, 13, 14, 15, 16] u v ∧ -1 ≤ r.toInt ∧ r.toInt < 200) := by
  have lm1 : (-1 : Int32).toInt = -1 := by decide
  have l0 : (0 : Int32).toInt = 0 := by decide
  have l1 : (1 : Int32).toInt = 1 := by decide
  have l2 : (2 : Int32).toInt = 2 := by decide
  have l3 : (3 : Int32).toInt = 3 := by decide
  have l4 : (4 : Int32).toInt = 4 := by decide
  have l14 : (14 : Int32).toInt = 14 := by decide
  have l15 : (15 : Int32).toInt = 15 := by decide
  have l16 : (16 : Int32).toInt = 16 := by decide
  have l28 : (28 : Int32).toInt = 28 := by decide
  have l200 : (200 : Int32).toInt = 200 := by decide
  have l300 : (300 : Int32).toInt = 300 := by decide
  rw [mC_Parser_leaf]
  refine okM_bM (kC_Tokens_take I) (fun r_2 u_3 z_1 => ?_)
  obtain ⟨I_u_3, G_u_3, p_4, p_5, p_6⟩ := z_1
  have F_u_3 : Fq [4, 6, 7] [8, 9, 10, 11, 12, 13, 14, 15, 16] u u_3 := Fq_tr (Fq_rfl u) G_u_3 rfl rfl
  refine okM_lt (fun c_7 => ?_) (fun c_7 => ?_)
  · refine okM_bM (kC_Tokens_take I_u_3) (fun r_9 u_10 z_8 => ?_)
    obtain ⟨I_u_10, G_u_10, p_11, p_12, p_13⟩ := z_8
    have F_u_10 : Fq [4, 6, 7] [8, 9, 10, 11, 12, 13, 14, 15, 16] u u_10 := Fq_tr F_u_3 G_u_10 rfl rfl
    refine okM_lt (fun c_14 => ?_) (fun c_14 => ?_)
    · refine okM_bM (kC_Tokens_take I_u_10) (fun r_16 u_17 z_15 => ?_)
      obtain ⟨I_u_17, G_u_17, p_18, p_19, p_20⟩ := z_15
      have F_u_17 : Fq [4, 6, 7] [8, 9, 10, 11, 12, 13, 14, 15, 16] u u_17 := Fq_tr F_u_10 G_u_17 rfl rfl
      refine okM_lt (fun c_21 => ?_) (fun c_21 => ?_)
      · refine okM_bM (kC_Tokens_takes I_u_17 (by decide)) (fun r_23 u_24 z_22 => ?_)
        obtain ⟨I_u_24, G_u_24, p_25, p_26⟩ := z_22
        have F_u_24 : Fq [4, 6, 7] [8, 9, 10, 11, 12, 13, 14, 15, 16] u u_24 := Fq_tr F_u_17 G_u_24 rfl rfl
        refine okM_eq (fun c_27 c_27' => ?_) (fun c_27 => ?_)
        · refine okM_bM (kC_Tokens_takes I_u_24 (by decide)) (fun r_29 u_30 z_28 => ?_)
          obtain ⟨I_u_30, G_u_30, p_31, p_32⟩ := z_28
          have F_u_30 : Fq [4, 6, 7] [8, 9, 10, 11, 12, 13, 14, 15, 16] u u_30 := Fq_tr F_u_24 G_u_30 rfl rfl
          refine okM_eq (fun c_33 c_33' => ?_) (fun c_33 => ?_)
          · refine okM_bM (kC_Tokens_takes I_u_30 (by decide)) (fun r_35 u_36 z_34 => ?_)
            obtain ⟨I_u_36, G_u_36, p_37, p_38⟩ := z_34
            have F_u_36 : Fq [4, 6, 7] [8, 9, 10, 11, 12, 13, 14, 15, 16] u u_36 := Fq_tr F_u_30 G_u_36 rfl rfl
            refine okM_eq (fun c_39 c_39' => ?_) (fun c_39 => ?_)
            · exact okM_some ⟨I_u_36, F_u_36, (by omega), (by omega)⟩
            · refine okM_bM (kC_Nodes_leaf I_u_36 (by have FUe : FU = 100000 := rfl; have B_41 := IC_b I_u_36; omega)) (fun r_42 u_43 z_40 => ?_)
              obtain ⟨I_u_43, G_u_43, p_44, p_45⟩ := z_40
              have F_u_43 : Fq [4, 6, 7] [8, 9, 10, 11, 12, 13, 14, 15, 16] u u_43 := Fq_tr F_u_36 G_u_43 rfl rfl
              exact okM_some ⟨I_u_43, F_u_43, (by omega), (by omega)⟩
          · refine okM_bM (kC_Nodes_leaf I_u_30 (by have FUe : FU = 100000 := rfl; have B_47 := IC_b I_u_30; omega)) (fun r_48 u_49 z_46 => ?_)
            obtain ⟨I_u_49, G_u_49, p_50, p_51⟩ := z_46
            have F_u_49 : Fq [4, 6, 7] [8, 9, 10, 11, 12, 13, 14, 15, 16] u u_49 := Fq_tr F_u_30 G_u_49 rfl rfl
            exact okM_some ⟨I_u_49, F_u_49, (by omega), (by omega)⟩
        · refine okM_bM (kC_Nodes_leaf I_u_24 (by have FUe : FU = 100000 := rfl; have B_53 := IC_b I_u_24; omega)) (fun r_54 u_55 z_52 => ?_)
          obtain ⟨I_u_55, G_u_55, p_56, p_57⟩ := z_52
          have F_u_55 : Fq [4, 6, 7] [8, 9, 10, 11, 12, 13, 14, 15, 16] u u_55 := Fq_tr F_u_24 G_u_55 rfl rfl
          exact okM_some ⟨I_u_55, F_u_55, (by omega), (by omega)⟩
      · refine okM_bP (kC_Tokens_numberOf I_u_17) (fun r_59 z_58 => ?_)
        have p_60 := z_58
        refine okM_bM (kC_Nodes_leaf I_u_17 (by have FUe : FU = 100000 := rfl; have B_62 := IC_b I_u_17; omega)) (fun r_63 u_64 z_61 => ?_)
        obtain ⟨I_u_64, G_u_64, p_65, p_66⟩ := z_61
        have F_u_64 : Fq [4, 6, 7] [8, 9, 10, 11, 12, 13, 14, 15, 16] u u_64 := Fq_tr F_u_17 G_u_64 rfl rfl
        exact okM_some ⟨I_u_64, F_u_64, (by omega), (by omega)⟩
    · refine okM_bM (kC_Nodes_leaf I_u_10 (by have FUe : FU = 100000 := rfl; have B_68 := IC_b I_u_10; omega)) (fun r_69 u_70 z_67 => ?_)
      obtain ⟨I_u_70, G_u_70, p_71, p_72⟩ := z_67
      have F_u_70 : Fq [4, 6, 7] [8, 9, 10, 11, 12, 13, 14, 15, 16] u u_70 := Fq_tr F_u_10 G_u_70 rfl rfl
      exact okM_some ⟨I_u_70, F_u_70, (by omega), (by omega)⟩
  · refine okM_bM (kC_Nodes_leaf I_u_3 (by have FUe : FU = 100000 := rfl; have B_74 := IC_b I_u_3; omega)) (fun r_75 u_76 z_73 => ?_)
    obtain ⟨I_u_76, G_u_76, p_77, p_78⟩ := z_73
    have F_u_76 : Fq [4, 6, 7] [8, 9, 10, 11, 12, 13, 14, 15, 16] u u_76 := Fq_tr F_u_3 G_u_76 rfl rfl
    exact okM_some ⟨I_u_76, F_u_76, (by omega), (by omega)⟩
theorem kC_Parser_place {u : St} (I : IC u) : okM (mC_Parser_place u) (fun r v => IC v ∧ Fq [4, 6, 7] [8, 9, 10, 11, 12, 13, 14, 15, 16] u v ∧ -1 ≤ r.toInt ∧ r.toInt < 200) := by
  have lm1 : (-1 : Int32).toInt = -1 := by decide
  have l0 : (0 : Int32).toInt = 0 := by decide
  have l1 : (1 : Int32).toInt = 1 := by decide
  have l4 : (4 : Int32).toInt = 4 := by decide
  have l17 : (17 : Int32).toInt = 17 := by decide
  have l28 : (28 : Int32).toInt = 28 := by decide
  have l200 : (200 : Int32).toInt = 200 := by decide
  have l300 : (300 : Int32).toInt = 300 := by decide
  rw [mC_Parser_place]
  refine okM_bM (kC_Tokens_take I) (fun r_2 u_3 z_1 => ?_)
  obtain ⟨I_u_3, G_u_3, p_4, p_5, p_6⟩ := z_1
  have F_u_3 : Fq [4, 6, 7] [8, 9, 10, 11, 12, 13, 14, 15, 16] u u_3 := Fq_tr (Fq_rfl u) G_u_3 rfl rfl
  refine okM_lt (fun c_7 => ?_) (fun c_7 => ?_)
  · rw [mC_Parser_place_J26]
    refine okM_le (fun c_8 => ?_) (fun c_8 => ?_)
    · refine okM_bM (kC_Nodes_leaf I_u_3 (by have FUe : FU = 100000 := rfl; have B_10 := IC_b I_u_3; omega)) (fun r_11 u_12 z_9 => ?_)
      obtain ⟨I_u_12, G_u_12, p_13, p_14⟩ := z_9
      have F_u_12 : Fq [4, 6, 7] [8, 9, 10, 11, 12, 13, 14, 15, 16] u u_12 := Fq_tr F_u_3 G_u_12 rfl rfl
      exact okM_some ⟨I_u_12, F_u_12, (by omega), (by omega)⟩
    · exact okM_some ⟨I_u_3, F_u_3, (by omega), (by omega)⟩
  · refine okM_bM (kC_Tokens_takes I_u_3 (by decide)) (fun r_16 u_17 z_15 => ?_)
    obtain ⟨I_u_17, G_u_17, p_18, p_19⟩ := z_15
    have F_u_17 : Fq [4, 6, 7] [8, 9, 10, 11, 12, 13, 14, 15, 16] u u_17 := Fq_tr F_u_3 G_u_17 rfl rfl
    refine okM_eq (fun c_20 c_20' => ?_) (fun c_20 => ?_)
    · rw [mC_Parser_place_J26]
      refine okM_le (fun c_21 => ?_) (fun c_21 => ?_)
      · refine okM_bM (kC_Nodes_leaf I_u_17 (by have FUe : FU = 100000 := rfl; have B_23 := IC_b I_u_17; omega)) (fun r_24 u_25 z_22 => ?_)
        obtain ⟨I_u_25, G_u_25, p_26, p_27⟩ := z_22
        have F_u_25 : Fq [4, 6, 7] [8, 9, 10, 11, 12, 13, 14, 15, 16] u u_25 := Fq_tr F_u_17 G_u_25 rfl rfl
        exact okM_some ⟨I_u_25, F_u_25, (by omega), (by omega)⟩
      · exact okM_some ⟨I_u_17, F_u_17, (by omega), (by omega)⟩
    · refine okM_bM (kC_Tokens_take I_u_17) (fun r_29 u_30 z_28 => ?_)
      obtain ⟨I_u_30, G_u_30, p_31, p_32, p_33⟩ := z_28
      have F_u_30 : Fq [4, 6, 7] [8, 9, 10, 11, 12, 13, 14, 15, 16] u u_30 := Fq_tr F_u_17 G_u_30 rfl rfl
      refine okM_le (fun c_34 => ?_) (fun c_34 => ?_)
      · refine okM_bM (kC_Nodes_leaf I_u_30 (by have FUe : FU = 100000 := rfl; have B_36 := IC_b I_u_30; omega)) (fun r_37 u_38 z_35 => ?_)
        obtain ⟨I_u_38, G_u_38, p_39, p_40⟩ := z_35
        have F_u_38 : Fq [4, 6, 7] [8, 9, 10, 11, 12, 13, 14, 15, 16] u u_38 := Fq_tr F_u_30 G_u_38 rfl rfl
        exact okM_some ⟨I_u_38, F_u_38, (by omega), (by omega)⟩
      · exact okM_some ⟨I_u_30, F_u_30, (by omega), (by omega)⟩
def RCn (rc : Nat → Int32 → Int32 → Int32 → Int32 → St → Option (Int32 × St)) (n : Nat) : Prop := (∀ {a b : Int32} {u : St}, IC u → a.toInt ≠ 28 → 0 ≤ b.toInt → b.toInt ≤ 20 → 12 * (21 - b.toInt) + 1 ≤ (n : Int) → okM (rc 0 a b 0 0 u) (fun r v => IC v ∧ Fq [4, 6, 7] [8, 9, 10, 11, 12, 13, 14, 15, 16] u v ∧ -1 ≤ r.toInt ∧ r.toInt < 200)) ∧ (∀ {a : Int32} {u : St}, IC u → 0 ≤ a.toInt → a.toInt ≤ 21 → 12 * (21 - a.toInt) + 2 ≤ (n : Int) → okM (rc 1 a 0 0 0 u) (fun r v => IC v ∧ Fq [4, 6, 7] [8, 9, 10, 11, 12, 13, 14, 15, 16] u v ∧ -1 ≤ r.toInt ∧ r.toInt < 200)) ∧ (∀ {a b c : Int32} {u : St}, IC u → 0 ≤ c.toInt → c.toInt ≤ 20 → 12 * (21 - c.toInt) + 1 ≤ (n : Int) → okM (rc 2 a b c 0 u) (fun r v => IC v ∧ Fq [4, 6, 7] [8, 9, 10, 11, 12, 13, 14, 15, 16] u v ∧ -1 ≤ r.toInt ∧ r.toInt < 200)) ∧ (∀ {a b c : Int32} {u : St}, IC u → 0 ≤ c.toInt → c.toInt ≤ 20 → 12 * (21 - c.toInt) + 7 ≤ (n : Int) → okM (rc 3 a b c 0 u) (fun r v => IC v ∧ Fq [4, 6, 7] [8, 9, 10, 11, 12, 13, 14, 15, 16] u v ∧ -1 ≤ r.toInt ∧ r.toInt < 200)) ∧ (∀ {a b c d : Int32} {u : St}, IC u → a.toInt ≠ 28 → 0 ≤ d.toInt → d.toInt ≤ 20 → 12 * (21 - d.toInt) + 8 ≤ (n : Int) → okM (rc 4 a b c d u) (fun r v => IC v ∧ Fq [4, 6, 7] [8, 9, 10, 11, 12, 13, 14, 15, 16] u v ∧ -1 ≤ r.toInt ∧ r.toInt < 200)) ∧ (∀ {a b : Int32} {u : St}, IC u → 1 ≤ a.toInt → a.toInt ≤ 8 → 0 ≤ b.toInt → b.toInt ≤ 21 → 12 * (21 - b.toInt) + 11 - a.toInt ≤ (n : Int) → (5 ≤ a.toInt ∨ 12 * (21 - b.toInt) + 13 - a.toInt ≤ (n : Int)) → okM (rc 5 a b 0 0 u) (fun r v => IC v ∧ Fq [4, 6, 7] [8, 9, 10, 11, 12, 13, 14, 15, 16] u v ∧ -1 ≤ r.toInt ∧ r.toInt < 200))
theorem kC_Parser_aggregated_o {rc : Nat → Int32 → Int32 → Int32 → Int32 → St → Option (Int32 × St)} {n : Nat} (R : RCn rc n) {x1 : Int32} {x2 : Int32} {u : St} (I : IC u) (h0 : x1.toInt ≠ 28) (h1 : 0 ≤ x2.toInt) (h2 : x2.toInt ≤ 20) (h3 : 12 * (21 - x2.toInt) + 1 ≤ (n : Int) + 1) : okM (mC_Parser_aggregated_o rc x1 x2 u) (fun r v => IC v ∧ Fq [4, 6, 7] [8, 9, 10, 11, 12, 13, 14, 15, 16] u v ∧ -1 ≤ r.toInt ∧ r.toInt < 200) := by
  have lm1 : (-1 : Int32).toInt = -1 := by decide
  have l0 : (0 : Int32).toInt = 0 := by decide
  have l1 : (1 : Int32).toInt = 1 := by decide
  have l5 : (5 : Int32).toInt = 5 := by decide
  have l6 : (6 : Int32).toInt = 6 := by decide
  have l8 : (8 : Int32).toInt = 8 := by decide
  have l9 : (9 : Int32).toInt = 9 := by decide
  have l11 : (11 : Int32).toInt = 11 := by decide
  have l12 : (12 : Int32).toInt = 12 := by decide
  have l13 : (13 : Int32).toInt = 13 := by decide
  have l21 : (21 : Int32).toInt = 21 := by decide
  have l28 : (28 : Int32).toInt = 28 := by decide
  have l200 : (200 : Int32).toInt = 200 := by decide
  have l300 : (300 : Int32).toInt = 300 := by decide
  rw [mC_Parser_aggregated_o]
  refine okM_bM (kC_Tokens_takes I (by decide)) (fun r_2 u_3 z_1 => ?_)
  obtain ⟨I_u_3, G_u_3, p_4, p_5⟩ := z_1
  have F_u_3 : Fq [4, 6, 7] [8, 9, 10, 11, 12, 13, 14, 15, 16] u u_3 := Fq_tr (Fq_rfl u) G_u_3 rfl rfl
  refine okM_eq (fun c_6 c_6' => ?_) (fun c_6 => ?_)
  · exact okM_some ⟨I_u_3, F_u_3, (by omega), (by omega)⟩
  · refine okM_eq (fun c_7 c_7' => ?_) (fun c_7 => ?_)
    · refine okM_bM (kC_Tokens_takes I_u_3 (by decide)) (fun r_9 u_10 z_8 => ?_)
      obtain ⟨I_u_10, G_u_10, p_11, p_12⟩ := z_8
      have F_u_10 : Fq [4, 6, 7] [8, 9, 10, 11, 12, 13, 14, 15, 16] u u_10 := Fq_tr F_u_3 G_u_10 rfl rfl
      refine okM_eq (fun c_13 c_13' => ?_) (fun c_13 => ?_)
      · rw [mC_Parser_aggregated_J46]
        try have e_14 : (x2 + 1 : Int32).toInt = (x2 : Int32).toInt + (1 : Int32).toInt := by exact add_i (by omega) (by omega)
        refine okM_bM (R.2.2.2.2.2 I_u_10 (by have B_16 := IC_b I_u_10; omega) (by have B_17 := IC_b I_u_10; omega) (by have B_18 := IC_b I_u_10; omega) (by have B_19 := IC_b I_u_10; omega) (by have B_20 := IC_b I_u_10; omega) (by have B_21 := IC_b I_u_10; omega)) (fun r_22 u_23 z_15 => ?_)
        obtain ⟨I_u_23, G_u_23, p_24, p_25⟩ := z_15
        have F_u_23 : Fq [4, 6, 7] [8, 9, 10, 11, 12, 13, 14, 15, 16] u u_23 := Fq_tr F_u_10 G_u_23 rfl rfl
        refine okM_bM (kC_Nodes_top I_u_23 (by have FUe : FU = 100000 := rfl; have B_27 := IC_b I_u_23; omega)) (fun r_28 u_29 z_26 => ?_)
        obtain ⟨I_u_29, G_u_29, p_30, p_31⟩ := z_26
        have F_u_29 : Fq [4, 6, 7] [8, 9, 10, 11, 12, 13, 14, 15, 16] u u_29 := Fq_tr F_u_23 G_u_29 rfl rfl
        rw [mC_Parser_aggregated_J62]
        refine okM_bM (kC_Tokens_takes I_u_29 (by decide)) (fun r_33 u_34 z_32 => ?_)
        obtain ⟨I_u_34, G_u_34, p_35, p_36⟩ := z_32
        have F_u_34 : Fq [4, 6, 7] [8, 9, 10, 11, 12, 13, 14, 15, 16] u u_34 := Fq_tr F_u_29 G_u_34 rfl rfl
        refine okM_eq (fun c_37 c_37' => ?_) (fun c_37 => ?_)
        · exact okM_some ⟨I_u_34, F_u_34, (by omega), (by omega)⟩
        · exact okM_some ⟨I_u_34, F_u_34, (by omega), (by omega)⟩
      · refine okM_bM (kC_Nodes_leaf I_u_10 (by have FUe : FU = 100000 := rfl; have B_39 := IC_b I_u_10; omega)) (fun r_40 u_41 z_38 => ?_)
        obtain ⟨I_u_41, G_u_41, p_42, p_43⟩ := z_38
        have F_u_41 : Fq [4, 6, 7] [8, 9, 10, 11, 12, 13, 14, 15, 16] u u_41 := Fq_tr F_u_10 G_u_41 rfl rfl
        rw [mC_Parser_aggregated_J62]
        refine okM_bM (kC_Tokens_takes I_u_41 (by decide)) (fun r_45 u_46 z_44 => ?_)
        obtain ⟨I_u_46, G_u_46, p_47, p_48⟩ := z_44
        have F_u_46 : Fq [4, 6, 7] [8, 9, 10, 11, 12, 13, 14, 15, 16] u u_46 := Fq_tr F_u_41 G_u_46 rfl rfl
        refine okM_eq (fun c_49 c_49' => ?_) (fun c_49 => ?_)
        · exact okM_some ⟨I_u_46, F_u_46, (by omega), (by omega)⟩
        · exact okM_some ⟨I_u_46, F_u_46, (by omega), (by omega)⟩
    · rw [mC_Parser_aggregated_J46]
      try have e_50 : (x2 + 1 : Int32).toInt = (x2 : Int32).toInt + (1 : Int32).toInt := by exact add_i (by omega) (by omega)
      refine okM_bM (R.2.2.2.2.2 I_u_3 (by have B_52 := IC_b I_u_3; omega) (by have B_53 := IC_b I_u_3; omega) (by have B_54 := IC_b I_u_3; omega) (by have B_55 := IC_b I_u_3; omega) (by have B_56 := IC_b I_u_3; omega) (by have B_57 := IC_b I_u_3; omega)) (fun r_58 u_59 z_51 => ?_)
      obtain ⟨I_u_59, G_u_59, p_60, p_61⟩ := z_51
      have F_u_59 : Fq [4, 6, 7] [8, 9, 10, 11, 12, 13, 14, 15, 16] u u_59 := Fq_tr F_u_3 G_u_59 rfl rfl
      refine okM_bM (kC_Nodes_top I_u_59 (by have FUe : FU = 100000 := rfl; have B_63 := IC_b I_u_59; omega)) (fun r_64 u_65 z_62 => ?_)
      obtain ⟨I_u_65, G_u_65, p_66, p_67⟩ := z_62
      have F_u_65 : Fq [4, 6, 7] [8, 9, 10, 11, 12, 13, 14, 15, 16] u u_65 := Fq_tr F_u_59 G_u_65 rfl rfl
      rw [mC_Parser_aggregated_J62]
      refine okM_bM (kC_Tokens_takes I_u_65 (by decide)) (fun r_69 u_70 z_68 => ?_)
      obtain ⟨I_u_70, G_u_70, p_71, p_72⟩ := z_68
      have F_u_70 : Fq [4, 6, 7] [8, 9, 10, 11, 12, 13, 14, 15, 16] u u_70 := Fq_tr F_u_65 G_u_70 rfl rfl
      refine okM_eq (fun c_73 c_73' => ?_) (fun c_73 => ?_)
      · exact okM_some ⟨I_u_70, F_u_70, (by omega), (by omega)⟩
      · exact okM_some ⟨I_u_70, F_u_70, (by omega), (by omega)⟩
theorem kC_Parser_operand_o {rc : Nat → Int32 → Int32 → Int32 → Int32 → St → Option (Int32 × St)} {n : Nat} (R : RCn rc n) {x1 : Int32} {u : St} (I : IC u) (h0 : 0 ≤ x1.toInt) (h1 : x1.toInt ≤ 21) (h2 : 12 * (21 - x1.toInt) + 2 ≤ (n : Int) + 1) : okM (mC_Parser_operand_o rc x1 u) (fun r v => IC v ∧ Fq [4, 6, 7] [8, 9, 10, 11, 12, 13, 14, 15, 16] u v ∧ -1 ≤ r.toInt ∧ r.toInt < 200) := by
  have lm1 : (-1 : Int32).toInt = -1 := by decide
  have l0 : (0 : Int32).toInt = 0 := by decide
  have l1 : (1 : Int32).toInt = 1 := by decide
  have l2 : (2 : Int32).toInt = 2 := by decide
  have l5 : (5 : Int32).toInt = 5 := by decide
  have l7 : (7 : Int32).toInt = 7 := by decide
  have l8 : (8 : Int32).toInt = 8 := by decide
  have l9 : (9 : Int32).toInt = 9 := by decide
  have l10 : (10 : Int32).toInt = 10 := by decide
  have l11 : (11 : Int32).toInt = 11 := by decide
  have l12 : (12 : Int32).toInt = 12 := by decide
  have l13 : (13 : Int32).toInt = 13 := by decide
  have l20 : (20 : Int32).toInt = 20 := by decide
  have l21 : (21 : Int32).toInt = 21 := by decide
  have l23 : (23 : Int32).toInt = 23 := by decide
  have l28 : (28 : Int32).toInt = 28 := by decide
  have l200 : (200 : Int32).toInt = 200 := by decide
  rw [mC_Parser_operand_o]
  refine okM_le (fun c_1 => ?_) (fun c_1 => ?_)
  · refine okM_bM (kC_Tokens_takes I (by decide)) (fun r_3 u_4 z_2 => ?_)
    obtain ⟨I_u_4, G_u_4, p_5, p_6⟩ := z_2
    have F_u_4 : Fq [4, 6, 7] [8, 9, 10, 11, 12, 13, 14, 15, 16] u u_4 := Fq_tr (Fq_rfl u) G_u_4 rfl rfl
    refine okM_eq (fun c_7 c_7' => ?_) (fun c_7 => ?_)
    · refine okM_bM (kC_Tokens_takes I_u_4 (by decide)) (fun r_9 u_10 z_8 => ?_)
      obtain ⟨I_u_10, G_u_10, p_11, p_12⟩ := z_8
      have F_u_10 : Fq [4, 6, 7] [8, 9, 10, 11, 12, 13, 14, 15, 16] u u_10 := Fq_tr F_u_4 G_u_10 rfl rfl
      refine okM_eq (fun c_13 c_13' => ?_) (fun c_13 => ?_)
      · refine okM_eq (fun c_14 c_14' => ?_) (fun c_14 => ?_)
        · rw [mC_Parser_operand_J92]
          refine okM_pos (by decide) ?_
          refine okM_bM (kC_Parser_leaf I_u_10) (fun r_16 u_17 z_15 => ?_)
          obtain ⟨I_u_17, G_u_17, p_18, p_19⟩ := z_15
          have F_u_17 : Fq [4, 6, 7] [8, 9, 10, 11, 12, 13, 14, 15, 16] u u_17 := Fq_tr F_u_10 G_u_17 rfl rfl
          refine okM_le (fun c_20 => ?_) (fun c_20 => ?_)
          · exact okM_some ⟨I_u_17, F_u_17, (by omega), (by omega)⟩
          · refine okM_bM (kC_Parser_place I_u_17) (fun r_22 u_23 z_21 => ?_)
            obtain ⟨I_u_23, G_u_23, p_24, p_25⟩ := z_21
            have F_u_23 : Fq [4, 6, 7] [8, 9, 10, 11, 12, 13, 14, 15, 16] u u_23 := Fq_tr F_u_17 G_u_23 rfl rfl
            exact okM_some ⟨I_u_23, F_u_23, (by omega), (by omega)⟩
        · refine okM_bM (kC_Parser_aggregate I_u_10) (fun r_27 u_28 z_26 => ?_)
          obtain ⟨I_u_28, G_u_28, p_29, p_30⟩ := z_26
          have F_u_28 : Fq [4, 6, 7] [8, 9, 10, 11, 12, 13, 14, 15, 16] u u_28 := Fq_tr F_u_10 G_u_28 rfl rfl
          rw [mC_Parser_operand_J92]
          refine okM_lt (fun c_31 => ?_) (fun c_31 => ?_)
          · refine okM_bM (kC_Parser_leaf I_u_28) (fun r_33 u_34 z_32 => ?_)
            obtain ⟨I_u_34, G_u_34, p_35, p_36⟩ := z_32
            have F_u_34 : Fq [4, 6, 7] [8, 9, 10, 11, 12, 13, 14, 15, 16] u u_34 := Fq_tr F_u_28 G_u_34 rfl rfl
            refine okM_le (fun c_37 => ?_) (fun c_37 => ?_)
            · exact okM_some ⟨I_u_34, F_u_34, (by omega), (by omega)⟩
            · refine okM_bM (kC_Parser_place I_u_34) (fun r_39 u_40 z_38 => ?_)
              obtain ⟨I_u_40, G_u_40, p_41, p_42⟩ := z_38
              have F_u_40 : Fq [4, 6, 7] [8, 9, 10, 11, 12, 13, 14, 15, 16] u u_40 := Fq_tr F_u_34 G_u_40 rfl rfl
              exact okM_some ⟨I_u_40, F_u_40, (by omega), (by omega)⟩
          · refine okM_bM (R.1 I_u_28 (by have B_44 := IC_b I_u_28; omega) (by have B_45 := IC_b I_u_28; omega) (by have B_46 := IC_b I_u_28; omega) (by have B_47 := IC_b I_u_28; omega)) (fun r_48 u_49 z_43 => ?_)
            obtain ⟨I_u_49, G_u_49, p_50, p_51⟩ := z_43
            have F_u_49 : Fq [4, 6, 7] [8, 9, 10, 11, 12, 13, 14, 15, 16] u u_49 := Fq_tr F_u_28 G_u_49 rfl rfl
            exact okM_some ⟨I_u_49, F_u_49, (by omega), (by omega)⟩
      · try have e_52 : (x1 + 1 : Int32).toInt = (x1 : Int32).toInt + (1 : Int32).toInt := by exact add_i (by omega) (by omega)
        refine okM_bM (R.2.2.2.2.2 I_u_10 (by have B_54 := IC_b I_u_10; omega) (by have B_55 := IC_b I_u_10; omega) (by have B_56 := IC_b I_u_10; omega) (by have B_57 := IC_b I_u_10; omega) (by have B_58 := IC_b I_u_10; omega) (by have B_59 := IC_b I_u_10; omega)) (fun r_60 u_61 z_53 => ?_)
        obtain ⟨I_u_61, G_u_61, p_62, p_63⟩ := z_53
        have F_u_61 : Fq [4, 6, 7] [8, 9, 10, 11, 12, 13, 14, 15, 16] u u_61 := Fq_tr F_u_10 G_u_61 rfl rfl
        refine okM_bM (kC_Tokens_takes I_u_61 (by decide)) (fun r_65 u_66 z_64 => ?_)
        obtain ⟨I_u_66, G_u_66, p_67, p_68⟩ := z_64
        have F_u_66 : Fq [4, 6, 7] [8, 9, 10, 11, 12, 13, 14, 15, 16] u u_66 := Fq_tr F_u_61 G_u_66 rfl rfl
        refine okM_eq (fun c_69 c_69' => ?_) (fun c_69 => ?_)
        · exact okM_some ⟨I_u_66, F_u_66, (by omega), (by omega)⟩
        · exact okM_some ⟨I_u_66, F_u_66, (by omega), (by omega)⟩
    · try have e_70 : (x1 + 1 : Int32).toInt = (x1 : Int32).toInt + (1 : Int32).toInt := by exact add_i (by omega) (by omega)
      refine okM_bM (R.2.1 I_u_4 (by have B_72 := IC_b I_u_4; omega) (by have B_73 := IC_b I_u_4; omega) (by have B_74 := IC_b I_u_4; omega)) (fun r_75 u_76 z_71 => ?_)
      obtain ⟨I_u_76, G_u_76, p_77, p_78⟩ := z_71
      have F_u_76 : Fq [4, 6, 7] [8, 9, 10, 11, 12, 13, 14, 15, 16] u u_76 := Fq_tr F_u_4 G_u_76 rfl rfl
      refine okM_bM (kC_Nodes_top I_u_76 (by have FUe : FU = 100000 := rfl; have B_80 := IC_b I_u_76; omega)) (fun r_81 u_82 z_79 => ?_)
      obtain ⟨I_u_82, G_u_82, p_83, p_84⟩ := z_79
      have F_u_82 : Fq [4, 6, 7] [8, 9, 10, 11, 12, 13, 14, 15, 16] u u_82 := Fq_tr F_u_76 G_u_82 rfl rfl
      exact okM_some ⟨I_u_82, F_u_82, (by omega), (by omega)⟩
  · exact okM_some ⟨I, (Fq_rfl u), (by omega), (by omega)⟩
theorem kC_Parser_among_L37 {rc : Nat → Int32 → Int32 → Int32 → Int32 → St → Option (Int32 × St)} {m : Nat} (R : RCn rc m) : ∀ (n : Nat) {x1 : Int32} {x2 : Int32} {x3 : Int32} {x4 : Int32} {x5 : Int32} {u : St} (I : IC u) (h0 : 0 ≤ x5.toInt) (h1 : x5.toInt ≤ 2000) (h2 : -1 ≤ x4.toInt) (h3 : x4.toInt < 200) (h4 : 0 ≤ x3.toInt) (h5 : x3.toInt ≤ 20) (h6 : 12 * (21 - x3.toInt) + 1 ≤ (m : Int) + 1) (hm : (2000 - x5.toInt).toNat < n), okM (mC_Parser_among_L37 rc n x1 x2 x3 x4 x5 u) (fun r v => IC v ∧ Fq [4, 6, 7] [8, 9, 10, 11, 12, 13, 14, 15, 16] u v ∧ -1 ≤ r.toInt ∧ r.toInt < 200) := by
  intro n
  induction n with
  | zero => intro x1 x2 x3 x4 x5 u I h0 h1 h2 h3 h4 h5 h6 hm; exact absurd hm (Nat.not_lt_zero _)
  | succ n ih =>
    intro x1 x2 x3 x4 x5 u I h0 h1 h2 h3 h4 h5 h6 hm
    have lm1 : (-1 : Int32).toInt = -1 := by decide
    have l0 : (0 : Int32).toInt = 0 := by decide
    have l1 : (1 : Int32).toInt = 1 := by decide
    have l5 : (5 : Int32).toInt = 5 := by decide
    have l8 : (8 : Int32).toInt = 8 := by decide
    have l9 : (9 : Int32).toInt = 9 := by decide
    have l11 : (11 : Int32).toInt = 11 := by decide
    have l12 : (12 : Int32).toInt = 12 := by decide
    have l13 : (13 : Int32).toInt = 13 := by decide
    have l17 : (17 : Int32).toInt = 17 := by decide
    have l20 : (20 : Int32).toInt = 20 := by decide
    have l21 : (21 : Int32).toInt = 21 := by decide
    have l27 : (27 : Int32).toInt = 27 := by decide
    have l28 : (28 : Int32).toInt = 28 := by decide
    have l33 : (33 : Int32).toInt = 33 := by decide
    have l200 : (200 : Int32).toInt = 200 := by decide
    have l2000 : (2000 : Int32).toInt = 2000 := by decide
    rw [mC_Parser_among_L37]
    refine okM_le (fun c_1 => ?_) (fun c_1 => ?_)
    · refine okM_bM (kC_Tokens_takes I (by decide)) (fun r_3 u_4 z_2 => ?_)
      obtain ⟨I_u_4, G_u_4, p_5, p_6⟩ := z_2
      have F_u_4 : Fq [4, 6, 7] [8, 9, 10, 11, 12, 13, 14, 15, 16] u u_4 := Fq_tr (Fq_rfl u) G_u_4 rfl rfl
      refine okM_eq (fun c_7 c_7' => ?_) (fun c_7 => ?_)
      · exact okM_some ⟨I_u_4, F_u_4, (by omega), (by omega)⟩
      · exact okM_some ⟨I_u_4, F_u_4, (by omega), (by omega)⟩
    · refine okM_lt (fun c_8 => ?_) (fun c_8 => ?_)
      · refine okM_bM (kC_Tokens_takes I (by decide)) (fun r_10 u_11 z_9 => ?_)
        obtain ⟨I_u_11, G_u_11, p_12, p_13⟩ := z_9
        have F_u_11 : Fq [4, 6, 7] [8, 9, 10, 11, 12, 13, 14, 15, 16] u u_11 := Fq_tr (Fq_rfl u) G_u_11 rfl rfl
        refine okM_eq (fun c_14 c_14' => ?_) (fun c_14 => ?_)
        · exact okM_some ⟨I_u_11, F_u_11, (by omega), (by omega)⟩
        · exact okM_some ⟨I_u_11, F_u_11, (by omega), (by omega)⟩
      · refine okM_bM (kC_Tokens_takes I (by decide)) (fun r_16 u_17 z_15 => ?_)
        obtain ⟨I_u_17, G_u_17, p_18, p_19⟩ := z_15
        have F_u_17 : Fq [4, 6, 7] [8, 9, 10, 11, 12, 13, 14, 15, 16] u u_17 := Fq_tr (Fq_rfl u) G_u_17 rfl rfl
        refine okM_eq (fun c_20 c_20' => ?_) (fun c_20 => ?_)
        · refine okM_bM (kC_Tokens_takes I_u_17 (by decide)) (fun r_22 u_23 z_21 => ?_)
          obtain ⟨I_u_23, G_u_23, p_24, p_25⟩ := z_21
          have F_u_23 : Fq [4, 6, 7] [8, 9, 10, 11, 12, 13, 14, 15, 16] u u_23 := Fq_tr F_u_17 G_u_23 rfl rfl
          refine okM_eq (fun c_26 c_26' => ?_) (fun c_26 => ?_)
          · exact okM_some ⟨I_u_23, F_u_23, (by omega), (by omega)⟩
          · exact okM_some ⟨I_u_23, F_u_23, (by omega), (by omega)⟩
        · refine okM_bM (kC_Nodes_again I_u_17) (fun r_28 u_29 z_27 => ?_)
          obtain ⟨I_u_29, G_u_29, p_30, p_31⟩ := z_27
          have F_u_29 : Fq [4, 6, 7] [8, 9, 10, 11, 12, 13, 14, 15, 16] u u_29 := Fq_tr F_u_17 G_u_29 rfl rfl
          try have e_32 : (x3 + 1 : Int32).toInt = (x3 : Int32).toInt + (1 : Int32).toInt := by exact add_i (by omega) (by omega)
          refine okM_bM (R.2.2.2.2.2 I_u_29 (by have B_34 := IC_b I_u_29; omega) (by have B_35 := IC_b I_u_29; omega) (by have B_36 := IC_b I_u_29; omega) (by have B_37 := IC_b I_u_29; omega) (by have B_38 := IC_b I_u_29; omega) (by have B_39 := IC_b I_u_29; omega)) (fun r_40 u_41 z_33 => ?_)
          obtain ⟨I_u_41, G_u_41, p_42, p_43⟩ := z_33
          have F_u_41 : Fq [4, 6, 7] [8, 9, 10, 11, 12, 13, 14, 15, 16] u u_41 := Fq_tr F_u_29 G_u_41 rfl rfl
          refine okM_bM (kC_Nodes_join I_u_41 (by have FUe : FU = 100000 := rfl; have B_45 := IC_b I_u_41; omega)) (fun r_46 u_47 z_44 => ?_)
          obtain ⟨I_u_47, G_u_47, p_48, p_49⟩ := z_44
          have F_u_47 : Fq [4, 6, 7] [8, 9, 10, 11, 12, 13, 14, 15, 16] u u_47 := Fq_tr F_u_41 G_u_47 rfl rfl
          refine okM_bM (kC_Nodes_join I_u_47 (by have FUe : FU = 100000 := rfl; have B_51 := IC_b I_u_47; omega)) (fun r_52 u_53 z_50 => ?_)
          obtain ⟨I_u_53, G_u_53, p_54, p_55⟩ := z_50
          have F_u_53 : Fq [4, 6, 7] [8, 9, 10, 11, 12, 13, 14, 15, 16] u u_53 := Fq_tr F_u_47 G_u_53 rfl rfl
          try have e_58 : (x5 + 1 : Int32).toInt = (x5 : Int32).toInt + (1 : Int32).toInt := by exact add_i (by omega) (by omega)
          refine okM_seq (fun y_57 h_56 => ?_)
          have h_56' : y_57.toInt = (x5 + 1 : Int32).toInt := by rw [h_56]
          refine okM_mono (ih I_u_53 (by have B_59 := IC_b I_u_53; omega) (by have B_60 := IC_b I_u_53; omega) (by have B_61 := IC_b I_u_53; omega) (by have B_62 := IC_b I_u_53; omega) (by have B_63 := IC_b I_u_53; omega) (by have B_64 := IC_b I_u_53; omega) (by have B_65 := IC_b I_u_53; omega) (by have B_66 := IC_b I_u_53; omega)) (fun r_68 u_69 z_67 => ?_)
          obtain ⟨I_u_69, G_u_69, p_70, p_71⟩ := z_67
          have F_u_69 : Fq [4, 6, 7] [8, 9, 10, 11, 12, 13, 14, 15, 16] u u_69 := Fq_tr F_u_53 G_u_69 rfl rfl
          exact ⟨I_u_69, F_u_69, (by omega), (by omega)⟩
theorem kC_Parser_among_o {rc : Nat → Int32 → Int32 → Int32 → Int32 → St → Option (Int32 × St)} {n : Nat} (R : RCn rc n) {x1 : Int32} {x2 : Int32} {x3 : Int32} {u : St} (I : IC u) (h0 : 0 ≤ x3.toInt) (h1 : x3.toInt ≤ 20) (h2 : 12 * (21 - x3.toInt) + 1 ≤ (n : Int) + 1) : okM (mC_Parser_among_o rc x1 x2 x3 u) (fun r v => IC v ∧ Fq [4, 6, 7] [8, 9, 10, 11, 12, 13, 14, 15, 16] u v ∧ -1 ≤ r.toInt ∧ r.toInt < 200) := by
  have lm1 : (-1 : Int32).toInt = -1 := by decide
  have l0 : (0 : Int32).toInt = 0 := by decide
  have l1 : (1 : Int32).toInt = 1 := by decide
  have l5 : (5 : Int32).toInt = 5 := by decide
  have l8 : (8 : Int32).toInt = 8 := by decide
  have l11 : (11 : Int32).toInt = 11 := by decide
  have l12 : (12 : Int32).toInt = 12 := by decide
  have l13 : (13 : Int32).toInt = 13 := by decide
  have l17 : (17 : Int32).toInt = 17 := by decide
  have l20 : (20 : Int32).toInt = 20 := by decide
  have l21 : (21 : Int32).toInt = 21 := by decide
  have l28 : (28 : Int32).toInt = 28 := by decide
  have l200 : (200 : Int32).toInt = 200 := by decide
  have l2000 : (2000 : Int32).toInt = 2000 := by decide
  rw [mC_Parser_among_o]
  refine okM_bM (kC_Tokens_takes I (by decide)) (fun r_2 u_3 z_1 => ?_)
  obtain ⟨I_u_3, G_u_3, p_4, p_5⟩ := z_1
  have F_u_3 : Fq [4, 6, 7] [8, 9, 10, 11, 12, 13, 14, 15, 16] u u_3 := Fq_tr (Fq_rfl u) G_u_3 rfl rfl
  refine okM_eq (fun c_6 c_6' => ?_) (fun c_6 => ?_)
  · exact okM_some ⟨I_u_3, F_u_3, (by omega), (by omega)⟩
  · try have e_7 : (x3 + 1 : Int32).toInt = (x3 : Int32).toInt + (1 : Int32).toInt := by exact add_i (by omega) (by omega)
    refine okM_bM (R.2.2.2.2.2 I_u_3 (by have B_9 := IC_b I_u_3; omega) (by have B_10 := IC_b I_u_3; omega) (by have B_11 := IC_b I_u_3; omega) (by have B_12 := IC_b I_u_3; omega) (by have B_13 := IC_b I_u_3; omega) (by have B_14 := IC_b I_u_3; omega)) (fun r_15 u_16 z_8 => ?_)
    obtain ⟨I_u_16, G_u_16, p_17, p_18⟩ := z_8
    have F_u_16 : Fq [4, 6, 7] [8, 9, 10, 11, 12, 13, 14, 15, 16] u u_16 := Fq_tr F_u_3 G_u_16 rfl rfl
    refine okM_bM (kC_Nodes_join I_u_16 (by have FUe : FU = 100000 := rfl; have B_20 := IC_b I_u_16; omega)) (fun r_21 u_22 z_19 => ?_)
    obtain ⟨I_u_22, G_u_22, p_23, p_24⟩ := z_19
    have F_u_22 : Fq [4, 6, 7] [8, 9, 10, 11, 12, 13, 14, 15, 16] u u_22 := Fq_tr F_u_16 G_u_22 rfl rfl
    refine okM_mono (kC_Parser_among_L37 R _ I_u_22 (by have FUe : FU = 100000 := rfl; have B_25 := IC_b I_u_22; omega) (by have FUe : FU = 100000 := rfl; have B_26 := IC_b I_u_22; omega) (by have FUe : FU = 100000 := rfl; have B_27 := IC_b I_u_22; omega) (by have FUe : FU = 100000 := rfl; have B_28 := IC_b I_u_22; omega) (by have FUe : FU = 100000 := rfl; have B_29 := IC_b I_u_22; omega) (by have FUe : FU = 100000 := rfl; have B_30 := IC_b I_u_22; omega) (by have FUe : FU = 100000 := rfl; have B_31 := IC_b I_u_22; omega) (by have FUe : FU = 100000 := rfl; have B_32 := IC_b I_u_22; omega)) (fun r_34 u_35 z_33 => ?_)
    obtain ⟨I_u_35, G_u_35, p_36, p_37⟩ := z_33
    have F_u_35 : Fq [4, 6, 7] [8, 9, 10, 11, 12, 13, 14, 15, 16] u u_35 := Fq_tr F_u_22 G_u_35 rfl rfl
    exact ⟨I_u_35, F_u_35, (by omega), (by omega)⟩
theorem kC_Parser_between_o {rc : Nat → Int32 → Int32 → Int32 → Int32 → St → Option (Int32 × St)} {n : Nat} (R : RCn rc n) {x1 : Int32} {x2 : Int32} {x3 : Int32} {u : St} (I : IC u) (h0 : 0 ≤ x3.toInt) (h1 : x3.toInt ≤ 20) (h2 : 12 * (21 - x3.toInt) + 7 ≤ (n : Int) + 1) : okM (mC_Parser_between_o rc x1 x2 x3 u) (fun r v => IC v ∧ Fq [4, 6, 7] [8, 9, 10, 11, 12, 13, 14, 15, 16] u v ∧ -1 ≤ r.toInt ∧ r.toInt < 200) := by
  have lm1 : (-1 : Int32).toInt = -1 := by decide
  have l0 : (0 : Int32).toInt = 0 := by decide
  have l1 : (1 : Int32).toInt = 1 := by decide
  have l5 : (5 : Int32).toInt = 5 := by decide
  have l8 : (8 : Int32).toInt = 8 := by decide
  have l11 : (11 : Int32).toInt = 11 := by decide
  have l12 : (12 : Int32).toInt = 12 := by decide
  have l13 : (13 : Int32).toInt = 13 := by decide
  have l19 : (19 : Int32).toInt = 19 := by decide
  have l20 : (20 : Int32).toInt = 20 := by decide
  have l21 : (21 : Int32).toInt = 21 := by decide
  have l22 : (22 : Int32).toInt = 22 := by decide
  have l26 : (26 : Int32).toInt = 26 := by decide
  have l28 : (28 : Int32).toInt = 28 := by decide
  have l200 : (200 : Int32).toInt = 200 := by decide
  rw [mC_Parser_between_o]
  refine okM_bM (R.2.2.2.2.2 I (by have B_2 := IC_b I; omega) (by have B_3 := IC_b I; omega) (by have B_4 := IC_b I; omega) (by have B_5 := IC_b I; omega) (by have B_6 := IC_b I; omega) (by have B_7 := IC_b I; omega)) (fun r_8 u_9 z_1 => ?_)
  obtain ⟨I_u_9, G_u_9, p_10, p_11⟩ := z_1
  have F_u_9 : Fq [4, 6, 7] [8, 9, 10, 11, 12, 13, 14, 15, 16] u u_9 := Fq_tr (Fq_rfl u) G_u_9 rfl rfl
  refine okM_bM (kC_Nodes_join I_u_9 (by have FUe : FU = 100000 := rfl; have B_13 := IC_b I_u_9; omega)) (fun r_14 u_15 z_12 => ?_)
  obtain ⟨I_u_15, G_u_15, p_16, p_17⟩ := z_12
  have F_u_15 : Fq [4, 6, 7] [8, 9, 10, 11, 12, 13, 14, 15, 16] u u_15 := Fq_tr F_u_9 G_u_15 rfl rfl
  refine okM_lt (fun c_18 => ?_) (fun c_18 => ?_)
  · exact okM_some ⟨I_u_15, F_u_15, (by omega), (by omega)⟩
  · refine okM_bM (kC_Tokens_takes I_u_15 (by decide)) (fun r_20 u_21 z_19 => ?_)
    obtain ⟨I_u_21, G_u_21, p_22, p_23⟩ := z_19
    have F_u_21 : Fq [4, 6, 7] [8, 9, 10, 11, 12, 13, 14, 15, 16] u u_21 := Fq_tr F_u_15 G_u_21 rfl rfl
    refine okM_eq (fun c_24 c_24' => ?_) (fun c_24 => ?_)
    · exact okM_some ⟨I_u_21, F_u_21, (by omega), (by omega)⟩
    · refine okM_bM (kC_Nodes_again I_u_21) (fun r_26 u_27 z_25 => ?_)
      obtain ⟨I_u_27, G_u_27, p_28, p_29⟩ := z_25
      have F_u_27 : Fq [4, 6, 7] [8, 9, 10, 11, 12, 13, 14, 15, 16] u u_27 := Fq_tr F_u_21 G_u_27 rfl rfl
      refine okM_bM (R.2.2.2.2.2 I_u_27 (by have B_31 := IC_b I_u_27; omega) (by have B_32 := IC_b I_u_27; omega) (by have B_33 := IC_b I_u_27; omega) (by have B_34 := IC_b I_u_27; omega) (by have B_35 := IC_b I_u_27; omega) (by have B_36 := IC_b I_u_27; omega)) (fun r_37 u_38 z_30 => ?_)
      obtain ⟨I_u_38, G_u_38, p_39, p_40⟩ := z_30
      have F_u_38 : Fq [4, 6, 7] [8, 9, 10, 11, 12, 13, 14, 15, 16] u u_38 := Fq_tr F_u_27 G_u_38 rfl rfl
      refine okM_bM (kC_Nodes_join I_u_38 (by have FUe : FU = 100000 := rfl; have B_42 := IC_b I_u_38; omega)) (fun r_43 u_44 z_41 => ?_)
      obtain ⟨I_u_44, G_u_44, p_45, p_46⟩ := z_41
      have F_u_44 : Fq [4, 6, 7] [8, 9, 10, 11, 12, 13, 14, 15, 16] u u_44 := Fq_tr F_u_38 G_u_44 rfl rfl
      refine okM_bM (kC_Nodes_join I_u_44 (by have FUe : FU = 100000 := rfl; have B_48 := IC_b I_u_44; omega)) (fun r_49 u_50 z_47 => ?_)
      obtain ⟨I_u_50, G_u_50, p_51, p_52⟩ := z_47
      have F_u_50 : Fq [4, 6, 7] [8, 9, 10, 11, 12, 13, 14, 15, 16] u u_50 := Fq_tr F_u_44 G_u_50 rfl rfl
      exact okM_some ⟨I_u_50, F_u_50, (by omega), (by omega)⟩
theorem kC_Parser_comparison_o {rc : Nat → Int32 → Int32 → Int32 → Int32 → St → Option (Int32 × St)} {n : Nat} (R : RCn rc n) {x1 : Int32} {x2 : Int32} {x3 : Int32} {x4 : Int32} {u : St} (I : IC u) (h0 : x1.toInt ≠ 28) (h1 : 0 ≤ x4.toInt) (h2 : x4.toInt ≤ 20) (h3 : 12 * (21 - x4.toInt) + 8 ≤ (n : Int) + 1) : okM (mC_Parser_comparison_o rc x1 x2 x3 x4 u) (fun r v => IC v ∧ Fq [4, 6, 7] [8, 9, 10, 11, 12, 13, 14, 15, 16] u v ∧ -1 ≤ r.toInt ∧ r.toInt < 200) := by
  have lm1 : (-1 : Int32).toInt = -1 := by decide
  have l0 : (0 : Int32).toInt = 0 := by decide
  have l1 : (1 : Int32).toInt = 1 := by decide
  have l2 : (2 : Int32).toInt = 2 := by decide
  have l3 : (3 : Int32).toInt = 3 := by decide
  have l5 : (5 : Int32).toInt = 5 := by decide
  have l6 : (6 : Int32).toInt = 6 := by decide
  have l7 : (7 : Int32).toInt = 7 := by decide
  have l8 : (8 : Int32).toInt = 8 := by decide
  have l11 : (11 : Int32).toInt = 11 := by decide
  have l12 : (12 : Int32).toInt = 12 := by decide
  have l13 : (13 : Int32).toInt = 13 := by decide
  have l14 : (14 : Int32).toInt = 14 := by decide
  have l20 : (20 : Int32).toInt = 20 := by decide
  have l21 : (21 : Int32).toInt = 21 := by decide
  have l22 : (22 : Int32).toInt = 22 := by decide
  have l23 : (23 : Int32).toInt = 23 := by decide
  have l24 : (24 : Int32).toInt = 24 := by decide
  have l25 : (25 : Int32).toInt = 25 := by decide
  have l28 : (28 : Int32).toInt = 28 := by decide
  have l29 : (29 : Int32).toInt = 29 := by decide
  have l30 : (30 : Int32).toInt = 30 := by decide
  have l31 : (31 : Int32).toInt = 31 := by decide
  have l200 : (200 : Int32).toInt = 200 := by decide
  rw [mC_Parser_comparison_o]
  refine okM_eq (fun c_1 c_1' => ?_) (fun c_1 => ?_)
  · refine okM_bM (kC_Tokens_takes I (by decide)) (fun r_3 u_4 z_2 => ?_)
    obtain ⟨I_u_4, G_u_4, p_5, p_6⟩ := z_2
    have F_u_4 : Fq [4, 6, 7] [8, 9, 10, 11, 12, 13, 14, 15, 16] u u_4 := Fq_tr (Fq_rfl u) G_u_4 rfl rfl
    refine okM_eq (fun c_7 c_7' => ?_) (fun c_7 => ?_)
    · rw [mC_Parser_comparison_J24]
      refine okM_bM (kC_Tokens_takes I_u_4 (by decide)) (fun r_9 u_10 z_8 => ?_)
      obtain ⟨I_u_10, G_u_10, p_11, p_12⟩ := z_8
      have F_u_10 : Fq [4, 6, 7] [8, 9, 10, 11, 12, 13, 14, 15, 16] u u_10 := Fq_tr F_u_4 G_u_10 rfl rfl
      refine okM_eq (fun c_13 c_13' => ?_) (fun c_13 => ?_)
      · exact okM_some ⟨I_u_10, F_u_10, (by omega), (by omega)⟩
      · refine okM_bM (kC_Nodes_top I_u_10 (by have FUe : FU = 100000 := rfl; have B_15 := IC_b I_u_10; omega)) (fun r_16 u_17 z_14 => ?_)
        obtain ⟨I_u_17, G_u_17, p_18, p_19⟩ := z_14
        have F_u_17 : Fq [4, 6, 7] [8, 9, 10, 11, 12, 13, 14, 15, 16] u u_17 := Fq_tr F_u_10 G_u_17 rfl rfl
        exact okM_some ⟨I_u_17, F_u_17, (by omega), (by omega)⟩
    · rw [mC_Parser_comparison_J24]
      refine okM_bM (kC_Tokens_takes I_u_4 (by decide)) (fun r_21 u_22 z_20 => ?_)
      obtain ⟨I_u_22, G_u_22, p_23, p_24⟩ := z_20
      have F_u_22 : Fq [4, 6, 7] [8, 9, 10, 11, 12, 13, 14, 15, 16] u u_22 := Fq_tr F_u_4 G_u_22 rfl rfl
      refine okM_eq (fun c_25 c_25' => ?_) (fun c_25 => ?_)
      · exact okM_some ⟨I_u_22, F_u_22, (by omega), (by omega)⟩
      · refine okM_bM (kC_Nodes_top I_u_22 (by have FUe : FU = 100000 := rfl; have B_27 := IC_b I_u_22; omega)) (fun r_28 u_29 z_26 => ?_)
        obtain ⟨I_u_29, G_u_29, p_30, p_31⟩ := z_26
        have F_u_29 : Fq [4, 6, 7] [8, 9, 10, 11, 12, 13, 14, 15, 16] u u_29 := Fq_tr F_u_22 G_u_29 rfl rfl
        exact okM_some ⟨I_u_29, F_u_29, (by omega), (by omega)⟩
  · refine okM_le (fun c_32 => ?_) (fun c_32 => ?_)
    · refine okM_eq (fun c_33 c_33' => ?_) (fun c_33 => ?_)
      · rw [mC_Parser_comparison_J87]
        refine okM_eq (fun c_34 c_34' => ?_) (fun c_34 => ?_)
        · refine okM_bM (R.2.2.2.1 I (by have B_36 := IC_b I; omega) (by have B_37 := IC_b I; omega) (by have B_38 := IC_b I; omega)) (fun r_39 u_40 z_35 => ?_)
          obtain ⟨I_u_40, G_u_40, p_41, p_42⟩ := z_35
          have F_u_40 : Fq [4, 6, 7] [8, 9, 10, 11, 12, 13, 14, 15, 16] u u_40 := Fq_tr (Fq_rfl u) G_u_40 rfl rfl
          rw [mC_Parser_comparison_J158]
          refine okM_neg (by decide) ?_
          refine okM_bM (kC_Nodes_top I_u_40 (by have FUe : FU = 100000 := rfl; have B_44 := IC_b I_u_40; omega)) (fun r_45 u_46 z_43 => ?_)
          obtain ⟨I_u_46, G_u_46, p_47, p_48⟩ := z_43
          have F_u_46 : Fq [4, 6, 7] [8, 9, 10, 11, 12, 13, 14, 15, 16] u u_46 := Fq_tr F_u_40 G_u_46 rfl rfl
          exact okM_some ⟨I_u_46, F_u_46, (by omega), (by omega)⟩
        · refine okM_neg (by decide) ?_
          refine okM_bM (kC_Tokens_takes I (by decide)) (fun r_50 u_51 z_49 => ?_)
          obtain ⟨I_u_51, G_u_51, p_52, p_53⟩ := z_49
          have F_u_51 : Fq [4, 6, 7] [8, 9, 10, 11, 12, 13, 14, 15, 16] u u_51 := Fq_tr (Fq_rfl u) G_u_51 rfl rfl
          refine okM_eq (fun c_54 c_54' => ?_) (fun c_54 => ?_)
          · rw [mC_Parser_comparison_J129]
            refine okM_eq (fun c_55 c_55' => ?_) (fun c_55 => ?_)
            · refine okM_bM (R.2.2.1 I_u_51 (by have B_57 := IC_b I_u_51; omega) (by have B_58 := IC_b I_u_51; omega) (by have B_59 := IC_b I_u_51; omega)) (fun r_60 u_61 z_56 => ?_)
              obtain ⟨I_u_61, G_u_61, p_62, p_63⟩ := z_56
              have F_u_61 : Fq [4, 6, 7] [8, 9, 10, 11, 12, 13, 14, 15, 16] u u_61 := Fq_tr F_u_51 G_u_61 rfl rfl
              rw [mC_Parser_comparison_J158]
              refine okM_neg (by decide) ?_
              refine okM_bM (kC_Nodes_top I_u_61 (by have FUe : FU = 100000 := rfl; have B_65 := IC_b I_u_61; omega)) (fun r_66 u_67 z_64 => ?_)
              obtain ⟨I_u_67, G_u_67, p_68, p_69⟩ := z_64
              have F_u_67 : Fq [4, 6, 7] [8, 9, 10, 11, 12, 13, 14, 15, 16] u u_67 := Fq_tr F_u_61 G_u_67 rfl rfl
              exact okM_some ⟨I_u_67, F_u_67, (by omega), (by omega)⟩
            · refine okM_bM (kC_Tokens_takes I_u_51 (by decide)) (fun r_71 u_72 z_70 => ?_)
              obtain ⟨I_u_72, G_u_72, p_73, p_74⟩ := z_70
              have F_u_72 : Fq [4, 6, 7] [8, 9, 10, 11, 12, 13, 14, 15, 16] u u_72 := Fq_tr F_u_51 G_u_72 rfl rfl
              refine okM_eq (fun c_75 c_75' => ?_) (fun c_75 => ?_)
              · rw [mC_Parser_comparison_J158]
                refine okM_neg (by decide) ?_
                refine okM_bM (kC_Nodes_top I_u_72 (by have FUe : FU = 100000 := rfl; have B_77 := IC_b I_u_72; omega)) (fun r_78 u_79 z_76 => ?_)
                obtain ⟨I_u_79, G_u_79, p_80, p_81⟩ := z_76
                have F_u_79 : Fq [4, 6, 7] [8, 9, 10, 11, 12, 13, 14, 15, 16] u u_79 := Fq_tr F_u_72 G_u_79 rfl rfl
                exact okM_some ⟨I_u_79, F_u_79, (by omega), (by omega)⟩
              · refine okM_bM (R.2.2.1 I_u_72 (by have B_83 := IC_b I_u_72; omega) (by have B_84 := IC_b I_u_72; omega) (by have B_85 := IC_b I_u_72; omega)) (fun r_86 u_87 z_82 => ?_)
                obtain ⟨I_u_87, G_u_87, p_88, p_89⟩ := z_82
                have F_u_87 : Fq [4, 6, 7] [8, 9, 10, 11, 12, 13, 14, 15, 16] u u_87 := Fq_tr F_u_72 G_u_87 rfl rfl
                rw [mC_Parser_comparison_J158]
                refine okM_neg (by decide) ?_
                refine okM_bM (kC_Nodes_top I_u_87 (by have FUe : FU = 100000 := rfl; have B_91 := IC_b I_u_87; omega)) (fun r_92 u_93 z_90 => ?_)
                obtain ⟨I_u_93, G_u_93, p_94, p_95⟩ := z_90
                have F_u_93 : Fq [4, 6, 7] [8, 9, 10, 11, 12, 13, 14, 15, 16] u u_93 := Fq_tr F_u_87 G_u_93 rfl rfl
                exact okM_some ⟨I_u_93, F_u_93, (by omega), (by omega)⟩
          · refine okM_bM (R.2.2.2.1 I_u_51 (by have B_97 := IC_b I_u_51; omega) (by have B_98 := IC_b I_u_51; omega) (by have B_99 := IC_b I_u_51; omega)) (fun r_100 u_101 z_96 => ?_)
            obtain ⟨I_u_101, G_u_101, p_102, p_103⟩ := z_96
            have F_u_101 : Fq [4, 6, 7] [8, 9, 10, 11, 12, 13, 14, 15, 16] u u_101 := Fq_tr F_u_51 G_u_101 rfl rfl
            rw [mC_Parser_comparison_J158]
            refine okM_neg (by decide) ?_
            refine okM_bM (kC_Nodes_top I_u_101 (by have FUe : FU = 100000 := rfl; have B_105 := IC_b I_u_101; omega)) (fun r_106 u_107 z_104 => ?_)
            obtain ⟨I_u_107, G_u_107, p_108, p_109⟩ := z_104
            have F_u_107 : Fq [4, 6, 7] [8, 9, 10, 11, 12, 13, 14, 15, 16] u u_107 := Fq_tr F_u_101 G_u_107 rfl rfl
            exact okM_some ⟨I_u_107, F_u_107, (by omega), (by omega)⟩
      · rw [mC_Parser_comparison_J87]
        refine okM_eq (fun c_110 c_110' => ?_) (fun c_110 => ?_)
        · refine okM_bM (R.2.2.2.1 I (by have B_112 := IC_b I; omega) (by have B_113 := IC_b I; omega) (by have B_114 := IC_b I; omega)) (fun r_115 u_116 z_111 => ?_)
          obtain ⟨I_u_116, G_u_116, p_117, p_118⟩ := z_111
          have F_u_116 : Fq [4, 6, 7] [8, 9, 10, 11, 12, 13, 14, 15, 16] u u_116 := Fq_tr (Fq_rfl u) G_u_116 rfl rfl
          rw [mC_Parser_comparison_J158]
          refine okM_pos (by decide) ?_
          exact okM_some ⟨I_u_116, F_u_116, (by omega), (by omega)⟩
        · refine okM_pos (by decide) ?_
          rw [mC_Parser_comparison_J129]
          refine okM_eq (fun c_119 c_119' => ?_) (fun c_119 => ?_)
          · refine okM_bM (R.2.2.1 I (by have B_121 := IC_b I; omega) (by have B_122 := IC_b I; omega) (by have B_123 := IC_b I; omega)) (fun r_124 u_125 z_120 => ?_)
            obtain ⟨I_u_125, G_u_125, p_126, p_127⟩ := z_120
            have F_u_125 : Fq [4, 6, 7] [8, 9, 10, 11, 12, 13, 14, 15, 16] u u_125 := Fq_tr (Fq_rfl u) G_u_125 rfl rfl
            rw [mC_Parser_comparison_J158]
            refine okM_pos (by decide) ?_
            exact okM_some ⟨I_u_125, F_u_125, (by omega), (by omega)⟩
          · refine okM_bM (kC_Tokens_takes I (by decide)) (fun r_129 u_130 z_128 => ?_)
            obtain ⟨I_u_130, G_u_130, p_131, p_132⟩ := z_128
            have F_u_130 : Fq [4, 6, 7] [8, 9, 10, 11, 12, 13, 14, 15, 16] u u_130 := Fq_tr (Fq_rfl u) G_u_130 rfl rfl
            refine okM_eq (fun c_133 c_133' => ?_) (fun c_133 => ?_)
            · rw [mC_Parser_comparison_J158]
              refine okM_pos (by decide) ?_
              exact okM_some ⟨I_u_130, F_u_130, (by omega), (by omega)⟩
            · refine okM_bM (R.2.2.1 I_u_130 (by have B_135 := IC_b I_u_130; omega) (by have B_136 := IC_b I_u_130; omega) (by have B_137 := IC_b I_u_130; omega)) (fun r_138 u_139 z_134 => ?_)
              obtain ⟨I_u_139, G_u_139, p_140, p_141⟩ := z_134
              have F_u_139 : Fq [4, 6, 7] [8, 9, 10, 11, 12, 13, 14, 15, 16] u u_139 := Fq_tr F_u_130 G_u_139 rfl rfl
              rw [mC_Parser_comparison_J158]
              refine okM_pos (by decide) ?_
              exact okM_some ⟨I_u_139, F_u_139, (by omega), (by omega)⟩
    · refine okM_bM (R.2.2.2.2.2 I (by have B_143 := IC_b I; omega) (by have B_144 := IC_b I; omega) (by have B_145 := IC_b I; omega) (by have B_146 := IC_b I; omega) (by have B_147 := IC_b I; omega) (by have B_148 := IC_b I; omega)) (fun r_149 u_150 z_142 => ?_)
      obtain ⟨I_u_150, G_u_150, p_151, p_152⟩ := z_142
      have F_u_150 : Fq [4, 6, 7] [8, 9, 10, 11, 12, 13, 14, 15, 16] u u_150 := Fq_tr (Fq_rfl u) G_u_150 rfl rfl
      refine okM_bM (kC_Nodes_join I_u_150 (by have FUe : FU = 100000 := rfl; have B_154 := IC_b I_u_150; omega)) (fun r_155 u_156 z_153 => ?_)
      obtain ⟨I_u_156, G_u_156, p_157, p_158⟩ := z_153
      have F_u_156 : Fq [4, 6, 7] [8, 9, 10, 11, 12, 13, 14, 15, 16] u u_156 := Fq_tr F_u_150 G_u_156 rfl rfl
      exact okM_some ⟨I_u_156, F_u_156, (by omega), (by omega)⟩
theorem kC_Parser_expression_L88 {rc : Nat → Int32 → Int32 → Int32 → Int32 → St → Option (Int32 × St)} {m : Nat} (R : RCn rc m) : ∀ (n : Nat) {x1 : Int32} {x2 : Int32} {x3 : Int32} {x5 : Int32} {x6 : Int32} {x7 : Int32} {u : St} (I : IC u) (h0 : 0 ≤ x7.toInt) (h1 : x7.toInt ≤ 2000) (h2 : -1 ≤ x6.toInt) (h3 : x6.toInt < 200) (h4 : x2.toInt ≤ 20) (h5 : 1 ≤ x1.toInt) (h6 : x1.toInt ≤ 8) (h7 : 0 ≤ x2.toInt) (h8 : x2.toInt ≤ 21) (h9 : 12 * (21 - x2.toInt) + 11 - x1.toInt ≤ (m : Int) + 1) (h10 : 5 ≤ x1.toInt ∨ 12 * (21 - x2.toInt) + 13 - x1.toInt ≤ (m : Int) + 1) (hm : (2000 - x7.toInt).toNat < n), okM (mC_Parser_expression_L88 rc n x1 x2 x3 x5 x6 x7 u) (fun r v => IC v ∧ Fq [4, 6, 7] [8, 9, 10, 11, 12, 13, 14, 15, 16] u v ∧ -1 ≤ r.toInt ∧ r.toInt < 200) := by
  intro n
  induction n with
  | zero => intro x1 x2 x3 x5 x6 x7 u I h0 h1 h2 h3 h4 h5 h6 h7 h8 h9 h10 hm; exact absurd hm (Nat.not_lt_zero _)
  | succ n ih =>
    intro x1 x2 x3 x5 x6 x7 u I h0 h1 h2 h3 h4 h5 h6 h7 h8 h9 h10 hm
    have l0 : (0 : Int32).toInt = 0 := by decide
    have l1 : (1 : Int32).toInt = 1 := by decide
    have l2 : (2 : Int32).toInt = 2 := by decide
    have l4 : (4 : Int32).toInt = 4 := by decide
    have l5 : (5 : Int32).toInt = 5 := by decide
    have l8 : (8 : Int32).toInt = 8 := by decide
    have l11 : (11 : Int32).toInt = 11 := by decide
    have l12 : (12 : Int32).toInt = 12 := by decide
    have l13 : (13 : Int32).toInt = 13 := by decide
    have l20 : (20 : Int32).toInt = 20 := by decide
    have l21 : (21 : Int32).toInt = 21 := by decide
    have l28 : (28 : Int32).toInt = 28 := by decide
    have l200 : (200 : Int32).toInt = 200 := by decide
    have l2000 : (2000 : Int32).toInt = 2000 := by decide
    rw [mC_Parser_expression_L88]
    refine okM_le (fun c_1 => ?_) (fun c_1 => ?_)
    · exact okM_some ⟨I, (Fq_rfl u), (by omega), (by omega)⟩
    · refine okM_lt (fun c_2 => ?_) (fun c_2 => ?_)
      · exact okM_some ⟨I, (Fq_rfl u), (by omega), (by omega)⟩
      · refine okM_bP (kC_Tokens_mark I) (fun r_4 z_3 => ?_)
        refine okM_bM (kC_Parser_wordBehind I) (fun r_6 u_7 z_5 => ?_)
        obtain ⟨I_u_7, G_u_7, p_8, p_9, p_10⟩ := z_5
        have F_u_7 : Fq [4, 6, 7] [8, 9, 10, 11, 12, 13, 14, 15, 16] u u_7 := Fq_tr (Fq_rfl u) G_u_7 rfl rfl
        refine okM_le (fun c_11 => ?_) (fun c_11 => ?_)
        · rw [mC_Parser_expression_J130]
          refine okM_bP (kC_Parser_levelOf I_u_7) (fun r_13 z_12 => ?_)
          obtain ⟨p_14, p_15⟩ := z_12
          refine okM_lt (fun c_16 => ?_) (fun c_16 => ?_)
          · refine okM_bP (kC_Tokens_backTo I_u_7) (fun u_18 z_17 => ?_)
            obtain ⟨I_u_18, G_u_18⟩ := z_17
            have F_u_18 : Fq [4, 6, 7] [8, 9, 10, 11, 12, 13, 14, 15, 16] u u_18 := Fq_tr F_u_7 G_u_18 rfl rfl
            exact okM_some ⟨I_u_18, F_u_18, (by omega), (by omega)⟩
          · refine okM_le (fun c_19 => ?_) (fun c_19 => ?_)
            · refine okM_eq (fun c_20 c_20' => ?_) (fun c_20 => ?_)
              · refine okM_bM (R.2.2.2.2.1 I_u_7 (by have B_22 := IC_b I_u_7; omega) (by have B_23 := IC_b I_u_7; omega) (by have B_24 := IC_b I_u_7; omega) (by have B_25 := IC_b I_u_7; omega)) (fun r_26 u_27 z_21 => ?_)
                obtain ⟨I_u_27, G_u_27, p_28, p_29⟩ := z_21
                have F_u_27 : Fq [4, 6, 7] [8, 9, 10, 11, 12, 13, 14, 15, 16] u u_27 := Fq_tr F_u_7 G_u_27 rfl rfl
                try have e_32 : (x7 + 1 : Int32).toInt = (x7 : Int32).toInt + (1 : Int32).toInt := by exact add_i (by omega) (by omega)
                refine okM_seq (fun y_31 h_30 => ?_)
                have h_30' : y_31.toInt = (x7 + 1 : Int32).toInt := by rw [h_30]
                refine okM_mono (ih I_u_27 (by have B_33 := IC_b I_u_27; omega) (by have B_34 := IC_b I_u_27; omega) (by have B_35 := IC_b I_u_27; omega) (by have B_36 := IC_b I_u_27; omega) (by have B_37 := IC_b I_u_27; omega) (by have B_38 := IC_b I_u_27; omega) (by have B_39 := IC_b I_u_27; omega) (by have B_40 := IC_b I_u_27; omega) (by have B_41 := IC_b I_u_27; omega) (by have B_42 := IC_b I_u_27; omega) (by have B_43 := IC_b I_u_27; omega) (by have B_44 := IC_b I_u_27; omega)) (fun r_46 u_47 z_45 => ?_)
                obtain ⟨I_u_47, G_u_47, p_48, p_49⟩ := z_45
                have F_u_47 : Fq [4, 6, 7] [8, 9, 10, 11, 12, 13, 14, 15, 16] u u_47 := Fq_tr F_u_27 G_u_47 rfl rfl
                exact ⟨I_u_47, F_u_47, (by omega), (by omega)⟩
              · try have e_50 : (r_13 + 1 : Int32).toInt = (r_13 : Int32).toInt + (1 : Int32).toInt := by exact add_i (by omega) (by omega)
                refine okM_bM (R.2.2.2.2.2 I_u_7 (by have B_52 := IC_b I_u_7; omega) (by have B_53 := IC_b I_u_7; omega) (by have B_54 := IC_b I_u_7; omega) (by have B_55 := IC_b I_u_7; omega) (by have B_56 := IC_b I_u_7; omega) (by have B_57 := IC_b I_u_7; omega)) (fun r_58 u_59 z_51 => ?_)
                obtain ⟨I_u_59, G_u_59, p_60, p_61⟩ := z_51
                have F_u_59 : Fq [4, 6, 7] [8, 9, 10, 11, 12, 13, 14, 15, 16] u u_59 := Fq_tr F_u_7 G_u_59 rfl rfl
                refine okM_bM (kC_Nodes_join I_u_59 (by have FUe : FU = 100000 := rfl; have B_63 := IC_b I_u_59; omega)) (fun r_64 u_65 z_62 => ?_)
                obtain ⟨I_u_65, G_u_65, p_66, p_67⟩ := z_62
                have F_u_65 : Fq [4, 6, 7] [8, 9, 10, 11, 12, 13, 14, 15, 16] u u_65 := Fq_tr F_u_59 G_u_65 rfl rfl
                try have e_70 : (x7 + 1 : Int32).toInt = (x7 : Int32).toInt + (1 : Int32).toInt := by exact add_i (by omega) (by omega)
                refine okM_seq (fun y_69 h_68 => ?_)
                have h_68' : y_69.toInt = (x7 + 1 : Int32).toInt := by rw [h_68]
                refine okM_mono (ih I_u_65 (by have B_71 := IC_b I_u_65; omega) (by have B_72 := IC_b I_u_65; omega) (by have B_73 := IC_b I_u_65; omega) (by have B_74 := IC_b I_u_65; omega) (by have B_75 := IC_b I_u_65; omega) (by have B_76 := IC_b I_u_65; omega) (by have B_77 := IC_b I_u_65; omega) (by have B_78 := IC_b I_u_65; omega) (by have B_79 := IC_b I_u_65; omega) (by have B_80 := IC_b I_u_65; omega) (by have B_81 := IC_b I_u_65; omega) (by have B_82 := IC_b I_u_65; omega)) (fun r_84 u_85 z_83 => ?_)
                obtain ⟨I_u_85, G_u_85, p_86, p_87⟩ := z_83
                have F_u_85 : Fq [4, 6, 7] [8, 9, 10, 11, 12, 13, 14, 15, 16] u u_85 := Fq_tr F_u_65 G_u_85 rfl rfl
                exact ⟨I_u_85, F_u_85, (by omega), (by omega)⟩
            · refine okM_bP (kC_Tokens_backTo I_u_7) (fun u_89 z_88 => ?_)
              obtain ⟨I_u_89, G_u_89⟩ := z_88
              have F_u_89 : Fq [4, 6, 7] [8, 9, 10, 11, 12, 13, 14, 15, 16] u u_89 := Fq_tr F_u_7 G_u_89 rfl rfl
              exact okM_some ⟨I_u_89, F_u_89, (by omega), (by omega)⟩
        · refine okM_bM (kC_Parser_signBehind I_u_7) (fun r_91 u_92 z_90 => ?_)
          obtain ⟨I_u_92, G_u_92, p_93, p_94⟩ := z_90
          have F_u_92 : Fq [4, 6, 7] [8, 9, 10, 11, 12, 13, 14, 15, 16] u u_92 := Fq_tr F_u_7 G_u_92 rfl rfl
          rw [mC_Parser_expression_J130]
          refine okM_bP (kC_Parser_levelOf I_u_92) (fun r_96 z_95 => ?_)
          obtain ⟨p_97, p_98⟩ := z_95
          refine okM_lt (fun c_99 => ?_) (fun c_99 => ?_)
          · refine okM_bP (kC_Tokens_backTo I_u_92) (fun u_101 z_100 => ?_)
            obtain ⟨I_u_101, G_u_101⟩ := z_100
            have F_u_101 : Fq [4, 6, 7] [8, 9, 10, 11, 12, 13, 14, 15, 16] u u_101 := Fq_tr F_u_92 G_u_101 rfl rfl
            exact okM_some ⟨I_u_101, F_u_101, (by omega), (by omega)⟩
          · refine okM_le (fun c_102 => ?_) (fun c_102 => ?_)
            · refine okM_eq (fun c_103 c_103' => ?_) (fun c_103 => ?_)
              · refine okM_bM (R.2.2.2.2.1 I_u_92 (by have B_105 := IC_b I_u_92; omega) (by have B_106 := IC_b I_u_92; omega) (by have B_107 := IC_b I_u_92; omega) (by have B_108 := IC_b I_u_92; omega)) (fun r_109 u_110 z_104 => ?_)
                obtain ⟨I_u_110, G_u_110, p_111, p_112⟩ := z_104
                have F_u_110 : Fq [4, 6, 7] [8, 9, 10, 11, 12, 13, 14, 15, 16] u u_110 := Fq_tr F_u_92 G_u_110 rfl rfl
                try have e_115 : (x7 + 1 : Int32).toInt = (x7 : Int32).toInt + (1 : Int32).toInt := by exact add_i (by omega) (by omega)
                refine okM_seq (fun y_114 h_113 => ?_)
                have h_113' : y_114.toInt = (x7 + 1 : Int32).toInt := by rw [h_113]
                refine okM_mono (ih I_u_110 (by have B_116 := IC_b I_u_110; omega) (by have B_117 := IC_b I_u_110; omega) (by have B_118 := IC_b I_u_110; omega) (by have B_119 := IC_b I_u_110; omega) (by have B_120 := IC_b I_u_110; omega) (by have B_121 := IC_b I_u_110; omega) (by have B_122 := IC_b I_u_110; omega) (by have B_123 := IC_b I_u_110; omega) (by have B_124 := IC_b I_u_110; omega) (by have B_125 := IC_b I_u_110; omega) (by have B_126 := IC_b I_u_110; omega) (by have B_127 := IC_b I_u_110; omega)) (fun r_129 u_130 z_128 => ?_)
                obtain ⟨I_u_130, G_u_130, p_131, p_132⟩ := z_128
                have F_u_130 : Fq [4, 6, 7] [8, 9, 10, 11, 12, 13, 14, 15, 16] u u_130 := Fq_tr F_u_110 G_u_130 rfl rfl
                exact ⟨I_u_130, F_u_130, (by omega), (by omega)⟩
              · try have e_133 : (r_96 + 1 : Int32).toInt = (r_96 : Int32).toInt + (1 : Int32).toInt := by exact add_i (by omega) (by omega)
                refine okM_bM (R.2.2.2.2.2 I_u_92 (by have B_135 := IC_b I_u_92; omega) (by have B_136 := IC_b I_u_92; omega) (by have B_137 := IC_b I_u_92; omega) (by have B_138 := IC_b I_u_92; omega) (by have B_139 := IC_b I_u_92; omega) (by have B_140 := IC_b I_u_92; omega)) (fun r_141 u_142 z_134 => ?_)
                obtain ⟨I_u_142, G_u_142, p_143, p_144⟩ := z_134
                have F_u_142 : Fq [4, 6, 7] [8, 9, 10, 11, 12, 13, 14, 15, 16] u u_142 := Fq_tr F_u_92 G_u_142 rfl rfl
                refine okM_bM (kC_Nodes_join I_u_142 (by have FUe : FU = 100000 := rfl; have B_146 := IC_b I_u_142; omega)) (fun r_147 u_148 z_145 => ?_)
                obtain ⟨I_u_148, G_u_148, p_149, p_150⟩ := z_145
                have F_u_148 : Fq [4, 6, 7] [8, 9, 10, 11, 12, 13, 14, 15, 16] u u_148 := Fq_tr F_u_142 G_u_148 rfl rfl
                try have e_153 : (x7 + 1 : Int32).toInt = (x7 : Int32).toInt + (1 : Int32).toInt := by exact add_i (by omega) (by omega)
                refine okM_seq (fun y_152 h_151 => ?_)
                have h_151' : y_152.toInt = (x7 + 1 : Int32).toInt := by rw [h_151]
                refine okM_mono (ih I_u_148 (by have B_154 := IC_b I_u_148; omega) (by have B_155 := IC_b I_u_148; omega) (by have B_156 := IC_b I_u_148; omega) (by have B_157 := IC_b I_u_148; omega) (by have B_158 := IC_b I_u_148; omega) (by have B_159 := IC_b I_u_148; omega) (by have B_160 := IC_b I_u_148; omega) (by have B_161 := IC_b I_u_148; omega) (by have B_162 := IC_b I_u_148; omega) (by have B_163 := IC_b I_u_148; omega) (by have B_164 := IC_b I_u_148; omega) (by have B_165 := IC_b I_u_148; omega)) (fun r_167 u_168 z_166 => ?_)
                obtain ⟨I_u_168, G_u_168, p_169, p_170⟩ := z_166
                have F_u_168 : Fq [4, 6, 7] [8, 9, 10, 11, 12, 13, 14, 15, 16] u u_168 := Fq_tr F_u_148 G_u_168 rfl rfl
                exact ⟨I_u_168, F_u_168, (by omega), (by omega)⟩
            · refine okM_bP (kC_Tokens_backTo I_u_92) (fun u_172 z_171 => ?_)
              obtain ⟨I_u_172, G_u_172⟩ := z_171
              have F_u_172 : Fq [4, 6, 7] [8, 9, 10, 11, 12, 13, 14, 15, 16] u u_172 := Fq_tr F_u_92 G_u_172 rfl rfl
              exact okM_some ⟨I_u_172, F_u_172, (by omega), (by omega)⟩
