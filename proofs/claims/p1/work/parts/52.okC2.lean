theorem kC_Nodes_again {x1 : Int32} {x2 : Int32} {u : St} (I : IC u) : okM (mC_Nodes_again x1 x2 u) (fun r v => IC v ∧ -1 ≤ r.toInt ∧ r.toInt < 200) := by
  have z0 : (0 : Int32).toInt = 0 := by decide
  have FUe : FU = 100000 := rfl
  rw [mC_Nodes_again]
  refine okM_seq (fun y1 h1 => okM_seq (fun y2 h2 => ?_))
  have e : 0 ≤ y2.toInt := by
    rw [h2]
    by_cases h : x1 < 0
    · rw [if_pos h]; omega
    · rw [if_neg h]
      have := Int32.le_iff_toInt_le.mp (Int32.not_lt.mp h)
      omega
  by_cases h : y2.toInt ≤ 200
  · exact kC_Nodes_again_L17 _ I e h (by omega) (by omega) (by omega)
  · have l200 : (200 : Int32).toInt = 200 := by decide
    rw [show FU = 99999 + 1 from rfl, mC_Nodes_again_L17]
    refine okM_lt (fun c => okM_some ⟨I, by omega, by omega⟩) (fun c => ?_)
    exact okM_le (fun c => okM_some ⟨I, by omega, by omega⟩) (fun c => by exfalso; omega)
theorem kC_Parser_aggregate {u : St} (I : IC u) : okM (mC_Parser_aggregate u) (fun r v => IC v ∧ -1 ≤ r.toInt ∧ r.toInt ≤ 9) := by
  have lm1 : (-1 : Int32).toInt = -1 := by decide
  have l0 : (0 : Int32).toInt = 0 := by decide
  have l1 : (1 : Int32).toInt = 1 := by decide
  have l6 : (6 : Int32).toInt = 6 := by decide
  have l7 : (7 : Int32).toInt = 7 := by decide
  have l8 : (8 : Int32).toInt = 8 := by decide
  have l9 : (9 : Int32).toInt = 9 := by decide
  have l10 : (10 : Int32).toInt = 10 := by decide
  have l11 : (11 : Int32).toInt = 11 := by decide
  have l12 : (12 : Int32).toInt = 12 := by decide
  have l13 : (13 : Int32).toInt = 13 := by decide
  rw [mC_Parser_aggregate]
  refine okM_bM (kC_Tokens_takes I (by decide)) (fun r_2 u_3 z_1 => ?_)
  obtain ⟨I_u_3, p_4, p_5⟩ := z_1
  refine okM_eq (fun c_6 c_6' => ?_) (fun c_6 => ?_)
  · refine okM_bM (kC_Tokens_takes I_u_3 (by decide)) (fun r_8 u_9 z_7 => ?_)
    obtain ⟨I_u_9, p_10, p_11⟩ := z_7
    refine okM_eq (fun c_12 c_12' => ?_) (fun c_12 => ?_)
    · refine okM_bM (kC_Tokens_takes I_u_9 (by decide)) (fun r_14 u_15 z_13 => ?_)
      obtain ⟨I_u_15, p_16, p_17⟩ := z_13
      refine okM_eq (fun c_18 c_18' => ?_) (fun c_18 => ?_)
      · refine okM_bM (kC_Tokens_takes I_u_15 (by decide)) (fun r_20 u_21 z_19 => ?_)
        obtain ⟨I_u_21, p_22, p_23⟩ := z_19
        refine okM_eq (fun c_24 c_24' => ?_) (fun c_24 => ?_)
        · exact okM_some ⟨I_u_21, (by omega), (by omega)⟩
        · exact okM_some ⟨I_u_21, (by omega), (by omega)⟩
      · exact okM_some ⟨I_u_15, (by omega), (by omega)⟩
    · exact okM_some ⟨I_u_9, (by omega), (by omega)⟩
  · exact okM_some ⟨I_u_3, (by omega), (by omega)⟩
theorem kC_Tokens_numberOf_L5 : ∀ (n : Nat) {x1 : Int32} {x2 : Int64} {x4 : Int32} {u : St} (I : IC u) (h0 : 0 ≤ x4.toInt) (h1 : x4.toInt ≤ 31) (hm : (31 - x4.toInt).toNat < n), ok (mC_Tokens_numberOf_L5 n x1 x2 x4 u) (fun r => True) := by
  intro n
  induction n with
  | zero => intro x1 x2 x4 u I h0 h1 hm; exact absurd hm (Nat.not_lt_zero _)
  | succ n ih =>
    intro x1 x2 x4 u I h0 h1 hm
    have l0 : (0 : Int32).toInt = 0 := by decide
    have l1 : (1 : Int32).toInt = 1 := by decide
    have l10 : (10 : Int32).toInt = 10 := by decide
    have l31 : (31 : Int32).toInt = 31 := by decide
    have l48 : (48 : Int32).toInt = 48 := by decide
    rw [mC_Tokens_numberOf_L5]
    refine ok_bP (kC_Text_sizeOf I) (fun r_2 z_1 => ?_)
    obtain ⟨p_3, p_4, p_5⟩ := z_1
    refine ok_le (fun c_6 => ?_) (fun c_6 => ?_)
    · exact ok_some trivial
    · refine ok_bP (kC_Text_startOf I) (fun r_8 z_7 => ?_)
      try have e_9 : (r_8 + x4 : Int32).toInt = (r_8 : Int32).toInt + (x4 : Int32).toInt := by exact add_i (by omega) (by omega)
      refine ok_bP (kC_Text_at_11 I) (fun r_11 z_10 => ?_)
      obtain ⟨p_12, p_13, p_14⟩ := z_10
      try have e_17 : (x2 * 10 : Int32).toInt = (x2 : Int32).toInt * 10 := by exact muc_i l10 (by omega) (by omega)
      try have e_18 : ((x2 * 10) + (Int32.toInt64 (r_11 - 48)) : Int32).toInt = ((x2 * 10) : Int32).toInt + ((Int32.toInt64 (r_11 - 48)) : Int32).toInt := by exact add_i (by omega) (by omega)
      refine ok_seq (fun y_16 h_15 => ?_)
      try have e_21 : (x4 + 1 : Int32).toInt = (x4 : Int32).toInt + (1 : Int32).toInt := by exact add_i (by omega) (by omega)
      refine ok_seq (fun y_20 h_19 => ?_)
      have h_19' : y_20.toInt = (x4 + 1 : Int32).toInt := by rw [h_19]
      refine ok_mono (ih I (by have B_22 := IC_b I; omega) (by have B_23 := IC_b I; omega) (by have B_24 := IC_b I; omega)) (fun r_26 z_25 => ?_)
      exact trivial
theorem kC_Tokens_numberOf {x1 : Int32} {u : St} (I : IC u) : ok (mC_Tokens_numberOf x1 u) (fun r => x1.toInt < 0 ∨ (x1 &&& 31).toInt ≠ 1 ∨ (Int64.toInt32 r).toInt ≤ 300) := by
  have z0 : (0 : Int32).toInt = 0 := by decide
  have l1 : (1 : Int32).toInt = 1 := by decide
  have l48 : (48 : Int32).toInt = 48 := by decide
  have FUe : FU = 100000 := rfl
  rw [mC_Tokens_numberOf]
  by_cases hc : x1.toInt < 0 ∨ (x1 &&& 31).toInt ≠ 1
  · exact ok_mono (kC_Tokens_numberOf_L5 _ I (by omega) (by omega) (by omega)) (fun r _ => by omega)
  · rw [show FU = 99998 + 1 + 1 from rfl, mC_Tokens_numberOf_L5]
    refine ok_bP (kC_Text_sizeOf I) (fun r hr => ?_)
    refine ok_le (fun c => by exfalso; omega) (fun c => ?_)
    refine ok_bP (kC_Text_startOf I) (fun r2 _ => ?_)
    refine ok_bP (kC_Text_at_11 I) (fun r3 h3 => ?_)
    refine ok_seq (fun y4 hy4 => ok_seq (fun y5 hy5 => ?_))
    have e5 : y5.toInt = 1 := by rw [hy5]; decide
    rw [mC_Tokens_numberOf_L5]
    refine ok_bP (kC_Text_sizeOf I) (fun r4 hr4 => ?_)
    refine ok_le (fun c => ok_some ?_) (fun c => by exfalso; omega)
    have e6 : Int64.toInt32 y4 = r3 - 48 := by
      rw [hy4]
      simp
    have e7 := sub_i (a := r3) (b := 48) (by omega) (by omega)
    rw [e6]
    omega
theorem kC_Parser_leaf {u : St} (I : IC u) : okM (mC_Parser_leaf u) (fun r v => IC v ∧ -1 ≤ r.toInt ∧ r.toInt < 200) := by
  have lm1 : (-1 : Int32).toInt = -1 := by decide
  have l0 : (0 : Int32).toInt = 0 := by decide
  have l1 : (1 : Int32).toInt = 1 := by decide
  have l2 : (2 : Int32).toInt = 2 := by decide
  have l3 : (3 : Int32).toInt = 3 := by decide
  have l4 : (4 : Int32).toInt = 4 := by decide
  have l14 : (14 : Int32).toInt = 14 := by decide
  have l15 : (15 : Int32).toInt = 15 := by decide
  have l16 : (16 : Int32).toInt = 16 := by decide
  have l28 : (28 : Int32).toInt = 28 := by decide
  have l200 : (200 : Int32).toInt = 200 := by decide
  have l300 : (300 : Int32).toInt = 300 := by decide
  rw [mC_Parser_leaf]
  refine okM_bM (kC_Tokens_take I) (fun r_2 u_3 z_1 => ?_)
  obtain ⟨I_u_3, p_4, p_5, p_6⟩ := z_1
  refine okM_lt (fun c_7 => ?_) (fun c_7 => ?_)
  · refine okM_bM (kC_Tokens_take I_u_3) (fun r_9 u_10 z_8 => ?_)
    obtain ⟨I_u_10, p_11, p_12, p_13⟩ := z_8
    refine okM_lt (fun c_14 => ?_) (fun c_14 => ?_)
    · refine okM_bM (kC_Tokens_take I_u_10) (fun r_16 u_17 z_15 => ?_)
      obtain ⟨I_u_17, p_18, p_19, p_20⟩ := z_15
      refine okM_lt (fun c_21 => ?_) (fun c_21 => ?_)
      · refine okM_bM (kC_Tokens_takes I_u_17 (by decide)) (fun r_23 u_24 z_22 => ?_)
        obtain ⟨I_u_24, p_25, p_26⟩ := z_22
        refine okM_eq (fun c_27 c_27' => ?_) (fun c_27 => ?_)
        · refine okM_bM (kC_Tokens_takes I_u_24 (by decide)) (fun r_29 u_30 z_28 => ?_)
          obtain ⟨I_u_30, p_31, p_32⟩ := z_28
          refine okM_eq (fun c_33 c_33' => ?_) (fun c_33 => ?_)
          · refine okM_bM (kC_Tokens_takes I_u_30 (by decide)) (fun r_35 u_36 z_34 => ?_)
            obtain ⟨I_u_36, p_37, p_38⟩ := z_34
            refine okM_eq (fun c_39 c_39' => ?_) (fun c_39 => ?_)
            · exact okM_some ⟨I_u_36, (by omega), (by omega)⟩
            · refine okM_bM (kC_Nodes_leaf I_u_36 (by have FUe : FU = 100000 := rfl; have B_41 := IC_b I_u_36; omega)) (fun r_42 u_43 z_40 => ?_)
              obtain ⟨I_u_43, p_44, p_45⟩ := z_40
              exact okM_some ⟨I_u_43, (by omega), (by omega)⟩
          · refine okM_bM (kC_Nodes_leaf I_u_30 (by have FUe : FU = 100000 := rfl; have B_47 := IC_b I_u_30; omega)) (fun r_48 u_49 z_46 => ?_)
            obtain ⟨I_u_49, p_50, p_51⟩ := z_46
            exact okM_some ⟨I_u_49, (by omega), (by omega)⟩
        · refine okM_bM (kC_Nodes_leaf I_u_24 (by have FUe : FU = 100000 := rfl; have B_53 := IC_b I_u_24; omega)) (fun r_54 u_55 z_52 => ?_)
          obtain ⟨I_u_55, p_56, p_57⟩ := z_52
          exact okM_some ⟨I_u_55, (by omega), (by omega)⟩
      · refine okM_bP (kC_Tokens_numberOf I_u_17) (fun r_59 z_58 => ?_)
        have p_60 := z_58
        refine okM_bM (kC_Nodes_leaf I_u_17 (by have FUe : FU = 100000 := rfl; have B_62 := IC_b I_u_17; omega)) (fun r_63 u_64 z_61 => ?_)
        obtain ⟨I_u_64, p_65, p_66⟩ := z_61
        exact okM_some ⟨I_u_64, (by omega), (by omega)⟩
    · refine okM_bM (kC_Nodes_leaf I_u_10 (by have FUe : FU = 100000 := rfl; have B_68 := IC_b I_u_10; omega)) (fun r_69 u_70 z_67 => ?_)
      obtain ⟨I_u_70, p_71, p_72⟩ := z_67
      exact okM_some ⟨I_u_70, (by omega), (by omega)⟩
  · refine okM_bM (kC_Nodes_leaf I_u_3 (by have FUe : FU = 100000 := rfl; have B_74 := IC_b I_u_3; omega)) (fun r_75 u_76 z_73 => ?_)
    obtain ⟨I_u_76, p_77, p_78⟩ := z_73
    exact okM_some ⟨I_u_76, (by omega), (by omega)⟩
theorem kC_Parser_place {u : St} (I : IC u) : okM (mC_Parser_place u) (fun r v => IC v ∧ -1 ≤ r.toInt ∧ r.toInt < 200) := by
  have lm1 : (-1 : Int32).toInt = -1 := by decide
  have l0 : (0 : Int32).toInt = 0 := by decide
  have l1 : (1 : Int32).toInt = 1 := by decide
  have l4 : (4 : Int32).toInt = 4 := by decide
  have l17 : (17 : Int32).toInt = 17 := by decide
  have l28 : (28 : Int32).toInt = 28 := by decide
  have l200 : (200 : Int32).toInt = 200 := by decide
  have l300 : (300 : Int32).toInt = 300 := by decide
  rw [mC_Parser_place]
  refine okM_bM (kC_Tokens_take I) (fun r_2 u_3 z_1 => ?_)
  obtain ⟨I_u_3, p_4, p_5, p_6⟩ := z_1
  refine okM_lt (fun c_7 => ?_) (fun c_7 => ?_)
  · rw [mC_Parser_place_J26]
    refine okM_le (fun c_8 => ?_) (fun c_8 => ?_)
    · refine okM_bM (kC_Nodes_leaf I_u_3 (by have FUe : FU = 100000 := rfl; have B_10 := IC_b I_u_3; omega)) (fun r_11 u_12 z_9 => ?_)
      obtain ⟨I_u_12, p_13, p_14⟩ := z_9
      exact okM_some ⟨I_u_12, (by omega), (by omega)⟩
    · exact okM_some ⟨I_u_3, (by omega), (by omega)⟩
  · refine okM_bM (kC_Tokens_takes I_u_3 (by decide)) (fun r_16 u_17 z_15 => ?_)
    obtain ⟨I_u_17, p_18, p_19⟩ := z_15
    refine okM_eq (fun c_20 c_20' => ?_) (fun c_20 => ?_)
    · rw [mC_Parser_place_J26]
      refine okM_le (fun c_21 => ?_) (fun c_21 => ?_)
      · refine okM_bM (kC_Nodes_leaf I_u_17 (by have FUe : FU = 100000 := rfl; have B_23 := IC_b I_u_17; omega)) (fun r_24 u_25 z_22 => ?_)
        obtain ⟨I_u_25, p_26, p_27⟩ := z_22
        exact okM_some ⟨I_u_25, (by omega), (by omega)⟩
      · exact okM_some ⟨I_u_17, (by omega), (by omega)⟩
    · refine okM_bM (kC_Tokens_take I_u_17) (fun r_29 u_30 z_28 => ?_)
      obtain ⟨I_u_30, p_31, p_32, p_33⟩ := z_28
      refine okM_le (fun c_34 => ?_) (fun c_34 => ?_)
      · refine okM_bM (kC_Nodes_leaf I_u_30 (by have FUe : FU = 100000 := rfl; have B_36 := IC_b I_u_30; omega)) (fun r_37 u_38 z_35 => ?_)
        obtain ⟨I_u_38, p_39, p_40⟩ := z_35
        exact okM_some ⟨I_u_38, (by omega), (by omega)⟩
      · exact okM_some ⟨I_u_30, (by omega), (by omega)⟩
def RCn (rc : Nat → Int32 → Int32 → Int32 → Int32 → St → Option (Int32 × St)) (n : Nat) : Prop := (∀ {a b : Int32} {u : St}, IC u → a.toInt ≠ 28 → 0 ≤ b.toInt → b.toInt ≤ 20 → 12 * (21 - b.toInt) + 1 ≤ (n : Int) → okM (rc 0 a b 0 0 u) (fun r v => IC v ∧ -1 ≤ r.toInt ∧ r.toInt < 200)) ∧ (∀ {a : Int32} {u : St}, IC u → 0 ≤ a.toInt → a.toInt ≤ 21 → 12 * (21 - a.toInt) + 2 ≤ (n : Int) → okM (rc 1 a 0 0 0 u) (fun r v => IC v ∧ -1 ≤ r.toInt ∧ r.toInt < 200)) ∧ (∀ {a b c : Int32} {u : St}, IC u → 0 ≤ c.toInt → c.toInt ≤ 20 → 12 * (21 - c.toInt) + 1 ≤ (n : Int) → okM (rc 2 a b c 0 u) (fun r v => IC v ∧ -1 ≤ r.toInt ∧ r.toInt < 200)) ∧ (∀ {a b c : Int32} {u : St}, IC u → 0 ≤ c.toInt → c.toInt ≤ 20 → 12 * (21 - c.toInt) + 7 ≤ (n : Int) → okM (rc 3 a b c 0 u) (fun r v => IC v ∧ -1 ≤ r.toInt ∧ r.toInt < 200)) ∧ (∀ {a b c d : Int32} {u : St}, IC u → a.toInt ≠ 28 → 0 ≤ d.toInt → d.toInt ≤ 20 → 12 * (21 - d.toInt) + 8 ≤ (n : Int) → okM (rc 4 a b c d u) (fun r v => IC v ∧ -1 ≤ r.toInt ∧ r.toInt < 200)) ∧ (∀ {a b : Int32} {u : St}, IC u → 1 ≤ a.toInt → a.toInt ≤ 8 → 0 ≤ b.toInt → b.toInt ≤ 21 → 12 * (21 - b.toInt) + 11 - a.toInt ≤ (n : Int) → (5 ≤ a.toInt ∨ 12 * (21 - b.toInt) + 13 - a.toInt ≤ (n : Int)) → okM (rc 5 a b 0 0 u) (fun r v => IC v ∧ -1 ≤ r.toInt ∧ r.toInt < 200))
theorem kC_Parser_aggregated_o {rc : Nat → Int32 → Int32 → Int32 → Int32 → St → Option (Int32 × St)} {n : Nat} (R : RCn rc n) {x1 : Int32} {x2 : Int32} {u : St} (I : IC u) (h0 : x1.toInt ≠ 28) (h1 : 0 ≤ x2.toInt) (h2 : x2.toInt ≤ 20) (h3 : 12 * (21 - x2.toInt) + 1 ≤ (n : Int) + 1) : okM (mC_Parser_aggregated_o rc x1 x2 u) (fun r v => IC v ∧ -1 ≤ r.toInt ∧ r.toInt < 200) := by
  have lm1 : (-1 : Int32).toInt = -1 := by decide
  have l0 : (0 : Int32).toInt = 0 := by decide
  have l1 : (1 : Int32).toInt = 1 := by decide
  have l5 : (5 : Int32).toInt = 5 := by decide
  have l6 : (6 : Int32).toInt = 6 := by decide
  have l8 : (8 : Int32).toInt = 8 := by decide
  have l9 : (9 : Int32).toInt = 9 := by decide
  have l11 : (11 : Int32).toInt = 11 := by decide
  have l12 : (12 : Int32).toInt = 12 := by decide
  have l13 : (13 : Int32).toInt = 13 := by decide
  have l21 : (21 : Int32).toInt = 21 := by decide
  have l28 : (28 : Int32).toInt = 28 := by decide
  have l200 : (200 : Int32).toInt = 200 := by decide
  have l300 : (300 : Int32).toInt = 300 := by decide
  rw [mC_Parser_aggregated_o]
  refine okM_bM (kC_Tokens_takes I (by decide)) (fun r_2 u_3 z_1 => ?_)
  obtain ⟨I_u_3, p_4, p_5⟩ := z_1
  refine okM_eq (fun c_6 c_6' => ?_) (fun c_6 => ?_)
  · exact okM_some ⟨I_u_3, (by omega), (by omega)⟩
  · refine okM_eq (fun c_7 c_7' => ?_) (fun c_7 => ?_)
    · refine okM_bM (kC_Tokens_takes I_u_3 (by decide)) (fun r_9 u_10 z_8 => ?_)
      obtain ⟨I_u_10, p_11, p_12⟩ := z_8
      refine okM_eq (fun c_13 c_13' => ?_) (fun c_13 => ?_)
      · rw [mC_Parser_aggregated_J46]
        try have e_14 : (x2 + 1 : Int32).toInt = (x2 : Int32).toInt + (1 : Int32).toInt := by exact add_i (by omega) (by omega)
        refine okM_bM (R.2.2.2.2.2 I_u_10 (by omega) (by omega) (by omega) (by omega) (by omega) (by omega)) (fun r_16 u_17 z_15 => ?_)
        obtain ⟨I_u_17, p_18, p_19⟩ := z_15
        refine okM_bM (kC_Nodes_top I_u_17 (by have FUe : FU = 100000 := rfl; have B_21 := IC_b I_u_17; omega)) (fun r_22 u_23 z_20 => ?_)
        obtain ⟨I_u_23, p_24, p_25⟩ := z_20
        rw [mC_Parser_aggregated_J62]
        refine okM_bM (kC_Tokens_takes I_u_23 (by decide)) (fun r_27 u_28 z_26 => ?_)
        obtain ⟨I_u_28, p_29, p_30⟩ := z_26
        refine okM_eq (fun c_31 c_31' => ?_) (fun c_31 => ?_)
        · exact okM_some ⟨I_u_28, (by omega), (by omega)⟩
        · exact okM_some ⟨I_u_28, (by omega), (by omega)⟩
      · refine okM_bM (kC_Nodes_leaf I_u_10 (by have FUe : FU = 100000 := rfl; have B_33 := IC_b I_u_10; omega)) (fun r_34 u_35 z_32 => ?_)
        obtain ⟨I_u_35, p_36, p_37⟩ := z_32
        rw [mC_Parser_aggregated_J62]
        refine okM_bM (kC_Tokens_takes I_u_35 (by decide)) (fun r_39 u_40 z_38 => ?_)
        obtain ⟨I_u_40, p_41, p_42⟩ := z_38
        refine okM_eq (fun c_43 c_43' => ?_) (fun c_43 => ?_)
        · exact okM_some ⟨I_u_40, (by omega), (by omega)⟩
        · exact okM_some ⟨I_u_40, (by omega), (by omega)⟩
    · rw [mC_Parser_aggregated_J46]
      try have e_44 : (x2 + 1 : Int32).toInt = (x2 : Int32).toInt + (1 : Int32).toInt := by exact add_i (by omega) (by omega)
      refine okM_bM (R.2.2.2.2.2 I_u_3 (by omega) (by omega) (by omega) (by omega) (by omega) (by omega)) (fun r_46 u_47 z_45 => ?_)
      obtain ⟨I_u_47, p_48, p_49⟩ := z_45
      refine okM_bM (kC_Nodes_top I_u_47 (by have FUe : FU = 100000 := rfl; have B_51 := IC_b I_u_47; omega)) (fun r_52 u_53 z_50 => ?_)
      obtain ⟨I_u_53, p_54, p_55⟩ := z_50
      rw [mC_Parser_aggregated_J62]
      refine okM_bM (kC_Tokens_takes I_u_53 (by decide)) (fun r_57 u_58 z_56 => ?_)
      obtain ⟨I_u_58, p_59, p_60⟩ := z_56
      refine okM_eq (fun c_61 c_61' => ?_) (fun c_61 => ?_)
      · exact okM_some ⟨I_u_58, (by omega), (by omega)⟩
      · exact okM_some ⟨I_u_58, (by omega), (by omega)⟩
theorem kC_Parser_operand_o {rc : Nat → Int32 → Int32 → Int32 → Int32 → St → Option (Int32 × St)} {n : Nat} (R : RCn rc n) {x1 : Int32} {u : St} (I : IC u) (h0 : 0 ≤ x1.toInt) (h1 : x1.toInt ≤ 21) (h2 : 12 * (21 - x1.toInt) + 2 ≤ (n : Int) + 1) : okM (mC_Parser_operand_o rc x1 u) (fun r v => IC v ∧ -1 ≤ r.toInt ∧ r.toInt < 200) := by
  have lm1 : (-1 : Int32).toInt = -1 := by decide
  have l0 : (0 : Int32).toInt = 0 := by decide
  have l1 : (1 : Int32).toInt = 1 := by decide
  have l2 : (2 : Int32).toInt = 2 := by decide
  have l5 : (5 : Int32).toInt = 5 := by decide
  have l7 : (7 : Int32).toInt = 7 := by decide
  have l8 : (8 : Int32).toInt = 8 := by decide
  have l9 : (9 : Int32).toInt = 9 := by decide
  have l10 : (10 : Int32).toInt = 10 := by decide
  have l11 : (11 : Int32).toInt = 11 := by decide
  have l12 : (12 : Int32).toInt = 12 := by decide
  have l13 : (13 : Int32).toInt = 13 := by decide
  have l20 : (20 : Int32).toInt = 20 := by decide
  have l21 : (21 : Int32).toInt = 21 := by decide
  have l23 : (23 : Int32).toInt = 23 := by decide
  have l28 : (28 : Int32).toInt = 28 := by decide
  have l200 : (200 : Int32).toInt = 200 := by decide
  rw [mC_Parser_operand_o]
  refine okM_le (fun c_1 => ?_) (fun c_1 => ?_)
  · refine okM_bM (kC_Tokens_takes I (by decide)) (fun r_3 u_4 z_2 => ?_)
    obtain ⟨I_u_4, p_5, p_6⟩ := z_2
    refine okM_eq (fun c_7 c_7' => ?_) (fun c_7 => ?_)
    · refine okM_bM (kC_Tokens_takes I_u_4 (by decide)) (fun r_9 u_10 z_8 => ?_)
      obtain ⟨I_u_10, p_11, p_12⟩ := z_8
      refine okM_eq (fun c_13 c_13' => ?_) (fun c_13 => ?_)
      · refine okM_eq (fun c_14 c_14' => ?_) (fun c_14 => ?_)
        · rw [mC_Parser_operand_J92]
          refine okM_pos (by decide) ?_
          refine okM_bM (kC_Parser_leaf I_u_10) (fun r_16 u_17 z_15 => ?_)
          obtain ⟨I_u_17, p_18, p_19⟩ := z_15
          refine okM_le (fun c_20 => ?_) (fun c_20 => ?_)
          · exact okM_some ⟨I_u_17, (by omega), (by omega)⟩
          · refine okM_bM (kC_Parser_place I_u_17) (fun r_22 u_23 z_21 => ?_)
            obtain ⟨I_u_23, p_24, p_25⟩ := z_21
            exact okM_some ⟨I_u_23, (by omega), (by omega)⟩
        · refine okM_bM (kC_Parser_aggregate I_u_10) (fun r_27 u_28 z_26 => ?_)
          obtain ⟨I_u_28, p_29, p_30⟩ := z_26
          rw [mC_Parser_operand_J92]
          refine okM_lt (fun c_31 => ?_) (fun c_31 => ?_)
          · refine okM_bM (kC_Parser_leaf I_u_28) (fun r_33 u_34 z_32 => ?_)
            obtain ⟨I_u_34, p_35, p_36⟩ := z_32
            refine okM_le (fun c_37 => ?_) (fun c_37 => ?_)
            · exact okM_some ⟨I_u_34, (by omega), (by omega)⟩
            · refine okM_bM (kC_Parser_place I_u_34) (fun r_39 u_40 z_38 => ?_)
              obtain ⟨I_u_40, p_41, p_42⟩ := z_38
              exact okM_some ⟨I_u_40, (by omega), (by omega)⟩
          · refine okM_bM (R.1 I_u_28 (by omega) (by omega) (by omega) (by omega)) (fun r_44 u_45 z_43 => ?_)
            obtain ⟨I_u_45, p_46, p_47⟩ := z_43
            exact okM_some ⟨I_u_45, (by omega), (by omega)⟩
      · try have e_48 : (x1 + 1 : Int32).toInt = (x1 : Int32).toInt + (1 : Int32).toInt := by exact add_i (by omega) (by omega)
        refine okM_bM (R.2.2.2.2.2 I_u_10 (by omega) (by omega) (by omega) (by omega) (by omega) (by omega)) (fun r_50 u_51 z_49 => ?_)
        obtain ⟨I_u_51, p_52, p_53⟩ := z_49
        refine okM_bM (kC_Tokens_takes I_u_51 (by decide)) (fun r_55 u_56 z_54 => ?_)
        obtain ⟨I_u_56, p_57, p_58⟩ := z_54
        refine okM_eq (fun c_59 c_59' => ?_) (fun c_59 => ?_)
        · exact okM_some ⟨I_u_56, (by omega), (by omega)⟩
        · exact okM_some ⟨I_u_56, (by omega), (by omega)⟩
    · try have e_60 : (x1 + 1 : Int32).toInt = (x1 : Int32).toInt + (1 : Int32).toInt := by exact add_i (by omega) (by omega)
      refine okM_bM (R.2.1 I_u_4 (by omega) (by omega) (by omega)) (fun r_62 u_63 z_61 => ?_)
      obtain ⟨I_u_63, p_64, p_65⟩ := z_61
      refine okM_bM (kC_Nodes_top I_u_63 (by have FUe : FU = 100000 := rfl; have B_67 := IC_b I_u_63; omega)) (fun r_68 u_69 z_66 => ?_)
      obtain ⟨I_u_69, p_70, p_71⟩ := z_66
      exact okM_some ⟨I_u_69, (by omega), (by omega)⟩
  · exact okM_some ⟨I, (by omega), (by omega)⟩
theorem kC_Parser_among_L37 {rc : Nat → Int32 → Int32 → Int32 → Int32 → St → Option (Int32 × St)} {m : Nat} (R : RCn rc m) : ∀ (n : Nat) {x1 : Int32} {x2 : Int32} {x3 : Int32} {x4 : Int32} {x5 : Int32} {u : St} (I : IC u) (h0 : 0 ≤ x5.toInt) (h1 : x5.toInt ≤ 2000) (h2 : -1 ≤ x4.toInt) (h3 : x4.toInt < 200) (h4 : 0 ≤ x3.toInt) (h5 : x3.toInt ≤ 20) (h6 : 12 * (21 - x3.toInt) + 1 ≤ (m : Int) + 1) (hm : (2000 - x5.toInt).toNat < n), okM (mC_Parser_among_L37 rc n x1 x2 x3 x4 x5 u) (fun r v => IC v ∧ -1 ≤ r.toInt ∧ r.toInt < 200) := by
  intro n
  induction n with
  | zero => intro x1 x2 x3 x4 x5 u I h0 h1 h2 h3 h4 h5 h6 hm; exact absurd hm (Nat.not_lt_zero _)
  | succ n ih =>
    intro x1 x2 x3 x4 x5 u I h0 h1 h2 h3 h4 h5 h6 hm
    have lm1 : (-1 : Int32).toInt = -1 := by decide
    have l0 : (0 : Int32).toInt = 0 := by decide
    have l1 : (1 : Int32).toInt = 1 := by decide
    have l5 : (5 : Int32).toInt = 5 := by decide
    have l8 : (8 : Int32).toInt = 8 := by decide
    have l9 : (9 : Int32).toInt = 9 := by decide
    have l11 : (11 : Int32).toInt = 11 := by decide
    have l12 : (12 : Int32).toInt = 12 := by decide
    have l13 : (13 : Int32).toInt = 13 := by decide
    have l17 : (17 : Int32).toInt = 17 := by decide
    have l20 : (20 : Int32).toInt = 20 := by decide
    have l21 : (21 : Int32).toInt = 21 := by decide
    have l27 : (27 : Int32).toInt = 27 := by decide
    have l28 : (28 : Int32).toInt = 28 := by decide
    have l33 : (33 : Int32).toInt = 33 := by decide
    have l200 : (200 : Int32).toInt = 200 := by decide
    have l2000 : (2000 : Int32).toInt = 2000 := by decide
    rw [mC_Parser_among_L37]
    refine okM_le (fun c_1 => ?_) (fun c_1 => ?_)
    · refine okM_bM (kC_Tokens_takes I (by decide)) (fun r_3 u_4 z_2 => ?_)
      obtain ⟨I_u_4, p_5, p_6⟩ := z_2
      refine okM_eq (fun c_7 c_7' => ?_) (fun c_7 => ?_)
      · exact okM_some ⟨I_u_4, (by omega), (by omega)⟩
      · exact okM_some ⟨I_u_4, (by omega), (by omega)⟩
    · refine okM_lt (fun c_8 => ?_) (fun c_8 => ?_)
      · refine okM_bM (kC_Tokens_takes I (by decide)) (fun r_10 u_11 z_9 => ?_)
        obtain ⟨I_u_11, p_12, p_13⟩ := z_9
        refine okM_eq (fun c_14 c_14' => ?_) (fun c_14 => ?_)
        · exact okM_some ⟨I_u_11, (by omega), (by omega)⟩
        · exact okM_some ⟨I_u_11, (by omega), (by omega)⟩
      · refine okM_bM (kC_Tokens_takes I (by decide)) (fun r_16 u_17 z_15 => ?_)
        obtain ⟨I_u_17, p_18, p_19⟩ := z_15
        refine okM_eq (fun c_20 c_20' => ?_) (fun c_20 => ?_)
        · refine okM_bM (kC_Tokens_takes I_u_17 (by decide)) (fun r_22 u_23 z_21 => ?_)
          obtain ⟨I_u_23, p_24, p_25⟩ := z_21
          refine okM_eq (fun c_26 c_26' => ?_) (fun c_26 => ?_)
          · exact okM_some ⟨I_u_23, (by omega), (by omega)⟩
          · exact okM_some ⟨I_u_23, (by omega), (by omega)⟩
        · refine okM_bM (kC_Nodes_again I_u_17) (fun r_28 u_29 z_27 => ?_)
          obtain ⟨I_u_29, p_30, p_31⟩ := z_27
          try have e_32 : (x3 + 1 : Int32).toInt = (x3 : Int32).toInt + (1 : Int32).toInt := by exact add_i (by omega) (by omega)
          refine okM_bM (R.2.2.2.2.2 I_u_29 (by omega) (by omega) (by omega) (by omega) (by omega) (by omega)) (fun r_34 u_35 z_33 => ?_)
          obtain ⟨I_u_35, p_36, p_37⟩ := z_33
          refine okM_bM (kC_Nodes_join I_u_35 (by have FUe : FU = 100000 := rfl; have B_39 := IC_b I_u_35; omega)) (fun r_40 u_41 z_38 => ?_)
          obtain ⟨I_u_41, p_42, p_43⟩ := z_38
          refine okM_bM (kC_Nodes_join I_u_41 (by have FUe : FU = 100000 := rfl; have B_45 := IC_b I_u_41; omega)) (fun r_46 u_47 z_44 => ?_)
          obtain ⟨I_u_47, p_48, p_49⟩ := z_44
          try have e_52 : (x5 + 1 : Int32).toInt = (x5 : Int32).toInt + (1 : Int32).toInt := by exact add_i (by omega) (by omega)
          refine okM_seq (fun y_51 h_50 => ?_)
          have h_50' : y_51.toInt = (x5 + 1 : Int32).toInt := by rw [h_50]
          refine okM_mono (ih I_u_47 (by have B_53 := IC_b I_u_47; omega) (by have B_54 := IC_b I_u_47; omega) (by have B_55 := IC_b I_u_47; omega) (by have B_56 := IC_b I_u_47; omega) (by have B_57 := IC_b I_u_47; omega) (by have B_58 := IC_b I_u_47; omega) (by have B_59 := IC_b I_u_47; omega) (by have B_60 := IC_b I_u_47; omega)) (fun r_62 u_63 z_61 => ?_)
          obtain ⟨I_u_63, p_64, p_65⟩ := z_61
          exact ⟨I_u_63, (by omega), (by omega)⟩
theorem kC_Parser_among_o {rc : Nat → Int32 → Int32 → Int32 → Int32 → St → Option (Int32 × St)} {n : Nat} (R : RCn rc n) {x1 : Int32} {x2 : Int32} {x3 : Int32} {u : St} (I : IC u) (h0 : 0 ≤ x3.toInt) (h1 : x3.toInt ≤ 20) (h2 : 12 * (21 - x3.toInt) + 1 ≤ (n : Int) + 1) : okM (mC_Parser_among_o rc x1 x2 x3 u) (fun r v => IC v ∧ -1 ≤ r.toInt ∧ r.toInt < 200) := by
  have lm1 : (-1 : Int32).toInt = -1 := by decide
  have l0 : (0 : Int32).toInt = 0 := by decide
  have l1 : (1 : Int32).toInt = 1 := by decide
  have l5 : (5 : Int32).toInt = 5 := by decide
  have l8 : (8 : Int32).toInt = 8 := by decide
  have l11 : (11 : Int32).toInt = 11 := by decide
  have l12 : (12 : Int32).toInt = 12 := by decide
  have l13 : (13 : Int32).toInt = 13 := by decide
  have l17 : (17 : Int32).toInt = 17 := by decide
  have l20 : (20 : Int32).toInt = 20 := by decide
  have l21 : (21 : Int32).toInt = 21 := by decide
  have l28 : (28 : Int32).toInt = 28 := by decide
  have l200 : (200 : Int32).toInt = 200 := by decide
  have l2000 : (2000 : Int32).toInt = 2000 := by decide
  rw [mC_Parser_among_o]
  refine okM_bM (kC_Tokens_takes I (by decide)) (fun r_2 u_3 z_1 => ?_)
  obtain ⟨I_u_3, p_4, p_5⟩ := z_1
  refine okM_eq (fun c_6 c_6' => ?_) (fun c_6 => ?_)
  · exact okM_some ⟨I_u_3, (by omega), (by omega)⟩
  · try have e_7 : (x3 + 1 : Int32).toInt = (x3 : Int32).toInt + (1 : Int32).toInt := by exact add_i (by omega) (by omega)
    refine okM_bM (R.2.2.2.2.2 I_u_3 (by omega) (by omega) (by omega) (by omega) (by omega) (by omega)) (fun r_9 u_10 z_8 => ?_)
    obtain ⟨I_u_10, p_11, p_12⟩ := z_8
    refine okM_bM (kC_Nodes_join I_u_10 (by have FUe : FU = 100000 := rfl; have B_14 := IC_b I_u_10; omega)) (fun r_15 u_16 z_13 => ?_)
    obtain ⟨I_u_16, p_17, p_18⟩ := z_13
    refine okM_mono (kC_Parser_among_L37 R _ I_u_16 (by have FUe : FU = 100000 := rfl; have B_19 := IC_b I_u_16; omega) (by have FUe : FU = 100000 := rfl; have B_20 := IC_b I_u_16; omega) (by have FUe : FU = 100000 := rfl; have B_21 := IC_b I_u_16; omega) (by have FUe : FU = 100000 := rfl; have B_22 := IC_b I_u_16; omega) (by have FUe : FU = 100000 := rfl; have B_23 := IC_b I_u_16; omega) (by have FUe : FU = 100000 := rfl; have B_24 := IC_b I_u_16; omega) (by have FUe : FU = 100000 := rfl; have B_25 := IC_b I_u_16; omega) (by have FUe : FU = 100000 := rfl; have B_26 := IC_b I_u_16; omega)) (fun r_28 u_29 z_27 => ?_)
    obtain ⟨I_u_29, p_30, p_31⟩ := z_27
    exact ⟨I_u_29, (by omega), (by omega)⟩
theorem kC_Parser_between_o {rc : Nat → Int32 → Int32 → Int32 → Int32 → St → Option (Int32 × St)} {n : Nat} (R : RCn rc n) {x1 : Int32} {x2 : Int32} {x3 : Int32} {u : St} (I : IC u) (h0 : 0 ≤ x3.toInt) (h1 : x3.toInt ≤ 20) (h2 : 12 * (21 - x3.toInt) + 7 ≤ (n : Int) + 1) : okM (mC_Parser_between_o rc x1 x2 x3 u) (fun r v => IC v ∧ -1 ≤ r.toInt ∧ r.toInt < 200) := by
  have lm1 : (-1 : Int32).toInt = -1 := by decide
  have l0 : (0 : Int32).toInt = 0 := by decide
  have l1 : (1 : Int32).toInt = 1 := by decide
  have l5 : (5 : Int32).toInt = 5 := by decide
  have l8 : (8 : Int32).toInt = 8 := by decide
  have l11 : (11 : Int32).toInt = 11 := by decide
  have l12 : (12 : Int32).toInt = 12 := by decide
  have l13 : (13 : Int32).toInt = 13 := by decide
  have l19 : (19 : Int32).toInt = 19 := by decide
  have l20 : (20 : Int32).toInt = 20 := by decide
  have l21 : (21 : Int32).toInt = 21 := by decide
  have l22 : (22 : Int32).toInt = 22 := by decide
  have l26 : (26 : Int32).toInt = 26 := by decide
  have l28 : (28 : Int32).toInt = 28 := by decide
  have l200 : (200 : Int32).toInt = 200 := by decide
  rw [mC_Parser_between_o]
  refine okM_bM (R.2.2.2.2.2 I (by omega) (by omega) (by omega) (by omega) (by omega) (by omega)) (fun r_2 u_3 z_1 => ?_)
  obtain ⟨I_u_3, p_4, p_5⟩ := z_1
  refine okM_bM (kC_Nodes_join I_u_3 (by have FUe : FU = 100000 := rfl; have B_7 := IC_b I_u_3; omega)) (fun r_8 u_9 z_6 => ?_)
  obtain ⟨I_u_9, p_10, p_11⟩ := z_6
  refine okM_lt (fun c_12 => ?_) (fun c_12 => ?_)
  · exact okM_some ⟨I_u_9, (by omega), (by omega)⟩
  · refine okM_bM (kC_Tokens_takes I_u_9 (by decide)) (fun r_14 u_15 z_13 => ?_)
    obtain ⟨I_u_15, p_16, p_17⟩ := z_13
    refine okM_eq (fun c_18 c_18' => ?_) (fun c_18 => ?_)
    · exact okM_some ⟨I_u_15, (by omega), (by omega)⟩
    · refine okM_bM (kC_Nodes_again I_u_15) (fun r_20 u_21 z_19 => ?_)
      obtain ⟨I_u_21, p_22, p_23⟩ := z_19
      refine okM_bM (R.2.2.2.2.2 I_u_21 (by omega) (by omega) (by omega) (by omega) (by omega) (by omega)) (fun r_25 u_26 z_24 => ?_)
      obtain ⟨I_u_26, p_27, p_28⟩ := z_24
      refine okM_bM (kC_Nodes_join I_u_26 (by have FUe : FU = 100000 := rfl; have B_30 := IC_b I_u_26; omega)) (fun r_31 u_32 z_29 => ?_)
      obtain ⟨I_u_32, p_33, p_34⟩ := z_29
      refine okM_bM (kC_Nodes_join I_u_32 (by have FUe : FU = 100000 := rfl; have B_36 := IC_b I_u_32; omega)) (fun r_37 u_38 z_35 => ?_)
      obtain ⟨I_u_38, p_39, p_40⟩ := z_35
      exact okM_some ⟨I_u_38, (by omega), (by omega)⟩
theorem kC_Parser_comparison_o {rc : Nat → Int32 → Int32 → Int32 → Int32 → St → Option (Int32 × St)} {n : Nat} (R : RCn rc n) {x1 : Int32} {x2 : Int32} {x3 : Int32} {x4 : Int32} {u : St} (I : IC u) (h0 : x1.toInt ≠ 28) (h1 : 0 ≤ x4.toInt) (h2 : x4.toInt ≤ 20) (h3 : 12 * (21 - x4.toInt) + 8 ≤ (n : Int) + 1) : okM (mC_Parser_comparison_o rc x1 x2 x3 x4 u) (fun r v => IC v ∧ -1 ≤ r.toInt ∧ r.toInt < 200) := by
  have lm1 : (-1 : Int32).toInt = -1 := by decide
  have l0 : (0 : Int32).toInt = 0 := by decide
  have l1 : (1 : Int32).toInt = 1 := by decide
  have l2 : (2 : Int32).toInt = 2 := by decide
  have l3 : (3 : Int32).toInt = 3 := by decide
  have l5 : (5 : Int32).toInt = 5 := by decide
  have l6 : (6 : Int32).toInt = 6 := by decide
  have l7 : (7 : Int32).toInt = 7 := by decide
  have l8 : (8 : Int32).toInt = 8 := by decide
  have l11 : (11 : Int32).toInt = 11 := by decide
  have l12 : (12 : Int32).toInt = 12 := by decide
  have l13 : (13 : Int32).toInt = 13 := by decide
  have l14 : (14 : Int32).toInt = 14 := by decide
  have l20 : (20 : Int32).toInt = 20 := by decide
  have l21 : (21 : Int32).toInt = 21 := by decide
  have l22 : (22 : Int32).toInt = 22 := by decide
  have l23 : (23 : Int32).toInt = 23 := by decide
  have l24 : (24 : Int32).toInt = 24 := by decide
  have l25 : (25 : Int32).toInt = 25 := by decide
  have l28 : (28 : Int32).toInt = 28 := by decide
  have l29 : (29 : Int32).toInt = 29 := by decide
  have l30 : (30 : Int32).toInt = 30 := by decide
  have l31 : (31 : Int32).toInt = 31 := by decide
  have l200 : (200 : Int32).toInt = 200 := by decide
  rw [mC_Parser_comparison_o]
  refine okM_eq (fun c_1 c_1' => ?_) (fun c_1 => ?_)
  · refine okM_bM (kC_Tokens_takes I (by decide)) (fun r_3 u_4 z_2 => ?_)
    obtain ⟨I_u_4, p_5, p_6⟩ := z_2
    refine okM_eq (fun c_7 c_7' => ?_) (fun c_7 => ?_)
    · rw [mC_Parser_comparison_J24]
      refine okM_bM (kC_Tokens_takes I_u_4 (by decide)) (fun r_9 u_10 z_8 => ?_)
      obtain ⟨I_u_10, p_11, p_12⟩ := z_8
      refine okM_eq (fun c_13 c_13' => ?_) (fun c_13 => ?_)
      · exact okM_some ⟨I_u_10, (by omega), (by omega)⟩
      · refine okM_bM (kC_Nodes_top I_u_10 (by have FUe : FU = 100000 := rfl; have B_15 := IC_b I_u_10; omega)) (fun r_16 u_17 z_14 => ?_)
        obtain ⟨I_u_17, p_18, p_19⟩ := z_14
        exact okM_some ⟨I_u_17, (by omega), (by omega)⟩
    · rw [mC_Parser_comparison_J24]
      refine okM_bM (kC_Tokens_takes I_u_4 (by decide)) (fun r_21 u_22 z_20 => ?_)
      obtain ⟨I_u_22, p_23, p_24⟩ := z_20
      refine okM_eq (fun c_25 c_25' => ?_) (fun c_25 => ?_)
      · exact okM_some ⟨I_u_22, (by omega), (by omega)⟩
      · refine okM_bM (kC_Nodes_top I_u_22 (by have FUe : FU = 100000 := rfl; have B_27 := IC_b I_u_22; omega)) (fun r_28 u_29 z_26 => ?_)
        obtain ⟨I_u_29, p_30, p_31⟩ := z_26
        exact okM_some ⟨I_u_29, (by omega), (by omega)⟩
  · refine okM_le (fun c_32 => ?_) (fun c_32 => ?_)
    · refine okM_eq (fun c_33 c_33' => ?_) (fun c_33 => ?_)
      · rw [mC_Parser_comparison_J87]
        refine okM_eq (fun c_34 c_34' => ?_) (fun c_34 => ?_)
        · refine okM_bM (R.2.2.2.1 I (by omega) (by omega) (by omega)) (fun r_36 u_37 z_35 => ?_)
          obtain ⟨I_u_37, p_38, p_39⟩ := z_35
          rw [mC_Parser_comparison_J158]
          refine okM_neg (by decide) ?_
          refine okM_bM (kC_Nodes_top I_u_37 (by have FUe : FU = 100000 := rfl; have B_41 := IC_b I_u_37; omega)) (fun r_42 u_43 z_40 => ?_)
          obtain ⟨I_u_43, p_44, p_45⟩ := z_40
          exact okM_some ⟨I_u_43, (by omega), (by omega)⟩
        · refine okM_neg (by decide) ?_
          refine okM_bM (kC_Tokens_takes I (by decide)) (fun r_47 u_48 z_46 => ?_)
          obtain ⟨I_u_48, p_49, p_50⟩ := z_46
          refine okM_eq (fun c_51 c_51' => ?_) (fun c_51 => ?_)
          · rw [mC_Parser_comparison_J129]
            refine okM_eq (fun c_52 c_52' => ?_) (fun c_52 => ?_)
            · refine okM_bM (R.2.2.1 I_u_48 (by omega) (by omega) (by omega)) (fun r_54 u_55 z_53 => ?_)
              obtain ⟨I_u_55, p_56, p_57⟩ := z_53
              rw [mC_Parser_comparison_J158]
              refine okM_neg (by decide) ?_
              refine okM_bM (kC_Nodes_top I_u_55 (by have FUe : FU = 100000 := rfl; have B_59 := IC_b I_u_55; omega)) (fun r_60 u_61 z_58 => ?_)
              obtain ⟨I_u_61, p_62, p_63⟩ := z_58
              exact okM_some ⟨I_u_61, (by omega), (by omega)⟩
            · refine okM_bM (kC_Tokens_takes I_u_48 (by decide)) (fun r_65 u_66 z_64 => ?_)
              obtain ⟨I_u_66, p_67, p_68⟩ := z_64
              refine okM_eq (fun c_69 c_69' => ?_) (fun c_69 => ?_)
              · rw [mC_Parser_comparison_J158]
                refine okM_neg (by decide) ?_
                refine okM_bM (kC_Nodes_top I_u_66 (by have FUe : FU = 100000 := rfl; have B_71 := IC_b I_u_66; omega)) (fun r_72 u_73 z_70 => ?_)
                obtain ⟨I_u_73, p_74, p_75⟩ := z_70
                exact okM_some ⟨I_u_73, (by omega), (by omega)⟩
              · refine okM_bM (R.2.2.1 I_u_66 (by omega) (by omega) (by omega)) (fun r_77 u_78 z_76 => ?_)
                obtain ⟨I_u_78, p_79, p_80⟩ := z_76
                rw [mC_Parser_comparison_J158]
                refine okM_neg (by decide) ?_
                refine okM_bM (kC_Nodes_top I_u_78 (by have FUe : FU = 100000 := rfl; have B_82 := IC_b I_u_78; omega)) (fun r_83 u_84 z_81 => ?_)
                obtain ⟨I_u_84, p_85, p_86⟩ := z_81
                exact okM_some ⟨I_u_84, (by omega), (by omega)⟩
          · refine okM_bM (R.2.2.2.1 I_u_48 (by omega) (by omega) (by omega)) (fun r_88 u_89 z_87 => ?_)
            obtain ⟨I_u_89, p_90, p_91⟩ := z_87
            rw [mC_Parser_comparison_J158]
            refine okM_neg (by decide) ?_
            refine okM_bM (kC_Nodes_top I_u_89 (by have FUe : FU = 100000 := rfl; have B_93 := IC_b I_u_89; omega)) (fun r_94 u_95 z_92 => ?_)
            obtain ⟨I_u_95, p_96, p_97⟩ := z_92
            exact okM_some ⟨I_u_95, (by omega), (by omega)⟩
      · rw [mC_Parser_comparison_J87]
        refine okM_eq (fun c_98 c_98' => ?_) (fun c_98 => ?_)
        · refine okM_bM (R.2.2.2.1 I (by omega) (by omega) (by omega)) (fun r_100 u_101 z_99 => ?_)
          obtain ⟨I_u_101, p_102, p_103⟩ := z_99
          rw [mC_Parser_comparison_J158]
          refine okM_pos (by decide) ?_
          exact okM_some ⟨I_u_101, (by omega), (by omega)⟩
        · refine okM_pos (by decide) ?_
          rw [mC_Parser_comparison_J129]
          refine okM_eq (fun c_104 c_104' => ?_) (fun c_104 => ?_)
          · refine okM_bM (R.2.2.1 I (by omega) (by omega) (by omega)) (fun r_106 u_107 z_105 => ?_)
            obtain ⟨I_u_107, p_108, p_109⟩ := z_105
            rw [mC_Parser_comparison_J158]
            refine okM_pos (by decide) ?_
            exact okM_some ⟨I_u_107, (by omega), (by omega)⟩
          · refine okM_bM (kC_Tokens_takes I (by decide)) (fun r_111 u_112 z_110 => ?_)
            obtain ⟨I_u_112, p_113, p_114⟩ := z_110
            refine okM_eq (fun c_115 c_115' => ?_) (fun c_115 => ?_)
            · rw [mC_Parser_comparison_J158]
              refine okM_pos (by decide) ?_
              exact okM_some ⟨I_u_112, (by omega), (by omega)⟩
            · refine okM_bM (R.2.2.1 I_u_112 (by omega) (by omega) (by omega)) (fun r_117 u_118 z_116 => ?_)
              obtain ⟨I_u_118, p_119, p_120⟩ := z_116
              rw [mC_Parser_comparison_J158]
              refine okM_pos (by decide) ?_
              exact okM_some ⟨I_u_118, (by omega), (by omega)⟩
    · refine okM_bM (R.2.2.2.2.2 I (by omega) (by omega) (by omega) (by omega) (by omega) (by omega)) (fun r_122 u_123 z_121 => ?_)
      obtain ⟨I_u_123, p_124, p_125⟩ := z_121
      refine okM_bM (kC_Nodes_join I_u_123 (by have FUe : FU = 100000 := rfl; have B_127 := IC_b I_u_123; omega)) (fun r_128 u_129 z_126 => ?_)
      obtain ⟨I_u_129, p_130, p_131⟩ := z_126
      exact okM_some ⟨I_u_129, (by omega), (by omega)⟩
theorem kC_Parser_expression_L88 {rc : Nat → Int32 → Int32 → Int32 → Int32 → St → Option (Int32 × St)} {m : Nat} (R : RCn rc m) : ∀ (n : Nat) {x1 : Int32} {x2 : Int32} {x3 : Int32} {x5 : Int32} {x6 : Int32} {x7 : Int32} {u : St} (I : IC u) (h0 : 0 ≤ x7.toInt) (h1 : x7.toInt ≤ 2000) (h2 : -1 ≤ x6.toInt) (h3 : x6.toInt < 200) (h4 : x2.toInt ≤ 20) (h5 : 1 ≤ x1.toInt) (h6 : x1.toInt ≤ 8) (h7 : 0 ≤ x2.toInt) (h8 : x2.toInt ≤ 21) (h9 : 12 * (21 - x2.toInt) + 11 - x1.toInt ≤ (m : Int) + 1) (h10 : 5 ≤ x1.toInt ∨ 12 * (21 - x2.toInt) + 13 - x1.toInt ≤ (m : Int) + 1) (hm : (2000 - x7.toInt).toNat < n), okM (mC_Parser_expression_L88 rc n x1 x2 x3 x5 x6 x7 u) (fun r v => IC v ∧ -1 ≤ r.toInt ∧ r.toInt < 200) := by
  intro n
  induction n with
  | zero => intro x1 x2 x3 x5 x6 x7 u I h0 h1 h2 h3 h4 h5 h6 h7 h8 h9 h10 hm; exact absurd hm (Nat.not_lt_zero _)
  | succ n ih =>
    intro x1 x2 x3 x5 x6 x7 u I h0 h1 h2 h3 h4 h5 h6 h7 h8 h9 h10 hm
    have l0 : (0 : Int32).toInt = 0 := by decide
    have l1 : (1 : Int32).toInt = 1 := by decide
    have l2 : (2 : Int32).toInt = 2 := by decide
    have l4 : (4 : Int32).toInt = 4 := by decide
    have l5 : (5 : Int32).toInt = 5 := by decide
    have l8 : (8 : Int32).toInt = 8 := by decide
    have l11 : (11 : Int32).toInt = 11 := by decide
    have l12 : (12 : Int32).toInt = 12 := by decide
    have l13 : (13 : Int32).toInt = 13 := by decide
    have l20 : (20 : Int32).toInt = 20 := by decide
    have l21 : (21 : Int32).toInt = 21 := by decide
    have l28 : (28 : Int32).toInt = 28 := by decide
    have l200 : (200 : Int32).toInt = 200 := by decide
    have l2000 : (2000 : Int32).toInt = 2000 := by decide
    rw [mC_Parser_expression_L88]
    refine okM_le (fun c_1 => ?_) (fun c_1 => ?_)
    · exact okM_some ⟨I, (by omega), (by omega)⟩
    · refine okM_lt (fun c_2 => ?_) (fun c_2 => ?_)
      · exact okM_some ⟨I, (by omega), (by omega)⟩
      · refine okM_bP (kC_Tokens_mark I) (fun r_4 z_3 => ?_)
        refine okM_bM (kC_Parser_wordBehind I) (fun r_6 u_7 z_5 => ?_)
        obtain ⟨I_u_7, p_8, p_9, p_10⟩ := z_5
        refine okM_le (fun c_11 => ?_) (fun c_11 => ?_)
        · rw [mC_Parser_expression_J130]
          refine okM_bP (kC_Parser_levelOf I_u_7) (fun r_13 z_12 => ?_)
          obtain ⟨p_14, p_15⟩ := z_12
          refine okM_lt (fun c_16 => ?_) (fun c_16 => ?_)
          · refine okM_bP (kC_Tokens_backTo I_u_7) (fun u_18 z_17 => ?_)
            have I_u_18 := z_17
            exact okM_some ⟨I_u_18, (by omega), (by omega)⟩
          · refine okM_le (fun c_19 => ?_) (fun c_19 => ?_)
            · refine okM_eq (fun c_20 c_20' => ?_) (fun c_20 => ?_)
              · refine okM_bM (R.2.2.2.2.1 I_u_7 (by omega) (by omega) (by omega) (by omega)) (fun r_22 u_23 z_21 => ?_)
                obtain ⟨I_u_23, p_24, p_25⟩ := z_21
                try have e_28 : (x7 + 1 : Int32).toInt = (x7 : Int32).toInt + (1 : Int32).toInt := by exact add_i (by omega) (by omega)
                refine okM_seq (fun y_27 h_26 => ?_)
                have h_26' : y_27.toInt = (x7 + 1 : Int32).toInt := by rw [h_26]
                refine okM_mono (ih I_u_23 (by have B_29 := IC_b I_u_23; omega) (by have B_30 := IC_b I_u_23; omega) (by have B_31 := IC_b I_u_23; omega) (by have B_32 := IC_b I_u_23; omega) (by have B_33 := IC_b I_u_23; omega) (by have B_34 := IC_b I_u_23; omega) (by have B_35 := IC_b I_u_23; omega) (by have B_36 := IC_b I_u_23; omega) (by have B_37 := IC_b I_u_23; omega) (by have B_38 := IC_b I_u_23; omega) (by have B_39 := IC_b I_u_23; omega) (by have B_40 := IC_b I_u_23; omega)) (fun r_42 u_43 z_41 => ?_)
                obtain ⟨I_u_43, p_44, p_45⟩ := z_41
                exact ⟨I_u_43, (by omega), (by omega)⟩
              · try have e_46 : (r_13 + 1 : Int32).toInt = (r_13 : Int32).toInt + (1 : Int32).toInt := by exact add_i (by omega) (by omega)
                refine okM_bM (R.2.2.2.2.2 I_u_7 (by omega) (by omega) (by omega) (by omega) (by omega) (by omega)) (fun r_48 u_49 z_47 => ?_)
                obtain ⟨I_u_49, p_50, p_51⟩ := z_47
                refine okM_bM (kC_Nodes_join I_u_49 (by have FUe : FU = 100000 := rfl; have B_53 := IC_b I_u_49; omega)) (fun r_54 u_55 z_52 => ?_)
                obtain ⟨I_u_55, p_56, p_57⟩ := z_52
                try have e_60 : (x7 + 1 : Int32).toInt = (x7 : Int32).toInt + (1 : Int32).toInt := by exact add_i (by omega) (by omega)
                refine okM_seq (fun y_59 h_58 => ?_)
                have h_58' : y_59.toInt = (x7 + 1 : Int32).toInt := by rw [h_58]
                refine okM_mono (ih I_u_55 (by have B_61 := IC_b I_u_55; omega) (by have B_62 := IC_b I_u_55; omega) (by have B_63 := IC_b I_u_55; omega) (by have B_64 := IC_b I_u_55; omega) (by have B_65 := IC_b I_u_55; omega) (by have B_66 := IC_b I_u_55; omega) (by have B_67 := IC_b I_u_55; omega) (by have B_68 := IC_b I_u_55; omega) (by have B_69 := IC_b I_u_55; omega) (by have B_70 := IC_b I_u_55; omega) (by have B_71 := IC_b I_u_55; omega) (by have B_72 := IC_b I_u_55; omega)) (fun r_74 u_75 z_73 => ?_)
                obtain ⟨I_u_75, p_76, p_77⟩ := z_73
                exact ⟨I_u_75, (by omega), (by omega)⟩
            · refine okM_bP (kC_Tokens_backTo I_u_7) (fun u_79 z_78 => ?_)
              have I_u_79 := z_78
              exact okM_some ⟨I_u_79, (by omega), (by omega)⟩
        · refine okM_bM (kC_Parser_signBehind I_u_7) (fun r_81 u_82 z_80 => ?_)
          obtain ⟨I_u_82, p_83, p_84⟩ := z_80
          rw [mC_Parser_expression_J130]
          refine okM_bP (kC_Parser_levelOf I_u_82) (fun r_86 z_85 => ?_)
          obtain ⟨p_87, p_88⟩ := z_85
          refine okM_lt (fun c_89 => ?_) (fun c_89 => ?_)
          · refine okM_bP (kC_Tokens_backTo I_u_82) (fun u_91 z_90 => ?_)
            have I_u_91 := z_90
            exact okM_some ⟨I_u_91, (by omega), (by omega)⟩
          · refine okM_le (fun c_92 => ?_) (fun c_92 => ?_)
            · refine okM_eq (fun c_93 c_93' => ?_) (fun c_93 => ?_)
              · refine okM_bM (R.2.2.2.2.1 I_u_82 (by omega) (by omega) (by omega) (by omega)) (fun r_95 u_96 z_94 => ?_)
                obtain ⟨I_u_96, p_97, p_98⟩ := z_94
                try have e_101 : (x7 + 1 : Int32).toInt = (x7 : Int32).toInt + (1 : Int32).toInt := by exact add_i (by omega) (by omega)
                refine okM_seq (fun y_100 h_99 => ?_)
                have h_99' : y_100.toInt = (x7 + 1 : Int32).toInt := by rw [h_99]
                refine okM_mono (ih I_u_96 (by have B_102 := IC_b I_u_96; omega) (by have B_103 := IC_b I_u_96; omega) (by have B_104 := IC_b I_u_96; omega) (by have B_105 := IC_b I_u_96; omega) (by have B_106 := IC_b I_u_96; omega) (by have B_107 := IC_b I_u_96; omega) (by have B_108 := IC_b I_u_96; omega) (by have B_109 := IC_b I_u_96; omega) (by have B_110 := IC_b I_u_96; omega) (by have B_111 := IC_b I_u_96; omega) (by have B_112 := IC_b I_u_96; omega) (by have B_113 := IC_b I_u_96; omega)) (fun r_115 u_116 z_114 => ?_)
                obtain ⟨I_u_116, p_117, p_118⟩ := z_114
                exact ⟨I_u_116, (by omega), (by omega)⟩
              · try have e_119 : (r_86 + 1 : Int32).toInt = (r_86 : Int32).toInt + (1 : Int32).toInt := by exact add_i (by omega) (by omega)
                refine okM_bM (R.2.2.2.2.2 I_u_82 (by omega) (by omega) (by omega) (by omega) (by omega) (by omega)) (fun r_121 u_122 z_120 => ?_)
                obtain ⟨I_u_122, p_123, p_124⟩ := z_120
                refine okM_bM (kC_Nodes_join I_u_122 (by have FUe : FU = 100000 := rfl; have B_126 := IC_b I_u_122; omega)) (fun r_127 u_128 z_125 => ?_)
                obtain ⟨I_u_128, p_129, p_130⟩ := z_125
                try have e_133 : (x7 + 1 : Int32).toInt = (x7 : Int32).toInt + (1 : Int32).toInt := by exact add_i (by omega) (by omega)
                refine okM_seq (fun y_132 h_131 => ?_)
                have h_131' : y_132.toInt = (x7 + 1 : Int32).toInt := by rw [h_131]
                refine okM_mono (ih I_u_128 (by have B_134 := IC_b I_u_128; omega) (by have B_135 := IC_b I_u_128; omega) (by have B_136 := IC_b I_u_128; omega) (by have B_137 := IC_b I_u_128; omega) (by have B_138 := IC_b I_u_128; omega) (by have B_139 := IC_b I_u_128; omega) (by have B_140 := IC_b I_u_128; omega) (by have B_141 := IC_b I_u_128; omega) (by have B_142 := IC_b I_u_128; omega) (by have B_143 := IC_b I_u_128; omega) (by have B_144 := IC_b I_u_128; omega) (by have B_145 := IC_b I_u_128; omega)) (fun r_147 u_148 z_146 => ?_)
                obtain ⟨I_u_148, p_149, p_150⟩ := z_146
                exact ⟨I_u_148, (by omega), (by omega)⟩
            · refine okM_bP (kC_Tokens_backTo I_u_82) (fun u_152 z_151 => ?_)
              have I_u_152 := z_151
              exact okM_some ⟨I_u_152, (by omega), (by omega)⟩
theorem kC_Parser_expression_o {rc : Nat → Int32 → Int32 → Int32 → Int32 → St → Option (Int32 × St)} {n : Nat} (R : RCn rc n) {x1 : Int32} {x2 : Int32} {u : St} (I : IC u) (h0 : 1 ≤ x1.toInt) (h1 : x1.toInt ≤ 8) (h2 : 0 ≤ x2.toInt) (h3 : x2.toInt ≤ 21) (h4 : 12 * (21 - x2.toInt) + 11 - x1.toInt ≤ (n : Int) + 1) (h5 : 5 ≤ x1.toInt ∨ 12 * (21 - x2.toInt) + 13 - x1.toInt ≤ (n : Int) + 1) : okM (mC_Parser_expression_o rc x1 x2 u) (fun r v => IC v ∧ -1 ≤ r.toInt ∧ r.toInt < 200) := by
  have lm1 : (-1 : Int32).toInt = -1 := by decide
  have l0 : (0 : Int32).toInt = 0 := by decide
  have l1 : (1 : Int32).toInt = 1 := by decide
  have l2 : (2 : Int32).toInt = 2 := by decide
  have l3 : (3 : Int32).toInt = 3 := by decide
  have l5 : (5 : Int32).toInt = 5 := by decide
  have l6 : (6 : Int32).toInt = 6 := by decide
  have l7 : (7 : Int32).toInt = 7 := by decide
  have l8 : (8 : Int32).toInt = 8 := by decide
  have l11 : (11 : Int32).toInt = 11 := by decide
  have l12 : (12 : Int32).toInt = 12 := by decide
  have l13 : (13 : Int32).toInt = 13 := by decide
  have l20 : (20 : Int32).toInt = 20 := by decide
  have l21 : (21 : Int32).toInt = 21 := by decide
  have l25 : (25 : Int32).toInt = 25 := by decide
  have l28 : (28 : Int32).toInt = 28 := by decide
  have l200 : (200 : Int32).toInt = 200 := by decide
  have l2000 : (2000 : Int32).toInt = 2000 := by decide
  rw [mC_Parser_expression_o]
  refine okM_le (fun c_1 => ?_) (fun c_1 => ?_)
  · refine okM_bP (kC_Nodes_size I) (fun r_3 z_2 => ?_)
    have p_4 := z_2
    refine okM_lt (fun c_5 => ?_) (fun c_5 => ?_)
    · rw [mC_Parser_expression_J37]
      rw [mC_Parser_expression_J51]
      refine okM_pos (by decide) ?_
      refine okM_bM (R.2.1 I (by omega) (by omega) (by omega)) (fun r_7 u_8 z_6 => ?_)
      obtain ⟨I_u_8, p_9, p_10⟩ := z_6
      refine okM_mono (kC_Parser_expression_L88 R _ I_u_8 (by have FUe : FU = 100000 := rfl; have B_11 := IC_b I_u_8; omega) (by have FUe : FU = 100000 := rfl; have B_12 := IC_b I_u_8; omega) (by have FUe : FU = 100000 := rfl; have B_13 := IC_b I_u_8; omega) (by have FUe : FU = 100000 := rfl; have B_14 := IC_b I_u_8; omega) (by have FUe : FU = 100000 := rfl; have B_15 := IC_b I_u_8; omega) (by have FUe : FU = 100000 := rfl; have B_16 := IC_b I_u_8; omega) (by have FUe : FU = 100000 := rfl; have B_17 := IC_b I_u_8; omega) (by have FUe : FU = 100000 := rfl; have B_18 := IC_b I_u_8; omega) (by have FUe : FU = 100000 := rfl; have B_19 := IC_b I_u_8; omega) (by have FUe : FU = 100000 := rfl; have B_20 := IC_b I_u_8; omega) (by have FUe : FU = 100000 := rfl; have B_21 := IC_b I_u_8; omega) (by have FUe : FU = 100000 := rfl; have B_22 := IC_b I_u_8; omega)) (fun r_24 u_25 z_23 => ?_)
      obtain ⟨I_u_25, p_26, p_27⟩ := z_23
      exact ⟨I_u_25, (by omega), (by omega)⟩
    · refine okM_bM (kC_Tokens_takes I (by decide)) (fun r_29 u_30 z_28 => ?_)
      obtain ⟨I_u_30, p_31, p_32⟩ := z_28
      refine okM_eq (fun c_33 c_33' => ?_) (fun c_33 => ?_)
      · rw [mC_Parser_expression_J37]
        rw [mC_Parser_expression_J51]
        refine okM_pos (by decide) ?_
        refine okM_bM (R.2.1 I_u_30 (by omega) (by omega) (by omega)) (fun r_35 u_36 z_34 => ?_)
        obtain ⟨I_u_36, p_37, p_38⟩ := z_34
        refine okM_mono (kC_Parser_expression_L88 R _ I_u_36 (by have FUe : FU = 100000 := rfl; have B_39 := IC_b I_u_36; omega) (by have FUe : FU = 100000 := rfl; have B_40 := IC_b I_u_36; omega) (by have FUe : FU = 100000 := rfl; have B_41 := IC_b I_u_36; omega) (by have FUe : FU = 100000 := rfl; have B_42 := IC_b I_u_36; omega) (by have FUe : FU = 100000 := rfl; have B_43 := IC_b I_u_36; omega) (by have FUe : FU = 100000 := rfl; have B_44 := IC_b I_u_36; omega) (by have FUe : FU = 100000 := rfl; have B_45 := IC_b I_u_36; omega) (by have FUe : FU = 100000 := rfl; have B_46 := IC_b I_u_36; omega) (by have FUe : FU = 100000 := rfl; have B_47 := IC_b I_u_36; omega) (by have FUe : FU = 100000 := rfl; have B_48 := IC_b I_u_36; omega) (by have FUe : FU = 100000 := rfl; have B_49 := IC_b I_u_36; omega) (by have FUe : FU = 100000 := rfl; have B_50 := IC_b I_u_36; omega)) (fun r_52 u_53 z_51 => ?_)
        obtain ⟨I_u_53, p_54, p_55⟩ := z_51
        exact ⟨I_u_53, (by omega), (by omega)⟩
      · rw [mC_Parser_expression_J51]
        refine okM_neg (by decide) ?_
        try have e_56 : (x2 + 1 : Int32).toInt = (x2 : Int32).toInt + (1 : Int32).toInt := by exact add_i (by omega) (by omega)
        refine okM_bM (R.2.2.2.2.2 I_u_30 (by omega) (by omega) (by omega) (by omega) (by omega) (by omega)) (fun r_58 u_59 z_57 => ?_)
        obtain ⟨I_u_59, p_60, p_61⟩ := z_57
        refine okM_bM (kC_Nodes_top I_u_59 (by have FUe : FU = 100000 := rfl; have B_63 := IC_b I_u_59; omega)) (fun r_64 u_65 z_62 => ?_)
        obtain ⟨I_u_65, p_66, p_67⟩ := z_62
        refine okM_mono (kC_Parser_expression_L88 R _ I_u_65 (by have FUe : FU = 100000 := rfl; have B_68 := IC_b I_u_65; omega) (by have FUe : FU = 100000 := rfl; have B_69 := IC_b I_u_65; omega) (by have FUe : FU = 100000 := rfl; have B_70 := IC_b I_u_65; omega) (by have FUe : FU = 100000 := rfl; have B_71 := IC_b I_u_65; omega) (by have FUe : FU = 100000 := rfl; have B_72 := IC_b I_u_65; omega) (by have FUe : FU = 100000 := rfl; have B_73 := IC_b I_u_65; omega) (by have FUe : FU = 100000 := rfl; have B_74 := IC_b I_u_65; omega) (by have FUe : FU = 100000 := rfl; have B_75 := IC_b I_u_65; omega) (by have FUe : FU = 100000 := rfl; have B_76 := IC_b I_u_65; omega) (by have FUe : FU = 100000 := rfl; have B_77 := IC_b I_u_65; omega) (by have FUe : FU = 100000 := rfl; have B_78 := IC_b I_u_65; omega) (by have FUe : FU = 100000 := rfl; have B_79 := IC_b I_u_65; omega)) (fun r_81 u_82 z_80 => ?_)
        obtain ⟨I_u_82, p_83, p_84⟩ := z_80
        exact ⟨I_u_82, (by omega), (by omega)⟩
  · exact okM_some ⟨I, (by omega), (by omega)⟩
theorem grpC_ok : ∀ n : Nat, RCn (grpC n) n := by
  intro n
  induction n with
  | zero => exact ⟨fun _ _ _ _ h => by exfalso; omega, fun _ _ _ h => by exfalso; omega, fun _ _ _ h => by exfalso; omega, fun _ _ _ h => by exfalso; omega, fun _ _ _ _ h => by exfalso; omega, fun _ _ _ _ _ h _ => by exfalso; omega⟩
  | succ n R =>
    have c : ((n + 1 : Nat) : Int) = (n : Int) + 1 := by omega
    refine ⟨?_, ?_, ?_, ?_, ?_, ?_⟩
    · intro a b u I h0 h1 h2 h3
      rw [grpC]
      exact kC_Parser_aggregated_o R I (by omega) (by omega) (by omega) (by omega)
    · intro a u I h0 h1 h2
      rw [grpC]
      exact kC_Parser_operand_o R I (by omega) (by omega) (by omega)
    · intro a b c u I h0 h1 h2
      rw [grpC]
      exact kC_Parser_among_o R I (by omega) (by omega) (by omega)
    · intro a b c u I h0 h1 h2
      rw [grpC]
      exact kC_Parser_between_o R I (by omega) (by omega) (by omega)
    · intro a b c d u I h0 h1 h2 h3
      rw [grpC]
      exact kC_Parser_comparison_o R I (by omega) (by omega) (by omega) (by omega)
    · intro a b u I h0 h1 h2 h3 h4 h5
      rw [grpC]
      exact kC_Parser_expression_o R I (by omega) (by omega) (by omega) (by omega) (by omega) (by omega)
theorem kC_Parser_expression {x1 x2 : Int32} {u : St} (I : IC u) (h1 : x1.toInt = 1) (h2 : x2.toInt = 0) : okM (mC_Parser_expression DP x1 x2 u) (fun r v => IC v ∧ -1 ≤ r.toInt ∧ r.toInt < 200) := by
  have D : DP = 400 := rfl
  rw [mC_Parser_expression]
  exact (grpC_ok DP).2.2.2.2.2 I (by omega) (by omega) (by omega) (by omega) (by omega) (by omega)
theorem kC_Lists_add {x1 : Int32} {x2 : Int32} {u : St} (I : IC u) (h0 : (x1.toInt ≠ 0 ∧ x1.toInt ≠ 5 ∧ x1.toInt ≠ 12) ∨ (-1 ≤ x2.toInt ∧ x2.toInt ≤ 200)) : ok (mC_Lists_add x1 x2 u) (fun v => IC v) := by
  have B := IC_b I
  have z0 : (0 : Int32).toInt = 0 := by decide
  have l1 : (1 : Int32).toInt = 1 := by decide
  have l14 : (14 : Int32).toInt = 14 := by decide
  have t0 : lnT 0 = 14 := by decide
  have t1 : lnT 1 = 14 := by decide
  rw [mC_Lists_add, t0, t1]
  refine ok_lt (fun c => ok_seq (fun v h => ok_some (by rw [h]; exact IC_s8 I (by omega) (by omega)))) (fun c => ?_)
  refine ok_le (fun c => ok_seq (fun v h => ok_some (by rw [h]; exact IC_s8 I (by omega) (by omega)))) (fun c2 => ?_)
  have F := gst_f (i := x1) (by omega) (by omega)
  have Z := IC_siz I (i := x1) (by omega) (by omega)
  have gi : inb x1 14 = true := inb_of (by omega) (by omega)
  refine ok_gd gi (ok_gd gi ?_)
  refine ok_lt (fun c3 => ?_) (fun c => ok_seq (fun v h => ok_some (by rw [h]; exact IC_s8 I (by omega) (by omega))))
  have e : (gst 1 x1 + ga u 17 x1 : Int32).toInt = (gst 1 x1).toInt + (ga u 17 x1).toInt := add_i (by omega) (by omega)
  have e' := cl_of (i := gst 1 x1 + ga u 17 x1) (by omega)
  refine ok_gd gi (ok_gd gi (ok_gd (inb_of (by omega) (by omega)) (ok_seq (fun u3 h3 => ?_))))
  have I3 : IC u3 := by rw [h3]; exact IC_a18 I (fun q => by omega)
  have g : ga u3 17 x1 = ga u 17 x1 := by rw [h3]; rfl
  refine ok_gd gi (ok_gd gi (ok_seq (fun u4 h4 => ok_some ?_)))
  have e2 : (ga u3 17 x1 + 1 : Int32).toInt = (ga u3 17 x1).toInt + (1 : Int32).toInt := add_i (by rw [g]; omega) (by rw [g]; omega)
  rw [h4]
  exact IC_a17 I3 (by rw [e2, g]; omega) (by omega) (by rw [e2, g]; omega)
theorem kC_Parser_expressions_L2 : ∀ (n : Nat) {x1 : Int32} {x2 : Int32} {u : St} (I : IC u) (h0 : 0 ≤ x2.toInt) (h1 : x2.toInt ≤ 2000) (hm : (2000 - x2.toInt).toNat < n), okM (mC_Parser_expressions_L2 n x1 x2 u) (fun r v => IC v ∧ 0 ≤ r.toInt ∧ r.toInt ≤ 1) := by
  intro n
  induction n with
  | zero => intro x1 x2 u I h0 h1 hm; exact absurd hm (Nat.not_lt_zero _)
  | succ n ih =>
    intro x1 x2 u I h0 h1 hm
    have l0 : (0 : Int32).toInt = 0 := by decide
    have l1 : (1 : Int32).toInt = 1 := by decide
    have l5 : (5 : Int32).toInt = 5 := by decide
    have l12 : (12 : Int32).toInt = 12 := by decide
    have l33 : (33 : Int32).toInt = 33 := by decide
    have l200 : (200 : Int32).toInt = 200 := by decide
    have l2000 : (2000 : Int32).toInt = 2000 := by decide
    rw [mC_Parser_expressions_L2]
    refine okM_le (fun c_1 => ?_) (fun c_1 => ?_)
    · exact okM_some ⟨I, (by omega), (by omega)⟩
    · refine okM_bM (kC_Parser_expression I (by decide) (by decide)) (fun r_3 u_4 z_2 => ?_)
      obtain ⟨I_u_4, p_5, p_6⟩ := z_2
      refine okM_le (fun c_7 => ?_) (fun c_7 => ?_)
      · refine okM_bP (kC_Lists_add I_u_4 (by have FUe : FU = 100000 := rfl; have B_9 := IC_b I_u_4; omega)) (fun u_10 z_8 => ?_)
        have I_u_10 := z_8
        refine okM_bM (kC_Tokens_takes I_u_10 (by decide)) (fun r_12 u_13 z_11 => ?_)
        obtain ⟨I_u_13, p_14, p_15⟩ := z_11
        refine okM_eq (fun c_16 c_16' => ?_) (fun c_16 => ?_)
        · exact okM_some ⟨I_u_13, (by omega), (by omega)⟩
        · try have e_19 : (x2 + 1 : Int32).toInt = (x2 : Int32).toInt + (1 : Int32).toInt := by exact add_i (by omega) (by omega)
          refine okM_seq (fun y_18 h_17 => ?_)
          have h_17' : y_18.toInt = (x2 + 1 : Int32).toInt := by rw [h_17]
          refine okM_mono (ih I_u_13 (by have B_20 := IC_b I_u_13; omega) (by have B_21 := IC_b I_u_13; omega) (by have B_22 := IC_b I_u_13; omega)) (fun r_24 u_25 z_23 => ?_)
          obtain ⟨I_u_25, p_26, p_27⟩ := z_23
          exact ⟨I_u_25, (by omega), (by omega)⟩
      · exact okM_some ⟨I_u_4, (by omega), (by omega)⟩
theorem kC_Parser_expressions {x1 : Int32} {u : St} (I : IC u) : okM (mC_Parser_expressions x1 u) (fun r v => IC v ∧ 0 ≤ r.toInt ∧ r.toInt ≤ 1) := by
  have l0 : (0 : Int32).toInt = 0 := by decide
  have l1 : (1 : Int32).toInt = 1 := by decide
  have l2000 : (2000 : Int32).toInt = 2000 := by decide
  rw [mC_Parser_expressions]
  refine okM_mono (kC_Parser_expressions_L2 _ I (by have FUe : FU = 100000 := rfl; have B_1 := IC_b I; omega) (by have FUe : FU = 100000 := rfl; have B_2 := IC_b I; omega) (by have FUe : FU = 100000 := rfl; have B_3 := IC_b I; omega)) (fun r_5 u_6 z_4 => ?_)
  obtain ⟨I_u_6, p_7, p_8⟩ := z_4
  exact ⟨I_u_6, (by omega), (by omega)⟩
theorem kC_Parser_tableOfQuery {u : St} (I : IC u) : okM (mC_Parser_tableOfQuery u) (fun r v => IC v ∧ 0 ≤ r.toInt ∧ r.toInt ≤ 1) := by
  have l0 : (0 : Int32).toInt = 0 := by decide
  have l1 : (1 : Int32).toInt = 1 := by decide
  have l5 : (5 : Int32).toInt = 5 := by decide
  have l10 : (10 : Int32).toInt = 10 := by decide
  have l11 : (11 : Int32).toInt = 11 := by decide
  have l12 : (12 : Int32).toInt = 12 := by decide
  have l200 : (200 : Int32).toInt = 200 := by decide
  rw [mC_Parser_tableOfQuery]
  refine okM_bM (kC_Tokens_take I) (fun r_2 u_3 z_1 => ?_)
  obtain ⟨I_u_3, p_4, p_5, p_6⟩ := z_1
  refine okM_bP (kC_Lists_add I_u_3 (by have FUe : FU = 100000 := rfl; have B_8 := IC_b I_u_3; omega)) (fun u_9 z_7 => ?_)
  have I_u_9 := z_7
  refine okM_bM (kC_Tokens_take I_u_9) (fun r_11 u_12 z_10 => ?_)
  obtain ⟨I_u_12, p_13, p_14, p_15⟩ := z_10
  refine okM_bP (kC_Lists_add I_u_12 (by have FUe : FU = 100000 := rfl; have B_17 := IC_b I_u_12; omega)) (fun u_18 z_16 => ?_)
  have I_u_18 := z_16
  refine okM_lt (fun c_19 => ?_) (fun c_19 => ?_)
  · exact okM_some ⟨I_u_18, (by omega), (by omega)⟩
  · exact okM_some ⟨I_u_18, (by omega), (by omega)⟩
theorem kC_Parser_from_L27 : ∀ (n : Nat) {x1 : Int32} {x2 : Int32} {u : St} (I : IC u) (h0 : 0 ≤ x2.toInt) (h1 : x2.toInt ≤ 2000) (h2 : 0 ≤ x1.toInt) (h3 : x1.toInt ≤ 1) (hm : (2000 - x2.toInt).toNat < n), okM (mC_Parser_from_L27 n x1 x2 u) (fun r v => IC v ∧ 0 ≤ r.toInt ∧ r.toInt ≤ 1) := by
  intro n
  induction n with
  | zero => intro x1 x2 u I h0 h1 h2 h3 hm; exact absurd hm (Nat.not_lt_zero _)
  | succ n ih =>
    intro x1 x2 u I h0 h1 h2 h3 hm
    have l0 : (0 : Int32).toInt = 0 := by decide
    have l1 : (1 : Int32).toInt = 1 := by decide
    have l33 : (33 : Int32).toInt = 33 := by decide
    have l2000 : (2000 : Int32).toInt = 2000 := by decide
    rw [mC_Parser_from_L27]
    refine okM_le (fun c_1 => ?_) (fun c_1 => ?_)
    · refine okM_gd (zb_of (by omega) (by omega)) ?_
      exact okM_some ⟨I, (by omega), (by omega)⟩
    · refine okM_eq (fun c_2 c_2' => ?_) (fun c_2 => ?_)
      · refine okM_gd (zb_of (by omega) (by omega)) ?_
        exact okM_some ⟨I, (by omega), (by omega)⟩
      · refine okM_bM (kC_Tokens_takes I (by decide)) (fun r_4 u_5 z_3 => ?_)
        obtain ⟨I_u_5, p_6, p_7⟩ := z_3
        refine okM_eq (fun c_8 c_8' => ?_) (fun c_8 => ?_)
        · refine okM_gd (zb_of (by omega) (by omega)) ?_
          exact okM_some ⟨I_u_5, (by omega), (by omega)⟩
        · refine okM_bM (kC_Parser_tableOfQuery I_u_5) (fun r_10 u_11 z_9 => ?_)
          obtain ⟨I_u_11, p_12, p_13⟩ := z_9
          try have e_16 : (x2 + 1 : Int32).toInt = (x2 : Int32).toInt + (1 : Int32).toInt := by exact add_i (by omega) (by omega)
          refine okM_seq (fun y_15 h_14 => ?_)
          have h_14' : y_15.toInt = (x2 + 1 : Int32).toInt := by rw [h_14]
          refine okM_mono (ih I_u_11 (by have B_17 := IC_b I_u_11; omega) (by have B_18 := IC_b I_u_11; omega) (by have B_19 := IC_b I_u_11; omega) (by have B_20 := IC_b I_u_11; omega) (by have B_21 := IC_b I_u_11; omega)) (fun r_23 u_24 z_22 => ?_)
          obtain ⟨I_u_24, p_25, p_26⟩ := z_22
          exact ⟨I_u_24, (by omega), (by omega)⟩
theorem kC_Parser_from {u : St} (I : IC u) : okM (mC_Parser_from u) (fun r v => IC v ∧ 0 ≤ r.toInt ∧ r.toInt ≤ 1) := by
  have l0 : (0 : Int32).toInt = 0 := by decide
  have l1 : (1 : Int32).toInt = 1 := by decide
  have l34 : (34 : Int32).toInt = 34 := by decide
  have l2000 : (2000 : Int32).toInt = 2000 := by decide
  rw [mC_Parser_from]
  refine okM_bM (kC_Tokens_takes I (by decide)) (fun r_2 u_3 z_1 => ?_)
  obtain ⟨I_u_3, p_4, p_5⟩ := z_1
  refine okM_eq (fun c_6 c_6' => ?_) (fun c_6 => ?_)
  · refine okM_mono (kC_Parser_from_L27 _ I_u_3 (by have FUe : FU = 100000 := rfl; have B_7 := IC_b I_u_3; omega) (by have FUe : FU = 100000 := rfl; have B_8 := IC_b I_u_3; omega) (by have FUe : FU = 100000 := rfl; have B_9 := IC_b I_u_3; omega) (by have FUe : FU = 100000 := rfl; have B_10 := IC_b I_u_3; omega) (by have FUe : FU = 100000 := rfl; have B_11 := IC_b I_u_3; omega)) (fun r_13 u_14 z_12 => ?_)
    obtain ⟨I_u_14, p_15, p_16⟩ := z_12
    exact ⟨I_u_14, (by omega), (by omega)⟩
  · refine okM_bM (kC_Parser_tableOfQuery I_u_3) (fun r_18 u_19 z_17 => ?_)
    obtain ⟨I_u_19, p_20, p_21⟩ := z_17
    refine okM_eq (fun c_22 c_22' => ?_) (fun c_22 => ?_)
    · refine okM_mono (kC_Parser_from_L27 _ I_u_19 (by have FUe : FU = 100000 := rfl; have B_23 := IC_b I_u_19; omega) (by have FUe : FU = 100000 := rfl; have B_24 := IC_b I_u_19; omega) (by have FUe : FU = 100000 := rfl; have B_25 := IC_b I_u_19; omega) (by have FUe : FU = 100000 := rfl; have B_26 := IC_b I_u_19; omega) (by have FUe : FU = 100000 := rfl; have B_27 := IC_b I_u_19; omega)) (fun r_29 u_30 z_28 => ?_)
      obtain ⟨I_u_30, p_31, p_32⟩ := z_28
      exact ⟨I_u_30, (by omega), (by omega)⟩
    · refine okM_mono (kC_Parser_from_L27 _ I_u_19 (by have FUe : FU = 100000 := rfl; have B_33 := IC_b I_u_19; omega) (by have FUe : FU = 100000 := rfl; have B_34 := IC_b I_u_19; omega) (by have FUe : FU = 100000 := rfl; have B_35 := IC_b I_u_19; omega) (by have FUe : FU = 100000 := rfl; have B_36 := IC_b I_u_19; omega) (by have FUe : FU = 100000 := rfl; have B_37 := IC_b I_u_19; omega)) (fun r_39 u_40 z_38 => ?_)
      obtain ⟨I_u_40, p_41, p_42⟩ := z_38
      exact ⟨I_u_40, (by omega), (by omega)⟩
theorem kC_Parser_where {u : St} (I : IC u) : okM (mC_Parser_where u) (fun r v => IC v ∧ 0 ≤ r.toInt ∧ r.toInt ≤ 1) := by
  have l0 : (0 : Int32).toInt = 0 := by decide
  have l1 : (1 : Int32).toInt = 1 := by decide
  have l18 : (18 : Int32).toInt = 18 := by decide
  have l35 : (35 : Int32).toInt = 35 := by decide
  rw [mC_Parser_where]
  refine okM_bM (kC_Tokens_takes I (by decide)) (fun r_2 u_3 z_1 => ?_)
  obtain ⟨I_u_3, p_4, p_5⟩ := z_1
  refine okM_eq (fun c_6 c_6' => ?_) (fun c_6 => ?_)
  · exact okM_some ⟨I_u_3, (by omega), (by omega)⟩
  · refine okM_bM (kC_Parser_expression I_u_3 (by decide) (by decide)) (fun r_8 u_9 z_7 => ?_)
    obtain ⟨I_u_9, p_10, p_11⟩ := z_7
    refine okM_seq (fun u_13 h_12 => ?_)
    have I_u_13 : IC u_13 := by rw [h_12]; exact I_u_9
    refine okM_lt (fun c_14 => ?_) (fun c_14 => ?_)
    · exact okM_some ⟨I_u_13, (by omega), (by omega)⟩
    · exact okM_some ⟨I_u_13, (by omega), (by omega)⟩
theorem kC_Parser_group {u : St} (I : IC u) : okM (mC_Parser_group u) (fun r v => IC v ∧ 0 ≤ r.toInt ∧ r.toInt ≤ 1) := by
  have l0 : (0 : Int32).toInt = 0 := by decide
  have l1 : (1 : Int32).toInt = 1 := by decide
  have l5 : (5 : Int32).toInt = 5 := by decide
  have l12 : (12 : Int32).toInt = 12 := by decide
  have l200 : (200 : Int32).toInt = 200 := by decide
  rw [mC_Parser_group]
  refine okM_bM (kC_Parser_place I) (fun r_2 u_3 z_1 => ?_)
  obtain ⟨I_u_3, p_4, p_5⟩ := z_1
  refine okM_lt (fun c_6 => ?_) (fun c_6 => ?_)
  · refine okM_lt (fun c_7 => ?_) (fun c_7 => ?_)
    · exact okM_some ⟨I_u_3, (by omega), (by omega)⟩
    · exact okM_some ⟨I_u_3, (by omega), (by omega)⟩
  · refine okM_bP (kC_Lists_add I_u_3 (by have FUe : FU = 100000 := rfl; have B_9 := IC_b I_u_3; omega)) (fun u_10 z_8 => ?_)
    have I_u_10 := z_8
    refine okM_lt (fun c_11 => ?_) (fun c_11 => ?_)
    · exact okM_some ⟨I_u_10, (by omega), (by omega)⟩
    · exact okM_some ⟨I_u_10, (by omega), (by omega)⟩
theorem kC_Parser_groups_L41 : ∀ (n : Nat) {x1 : Int32} {x2 : Int32} {u : St} (I : IC u) (h0 : 0 ≤ x2.toInt) (h1 : x2.toInt ≤ 2000) (h2 : 0 ≤ x1.toInt) (h3 : x1.toInt ≤ 1) (hm : (2000 - x2.toInt).toNat < n), okM (mC_Parser_groups_L41 n x1 x2 u) (fun r v => IC v ∧ 0 ≤ r.toInt ∧ r.toInt ≤ 1) := by
  intro n
  induction n with
  | zero => intro x1 x2 u I h0 h1 h2 h3 hm; exact absurd hm (Nat.not_lt_zero _)
  | succ n ih =>
    intro x1 x2 u I h0 h1 h2 h3 hm
    have l0 : (0 : Int32).toInt = 0 := by decide
    have l1 : (1 : Int32).toInt = 1 := by decide
    have l33 : (33 : Int32).toInt = 33 := by decide
    have l2000 : (2000 : Int32).toInt = 2000 := by decide
    rw [mC_Parser_groups_L41]
    refine okM_le (fun c_1 => ?_) (fun c_1 => ?_)
    · refine okM_gd (zb_of (by omega) (by omega)) ?_
      exact okM_some ⟨I, (by omega), (by omega)⟩
    · refine okM_eq (fun c_2 c_2' => ?_) (fun c_2 => ?_)
      · refine okM_gd (zb_of (by omega) (by omega)) ?_
        exact okM_some ⟨I, (by omega), (by omega)⟩
      · refine okM_bM (kC_Tokens_takes I (by decide)) (fun r_4 u_5 z_3 => ?_)
        obtain ⟨I_u_5, p_6, p_7⟩ := z_3
        refine okM_eq (fun c_8 c_8' => ?_) (fun c_8 => ?_)
        · refine okM_gd (zb_of (by omega) (by omega)) ?_
          exact okM_some ⟨I_u_5, (by omega), (by omega)⟩
        · refine okM_bM (kC_Parser_group I_u_5) (fun r_10 u_11 z_9 => ?_)
          obtain ⟨I_u_11, p_12, p_13⟩ := z_9
          try have e_16 : (x2 + 1 : Int32).toInt = (x2 : Int32).toInt + (1 : Int32).toInt := by exact add_i (by omega) (by omega)
          refine okM_seq (fun y_15 h_14 => ?_)
          have h_14' : y_15.toInt = (x2 + 1 : Int32).toInt := by rw [h_14]
          refine okM_mono (ih I_u_11 (by have B_17 := IC_b I_u_11; omega) (by have B_18 := IC_b I_u_11; omega) (by have B_19 := IC_b I_u_11; omega) (by have B_20 := IC_b I_u_11; omega) (by have B_21 := IC_b I_u_11; omega)) (fun r_23 u_24 z_22 => ?_)
          obtain ⟨I_u_24, p_25, p_26⟩ := z_22
          exact ⟨I_u_24, (by omega), (by omega)⟩
theorem kC_Parser_groups {u : St} (I : IC u) : okM (mC_Parser_groups u) (fun r v => IC v ∧ 0 ≤ r.toInt ∧ r.toInt ≤ 1) := by
  have l0 : (0 : Int32).toInt = 0 := by decide
  have l1 : (1 : Int32).toInt = 1 := by decide
  have l36 : (36 : Int32).toInt = 36 := by decide
  have l37 : (37 : Int32).toInt = 37 := by decide
  have l2000 : (2000 : Int32).toInt = 2000 := by decide
  rw [mC_Parser_groups]
  refine okM_bM (kC_Tokens_takes I (by decide)) (fun r_2 u_3 z_1 => ?_)
  obtain ⟨I_u_3, p_4, p_5⟩ := z_1
  refine okM_eq (fun c_6 c_6' => ?_) (fun c_6 => ?_)
  · exact okM_some ⟨I_u_3, (by omega), (by omega)⟩
  · refine okM_bM (kC_Tokens_takes I_u_3 (by decide)) (fun r_8 u_9 z_7 => ?_)
    obtain ⟨I_u_9, p_10, p_11⟩ := z_7
    refine okM_eq (fun c_12 c_12' => ?_) (fun c_12 => ?_)
    · refine okM_mono (kC_Parser_groups_L41 _ I_u_9 (by have FUe : FU = 100000 := rfl; have B_13 := IC_b I_u_9; omega) (by have FUe : FU = 100000 := rfl; have B_14 := IC_b I_u_9; omega) (by have FUe : FU = 100000 := rfl; have B_15 := IC_b I_u_9; omega) (by have FUe : FU = 100000 := rfl; have B_16 := IC_b I_u_9; omega) (by have FUe : FU = 100000 := rfl; have B_17 := IC_b I_u_9; omega)) (fun r_19 u_20 z_18 => ?_)
      obtain ⟨I_u_20, p_21, p_22⟩ := z_18
      exact ⟨I_u_20, (by omega), (by omega)⟩
    · refine okM_bM (kC_Parser_group I_u_9) (fun r_24 u_25 z_23 => ?_)
      obtain ⟨I_u_25, p_26, p_27⟩ := z_23
      refine okM_eq (fun c_28 c_28' => ?_) (fun c_28 => ?_)
      · refine okM_mono (kC_Parser_groups_L41 _ I_u_25 (by have FUe : FU = 100000 := rfl; have B_29 := IC_b I_u_25; omega) (by have FUe : FU = 100000 := rfl; have B_30 := IC_b I_u_25; omega) (by have FUe : FU = 100000 := rfl; have B_31 := IC_b I_u_25; omega) (by have FUe : FU = 100000 := rfl; have B_32 := IC_b I_u_25; omega) (by have FUe : FU = 100000 := rfl; have B_33 := IC_b I_u_25; omega)) (fun r_35 u_36 z_34 => ?_)
        obtain ⟨I_u_36, p_37, p_38⟩ := z_34
        exact ⟨I_u_36, (by omega), (by omega)⟩
      · refine okM_mono (kC_Parser_groups_L41 _ I_u_25 (by have FUe : FU = 100000 := rfl; have B_39 := IC_b I_u_25; omega) (by have FUe : FU = 100000 := rfl; have B_40 := IC_b I_u_25; omega) (by have FUe : FU = 100000 := rfl; have B_41 := IC_b I_u_25; omega) (by have FUe : FU = 100000 := rfl; have B_42 := IC_b I_u_25; omega) (by have FUe : FU = 100000 := rfl; have B_43 := IC_b I_u_25; omega)) (fun r_45 u_46 z_44 => ?_)
        obtain ⟨I_u_46, p_47, p_48⟩ := z_44
        exact ⟨I_u_46, (by omega), (by omega)⟩
theorem kC_Parser_order {u : St} (I : IC u) : okM (mC_Parser_order u) (fun r v => IC v ∧ 0 ≤ r.toInt ∧ r.toInt ≤ 1) := by
  have lm1 : (-1 : Int32).toInt = -1 := by decide
  have l0 : (0 : Int32).toInt = 0 := by decide
  have l1 : (1 : Int32).toInt = 1 := by decide
  have l2 : (2 : Int32).toInt = 2 := by decide
  have l5 : (5 : Int32).toInt = 5 := by decide
  have l8 : (8 : Int32).toInt = 8 := by decide
  have l12 : (12 : Int32).toInt = 12 := by decide
  have l39 : (39 : Int32).toInt = 39 := by decide
  have l200 : (200 : Int32).toInt = 200 := by decide
  rw [mC_Parser_order]
  refine okM_bM (kC_Tokens_take I) (fun r_2 u_3 z_1 => ?_)
  obtain ⟨I_u_3, p_4, p_5, p_6⟩ := z_1
  refine okM_le (fun c_7 => ?_) (fun c_7 => ?_)
  · refine okM_bP (kC_Tokens_numberOf I_u_3) (fun r_9 z_8 => ?_)
    have p_10 := z_8
    refine okM_lt (fun c_11 => ?_) (fun c_11 => ?_)
    · rw [mC_Parser_order_J47]
      refine okM_bM (kC_Tokens_takes I_u_3 (by decide)) (fun r_13 u_14 z_12 => ?_)
      obtain ⟨I_u_14, p_15, p_16⟩ := z_12
      refine okM_eq (fun c_17 c_17' => ?_) (fun c_17 => ?_)
      · refine okM_bP (kC_Lists_add I_u_14 (by have FUe : FU = 100000 := rfl; have B_19 := IC_b I_u_14; omega)) (fun u_20 z_18 => ?_)
        have I_u_20 := z_18
        exact okM_some ⟨I_u_20, (by omega), (by omega)⟩
      · try have e_21 : ((-1) - 8 : Int32).toInt = ((-1) : Int32).toInt - (8 : Int32).toInt := by exact sub_i (by omega) (by omega)
        refine okM_bP (kC_Lists_add I_u_14 (by have FUe : FU = 100000 := rfl; have B_23 := IC_b I_u_14; omega)) (fun u_24 z_22 => ?_)
        have I_u_24 := z_22
        exact okM_some ⟨I_u_24, (by omega), (by omega)⟩
    · refine okM_le (fun c_25 => ?_) (fun c_25 => ?_)
      · try have e_26 : ((Int64.toInt32 r_9) - 1 : Int32).toInt = ((Int64.toInt32 r_9) : Int32).toInt - (1 : Int32).toInt := by exact sub_i (by omega) (by omega)
        rw [mC_Parser_order_J47]
        refine okM_bM (kC_Tokens_takes I_u_3 (by decide)) (fun r_28 u_29 z_27 => ?_)
        obtain ⟨I_u_29, p_30, p_31⟩ := z_27
        refine okM_eq (fun c_32 c_32' => ?_) (fun c_32 => ?_)
        · try have e_33 : ((Int64.toInt32 r_9) - 1 : Int32).toInt = ((Int64.toInt32 r_9) : Int32).toInt - (1 : Int32).toInt := by exact sub_i (by omega) (by omega)
          refine okM_bP (kC_Lists_add I_u_29 (by have FUe : FU = 100000 := rfl; have B_35 := IC_b I_u_29; omega)) (fun u_36 z_34 => ?_)
          have I_u_36 := z_34
          exact okM_some ⟨I_u_36, (by omega), (by omega)⟩
        · try have e_37 : ((Int64.toInt32 r_9) - 1 : Int32).toInt = ((Int64.toInt32 r_9) : Int32).toInt - (1 : Int32).toInt := by exact sub_i (by omega) (by omega)
          try have e_38 : ((-1) - ((Int64.toInt32 r_9) - 1) : Int32).toInt = ((-1) : Int32).toInt - (((Int64.toInt32 r_9) - 1) : Int32).toInt := by exact sub_i (by omega) (by omega)
          refine okM_bP (kC_Lists_add I_u_29 (by have FUe : FU = 100000 := rfl; have B_40 := IC_b I_u_29; omega)) (fun u_41 z_39 => ?_)
          have I_u_41 := z_39
          exact okM_some ⟨I_u_41, (by omega), (by omega)⟩
      · rw [mC_Parser_order_J47]
        refine okM_bM (kC_Tokens_takes I_u_3 (by decide)) (fun r_43 u_44 z_42 => ?_)
        obtain ⟨I_u_44, p_45, p_46⟩ := z_42
        refine okM_eq (fun c_47 c_47' => ?_) (fun c_47 => ?_)
        · refine okM_bP (kC_Lists_add I_u_44 (by have FUe : FU = 100000 := rfl; have B_49 := IC_b I_u_44; omega)) (fun u_50 z_48 => ?_)
          have I_u_50 := z_48
          exact okM_some ⟨I_u_50, (by omega), (by omega)⟩
        · try have e_51 : ((-1) - 8 : Int32).toInt = ((-1) : Int32).toInt - (8 : Int32).toInt := by exact sub_i (by omega) (by omega)
          refine okM_bP (kC_Lists_add I_u_44 (by have FUe : FU = 100000 := rfl; have B_53 := IC_b I_u_44; omega)) (fun u_54 z_52 => ?_)
          have I_u_54 := z_52
          exact okM_some ⟨I_u_54, (by omega), (by omega)⟩
  · exact okM_some ⟨I_u_3, (by omega), (by omega)⟩
theorem kC_Parser_orders_L42 : ∀ (n : Nat) {x1 : Int32} {x2 : Int32} {u : St} (I : IC u) (h0 : 0 ≤ x2.toInt) (h1 : x2.toInt ≤ 2000) (h2 : 0 ≤ x1.toInt) (h3 : x1.toInt ≤ 1) (hm : (2000 - x2.toInt).toNat < n), okM (mC_Parser_orders_L42 n x1 x2 u) (fun r v => IC v ∧ 0 ≤ r.toInt ∧ r.toInt ≤ 1) := by
  intro n
  induction n with
  | zero => intro x1 x2 u I h0 h1 h2 h3 hm; exact absurd hm (Nat.not_lt_zero _)
  | succ n ih =>
    intro x1 x2 u I h0 h1 h2 h3 hm
    have l0 : (0 : Int32).toInt = 0 := by decide
    have l1 : (1 : Int32).toInt = 1 := by decide
    have l33 : (33 : Int32).toInt = 33 := by decide
    have l2000 : (2000 : Int32).toInt = 2000 := by decide
    rw [mC_Parser_orders_L42]
    refine okM_le (fun c_1 => ?_) (fun c_1 => ?_)
    · refine okM_gd (zb_of (by omega) (by omega)) ?_
      exact okM_some ⟨I, (by omega), (by omega)⟩
    · refine okM_eq (fun c_2 c_2' => ?_) (fun c_2 => ?_)
      · refine okM_gd (zb_of (by omega) (by omega)) ?_
        exact okM_some ⟨I, (by omega), (by omega)⟩
      · refine okM_bM (kC_Tokens_takes I (by decide)) (fun r_4 u_5 z_3 => ?_)
        obtain ⟨I_u_5, p_6, p_7⟩ := z_3
        refine okM_eq (fun c_8 c_8' => ?_) (fun c_8 => ?_)
        · refine okM_gd (zb_of (by omega) (by omega)) ?_
          exact okM_some ⟨I_u_5, (by omega), (by omega)⟩
        · refine okM_bM (kC_Parser_order I_u_5) (fun r_10 u_11 z_9 => ?_)
          obtain ⟨I_u_11, p_12, p_13⟩ := z_9
          try have e_16 : (x2 + 1 : Int32).toInt = (x2 : Int32).toInt + (1 : Int32).toInt := by exact add_i (by omega) (by omega)
          refine okM_seq (fun y_15 h_14 => ?_)
          have h_14' : y_15.toInt = (x2 + 1 : Int32).toInt := by rw [h_14]
          refine okM_mono (ih I_u_11 (by have B_17 := IC_b I_u_11; omega) (by have B_18 := IC_b I_u_11; omega) (by have B_19 := IC_b I_u_11; omega) (by have B_20 := IC_b I_u_11; omega) (by have B_21 := IC_b I_u_11; omega)) (fun r_23 u_24 z_22 => ?_)
          obtain ⟨I_u_24, p_25, p_26⟩ := z_22
          exact ⟨I_u_24, (by omega), (by omega)⟩
theorem kC_Parser_orders {u : St} (I : IC u) : okM (mC_Parser_orders u) (fun r v => IC v ∧ 0 ≤ r.toInt ∧ r.toInt ≤ 1) := by
  have l0 : (0 : Int32).toInt = 0 := by decide
  have l1 : (1 : Int32).toInt = 1 := by decide
  have l37 : (37 : Int32).toInt = 37 := by decide
  have l38 : (38 : Int32).toInt = 38 := by decide
  have l2000 : (2000 : Int32).toInt = 2000 := by decide
  rw [mC_Parser_orders]
  refine okM_bM (kC_Tokens_takes I (by decide)) (fun r_2 u_3 z_1 => ?_)
  obtain ⟨I_u_3, p_4, p_5⟩ := z_1
  refine okM_eq (fun c_6 c_6' => ?_) (fun c_6 => ?_)
  · exact okM_some ⟨I_u_3, (by omega), (by omega)⟩
  · refine okM_bM (kC_Tokens_takes I_u_3 (by decide)) (fun r_8 u_9 z_7 => ?_)
    obtain ⟨I_u_9, p_10, p_11⟩ := z_7
    refine okM_eq (fun c_12 c_12' => ?_) (fun c_12 => ?_)
    · refine okM_mono (kC_Parser_orders_L42 _ I_u_9 (by have FUe : FU = 100000 := rfl; have B_13 := IC_b I_u_9; omega) (by have FUe : FU = 100000 := rfl; have B_14 := IC_b I_u_9; omega) (by have FUe : FU = 100000 := rfl; have B_15 := IC_b I_u_9; omega) (by have FUe : FU = 100000 := rfl; have B_16 := IC_b I_u_9; omega) (by have FUe : FU = 100000 := rfl; have B_17 := IC_b I_u_9; omega)) (fun r_19 u_20 z_18 => ?_)
      obtain ⟨I_u_20, p_21, p_22⟩ := z_18
      exact ⟨I_u_20, (by omega), (by omega)⟩
    · refine okM_bM (kC_Parser_order I_u_9) (fun r_24 u_25 z_23 => ?_)
      obtain ⟨I_u_25, p_26, p_27⟩ := z_23
      refine okM_eq (fun c_28 c_28' => ?_) (fun c_28 => ?_)
      · refine okM_mono (kC_Parser_orders_L42 _ I_u_25 (by have FUe : FU = 100000 := rfl; have B_29 := IC_b I_u_25; omega) (by have FUe : FU = 100000 := rfl; have B_30 := IC_b I_u_25; omega) (by have FUe : FU = 100000 := rfl; have B_31 := IC_b I_u_25; omega) (by have FUe : FU = 100000 := rfl; have B_32 := IC_b I_u_25; omega) (by have FUe : FU = 100000 := rfl; have B_33 := IC_b I_u_25; omega)) (fun r_35 u_36 z_34 => ?_)
        obtain ⟨I_u_36, p_37, p_38⟩ := z_34
        exact ⟨I_u_36, (by omega), (by omega)⟩
      · refine okM_mono (kC_Parser_orders_L42 _ I_u_25 (by have FUe : FU = 100000 := rfl; have B_39 := IC_b I_u_25; omega) (by have FUe : FU = 100000 := rfl; have B_40 := IC_b I_u_25; omega) (by have FUe : FU = 100000 := rfl; have B_41 := IC_b I_u_25; omega) (by have FUe : FU = 100000 := rfl; have B_42 := IC_b I_u_25; omega) (by have FUe : FU = 100000 := rfl; have B_43 := IC_b I_u_25; omega)) (fun r_45 u_46 z_44 => ?_)
        obtain ⟨I_u_46, p_47, p_48⟩ := z_44
        exact ⟨I_u_46, (by omega), (by omega)⟩
theorem kC_Parser_limit {u : St} (I : IC u) : okM (mC_Parser_limit u) (fun r v => IC v ∧ 0 ≤ r.toInt ∧ r.toInt ≤ 1) := by
  have l0 : (0 : Int32).toInt = 0 := by decide
  have l1 : (1 : Int32).toInt = 1 := by decide
  have l2 : (2 : Int32).toInt = 2 := by decide
  have l40 : (40 : Int32).toInt = 40 := by decide
  rw [mC_Parser_limit]
  refine okM_bM (kC_Tokens_takes I (by decide)) (fun r_2 u_3 z_1 => ?_)
  obtain ⟨I_u_3, p_4, p_5⟩ := z_1
  refine okM_eq (fun c_6 c_6' => ?_) (fun c_6 => ?_)
  · exact okM_some ⟨I_u_3, (by omega), (by omega)⟩
  · refine okM_bM (kC_Tokens_take I_u_3) (fun r_8 u_9 z_7 => ?_)
    obtain ⟨I_u_9, p_10, p_11, p_12⟩ := z_7
    refine okM_bP (kC_Tokens_numberOf I_u_9) (fun r_14 z_13 => ?_)
    have p_15 := z_13
    refine okM_seq (fun u_17 h_16 => ?_)
    have I_u_17 : IC u_17 := by rw [h_16]; exact I_u_9
    refine okM_lt (fun c_18 => ?_) (fun c_18 => ?_)
    · exact okM_some ⟨I_u_17, (by omega), (by omega)⟩
    · exact okM_some ⟨I_u_17, (by omega), (by omega)⟩
theorem kC_Parser_lock {u : St} (I : IC u) : okM (mC_Parser_lock u) (fun r v => IC v ∧ 0 ≤ r.toInt ∧ r.toInt ≤ 1) := by
  have l0 : (0 : Int32).toInt = 0 := by decide
  have l1 : (1 : Int32).toInt = 1 := by decide
  have l16 : (16 : Int32).toInt = 16 := by decide
  have l41 : (41 : Int32).toInt = 41 := by decide
  have l42 : (42 : Int32).toInt = 42 := by decide
  have l43 : (43 : Int32).toInt = 43 := by decide
  rw [mC_Parser_lock]
  refine okM_bM (kC_Tokens_takes I (by decide)) (fun r_2 u_3 z_1 => ?_)
  obtain ⟨I_u_3, p_4, p_5⟩ := z_1
  refine okM_eq (fun c_6 c_6' => ?_) (fun c_6 => ?_)
  · exact okM_some ⟨I_u_3, (by omega), (by omega)⟩
  · refine okM_bM (kC_Tokens_takes I_u_3 (by decide)) (fun r_8 u_9 z_7 => ?_)
    obtain ⟨I_u_9, p_10, p_11⟩ := z_7
    refine okM_eq (fun c_12 c_12' => ?_) (fun c_12 => ?_)
    · refine okM_bM (kC_Tokens_takes I_u_9 (by decide)) (fun r_14 u_15 z_13 => ?_)
      obtain ⟨I_u_15, p_16, p_17⟩ := z_13
      refine okM_eq (fun c_18 c_18' => ?_) (fun c_18 => ?_)
      · refine okM_seq (fun u_20 h_19 => ?_)
        have I_u_20 : IC u_20 := by rw [h_19]; exact I_u_15
        refine okM_le (fun c_21 => ?_) (fun c_21 => ?_)
        · exact okM_some ⟨I_u_20, (by omega), (by omega)⟩
        · exact okM_some ⟨I_u_20, (by omega), (by omega)⟩
      · refine okM_seq (fun u_23 h_22 => ?_)
        have I_u_23 : IC u_23 := by rw [h_22]; exact I_u_15
        refine okM_le (fun c_24 => ?_) (fun c_24 => ?_)
        · exact okM_some ⟨I_u_23, (by omega), (by omega)⟩
        · exact okM_some ⟨I_u_23, (by omega), (by omega)⟩
    · refine okM_seq (fun u_26 h_25 => ?_)
      have I_u_26 : IC u_26 := by rw [h_25]; exact I_u_9
      refine okM_le (fun c_27 => ?_) (fun c_27 => ?_)
      · exact okM_some ⟨I_u_26, (by omega), (by omega)⟩
      · exact okM_some ⟨I_u_26, (by omega), (by omega)⟩
theorem kC_Parser_is {x1 : Int32} {u : St} (I : IC u) : okM (mC_Parser_is x1 u) (fun r v => IC v ∧ 1 ≤ r.toInt ∧ r.toInt ≤ 1) := by
  have l1 : (1 : Int32).toInt = 1 := by decide
  rw [mC_Parser_is]
  refine okM_seq (fun u_2 h_1 => ?_)
  have I_u_2 : IC u_2 := by rw [h_1]; exact I
  exact okM_some ⟨I_u_2, (by omega), (by omega)⟩
theorem kC_Parser_query {x1 : Int32} {u : St} (I : IC u) : okM (mC_Parser_query x1 u) (fun r v => IC v ∧ 0 ≤ r.toInt ∧ r.toInt ≤ 1) := by
  have l0 : (0 : Int32).toInt = 0 := by decide
  have l1 : (1 : Int32).toInt = 1 := by decide
  have l4 : (4 : Int32).toInt = 4 := by decide
  have l5 : (5 : Int32).toInt = 5 := by decide
  have l21 : (21 : Int32).toInt = 21 := by decide
  rw [mC_Parser_query]
  refine okM_bM (kC_Tokens_takes I (by decide)) (fun r_2 u_3 z_1 => ?_)
  obtain ⟨I_u_3, p_4, p_5⟩ := z_1
  refine okM_gd (zb_of (by omega) (by omega)) ?_
  refine okM_seq (fun u_7 h_6 => ?_)
  have I_u_7 : IC u_7 := by rw [h_6]; exact I_u_3
  refine okM_bM (kC_Tokens_takes I_u_7 (by decide)) (fun r_9 u_10 z_8 => ?_)
  obtain ⟨I_u_10, p_11, p_12⟩ := z_8
  refine okM_gd (zb_of (by omega) (by omega)) ?_
  refine okM_seq (fun u_14 h_13 => ?_)
  have I_u_14 : IC u_14 := by rw [h_13]; exact I_u_10
  refine okM_seq (fun u_16 h_15 => ?_)
  have I_u_16 : IC u_16 := by rw [h_15]; exact I_u_14
  refine okM_eq (fun c_17 c_17' => ?_) (fun c_17 => ?_)
  · refine okM_bM (kC_Parser_expressions I_u_16) (fun r_19 u_20 z_18 => ?_)
    obtain ⟨I_u_20, p_21, p_22⟩ := z_18
    refine okM_eq (fun c_23 c_23' => ?_) (fun c_23 => ?_)
    · rw [mC_Parser_query_J60]
      refine okM_seq (fun u_25 h_24 => ?_)
      have I_u_25 : IC u_25 := by rw [h_24]; exact I_u_20
      refine okM_pos (by decide) ?_
      exact okM_some ⟨I_u_25, (by omega), (by omega)⟩
    · rw [mC_Parser_query_J60]
      refine okM_seq (fun u_27 h_26 => ?_)
      have I_u_27 : IC u_27 := by rw [h_26]; exact I_u_20
      refine okM_neg (by decide) ?_
      refine okM_bM (kC_Parser_from I_u_27) (fun r_29 u_30 z_28 => ?_)
      obtain ⟨I_u_30, p_31, p_32⟩ := z_28
      refine okM_eq (fun c_33 c_33' => ?_) (fun c_33 => ?_)
      · exact okM_some ⟨I_u_30, (by omega), (by omega)⟩
      · refine okM_bM (kC_Parser_where I_u_30) (fun r_35 u_36 z_34 => ?_)
        obtain ⟨I_u_36, p_37, p_38⟩ := z_34
        refine okM_eq (fun c_39 c_39' => ?_) (fun c_39 => ?_)
        · exact okM_some ⟨I_u_36, (by omega), (by omega)⟩
        · refine okM_bM (kC_Parser_groups I_u_36) (fun r_41 u_42 z_40 => ?_)
          obtain ⟨I_u_42, p_43, p_44⟩ := z_40
          refine okM_eq (fun c_45 c_45' => ?_) (fun c_45 => ?_)
          · exact okM_some ⟨I_u_42, (by omega), (by omega)⟩
          · refine okM_bM (kC_Parser_orders I_u_42) (fun r_47 u_48 z_46 => ?_)
            obtain ⟨I_u_48, p_49, p_50⟩ := z_46
            refine okM_eq (fun c_51 c_51' => ?_) (fun c_51 => ?_)
            · exact okM_some ⟨I_u_48, (by omega), (by omega)⟩
            · refine okM_bM (kC_Parser_limit I_u_48) (fun r_53 u_54 z_52 => ?_)
              obtain ⟨I_u_54, p_55, p_56⟩ := z_52
              refine okM_eq (fun c_57 c_57' => ?_) (fun c_57 => ?_)
              · exact okM_some ⟨I_u_54, (by omega), (by omega)⟩
              · refine okM_bM (kC_Parser_lock I_u_54) (fun r_59 u_60 z_58 => ?_)
                obtain ⟨I_u_60, p_61, p_62⟩ := z_58
                refine okM_eq (fun c_63 c_63' => ?_) (fun c_63 => ?_)
                · exact okM_some ⟨I_u_60, (by omega), (by omega)⟩
                · refine okM_bM (kC_Parser_is I_u_60) (fun r_65 u_66 z_64 => ?_)
                  obtain ⟨I_u_66, p_67, p_68⟩ := z_64
                  refine okM_eq (fun c_69 c_69' => ?_) (fun c_69 => ?_)
                  · exact okM_some ⟨I_u_66, (by omega), (by omega)⟩
                  · exact okM_some ⟨I_u_66, (by omega), (by omega)⟩
  · rw [mC_Parser_query_J60]
    refine okM_seq (fun u_71 h_70 => ?_)
    have I_u_71 : IC u_71 := by rw [h_70]; exact I_u_16
    refine okM_neg (by decide) ?_
    refine okM_bM (kC_Parser_from I_u_71) (fun r_73 u_74 z_72 => ?_)
    obtain ⟨I_u_74, p_75, p_76⟩ := z_72
    refine okM_eq (fun c_77 c_77' => ?_) (fun c_77 => ?_)
    · exact okM_some ⟨I_u_74, (by omega), (by omega)⟩
    · refine okM_bM (kC_Parser_where I_u_74) (fun r_79 u_80 z_78 => ?_)
      obtain ⟨I_u_80, p_81, p_82⟩ := z_78
      refine okM_eq (fun c_83 c_83' => ?_) (fun c_83 => ?_)
      · exact okM_some ⟨I_u_80, (by omega), (by omega)⟩
      · refine okM_bM (kC_Parser_groups I_u_80) (fun r_85 u_86 z_84 => ?_)
        obtain ⟨I_u_86, p_87, p_88⟩ := z_84
        refine okM_eq (fun c_89 c_89' => ?_) (fun c_89 => ?_)
        · exact okM_some ⟨I_u_86, (by omega), (by omega)⟩
        · refine okM_bM (kC_Parser_orders I_u_86) (fun r_91 u_92 z_90 => ?_)
          obtain ⟨I_u_92, p_93, p_94⟩ := z_90
          refine okM_eq (fun c_95 c_95' => ?_) (fun c_95 => ?_)
          · exact okM_some ⟨I_u_92, (by omega), (by omega)⟩
          · refine okM_bM (kC_Parser_limit I_u_92) (fun r_97 u_98 z_96 => ?_)
            obtain ⟨I_u_98, p_99, p_100⟩ := z_96
            refine okM_eq (fun c_101 c_101' => ?_) (fun c_101 => ?_)
            · exact okM_some ⟨I_u_98, (by omega), (by omega)⟩
            · refine okM_bM (kC_Parser_lock I_u_98) (fun r_103 u_104 z_102 => ?_)
              obtain ⟨I_u_104, p_105, p_106⟩ := z_102
              refine okM_eq (fun c_107 c_107' => ?_) (fun c_107 => ?_)
              · exact okM_some ⟨I_u_104, (by omega), (by omega)⟩
              · refine okM_bM (kC_Parser_is I_u_104) (fun r_109 u_110 z_108 => ?_)
                obtain ⟨I_u_110, p_111, p_112⟩ := z_108
                refine okM_eq (fun c_113 c_113' => ?_) (fun c_113 => ?_)
                · exact okM_some ⟨I_u_110, (by omega), (by omega)⟩
                · exact okM_some ⟨I_u_110, (by omega), (by omega)⟩
theorem kC_Parser_target {u : St} (I : IC u) : okM (mC_Parser_target u) (fun r v => IC v ∧ 0 ≤ r.toInt ∧ r.toInt ≤ 1) := by
  have l0 : (0 : Int32).toInt = 0 := by decide
  have l1 : (1 : Int32).toInt = 1 := by decide
  have l12 : (12 : Int32).toInt = 12 := by decide
  rw [mC_Parser_target]
  refine okM_bM (kC_Tokens_take I) (fun r_2 u_3 z_1 => ?_)
  obtain ⟨I_u_3, p_4, p_5, p_6⟩ := z_1
  refine okM_seq (fun u_8 h_7 => ?_)
  have I_u_8 : IC u_8 := by rw [h_7]; exact I_u_3
  refine okM_lt (fun c_9 => ?_) (fun c_9 => ?_)
  · exact okM_some ⟨I_u_8, (by omega), (by omega)⟩
  · exact okM_some ⟨I_u_8, (by omega), (by omega)⟩
theorem kC_Lists_size {x1 : Int32} {u : St} (I : IC u) : ok (mC_Lists_size x1 u) (fun r => 0 ≤ r.toInt ∧ r.toInt ≤ 200) := by
  have z0 : (0 : Int32).toInt = 0 := by decide
  have l14 : (14 : Int32).toInt = 14 := by decide
  rw [mC_Lists_size]
  refine ok_lt (fun c => ok_some ⟨by omega, by omega⟩) (fun c => ?_)
  refine ok_lt (fun c => ?_) (fun c2 => ok_some ⟨by omega, by omega⟩)
  have F := gst_f (i := x1) (by omega) (by omega)
  have Z := IC_siz I (i := x1) (by omega) (by omega)
  exact ok_gd (inb_of (by omega) (by omega)) (ok_some ⟨by omega, by omega⟩)
theorem kC_Parser_rows_L12 : ∀ (n : Nat) {x1 : Int32} {x2 : Int32} {u : St} (I : IC u) (h0 : 0 ≤ x2.toInt) (h1 : x2.toInt ≤ 2000) (h2 : 0 ≤ x1.toInt) (h3 : x1.toInt ≤ 1) (hm : (2000 - x2.toInt).toNat < n), okM (mC_Parser_rows_L12 n x1 x2 u) (fun r v => IC v ∧ 0 ≤ r.toInt ∧ r.toInt ≤ 1) := by
  intro n
  induction n with
  | zero => intro x1 x2 u I h0 h1 h2 h3 hm; exact absurd hm (Nat.not_lt_zero _)
  | succ n ih =>
    intro x1 x2 u I h0 h1 h2 h3 hm
    have l0 : (0 : Int32).toInt = 0 := by decide
    have l1 : (1 : Int32).toInt = 1 := by decide
    have l4 : (4 : Int32).toInt = 4 := by decide
    have l5 : (5 : Int32).toInt = 5 := by decide
    have l6 : (6 : Int32).toInt = 6 := by decide
    have l8 : (8 : Int32).toInt = 8 := by decide
    have l9 : (9 : Int32).toInt = 9 := by decide
    have l12 : (12 : Int32).toInt = 12 := by decide
    have l33 : (33 : Int32).toInt = 33 := by decide
    have l200 : (200 : Int32).toInt = 200 := by decide
    have l2000 : (2000 : Int32).toInt = 2000 := by decide
    rw [mC_Parser_rows_L12]
    refine okM_le (fun c_1 => ?_) (fun c_1 => ?_)
    · rw [mC_Parser_rows_J101]
      refine okM_eq (fun c_2 c_2' => ?_) (fun c_2 => ?_)
      · exact okM_some ⟨I, (by omega), (by omega)⟩
      · refine okM_bM (kC_Parser_is I) (fun r_4 u_5 z_3 => ?_)
        obtain ⟨I_u_5, p_6, p_7⟩ := z_3
        refine okM_eq (fun c_8 c_8' => ?_) (fun c_8 => ?_)
        · exact okM_some ⟨I_u_5, (by omega), (by omega)⟩
        · exact okM_some ⟨I_u_5, (by omega), (by omega)⟩
    · refine okM_eq (fun c_9 c_9' => ?_) (fun c_9 => ?_)
      · rw [mC_Parser_rows_J101]
        refine okM_eq (fun c_10 c_10' => ?_) (fun c_10 => ?_)
        · exact okM_some ⟨I, (by omega), (by omega)⟩
        · refine okM_bM (kC_Parser_is I) (fun r_12 u_13 z_11 => ?_)
          obtain ⟨I_u_13, p_14, p_15⟩ := z_11
          refine okM_eq (fun c_16 c_16' => ?_) (fun c_16 => ?_)
          · exact okM_some ⟨I_u_13, (by omega), (by omega)⟩
          · exact okM_some ⟨I_u_13, (by omega), (by omega)⟩
      · refine okM_bM (kC_Tokens_takes I (by decide)) (fun r_18 u_19 z_17 => ?_)
        obtain ⟨I_u_19, p_20, p_21⟩ := z_17
        refine okM_eq (fun c_22 c_22' => ?_) (fun c_22 => ?_)
        · rw [mC_Parser_rows_J61]
          refine okM_bP (kC_Lists_size I_u_19) (fun r_24 z_23 => ?_)
          obtain ⟨p_25, p_26⟩ := z_23
          refine okM_bP (kC_Lists_add I_u_19 (by have FUe : FU = 100000 := rfl; have B_28 := IC_b I_u_19; omega)) (fun u_29 z_27 => ?_)
          have I_u_29 := z_27
          refine okM_bM (kC_Tokens_takes I_u_29 (by decide)) (fun r_31 u_32 z_30 => ?_)
          obtain ⟨I_u_32, p_33, p_34⟩ := z_30
          refine okM_eq (fun c_35 c_35' => ?_) (fun c_35 => ?_)
          · rw [mC_Parser_rows_J101]
            refine okM_pos (by decide) ?_
            exact okM_some ⟨I_u_32, (by omega), (by omega)⟩
          · try have e_38 : (x2 + 1 : Int32).toInt = (x2 : Int32).toInt + (1 : Int32).toInt := by exact add_i (by omega) (by omega)
            refine okM_seq (fun y_37 h_36 => ?_)
            have h_36' : y_37.toInt = (x2 + 1 : Int32).toInt := by rw [h_36]
            refine okM_mono (ih I_u_32 (by have B_39 := IC_b I_u_32; omega) (by have B_40 := IC_b I_u_32; omega) (by have B_41 := IC_b I_u_32; omega) (by have B_42 := IC_b I_u_32; omega) (by have B_43 := IC_b I_u_32; omega)) (fun r_45 u_46 z_44 => ?_)
            obtain ⟨I_u_46, p_47, p_48⟩ := z_44
            exact ⟨I_u_46, (by omega), (by omega)⟩
        · refine okM_bM (kC_Parser_expressions I_u_19) (fun r_50 u_51 z_49 => ?_)
          obtain ⟨I_u_51, p_52, p_53⟩ := z_49
          refine okM_eq (fun c_54 c_54' => ?_) (fun c_54 => ?_)
          · rw [mC_Parser_rows_J61]
            refine okM_bP (kC_Lists_size I_u_51) (fun r_56 z_55 => ?_)
            obtain ⟨p_57, p_58⟩ := z_55
            refine okM_bP (kC_Lists_add I_u_51 (by have FUe : FU = 100000 := rfl; have B_60 := IC_b I_u_51; omega)) (fun u_61 z_59 => ?_)
            have I_u_61 := z_59
            refine okM_bM (kC_Tokens_takes I_u_61 (by decide)) (fun r_63 u_64 z_62 => ?_)
            obtain ⟨I_u_64, p_65, p_66⟩ := z_62
            refine okM_eq (fun c_67 c_67' => ?_) (fun c_67 => ?_)
            · rw [mC_Parser_rows_J101]
              refine okM_pos (by decide) ?_
              exact okM_some ⟨I_u_64, (by omega), (by omega)⟩
            · try have e_70 : (x2 + 1 : Int32).toInt = (x2 : Int32).toInt + (1 : Int32).toInt := by exact add_i (by omega) (by omega)
              refine okM_seq (fun y_69 h_68 => ?_)
              have h_68' : y_69.toInt = (x2 + 1 : Int32).toInt := by rw [h_68]
              refine okM_mono (ih I_u_64 (by have B_71 := IC_b I_u_64; omega) (by have B_72 := IC_b I_u_64; omega) (by have B_73 := IC_b I_u_64; omega) (by have B_74 := IC_b I_u_64; omega) (by have B_75 := IC_b I_u_64; omega)) (fun r_77 u_78 z_76 => ?_)
              obtain ⟨I_u_78, p_79, p_80⟩ := z_76
              exact ⟨I_u_78, (by omega), (by omega)⟩
          · refine okM_bM (kC_Tokens_takes I_u_51 (by decide)) (fun r_82 u_83 z_81 => ?_)
            obtain ⟨I_u_83, p_84, p_85⟩ := z_81
            refine okM_eq (fun c_86 c_86' => ?_) (fun c_86 => ?_)
            · rw [mC_Parser_rows_J61]
              refine okM_bP (kC_Lists_size I_u_83) (fun r_88 z_87 => ?_)
              obtain ⟨p_89, p_90⟩ := z_87
              refine okM_bP (kC_Lists_add I_u_83 (by have FUe : FU = 100000 := rfl; have B_92 := IC_b I_u_83; omega)) (fun u_93 z_91 => ?_)
              have I_u_93 := z_91
              refine okM_bM (kC_Tokens_takes I_u_93 (by decide)) (fun r_95 u_96 z_94 => ?_)
              obtain ⟨I_u_96, p_97, p_98⟩ := z_94
              refine okM_eq (fun c_99 c_99' => ?_) (fun c_99 => ?_)
              · rw [mC_Parser_rows_J101]
                refine okM_pos (by decide) ?_
                exact okM_some ⟨I_u_96, (by omega), (by omega)⟩
              · try have e_102 : (x2 + 1 : Int32).toInt = (x2 : Int32).toInt + (1 : Int32).toInt := by exact add_i (by omega) (by omega)
                refine okM_seq (fun y_101 h_100 => ?_)
                have h_100' : y_101.toInt = (x2 + 1 : Int32).toInt := by rw [h_100]
                refine okM_mono (ih I_u_96 (by have B_103 := IC_b I_u_96; omega) (by have B_104 := IC_b I_u_96; omega) (by have B_105 := IC_b I_u_96; omega) (by have B_106 := IC_b I_u_96; omega) (by have B_107 := IC_b I_u_96; omega)) (fun r_109 u_110 z_108 => ?_)
                obtain ⟨I_u_110, p_111, p_112⟩ := z_108
                exact ⟨I_u_110, (by omega), (by omega)⟩
            · rw [mC_Parser_rows_J61]
              refine okM_bP (kC_Lists_size I_u_83) (fun r_114 z_113 => ?_)
              obtain ⟨p_115, p_116⟩ := z_113
              refine okM_bP (kC_Lists_add I_u_83 (by have FUe : FU = 100000 := rfl; have B_118 := IC_b I_u_83; omega)) (fun u_119 z_117 => ?_)
              have I_u_119 := z_117
              refine okM_bM (kC_Tokens_takes I_u_119 (by decide)) (fun r_121 u_122 z_120 => ?_)
              obtain ⟨I_u_122, p_123, p_124⟩ := z_120
              refine okM_eq (fun c_125 c_125' => ?_) (fun c_125 => ?_)
              · rw [mC_Parser_rows_J101]
                refine okM_neg (by decide) ?_
                refine okM_bM (kC_Parser_is I_u_122) (fun r_127 u_128 z_126 => ?_)
                obtain ⟨I_u_128, p_129, p_130⟩ := z_126
                refine okM_eq (fun c_131 c_131' => ?_) (fun c_131 => ?_)
                · exact okM_some ⟨I_u_128, (by omega), (by omega)⟩
                · exact okM_some ⟨I_u_128, (by omega), (by omega)⟩
              · try have e_134 : (x2 + 1 : Int32).toInt = (x2 : Int32).toInt + (1 : Int32).toInt := by exact add_i (by omega) (by omega)
                refine okM_seq (fun y_133 h_132 => ?_)
                have h_132' : y_133.toInt = (x2 + 1 : Int32).toInt := by rw [h_132]
                refine okM_mono (ih I_u_122 (by have B_135 := IC_b I_u_122; omega) (by have B_136 := IC_b I_u_122; omega) (by have B_137 := IC_b I_u_122; omega) (by have B_138 := IC_b I_u_122; omega) (by have B_139 := IC_b I_u_122; omega)) (fun r_141 u_142 z_140 => ?_)
                obtain ⟨I_u_142, p_143, p_144⟩ := z_140
                exact ⟨I_u_142, (by omega), (by omega)⟩
theorem kC_Parser_rows {u : St} (I : IC u) : okM (mC_Parser_rows u) (fun r v => IC v ∧ 0 ≤ r.toInt ∧ r.toInt ≤ 1) := by
  have l0 : (0 : Int32).toInt = 0 := by decide
  have l1 : (1 : Int32).toInt = 1 := by decide
  have l46 : (46 : Int32).toInt = 46 := by decide
  have l2000 : (2000 : Int32).toInt = 2000 := by decide
  rw [mC_Parser_rows]
  refine okM_bM (kC_Tokens_takes I (by decide)) (fun r_2 u_3 z_1 => ?_)
  obtain ⟨I_u_3, p_4, p_5⟩ := z_1
  refine okM_mono (kC_Parser_rows_L12 _ I_u_3 (by have FUe : FU = 100000 := rfl; have B_6 := IC_b I_u_3; omega) (by have FUe : FU = 100000 := rfl; have B_7 := IC_b I_u_3; omega) (by have FUe : FU = 100000 := rfl; have B_8 := IC_b I_u_3; omega) (by have FUe : FU = 100000 := rfl; have B_9 := IC_b I_u_3; omega) (by have FUe : FU = 100000 := rfl; have B_10 := IC_b I_u_3; omega)) (fun r_12 u_13 z_11 => ?_)
  obtain ⟨I_u_13, p_14, p_15⟩ := z_11
  exact ⟨I_u_13, (by omega), (by omega)⟩
theorem kC_Parser_setting {u : St} (I : IC u) : okM (mC_Parser_setting u) (fun r v => IC v ∧ 0 ≤ r.toInt ∧ r.toInt ≤ 1) := by
  have lm1 : (-1 : Int32).toInt = -1 := by decide
  have l0 : (0 : Int32).toInt = 0 := by decide
  have l1 : (1 : Int32).toInt = 1 := by decide
  have l5 : (5 : Int32).toInt = 5 := by decide
  have l12 : (12 : Int32).toInt = 12 := by decide
  have l13 : (13 : Int32).toInt = 13 := by decide
  have l23 : (23 : Int32).toInt = 23 := by decide
  have l200 : (200 : Int32).toInt = 200 := by decide
  rw [mC_Parser_setting]
  refine okM_bM (kC_Tokens_take I) (fun r_2 u_3 z_1 => ?_)
  obtain ⟨I_u_3, p_4, p_5, p_6⟩ := z_1
  refine okM_lt (fun c_7 => ?_) (fun c_7 => ?_)
  · rw [mC_Parser_setting_J35]
    refine okM_bP (kC_Lists_add I_u_3 (by have FUe : FU = 100000 := rfl; have B_9 := IC_b I_u_3; omega)) (fun u_10 z_8 => ?_)
    have I_u_10 := z_8
    refine okM_bP (kC_Lists_add I_u_10 (by have FUe : FU = 100000 := rfl; have B_12 := IC_b I_u_10; omega)) (fun u_13 z_11 => ?_)
    have I_u_13 := z_11
    refine okM_pos (by decide) ?_
    exact okM_some ⟨I_u_13, (by omega), (by omega)⟩
  · refine okM_bM (kC_Tokens_takes I_u_3 (by decide)) (fun r_15 u_16 z_14 => ?_)
    obtain ⟨I_u_16, p_17, p_18⟩ := z_14
    refine okM_eq (fun c_19 c_19' => ?_) (fun c_19 => ?_)
    · rw [mC_Parser_setting_J35]
      refine okM_bP (kC_Lists_add I_u_16 (by have FUe : FU = 100000 := rfl; have B_21 := IC_b I_u_16; omega)) (fun u_22 z_20 => ?_)
      have I_u_22 := z_20
      refine okM_bP (kC_Lists_add I_u_22 (by have FUe : FU = 100000 := rfl; have B_24 := IC_b I_u_22; omega)) (fun u_25 z_23 => ?_)
      have I_u_25 := z_23
      refine okM_pos (by decide) ?_
      exact okM_some ⟨I_u_25, (by omega), (by omega)⟩
    · refine okM_bM (kC_Parser_expression I_u_16 (by decide) (by decide)) (fun r_27 u_28 z_26 => ?_)
      obtain ⟨I_u_28, p_29, p_30⟩ := z_26
      rw [mC_Parser_setting_J35]
      refine okM_bP (kC_Lists_add I_u_28 (by have FUe : FU = 100000 := rfl; have B_32 := IC_b I_u_28; omega)) (fun u_33 z_31 => ?_)
      have I_u_33 := z_31
      refine okM_bP (kC_Lists_add I_u_33 (by have FUe : FU = 100000 := rfl; have B_35 := IC_b I_u_33; omega)) (fun u_36 z_34 => ?_)
      have I_u_36 := z_34
      refine okM_lt (fun c_37 => ?_) (fun c_37 => ?_)
      · exact okM_some ⟨I_u_36, (by omega), (by omega)⟩
      · exact okM_some ⟨I_u_36, (by omega), (by omega)⟩
theorem kC_Parser_ownTable {u : St} (I : IC u) : ok (mC_Parser_ownTable u) (fun v => IC v) := by
  have lm1 : (-1 : Int32).toInt = -1 := by decide
  have l0 : (0 : Int32).toInt = 0 := by decide
  have l1 : (1 : Int32).toInt = 1 := by decide
  have l5 : (5 : Int32).toInt = 5 := by decide
  have l10 : (10 : Int32).toInt = 10 := by decide
  have l11 : (11 : Int32).toInt = 11 := by decide
  have l12 : (12 : Int32).toInt = 12 := by decide
  have l200 : (200 : Int32).toInt = 200 := by decide
  rw [mC_Parser_ownTable]
  refine ok_bP (kC_Lists_add I (by have FUe : FU = 100000 := rfl; have B_2 := IC_b I; omega)) (fun u_3 z_1 => ?_)
  have I_u_3 := z_1
  refine ok_bP (kC_Lists_add I_u_3 (by have FUe : FU = 100000 := rfl; have B_5 := IC_b I_u_3; omega)) (fun u_6 z_4 => ?_)
  have I_u_6 := z_4
  exact ok_some I_u_6
theorem kC_Parser_update_L34 : ∀ (n : Nat) {x1 : Int32} {x2 : Int32} {u : St} (I : IC u) (h0 : 0 ≤ x2.toInt) (h1 : x2.toInt ≤ 2000) (h2 : 0 ≤ x1.toInt) (h3 : x1.toInt ≤ 1) (hm : (2000 - x2.toInt).toNat < n), okM (mC_Parser_update_L34 n x1 x2 u) (fun r v => IC v ∧ 0 ≤ r.toInt ∧ r.toInt ≤ 1) := by
  intro n
  induction n with
  | zero => intro x1 x2 u I h0 h1 h2 h3 hm; exact absurd hm (Nat.not_lt_zero _)
  | succ n ih =>
    intro x1 x2 u I h0 h1 h2 h3 hm
    have l0 : (0 : Int32).toInt = 0 := by decide
    have l1 : (1 : Int32).toInt = 1 := by decide
    have l6 : (6 : Int32).toInt = 6 := by decide
    have l33 : (33 : Int32).toInt = 33 := by decide
    have l2000 : (2000 : Int32).toInt = 2000 := by decide
    rw [mC_Parser_update_L34]
    refine okM_le (fun c_1 => ?_) (fun c_1 => ?_)
    · rw [mC_Parser_update_J68]
      refine okM_bP (kC_Parser_ownTable I) (fun u_3 z_2 => ?_)
      have I_u_3 := z_2
      refine okM_eq (fun c_4 c_4' => ?_) (fun c_4 => ?_)
      · exact okM_some ⟨I_u_3, (by omega), (by omega)⟩
      · refine okM_bM (kC_Parser_where I_u_3) (fun r_6 u_7 z_5 => ?_)
        obtain ⟨I_u_7, p_8, p_9⟩ := z_5
        refine okM_eq (fun c_10 c_10' => ?_) (fun c_10 => ?_)
        · exact okM_some ⟨I_u_7, (by omega), (by omega)⟩
        · refine okM_bM (kC_Parser_is I_u_7) (fun r_12 u_13 z_11 => ?_)
          obtain ⟨I_u_13, p_14, p_15⟩ := z_11
          refine okM_eq (fun c_16 c_16' => ?_) (fun c_16 => ?_)
          · exact okM_some ⟨I_u_13, (by omega), (by omega)⟩
          · exact okM_some ⟨I_u_13, (by omega), (by omega)⟩
    · refine okM_eq (fun c_17 c_17' => ?_) (fun c_17 => ?_)
      · rw [mC_Parser_update_J68]
        refine okM_bP (kC_Parser_ownTable I) (fun u_19 z_18 => ?_)
        have I_u_19 := z_18
        refine okM_eq (fun c_20 c_20' => ?_) (fun c_20 => ?_)
        · exact okM_some ⟨I_u_19, (by omega), (by omega)⟩
        · refine okM_bM (kC_Parser_where I_u_19) (fun r_22 u_23 z_21 => ?_)
          obtain ⟨I_u_23, p_24, p_25⟩ := z_21
          refine okM_eq (fun c_26 c_26' => ?_) (fun c_26 => ?_)
          · exact okM_some ⟨I_u_23, (by omega), (by omega)⟩
          · refine okM_bM (kC_Parser_is I_u_23) (fun r_28 u_29 z_27 => ?_)
            obtain ⟨I_u_29, p_30, p_31⟩ := z_27
            refine okM_eq (fun c_32 c_32' => ?_) (fun c_32 => ?_)
            · exact okM_some ⟨I_u_29, (by omega), (by omega)⟩
            · exact okM_some ⟨I_u_29, (by omega), (by omega)⟩
      · refine okM_bM (kC_Tokens_takes I (by decide)) (fun r_34 u_35 z_33 => ?_)
        obtain ⟨I_u_35, p_36, p_37⟩ := z_33
        refine okM_eq (fun c_38 c_38' => ?_) (fun c_38 => ?_)
        · rw [mC_Parser_update_J68]
          refine okM_bP (kC_Parser_ownTable I_u_35) (fun u_40 z_39 => ?_)
          have I_u_40 := z_39
          refine okM_eq (fun c_41 c_41' => ?_) (fun c_41 => ?_)
          · exact okM_some ⟨I_u_40, (by omega), (by omega)⟩
          · refine okM_bM (kC_Parser_where I_u_40) (fun r_43 u_44 z_42 => ?_)
            obtain ⟨I_u_44, p_45, p_46⟩ := z_42
            refine okM_eq (fun c_47 c_47' => ?_) (fun c_47 => ?_)
            · exact okM_some ⟨I_u_44, (by omega), (by omega)⟩
            · refine okM_bM (kC_Parser_is I_u_44) (fun r_49 u_50 z_48 => ?_)
              obtain ⟨I_u_50, p_51, p_52⟩ := z_48
              refine okM_eq (fun c_53 c_53' => ?_) (fun c_53 => ?_)
              · exact okM_some ⟨I_u_50, (by omega), (by omega)⟩
              · exact okM_some ⟨I_u_50, (by omega), (by omega)⟩
        · refine okM_bM (kC_Parser_setting I_u_35) (fun r_55 u_56 z_54 => ?_)
          obtain ⟨I_u_56, p_57, p_58⟩ := z_54
          try have e_61 : (x2 + 1 : Int32).toInt = (x2 : Int32).toInt + (1 : Int32).toInt := by exact add_i (by omega) (by omega)
          refine okM_seq (fun y_60 h_59 => ?_)
          have h_59' : y_60.toInt = (x2 + 1 : Int32).toInt := by rw [h_59]
          refine okM_mono (ih I_u_56 (by have B_62 := IC_b I_u_56; omega) (by have B_63 := IC_b I_u_56; omega) (by have B_64 := IC_b I_u_56; omega) (by have B_65 := IC_b I_u_56; omega) (by have B_66 := IC_b I_u_56; omega)) (fun r_68 u_69 z_67 => ?_)
          obtain ⟨I_u_69, p_70, p_71⟩ := z_67
          exact ⟨I_u_69, (by omega), (by omega)⟩
theorem kC_Parser_update {u : St} (I : IC u) : okM (mC_Parser_update u) (fun r v => IC v ∧ 0 ≤ r.toInt ∧ r.toInt ≤ 1) := by
  have l0 : (0 : Int32).toInt = 0 := by decide
  have l1 : (1 : Int32).toInt = 1 := by decide
  have l47 : (47 : Int32).toInt = 47 := by decide
  have l2000 : (2000 : Int32).toInt = 2000 := by decide
  rw [mC_Parser_update]
  refine okM_bM (kC_Parser_target I) (fun r_2 u_3 z_1 => ?_)
  obtain ⟨I_u_3, p_4, p_5⟩ := z_1
  refine okM_eq (fun c_6 c_6' => ?_) (fun c_6 => ?_)
  · refine okM_mono (kC_Parser_update_L34 _ I_u_3 (by have FUe : FU = 100000 := rfl; have B_7 := IC_b I_u_3; omega) (by have FUe : FU = 100000 := rfl; have B_8 := IC_b I_u_3; omega) (by have FUe : FU = 100000 := rfl; have B_9 := IC_b I_u_3; omega) (by have FUe : FU = 100000 := rfl; have B_10 := IC_b I_u_3; omega) (by have FUe : FU = 100000 := rfl; have B_11 := IC_b I_u_3; omega)) (fun r_13 u_14 z_12 => ?_)
    obtain ⟨I_u_14, p_15, p_16⟩ := z_12
    exact ⟨I_u_14, (by omega), (by omega)⟩
  · refine okM_bM (kC_Tokens_takes I_u_3 (by decide)) (fun r_18 u_19 z_17 => ?_)
    obtain ⟨I_u_19, p_20, p_21⟩ := z_17
    refine okM_eq (fun c_22 c_22' => ?_) (fun c_22 => ?_)
    · refine okM_mono (kC_Parser_update_L34 _ I_u_19 (by have FUe : FU = 100000 := rfl; have B_23 := IC_b I_u_19; omega) (by have FUe : FU = 100000 := rfl; have B_24 := IC_b I_u_19; omega) (by have FUe : FU = 100000 := rfl; have B_25 := IC_b I_u_19; omega) (by have FUe : FU = 100000 := rfl; have B_26 := IC_b I_u_19; omega) (by have FUe : FU = 100000 := rfl; have B_27 := IC_b I_u_19; omega)) (fun r_29 u_30 z_28 => ?_)
      obtain ⟨I_u_30, p_31, p_32⟩ := z_28
      exact ⟨I_u_30, (by omega), (by omega)⟩
    · refine okM_bM (kC_Parser_setting I_u_19) (fun r_34 u_35 z_33 => ?_)
      obtain ⟨I_u_35, p_36, p_37⟩ := z_33
      refine okM_eq (fun c_38 c_38' => ?_) (fun c_38 => ?_)
      · refine okM_mono (kC_Parser_update_L34 _ I_u_35 (by have FUe : FU = 100000 := rfl; have B_39 := IC_b I_u_35; omega) (by have FUe : FU = 100000 := rfl; have B_40 := IC_b I_u_35; omega) (by have FUe : FU = 100000 := rfl; have B_41 := IC_b I_u_35; omega) (by have FUe : FU = 100000 := rfl; have B_42 := IC_b I_u_35; omega) (by have FUe : FU = 100000 := rfl; have B_43 := IC_b I_u_35; omega)) (fun r_45 u_46 z_44 => ?_)
        obtain ⟨I_u_46, p_47, p_48⟩ := z_44
        exact ⟨I_u_46, (by omega), (by omega)⟩
      · refine okM_mono (kC_Parser_update_L34 _ I_u_35 (by have FUe : FU = 100000 := rfl; have B_49 := IC_b I_u_35; omega) (by have FUe : FU = 100000 := rfl; have B_50 := IC_b I_u_35; omega) (by have FUe : FU = 100000 := rfl; have B_51 := IC_b I_u_35; omega) (by have FUe : FU = 100000 := rfl; have B_52 := IC_b I_u_35; omega) (by have FUe : FU = 100000 := rfl; have B_53 := IC_b I_u_35; omega)) (fun r_55 u_56 z_54 => ?_)
        obtain ⟨I_u_56, p_57, p_58⟩ := z_54
        exact ⟨I_u_56, (by omega), (by omega)⟩
theorem kC_Parser_delete {u : St} (I : IC u) : okM (mC_Parser_delete u) (fun r v => IC v ∧ 0 ≤ r.toInt ∧ r.toInt ≤ 1) := by
  have l0 : (0 : Int32).toInt = 0 := by decide
  have l1 : (1 : Int32).toInt = 1 := by decide
  have l7 : (7 : Int32).toInt = 7 := by decide
  have l34 : (34 : Int32).toInt = 34 := by decide
  rw [mC_Parser_delete]
  refine okM_bM (kC_Tokens_takes I (by decide)) (fun r_2 u_3 z_1 => ?_)
  obtain ⟨I_u_3, p_4, p_5⟩ := z_1
  refine okM_eq (fun c_6 c_6' => ?_) (fun c_6 => ?_)
  · rw [mC_Parser_delete_J24]
    refine okM_bP (kC_Parser_ownTable I_u_3) (fun u_8 z_7 => ?_)
    have I_u_8 := z_7
    refine okM_pos (by decide) ?_
    exact okM_some ⟨I_u_8, (by omega), (by omega)⟩
  · refine okM_bM (kC_Parser_target I_u_3) (fun r_10 u_11 z_9 => ?_)
    obtain ⟨I_u_11, p_12, p_13⟩ := z_9
    refine okM_eq (fun c_14 c_14' => ?_) (fun c_14 => ?_)
    · rw [mC_Parser_delete_J24]
      refine okM_bP (kC_Parser_ownTable I_u_11) (fun u_16 z_15 => ?_)
      have I_u_16 := z_15
      refine okM_pos (by decide) ?_
      exact okM_some ⟨I_u_16, (by omega), (by omega)⟩
    · rw [mC_Parser_delete_J24]
      refine okM_bP (kC_Parser_ownTable I_u_11) (fun u_18 z_17 => ?_)
      have I_u_18 := z_17
      refine okM_neg (by decide) ?_
      refine okM_bM (kC_Parser_where I_u_18) (fun r_20 u_21 z_19 => ?_)
      obtain ⟨I_u_21, p_22, p_23⟩ := z_19
      refine okM_eq (fun c_24 c_24' => ?_) (fun c_24 => ?_)
      · exact okM_some ⟨I_u_21, (by omega), (by omega)⟩
      · refine okM_bM (kC_Parser_is I_u_21) (fun r_26 u_27 z_25 => ?_)
        obtain ⟨I_u_27, p_28, p_29⟩ := z_25
        refine okM_eq (fun c_30 c_30' => ?_) (fun c_30 => ?_)
        · exact okM_some ⟨I_u_27, (by omega), (by omega)⟩
        · exact okM_some ⟨I_u_27, (by omega), (by omega)⟩
theorem kC_Parser_execute {u : St} (I : IC u) : okM (mC_Parser_execute u) (fun r v => IC v ∧ 0 ≤ r.toInt ∧ r.toInt ≤ 1) := by
  have l0 : (0 : Int32).toInt = 0 := by decide
  have l1 : (1 : Int32).toInt = 1 := by decide
  have l8 : (8 : Int32).toInt = 8 := by decide
  have l9 : (9 : Int32).toInt = 9 := by decide
  have l17 : (17 : Int32).toInt = 17 := by decide
  rw [mC_Parser_execute]
  refine okM_bM (kC_Parser_title I) (fun r_2 u_3 z_1 => ?_)
  obtain ⟨I_u_3, p_4, p_5⟩ := z_1
  refine okM_eq (fun c_6 c_6' => ?_) (fun c_6 => ?_)
  · rw [mC_Parser_execute_J48]
    refine okM_eq (fun c_7 c_7' => ?_) (fun c_7 => ?_)
    · exact okM_some ⟨I_u_3, (by omega), (by omega)⟩
    · refine okM_bM (kC_Parser_is I_u_3) (fun r_9 u_10 z_8 => ?_)
      obtain ⟨I_u_10, p_11, p_12⟩ := z_8
      refine okM_eq (fun c_13 c_13' => ?_) (fun c_13 => ?_)
      · exact okM_some ⟨I_u_10, (by omega), (by omega)⟩
      · exact okM_some ⟨I_u_10, (by omega), (by omega)⟩
  · refine okM_bM (kC_Tokens_takes I_u_3 (by decide)) (fun r_15 u_16 z_14 => ?_)
    obtain ⟨I_u_16, p_17, p_18⟩ := z_14
    refine okM_eq (fun c_19 c_19' => ?_) (fun c_19 => ?_)
    · rw [mC_Parser_execute_J48]
      refine okM_eq (fun c_20 c_20' => ?_) (fun c_20 => ?_)
      · exact okM_some ⟨I_u_16, (by omega), (by omega)⟩
      · refine okM_bM (kC_Parser_is I_u_16) (fun r_22 u_23 z_21 => ?_)
        obtain ⟨I_u_23, p_24, p_25⟩ := z_21
        refine okM_eq (fun c_26 c_26' => ?_) (fun c_26 => ?_)
        · exact okM_some ⟨I_u_23, (by omega), (by omega)⟩
        · exact okM_some ⟨I_u_23, (by omega), (by omega)⟩
    · refine okM_bM (kC_Parser_expressions I_u_16) (fun r_28 u_29 z_27 => ?_)
      obtain ⟨I_u_29, p_30, p_31⟩ := z_27
      refine okM_eq (fun c_32 c_32' => ?_) (fun c_32 => ?_)
      · rw [mC_Parser_execute_J48]
        refine okM_pos (by decide) ?_
        exact okM_some ⟨I_u_29, (by omega), (by omega)⟩
      · refine okM_bM (kC_Tokens_takes I_u_29 (by decide)) (fun r_34 u_35 z_33 => ?_)
        obtain ⟨I_u_35, p_36, p_37⟩ := z_33
        refine okM_eq (fun c_38 c_38' => ?_) (fun c_38 => ?_)
        · rw [mC_Parser_execute_J48]
          refine okM_pos (by decide) ?_
          exact okM_some ⟨I_u_35, (by omega), (by omega)⟩
        · rw [mC_Parser_execute_J48]
          refine okM_neg (by decide) ?_
          refine okM_bM (kC_Parser_is I_u_35) (fun r_40 u_41 z_39 => ?_)
          obtain ⟨I_u_41, p_42, p_43⟩ := z_39
          refine okM_eq (fun c_44 c_44' => ?_) (fun c_44 => ?_)
          · exact okM_some ⟨I_u_41, (by omega), (by omega)⟩
          · exact okM_some ⟨I_u_41, (by omega), (by omega)⟩
