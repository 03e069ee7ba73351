theorem kC_Meaning_ordersMatch {u : St} (I : IC u) : ok (mC_Meaning_ordersMatch u) (fun r => 0 ≤ r.toInt ∧ r.toInt ≤ 1) := by
  have l0 : (0 : Int32).toInt = 0 := by decide
  have l1 : (1 : Int32).toInt = 1 := by decide
  have l200 : (200 : Int32).toInt = 200 := by decide
  rw [mC_Meaning_ordersMatch]
  refine ok_mono (kC_Meaning_ordersMatch_L2 _ I (by have FUe : FU = 100000 := rfl; have B_1 := IC_b I; omega) (by have FUe : FU = 100000 := rfl; have B_2 := IC_b I; omega) (by have FUe : FU = 100000 := rfl; have B_3 := IC_b I; omega)) (fun r_5 z_4 => ?_)
  obtain ⟨p_6, p_7⟩ := z_4
  exact ⟨(by omega), (by omega)⟩
theorem kC_Meaning_measureError_J75 {s0 : Int32} {u : St} (I : IC u) : okM (mC_Meaning_measureError_J75 s0 u) (fun r v => IC v ∧ Fq [] [] u v) := by
  have l0 : (0 : Int32).toInt = 0 := by decide
  have l1 : (1 : Int32).toInt = 1 := by decide
  have l8 : (8 : Int32).toInt = 8 := by decide
  rw [mC_Meaning_measureError_J75]
  refine okM_bP (kC_Meaning_valuesMatch I) (fun r_2 z_1 => ?_)
  obtain ⟨p_3, p_4⟩ := z_1
  refine okM_eq (fun c_5 c_5' => ?_) (fun c_5 => ?_)
  · exact okM_some ⟨I, (Fq_rfl u)⟩
  · refine okM_bP (kC_Meaning_namesDiffer I) (fun r_7 z_6 => ?_)
    obtain ⟨p_8, p_9⟩ := z_6
    refine okM_eq (fun c_10 c_10' => ?_) (fun c_10 => ?_)
    · exact okM_some ⟨I, (Fq_rfl u)⟩
    · refine okM_bP (kC_Meaning_ordersMatch I) (fun r_12 z_11 => ?_)
      obtain ⟨p_13, p_14⟩ := z_11
      refine okM_eq (fun c_15 c_15' => ?_) (fun c_15 => ?_)
      · exact okM_some ⟨I, (Fq_rfl u)⟩
      · refine okM_eq (fun c_16 c_16' => ?_) (fun c_16 => ?_)
        · refine okM_bP (kC_Lists_size I) (fun r_18 z_17 => ?_)
          obtain ⟨p_19, p_20⟩ := z_17
          refine okM_eq (fun c_21 c_21' => ?_) (fun c_21 => ?_)
          · exact okM_some ⟨I, (Fq_rfl u)⟩
          · exact okM_some ⟨I, (Fq_rfl u)⟩
        · exact okM_some ⟨I, (Fq_rfl u)⟩
theorem kC_Meaning_measureError {u : St} (I : IC u) : okM (mC_Meaning_measureError u) (fun r v => IC v ∧ Fq [6, 7, 8] [8, 9, 10, 11, 12, 13, 14, 15, 16, 17, 18] u v) := by
  have l0 : (0 : Int32).toInt = 0 := by decide
  have l1 : (1 : Int32).toInt = 1 := by decide
  have l2 : (2 : Int32).toInt = 2 := by decide
  have l3 : (3 : Int32).toInt = 3 := by decide
  have l8 : (8 : Int32).toInt = 8 := by decide
  have l9 : (9 : Int32).toInt = 9 := by decide
  have l16 : (16 : Int32).toInt = 16 := by decide
  have l21 : (21 : Int32).toInt = 21 := by decide
  have l200 : (200 : Int32).toInt = 200 := by decide
  rw [mC_Meaning_measureError]
  refine okM_eq (fun c_1 c_1' => ?_) (fun c_1 => ?_)
  · rw [mC_Meaning_measureError_J18]
    refine okM_pos (by decide) ?_
    refine okM_bP (kC_Nodes_size I) (fun r_3 z_2 => ?_)
    have p_4 := z_2
    try have e_5 : (r_3 + 0 : Int32).toInt = (r_3 : Int32).toInt + (0 : Int32).toInt := by exact add_i (by omega) (by omega)
    refine okM_le (fun c_6 => ?_) (fun c_6 => ?_)
    · refine okM_eq (fun c_7 c_7' => ?_) (fun c_7 => ?_)
      · rw [mC_Meaning_measureError_J58]
        refine okM_eq (fun c_8 c_8' => ?_) (fun c_8 => ?_)
        · refine okM_mono (kC_Meaning_measureError_J75 I) (fun r_10 u_11 z_9 => ?_)
          obtain ⟨I_u_11, G_u_11⟩ := z_9
          have F_u_11 : Fq [6, 7, 8] [8, 9, 10, 11, 12, 13, 14, 15, 16, 17, 18] u u_11 := Fq_tr (Fq_rfl u) G_u_11 rfl rfl
          exact ⟨I_u_11, F_u_11⟩
        · refine okM_mono (kC_Meaning_measureError_J75 I) (fun r_13 u_14 z_12 => ?_)
          obtain ⟨I_u_14, G_u_14⟩ := z_12
          have F_u_14 : Fq [6, 7, 8] [8, 9, 10, 11, 12, 13, 14, 15, 16, 17, 18] u u_14 := Fq_tr (Fq_rfl u) G_u_14 rfl rfl
          exact ⟨I_u_14, F_u_14⟩
      · refine okM_bP (kC_Meaning_spreadStar I) (fun u_16 z_15 => ?_)
        obtain ⟨I_u_16, G_u_16⟩ := z_15
        have F_u_16 : Fq [6, 7, 8] [8, 9, 10, 11, 12, 13, 14, 15, 16, 17, 18] u u_16 := Fq_tr (Fq_rfl u) G_u_16 rfl rfl
        rw [mC_Meaning_measureError_J58]
        refine okM_eq (fun c_17 c_17' => ?_) (fun c_17 => ?_)
        · refine okM_mono (kC_Meaning_measureError_J75 I_u_16) (fun r_19 u_20 z_18 => ?_)
          obtain ⟨I_u_20, G_u_20⟩ := z_18
          have F_u_20 : Fq [6, 7, 8] [8, 9, 10, 11, 12, 13, 14, 15, 16, 17, 18] u u_20 := Fq_tr F_u_16 G_u_20 rfl rfl
          exact ⟨I_u_20, F_u_20⟩
        · refine okM_mono (kC_Meaning_measureError_J75 I_u_16) (fun r_22 u_23 z_21 => ?_)
          obtain ⟨I_u_23, G_u_23⟩ := z_21
          have F_u_23 : Fq [6, 7, 8] [8, 9, 10, 11, 12, 13, 14, 15, 16, 17, 18] u u_23 := Fq_tr F_u_16 G_u_23 rfl rfl
          exact ⟨I_u_23, F_u_23⟩
    · exact okM_some ⟨I, (Fq_rfl u)⟩
  · refine okM_bP (kC_Meaning_columnsOfStar I) (fun r_25 z_24 => ?_)
    obtain ⟨p_26, p_27⟩ := z_24
    rw [mC_Meaning_measureError_J18]
    refine okM_le (fun c_28 => ?_) (fun c_28 => ?_)
    · refine okM_bP (kC_Nodes_size I) (fun r_30 z_29 => ?_)
      have p_31 := z_29
      try have e_32 : (r_30 + r_25 : Int32).toInt = (r_30 : Int32).toInt + (r_25 : Int32).toInt := by exact add_i (by omega) (by omega)
      refine okM_le (fun c_33 => ?_) (fun c_33 => ?_)
      · refine okM_eq (fun c_34 c_34' => ?_) (fun c_34 => ?_)
        · rw [mC_Meaning_measureError_J58]
          refine okM_eq (fun c_35 c_35' => ?_) (fun c_35 => ?_)
          · refine okM_mono (kC_Meaning_measureError_J75 I) (fun r_37 u_38 z_36 => ?_)
            obtain ⟨I_u_38, G_u_38⟩ := z_36
            have F_u_38 : Fq [6, 7, 8] [8, 9, 10, 11, 12, 13, 14, 15, 16, 17, 18] u u_38 := Fq_tr (Fq_rfl u) G_u_38 rfl rfl
            exact ⟨I_u_38, F_u_38⟩
          · refine okM_mono (kC_Meaning_measureError_J75 I) (fun r_40 u_41 z_39 => ?_)
            obtain ⟨I_u_41, G_u_41⟩ := z_39
            have F_u_41 : Fq [6, 7, 8] [8, 9, 10, 11, 12, 13, 14, 15, 16, 17, 18] u u_41 := Fq_tr (Fq_rfl u) G_u_41 rfl rfl
            exact ⟨I_u_41, F_u_41⟩
        · refine okM_bP (kC_Meaning_spreadStar I) (fun u_43 z_42 => ?_)
          obtain ⟨I_u_43, G_u_43⟩ := z_42
          have F_u_43 : Fq [6, 7, 8] [8, 9, 10, 11, 12, 13, 14, 15, 16, 17, 18] u u_43 := Fq_tr (Fq_rfl u) G_u_43 rfl rfl
          rw [mC_Meaning_measureError_J58]
          refine okM_eq (fun c_44 c_44' => ?_) (fun c_44 => ?_)
          · refine okM_mono (kC_Meaning_measureError_J75 I_u_43) (fun r_46 u_47 z_45 => ?_)
            obtain ⟨I_u_47, G_u_47⟩ := z_45
            have F_u_47 : Fq [6, 7, 8] [8, 9, 10, 11, 12, 13, 14, 15, 16, 17, 18] u u_47 := Fq_tr F_u_43 G_u_47 rfl rfl
            exact ⟨I_u_47, F_u_47⟩
          · refine okM_mono (kC_Meaning_measureError_J75 I_u_43) (fun r_49 u_50 z_48 => ?_)
            obtain ⟨I_u_50, G_u_50⟩ := z_48
            have F_u_50 : Fq [6, 7, 8] [8, 9, 10, 11, 12, 13, 14, 15, 16, 17, 18] u u_50 := Fq_tr F_u_43 G_u_50 rfl rfl
            exact ⟨I_u_50, F_u_50⟩
      · exact okM_some ⟨I, (Fq_rfl u)⟩
    · exact okM_some ⟨I, (Fq_rfl u)⟩
theorem kC_Nodes_aggregates {x0 : Int32} {u : St} (I : IC u) : ok (mC_Nodes_aggregates x0 u) (fun r => 0 ≤ r.toInt ∧ r.toInt ≤ 1) := by
  have l0 : (0 : Int32).toInt = 0 := by decide
  have l1 : (1 : Int32).toInt = 1 := by decide
  have l5 : (5 : Int32).toInt = 5 := by decide
  have l9 : (9 : Int32).toInt = 9 := by decide
  rw [mC_Nodes_aggregates]
  refine ok_lt (fun c_1 => ?_) (fun c_1 => ?_)
  · exact ok_some ⟨(by omega), (by omega)⟩
  · refine ok_lt (fun c_2 => ?_) (fun c_2 => ?_)
    · exact ok_some ⟨(by omega), (by omega)⟩
    · exact ok_some ⟨(by omega), (by omega)⟩
theorem kC_Meaning_isAggregated_L11 : ∀ (n : Nat) {x2 : Int32} {x3 : Int32} {u : St} (I : IC u) (h0 : 0 ≤ x3.toInt) (h1 : x3.toInt ≤ 200) (hm : (200 - x3.toInt).toNat < n), ok (mC_Meaning_isAggregated_L11 n x2 x3 u) (fun r => 0 ≤ r.toInt ∧ r.toInt ≤ 1) := by
  intro n
  induction n with
  | zero => intro x2 x3 u I h0 h1 hm; exact absurd hm (Nat.not_lt_zero _)
  | succ n ih =>
    intro x2 x3 u I h0 h1 hm
    have l0 : (0 : Int32).toInt = 0 := by decide
    have l1 : (1 : Int32).toInt = 1 := by decide
    have l200 : (200 : Int32).toInt = 200 := by decide
    rw [mC_Meaning_isAggregated_L11]
    refine ok_le (fun c_1 => ?_) (fun c_1 => ?_)
    · exact ok_some ⟨(by omega), (by omega)⟩
    · refine ok_lt (fun c_2 => ?_) (fun c_2 => ?_)
      · exact ok_some ⟨(by omega), (by omega)⟩
      · refine ok_bP (kC_Nodes_kindOf I) (fun r_4 z_3 => ?_)
        have p_5 := z_3
        refine ok_bP (kC_Nodes_aggregates I) (fun r_7 z_6 => ?_)
        obtain ⟨p_8, p_9⟩ := z_6
        refine ok_eq (fun c_10 c_10' => ?_) (fun c_10 => ?_)
        · refine ok_bP (kC_Nodes_parentOf I) (fun r_12 z_11 => ?_)
          try have e_15 : (x3 + 1 : Int32).toInt = (x3 : Int32).toInt + (1 : Int32).toInt := by exact add_i (by omega) (by omega)
          refine ok_seq (fun y_14 h_13 => ?_)
          have h_13' : y_14.toInt = (x3 + 1 : Int32).toInt := by rw [h_13]
          refine ok_mono (ih I (by have B_16 := IC_b I; omega) (by have B_17 := IC_b I; omega) (by have B_18 := IC_b I; omega)) (fun r_20 z_19 => ?_)
          obtain ⟨p_21, p_22⟩ := z_19
          exact ⟨(by omega), (by omega)⟩
        · exact ok_some ⟨(by omega), (by omega)⟩
theorem kC_Meaning_isAggregated {x1 : Int32} {u : St} (I : IC u) : ok (mC_Meaning_isAggregated x1 u) (fun r => 0 ≤ r.toInt ∧ r.toInt ≤ 1) := by
  have l0 : (0 : Int32).toInt = 0 := by decide
  have l1 : (1 : Int32).toInt = 1 := by decide
  have l200 : (200 : Int32).toInt = 200 := by decide
  rw [mC_Meaning_isAggregated]
  refine ok_bP (kC_Nodes_parentOf I) (fun r_2 z_1 => ?_)
  refine ok_mono (kC_Meaning_isAggregated_L11 _ I (by have FUe : FU = 100000 := rfl; have B_3 := IC_b I; omega) (by have FUe : FU = 100000 := rfl; have B_4 := IC_b I; omega) (by have FUe : FU = 100000 := rfl; have B_5 := IC_b I; omega)) (fun r_7 z_6 => ?_)
  obtain ⟨p_8, p_9⟩ := z_6
  exact ⟨(by omega), (by omega)⟩
theorem kC_Meaning_isGrouped_L2 : ∀ (n : Nat) {x1 : Int32} {x2 : Int32} {u : St} (I : IC u) (h0 : 0 ≤ x2.toInt) (h1 : x2.toInt ≤ 200) (hm : (200 - x2.toInt).toNat < n), ok (mC_Meaning_isGrouped_L2 n x1 x2 u) (fun r => 0 ≤ r.toInt ∧ r.toInt ≤ 1) := by
  intro n
  induction n with
  | zero => intro x1 x2 u I h0 h1 hm; exact absurd hm (Nat.not_lt_zero _)
  | succ n ih =>
    intro x1 x2 u I h0 h1 hm
    have l0 : (0 : Int32).toInt = 0 := by decide
    have l1 : (1 : Int32).toInt = 1 := by decide
    have l200 : (200 : Int32).toInt = 200 := by decide
    rw [mC_Meaning_isGrouped_L2]
    refine ok_bP (kC_Lists_size I) (fun r_2 z_1 => ?_)
    obtain ⟨p_3, p_4⟩ := z_1
    refine ok_le (fun c_5 => ?_) (fun c_5 => ?_)
    · exact ok_some ⟨(by omega), (by omega)⟩
    · refine ok_bP (kC_Lists_at I) (fun r_7 z_6 => ?_)
      have p_8 := z_6
      refine ok_bP (kC_Nodes_firstOf I) (fun r_10 z_9 => ?_)
      have p_11 := z_9
      refine ok_bP (kC_Nodes_firstOf I) (fun r_13 z_12 => ?_)
      have p_14 := z_12
      refine ok_eq (fun c_15 c_15' => ?_) (fun c_15 => ?_)
      · rw [mC_Meaning_isGrouped_J48]
        refine ok_neg (by decide) ?_
        refine ok_bP (kC_Nodes_secondOf I) (fun r_17 z_16 => ?_)
        refine ok_bP (kC_Nodes_secondOf I) (fun r_19 z_18 => ?_)
        refine ok_eq (fun c_20 c_20' => ?_) (fun c_20 => ?_)
        · exact ok_some ⟨(by omega), (by omega)⟩
        · try have e_23 : (x2 + 1 : Int32).toInt = (x2 : Int32).toInt + (1 : Int32).toInt := by exact add_i (by omega) (by omega)
          refine ok_seq (fun y_22 h_21 => ?_)
          have h_21' : y_22.toInt = (x2 + 1 : Int32).toInt := by rw [h_21]
          refine ok_mono (ih I (by have B_24 := IC_b I; omega) (by have B_25 := IC_b I; omega) (by have B_26 := IC_b I; omega)) (fun r_28 z_27 => ?_)
          obtain ⟨p_29, p_30⟩ := z_27
          exact ⟨(by omega), (by omega)⟩
      · rw [mC_Meaning_isGrouped_J48]
        refine ok_pos (by decide) ?_
        try have e_33 : (x2 + 1 : Int32).toInt = (x2 : Int32).toInt + (1 : Int32).toInt := by exact add_i (by omega) (by omega)
        refine ok_seq (fun y_32 h_31 => ?_)
        have h_31' : y_32.toInt = (x2 + 1 : Int32).toInt := by rw [h_31]
        refine ok_mono (ih I (by have B_34 := IC_b I; omega) (by have B_35 := IC_b I; omega) (by have B_36 := IC_b I; omega)) (fun r_38 z_37 => ?_)
        obtain ⟨p_39, p_40⟩ := z_37
        exact ⟨(by omega), (by omega)⟩
theorem kC_Meaning_isGrouped {x1 : Int32} {u : St} (I : IC u) : ok (mC_Meaning_isGrouped x1 u) (fun r => 0 ≤ r.toInt ∧ r.toInt ≤ 1) := by
  have l0 : (0 : Int32).toInt = 0 := by decide
  have l1 : (1 : Int32).toInt = 1 := by decide
  have l200 : (200 : Int32).toInt = 200 := by decide
  rw [mC_Meaning_isGrouped]
  refine ok_mono (kC_Meaning_isGrouped_L2 _ I (by have FUe : FU = 100000 := rfl; have B_1 := IC_b I; omega) (by have FUe : FU = 100000 := rfl; have B_2 := IC_b I; omega) (by have FUe : FU = 100000 := rfl; have B_3 := IC_b I; omega)) (fun r_5 z_4 => ?_)
  obtain ⟨p_6, p_7⟩ := z_4
  exact ⟨(by omega), (by omega)⟩
theorem kC_Meaning_itemsAreGrouped_L52 : ∀ (n : Nat) {x3 : Int32} {x4 : Int32} {u : St} (I : IC u) (h0 : 0 ≤ x4.toInt) (h1 : x3.toInt ≤ 200) (h2 : x4.toInt ≤ 201) (hm : (201 - x4.toInt).toNat < n), ok (mC_Meaning_itemsAreGrouped_L52 n x3 x4 u) (fun r => 0 ≤ r.toInt ∧ r.toInt ≤ 1) := by
  intro n
  induction n with
  | zero => intro x3 x4 u I h0 h1 h2 hm; exact absurd hm (Nat.not_lt_zero _)
  | succ n ih =>
    intro x3 x4 u I h0 h1 h2 hm
    have l0 : (0 : Int32).toInt = 0 := by decide
    have l1 : (1 : Int32).toInt = 1 := by decide
    have l4 : (4 : Int32).toInt = 4 := by decide
    have l200 : (200 : Int32).toInt = 200 := by decide
    have l201 : (201 : Int32).toInt = 201 := by decide
    rw [mC_Meaning_itemsAreGrouped_L52]
    refine ok_lt (fun c_1 => ?_) (fun c_1 => ?_)
    · exact ok_some ⟨(by omega), (by omega)⟩
    · refine ok_bP (kC_Nodes_kindOf I) (fun r_3 z_2 => ?_)
      have p_4 := z_2
      refine ok_eq (fun c_5 c_5' => ?_) (fun c_5 => ?_)
      · refine ok_bP (kC_Meaning_isAggregated I) (fun r_7 z_6 => ?_)
        obtain ⟨p_8, p_9⟩ := z_6
        refine ok_eq (fun c_10 c_10' => ?_) (fun c_10 => ?_)
        · rw [mC_Meaning_itemsAreGrouped_J85]
          refine ok_neg (by decide) ?_
          refine ok_bP (kC_Meaning_isGrouped I) (fun r_12 z_11 => ?_)
          obtain ⟨p_13, p_14⟩ := z_11
          refine ok_eq (fun c_15 c_15' => ?_) (fun c_15 => ?_)
          · exact ok_some ⟨(by omega), (by omega)⟩
          · try have e_18 : (x4 + 1 : Int32).toInt = (x4 : Int32).toInt + (1 : Int32).toInt := by exact add_i (by omega) (by omega)
            refine ok_seq (fun y_17 h_16 => ?_)
            have h_16' : y_17.toInt = (x4 + 1 : Int32).toInt := by rw [h_16]
            refine ok_mono (ih I (by have B_19 := IC_b I; omega) (by have B_20 := IC_b I; omega) (by have B_21 := IC_b I; omega) (by have B_22 := IC_b I; omega)) (fun r_24 z_23 => ?_)
            obtain ⟨p_25, p_26⟩ := z_23
            exact ⟨(by omega), (by omega)⟩
        · rw [mC_Meaning_itemsAreGrouped_J85]
          refine ok_pos (by decide) ?_
          try have e_29 : (x4 + 1 : Int32).toInt = (x4 : Int32).toInt + (1 : Int32).toInt := by exact add_i (by omega) (by omega)
          refine ok_seq (fun y_28 h_27 => ?_)
          have h_27' : y_28.toInt = (x4 + 1 : Int32).toInt := by rw [h_27]
          refine ok_mono (ih I (by have B_30 := IC_b I; omega) (by have B_31 := IC_b I; omega) (by have B_32 := IC_b I; omega) (by have B_33 := IC_b I; omega)) (fun r_35 z_34 => ?_)
          obtain ⟨p_36, p_37⟩ := z_34
          exact ⟨(by omega), (by omega)⟩
      · rw [mC_Meaning_itemsAreGrouped_J85]
        refine ok_pos (by decide) ?_
        try have e_40 : (x4 + 1 : Int32).toInt = (x4 : Int32).toInt + (1 : Int32).toInt := by exact add_i (by omega) (by omega)
        refine ok_seq (fun y_39 h_38 => ?_)
        have h_38' : y_39.toInt = (x4 + 1 : Int32).toInt := by rw [h_38]
        refine ok_mono (ih I (by have B_41 := IC_b I; omega) (by have B_42 := IC_b I; omega) (by have B_43 := IC_b I; omega) (by have B_44 := IC_b I; omega)) (fun r_46 z_45 => ?_)
        obtain ⟨p_47, p_48⟩ := z_45
        exact ⟨(by omega), (by omega)⟩
theorem kC_Meaning_itemsAreGrouped {u : St} (I : IC u) : ok (mC_Meaning_itemsAreGrouped u) (fun r => 0 ≤ r.toInt ∧ r.toInt ≤ 1) := by
  have l0 : (0 : Int32).toInt = 0 := by decide
  have l1 : (1 : Int32).toInt = 1 := by decide
  have l21 : (21 : Int32).toInt = 21 := by decide
  have l200 : (200 : Int32).toInt = 200 := by decide
  have l201 : (201 : Int32).toInt = 201 := by decide
  rw [mC_Meaning_itemsAreGrouped]
  refine ok_bP (kC_Lists_size I) (fun r_2 z_1 => ?_)
  obtain ⟨p_3, p_4⟩ := z_1
  refine ok_eq (fun c_5 c_5' => ?_) (fun c_5 => ?_)
  · rw [mC_Meaning_itemsAreGrouped_J32]
    try have e_6 : (r_2 - 1 : Int32).toInt = (r_2 : Int32).toInt - (1 : Int32).toInt := by exact sub_i (by omega) (by omega)
    refine ok_bP (kC_Lists_at I) (fun r_8 z_7 => ?_)
    have p_9 := z_7
    refine ok_seq (fun y_11 h_10 => ?_)
    have h_10' := mx_i (x := 0) h_10
    refine ok_mono (kC_Meaning_itemsAreGrouped_L52 _ I (by have FUe : FU = 100000 := rfl; have B_12 := IC_b I; omega) (by have FUe : FU = 100000 := rfl; have B_13 := IC_b I; omega) (by have FUe : FU = 100000 := rfl; have B_14 := IC_b I; omega) (by have FUe : FU = 100000 := rfl; have B_15 := IC_b I; omega)) (fun r_17 z_16 => ?_)
    obtain ⟨p_18, p_19⟩ := z_16
    exact ⟨(by omega), (by omega)⟩
  · refine ok_bP (kC_Lists_at I) (fun r_21 z_20 => ?_)
    have p_22 := z_20
    rw [mC_Meaning_itemsAreGrouped_J32]
    try have e_23 : (r_2 - 1 : Int32).toInt = (r_2 : Int32).toInt - (1 : Int32).toInt := by exact sub_i (by omega) (by omega)
    refine ok_bP (kC_Lists_at I) (fun r_25 z_24 => ?_)
    have p_26 := z_24
    refine ok_seq (fun y_28 h_27 => ?_)
    have h_27' := mx_i (x := r_21) h_27
    refine ok_mono (kC_Meaning_itemsAreGrouped_L52 _ I (by have FUe : FU = 100000 := rfl; have B_29 := IC_b I; omega) (by have FUe : FU = 100000 := rfl; have B_30 := IC_b I; omega) (by have FUe : FU = 100000 := rfl; have B_31 := IC_b I; omega) (by have FUe : FU = 100000 := rfl; have B_32 := IC_b I; omega)) (fun r_34 z_33 => ?_)
    obtain ⟨p_35, p_36⟩ := z_33
    exact ⟨(by omega), (by omega)⟩
theorem kC_Meaning_groupError_J173 {x3 : Int32} {s0 : Int32} {u : St} (I : IC u) : ok (mC_Meaning_groupError_J173 x3 s0 u) (fun r => True) := by
  have l0 : (0 : Int32).toInt = 0 := by decide
  have l10 : (10 : Int32).toInt = 10 := by decide
  have l16 : (16 : Int32).toInt = 16 := by decide
  rw [mC_Meaning_groupError_J173]
  refine ok_eq (fun c_1 c_1' => ?_) (fun c_1 => ?_)
  · exact ok_some trivial
  · refine ok_le (fun c_2 => ?_) (fun c_2 => ?_)
    · exact ok_some trivial
    · refine ok_eq (fun c_3 c_3' => ?_) (fun c_3 => ?_)
      · exact ok_some trivial
      · exact ok_some trivial
theorem kC_Meaning_groupError_J125 {x1 : Int32} {x2 : Int32} {s0 : Int32} {u : St} (I : IC u) : ok (mC_Meaning_groupError_J125 x1 x2 s0 u) (fun r => True) := by
  have l0 : (0 : Int32).toInt = 0 := by decide
  have l1 : (1 : Int32).toInt = 1 := by decide
  have l3 : (3 : Int32).toInt = 3 := by decide
  have l8 : (8 : Int32).toInt = 8 := by decide
  have l10 : (10 : Int32).toInt = 10 := by decide
  have l20 : (20 : Int32).toInt = 20 := by decide
  rw [mC_Meaning_groupError_J125]
  refine ok_bP (kC_Lists_size I) (fun r_2 z_1 => ?_)
  obtain ⟨p_3, p_4⟩ := z_1
  refine ok_eq (fun c_5 c_5' => ?_) (fun c_5 => ?_)
  · refine ok_eq (fun c_6 c_6' => ?_) (fun c_6 => ?_)
    · refine ok_eq (fun c_7 c_7' => ?_) (fun c_7 => ?_)
      · refine ok_eq (fun c_8 c_8' => ?_) (fun c_8 => ?_)
        · refine ok_eq (fun c_9 c_9' => ?_) (fun c_9 => ?_)
          · refine ok_mono (kC_Meaning_groupError_J173 I) (fun r_11 z_10 => ?_)
            exact trivial
          · refine ok_mono (kC_Meaning_groupError_J173 I) (fun r_13 z_12 => ?_)
            exact trivial
        · refine ok_mono (kC_Meaning_groupError_J173 I) (fun r_15 z_14 => ?_)
          exact trivial
      · refine ok_mono (kC_Meaning_groupError_J173 I) (fun r_17 z_16 => ?_)
        exact trivial
    · refine ok_mono (kC_Meaning_groupError_J173 I) (fun r_19 z_18 => ?_)
      exact trivial
  · refine ok_mono (kC_Meaning_groupError_J173 I) (fun r_21 z_20 => ?_)
    exact trivial
theorem kC_Meaning_groupError_J97 {x1 : Int32} {x2 : Int32} {u : St} (I : IC u) : ok (mC_Meaning_groupError_J97 x1 x2 u) (fun r => True) := by
  have l0 : (0 : Int32).toInt = 0 := by decide
  have l1 : (1 : Int32).toInt = 1 := by decide
  have l5 : (5 : Int32).toInt = 5 := by decide
  have l8 : (8 : Int32).toInt = 8 := by decide
  have l10 : (10 : Int32).toInt = 10 := by decide
  rw [mC_Meaning_groupError_J97]
  refine ok_eq (fun c_1 c_1' => ?_) (fun c_1 => ?_)
  · refine ok_mono (kC_Meaning_groupError_J125 I) (fun r_3 z_2 => ?_)
    exact trivial
  · refine ok_eq (fun c_4 c_4' => ?_) (fun c_4 => ?_)
    · refine ok_mono (kC_Meaning_groupError_J125 I) (fun r_6 z_5 => ?_)
      exact trivial
    · refine ok_mono (kC_Meaning_groupError_J125 I) (fun r_8 z_7 => ?_)
      exact trivial
theorem kC_Meaning_groupError_J78 {x1 : Int32} {s0 : Int32} {u : St} (I : IC u) : ok (mC_Meaning_groupError_J78 x1 s0 u) (fun r => True) := by
  have l0 : (0 : Int32).toInt = 0 := by decide
  have l9 : (9 : Int32).toInt = 9 := by decide
  rw [mC_Meaning_groupError_J78]
  refine ok_eq (fun c_1 c_1' => ?_) (fun c_1 => ?_)
  · refine ok_eq (fun c_2 c_2' => ?_) (fun c_2 => ?_)
    · refine ok_mono (kC_Meaning_groupError_J97 I) (fun r_4 z_3 => ?_)
      exact trivial
    · refine ok_bP (kC_Meaning_itemsAreGrouped I) (fun r_6 z_5 => ?_)
      obtain ⟨p_7, p_8⟩ := z_5
      refine ok_eq (fun c_9 c_9' => ?_) (fun c_9 => ?_)
      · exact ok_some trivial
      · refine ok_mono (kC_Meaning_groupError_J97 I) (fun r_11 z_10 => ?_)
        exact trivial
  · refine ok_bP (kC_Meaning_itemsAreGrouped I) (fun r_13 z_12 => ?_)
    obtain ⟨p_14, p_15⟩ := z_12
    refine ok_eq (fun c_16 c_16' => ?_) (fun c_16 => ?_)
    · exact ok_some trivial
    · refine ok_mono (kC_Meaning_groupError_J97 I) (fun r_18 z_17 => ?_)
      exact trivial
theorem kC_Meaning_groupError_L4 : ∀ (n : Nat) {x1 : Int32} {x2 : Int32} {u : St} (I : IC u) (h0 : 0 ≤ x2.toInt) (h1 : x2.toInt ≤ 200) (hm : (200 - x2.toInt).toNat < n), ok (mC_Meaning_groupError_L4 n x1 x2 u) (fun r => True) := by
  intro n
  induction n with
  | zero => intro x1 x2 u I h0 h1 hm; exact absurd hm (Nat.not_lt_zero _)
  | succ n ih =>
    intro x1 x2 u I h0 h1 hm
    have l0 : (0 : Int32).toInt = 0 := by decide
    have l1 : (1 : Int32).toInt = 1 := by decide
    have l9 : (9 : Int32).toInt = 9 := by decide
    have l200 : (200 : Int32).toInt = 200 := by decide
    rw [mC_Meaning_groupError_L4]
    refine ok_bP (kC_Nodes_size I) (fun r_2 z_1 => ?_)
    have p_3 := z_1
    refine ok_le (fun c_4 => ?_) (fun c_4 => ?_)
    · refine ok_bP (kC_Lists_size I) (fun r_6 z_5 => ?_)
      obtain ⟨p_7, p_8⟩ := z_5
      refine ok_le (fun c_9 => ?_) (fun c_9 => ?_)
      · refine ok_mono (kC_Meaning_groupError_J78 I) (fun r_11 z_10 => ?_)
        exact trivial
      · refine ok_mono (kC_Meaning_groupError_J78 I) (fun r_13 z_12 => ?_)
        exact trivial
    · refine ok_bP (kC_Nodes_kindOf I) (fun r_15 z_14 => ?_)
      have p_16 := z_14
      refine ok_bP (kC_Nodes_aggregates I) (fun r_18 z_17 => ?_)
      obtain ⟨p_19, p_20⟩ := z_17
      refine ok_eq (fun c_21 c_21' => ?_) (fun c_21 => ?_)
      · rw [mC_Meaning_groupError_J42]
        refine ok_eq (fun c_22 c_22' => ?_) (fun c_22 => ?_)
        · refine ok_eq (fun c_23 c_23' => ?_) (fun c_23 => ?_)
          · try have e_26 : (x2 + 1 : Int32).toInt = (x2 : Int32).toInt + (1 : Int32).toInt := by exact add_i (by omega) (by omega)
            refine ok_seq (fun y_25 h_24 => ?_)
            have h_24' : y_25.toInt = (x2 + 1 : Int32).toInt := by rw [h_24]
            refine ok_mono (ih I (by have B_27 := IC_b I; omega) (by have B_28 := IC_b I; omega) (by have B_29 := IC_b I; omega)) (fun r_31 z_30 => ?_)
            exact trivial
          · try have e_34 : (x2 + 1 : Int32).toInt = (x2 : Int32).toInt + (1 : Int32).toInt := by exact add_i (by omega) (by omega)
            refine ok_seq (fun y_33 h_32 => ?_)
            have h_32' : y_33.toInt = (x2 + 1 : Int32).toInt := by rw [h_32]
            refine ok_mono (ih I (by have B_35 := IC_b I; omega) (by have B_36 := IC_b I; omega) (by have B_37 := IC_b I; omega)) (fun r_39 z_38 => ?_)
            exact trivial
        · try have e_42 : (x2 + 1 : Int32).toInt = (x2 : Int32).toInt + (1 : Int32).toInt := by exact add_i (by omega) (by omega)
          refine ok_seq (fun y_41 h_40 => ?_)
          have h_40' : y_41.toInt = (x2 + 1 : Int32).toInt := by rw [h_40]
          refine ok_mono (ih I (by have B_43 := IC_b I; omega) (by have B_44 := IC_b I; omega) (by have B_45 := IC_b I; omega)) (fun r_47 z_46 => ?_)
          exact trivial
      · refine ok_bP (kC_Meaning_isAggregated I) (fun r_49 z_48 => ?_)
        obtain ⟨p_50, p_51⟩ := z_48
        refine ok_eq (fun c_52 c_52' => ?_) (fun c_52 => ?_)
        · rw [mC_Meaning_groupError_J42]
          refine ok_eq (fun c_53 c_53' => ?_) (fun c_53 => ?_)
          · refine ok_eq (fun c_54 c_54' => ?_) (fun c_54 => ?_)
            · try have e_57 : (x2 + 1 : Int32).toInt = (x2 : Int32).toInt + (1 : Int32).toInt := by exact add_i (by omega) (by omega)
              refine ok_seq (fun y_56 h_55 => ?_)
              have h_55' : y_56.toInt = (x2 + 1 : Int32).toInt := by rw [h_55]
              refine ok_mono (ih I (by have B_58 := IC_b I; omega) (by have B_59 := IC_b I; omega) (by have B_60 := IC_b I; omega)) (fun r_62 z_61 => ?_)
              exact trivial
            · try have e_65 : (x2 + 1 : Int32).toInt = (x2 : Int32).toInt + (1 : Int32).toInt := by exact add_i (by omega) (by omega)
              refine ok_seq (fun y_64 h_63 => ?_)
              have h_63' : y_64.toInt = (x2 + 1 : Int32).toInt := by rw [h_63]
              refine ok_mono (ih I (by have B_66 := IC_b I; omega) (by have B_67 := IC_b I; omega) (by have B_68 := IC_b I; omega)) (fun r_70 z_69 => ?_)
              exact trivial
          · try have e_73 : (x2 + 1 : Int32).toInt = (x2 : Int32).toInt + (1 : Int32).toInt := by exact add_i (by omega) (by omega)
            refine ok_seq (fun y_72 h_71 => ?_)
            have h_71' : y_72.toInt = (x2 + 1 : Int32).toInt := by rw [h_71]
            refine ok_mono (ih I (by have B_74 := IC_b I; omega) (by have B_75 := IC_b I; omega) (by have B_76 := IC_b I; omega)) (fun r_78 z_77 => ?_)
            exact trivial
        · exact ok_some trivial
theorem kC_Meaning_groupError {u : St} (I : IC u) : ok (mC_Meaning_groupError u) (fun r => True) := by
  have l0 : (0 : Int32).toInt = 0 := by decide
  have l200 : (200 : Int32).toInt = 200 := by decide
  rw [mC_Meaning_groupError]
  refine ok_mono (kC_Meaning_groupError_L4 _ I (by have FUe : FU = 100000 := rfl; have B_1 := IC_b I; omega) (by have FUe : FU = 100000 := rfl; have B_2 := IC_b I; omega) (by have FUe : FU = 100000 := rfl; have B_3 := IC_b I; omega)) (fun r_5 z_4 => ?_)
  exact trivial
theorem kC_Meaning_firstError {u : St} (I : IC u) : okM (mC_Meaning_firstError u) (fun r v => IC v ∧ Fq [6, 7, 8, 13, 15, 24] [8, 9, 10, 11, 12, 13, 14, 15, 16, 17, 18] u v) := by
  have l0 : (0 : Int32).toInt = 0 := by decide
  rw [mC_Meaning_firstError]
  refine okM_bM (kC_Meaning_tableError I) (fun r_2 u_3 z_1 => ?_)
  obtain ⟨I_u_3, G_u_3⟩ := z_1
  have F_u_3 : Fq [6, 7, 8, 13, 15, 24] [8, 9, 10, 11, 12, 13, 14, 15, 16, 17, 18] u u_3 := Fq_tr (Fq_rfl u) G_u_3 rfl rfl
  refine okM_eq (fun c_4 c_4' => ?_) (fun c_4 => ?_)
  · refine okM_bM (kC_Meaning_typeError I_u_3) (fun r_6 u_7 z_5 => ?_)
    obtain ⟨I_u_7, G_u_7⟩ := z_5
    have F_u_7 : Fq [6, 7, 8, 13, 15, 24] [8, 9, 10, 11, 12, 13, 14, 15, 16, 17, 18] u u_7 := Fq_tr F_u_3 G_u_7 rfl rfl
    rw [mC_Meaning_firstError_J14]
    refine okM_eq (fun c_8 c_8' => ?_) (fun c_8 => ?_)
    · refine okM_bM (kC_Meaning_measureError I_u_7) (fun r_10 u_11 z_9 => ?_)
      obtain ⟨I_u_11, G_u_11⟩ := z_9
      have F_u_11 : Fq [6, 7, 8, 13, 15, 24] [8, 9, 10, 11, 12, 13, 14, 15, 16, 17, 18] u u_11 := Fq_tr F_u_7 G_u_11 rfl rfl
      refine okM_eq (fun c_12 c_12' => ?_) (fun c_12 => ?_)
      · refine okM_bP (kC_Meaning_groupError I_u_11) (fun r_14 z_13 => ?_)
        exact okM_some ⟨I_u_11, F_u_11⟩
      · exact okM_some ⟨I_u_11, F_u_11⟩
    · refine okM_eq (fun c_15 c_15' => ?_) (fun c_15 => ?_)
      · refine okM_bP (kC_Meaning_groupError I_u_7) (fun r_17 z_16 => ?_)
        exact okM_some ⟨I_u_7, F_u_7⟩
      · exact okM_some ⟨I_u_7, F_u_7⟩
  · rw [mC_Meaning_firstError_J14]
    refine okM_eq (fun c_18 c_18' => ?_) (fun c_18 => ?_)
    · refine okM_bM (kC_Meaning_measureError I_u_3) (fun r_20 u_21 z_19 => ?_)
      obtain ⟨I_u_21, G_u_21⟩ := z_19
      have F_u_21 : Fq [6, 7, 8, 13, 15, 24] [8, 9, 10, 11, 12, 13, 14, 15, 16, 17, 18] u u_21 := Fq_tr F_u_3 G_u_21 rfl rfl
      refine okM_eq (fun c_22 c_22' => ?_) (fun c_22 => ?_)
      · refine okM_bP (kC_Meaning_groupError I_u_21) (fun r_24 z_23 => ?_)
        exact okM_some ⟨I_u_21, F_u_21⟩
      · exact okM_some ⟨I_u_21, F_u_21⟩
    · refine okM_eq (fun c_25 c_25' => ?_) (fun c_25 => ?_)
      · refine okM_bP (kC_Meaning_groupError I_u_3) (fun r_27 z_26 => ?_)
        exact okM_some ⟨I_u_3, F_u_3⟩
      · exact okM_some ⟨I_u_3, F_u_3⟩
theorem kC_SqlReader_read {u : St} (I : IC u) : okM (mC_SqlReader_read u) (fun r v => IC v ∧ Fq [0, 3, 4, 5, 6, 7, 8, 9, 10, 11, 12, 13, 14, 15, 16, 17, 18, 19, 20, 21, 22, 23, 24] [6, 7, 8, 9, 10, 11, 12, 13, 14, 15, 16, 17, 18] u v ∧ (v.1 0).toInt = 0) := by
  have lm3 : (-3 : Int32).toInt = -3 := by decide
  have lm2 : (-2 : Int32).toInt = -2 := by decide
  have lm1 : (-1 : Int32).toInt = -1 := by decide
  have l0 : (0 : Int32).toInt = 0 := by decide
  have l1 : (1 : Int32).toInt = 1 := by decide
  have l2 : (2 : Int32).toInt = 2 := by decide
  have l3 : (3 : Int32).toInt = 3 := by decide
  have l9 : (9 : Int32).toInt = 9 := by decide
  rw [mC_SqlReader_read]
  refine okM_bP (kC_SqlReader_forget I) (fun u_2 z_1 => ?_)
  obtain ⟨I_u_2, G_u_2⟩ := z_1
  have F_u_2 : Fq [0, 3, 4, 5, 6, 7, 8, 9, 10, 11, 12, 13, 14, 15, 16, 17, 18, 19, 20, 21, 22, 23, 24] [6, 7, 8, 9, 10, 11, 12, 13, 14, 15, 16, 17, 18] u u_2 := Fq_tr (Fq_rfl u) G_u_2 rfl rfl
  have g_3 : (u_2.1 0).toInt = (u.1 0).toInt := by rw [G_u_2.1 0 rfl]
  refine okM_bM (kC_Tokens_cut I_u_2) (fun r_5 u_6 z_4 => ?_)
  obtain ⟨I_u_6, G_u_6, p_7, p_8⟩ := z_4
  have F_u_6 : Fq [0, 3, 4, 5, 6, 7, 8, 9, 10, 11, 12, 13, 14, 15, 16, 17, 18, 19, 20, 21, 22, 23, 24] [6, 7, 8, 9, 10, 11, 12, 13, 14, 15, 16, 17, 18] u u_6 := Fq_tr F_u_2 G_u_6 rfl rfl
  have g_9 : (u_6.1 0).toInt = (u_2.1 0).toInt := by rw [G_u_6.1 0 rfl]
  refine okM_bP (kC_Text_clear I_u_6) (fun u_11 z_10 => ?_)
  obtain ⟨I_u_11, G_u_11, p_12⟩ := z_10
  have F_u_11 : Fq [0, 3, 4, 5, 6, 7, 8, 9, 10, 11, 12, 13, 14, 15, 16, 17, 18, 19, 20, 21, 22, 23, 24] [6, 7, 8, 9, 10, 11, 12, 13, 14, 15, 16, 17, 18] u u_11 := Fq_tr F_u_6 G_u_11 rfl rfl
  refine okM_eq (fun c_13 c_13' => ?_) (fun c_13 => ?_)
  · rw [mC_SqlReader_read_J62]
    refine okM_pos (by decide) ?_
    rw [mC_SqlReader_read_J106]
    refine okM_neg (by decide) ?_
    refine okM_bP (kC_SqlReader_forget I_u_11) (fun u_15 z_14 => ?_)
    obtain ⟨I_u_15, G_u_15⟩ := z_14
    have F_u_15 : Fq [0, 3, 4, 5, 6, 7, 8, 9, 10, 11, 12, 13, 14, 15, 16, 17, 18, 19, 20, 21, 22, 23, 24] [6, 7, 8, 9, 10, 11, 12, 13, 14, 15, 16, 17, 18] u u_15 := Fq_tr F_u_11 G_u_15 rfl rfl
    have g_16 : (u_15.1 0).toInt = (u_11.1 0).toInt := by rw [G_u_15.1 0 rfl]
    exact okM_some ⟨I_u_15, F_u_15, (by have B_17 := IC_b I_u_15; omega)⟩
  · refine okM_bM (kC_Parser_begins I_u_11) (fun r_19 u_20 z_18 => ?_)
    obtain ⟨I_u_20, G_u_20, p_21, p_22⟩ := z_18
    have F_u_20 : Fq [0, 3, 4, 5, 6, 7, 8, 9, 10, 11, 12, 13, 14, 15, 16, 17, 18, 19, 20, 21, 22, 23, 24] [6, 7, 8, 9, 10, 11, 12, 13, 14, 15, 16, 17, 18] u u_20 := Fq_tr F_u_11 G_u_20 rfl rfl
    have g_23 : (u_20.1 0).toInt = (u_11.1 0).toInt := by rw [G_u_20.1 0 rfl]
    refine okM_eq (fun c_24 c_24' => ?_) (fun c_24 => ?_)
    · rw [mC_SqlReader_read_J62]
      refine okM_pos (by decide) ?_
      rw [mC_SqlReader_read_J106]
      refine okM_neg (by decide) ?_
      refine okM_bP (kC_SqlReader_forget I_u_20) (fun u_26 z_25 => ?_)
      obtain ⟨I_u_26, G_u_26⟩ := z_25
      have F_u_26 : Fq [0, 3, 4, 5, 6, 7, 8, 9, 10, 11, 12, 13, 14, 15, 16, 17, 18, 19, 20, 21, 22, 23, 24] [6, 7, 8, 9, 10, 11, 12, 13, 14, 15, 16, 17, 18] u u_26 := Fq_tr F_u_20 G_u_26 rfl rfl
      have g_27 : (u_26.1 0).toInt = (u_20.1 0).toInt := by rw [G_u_26.1 0 rfl]
      exact okM_some ⟨I_u_26, F_u_26, (by have B_28 := IC_b I_u_26; omega)⟩
    · refine okM_bM (kC_Parser_deed I_u_20) (fun r_30 u_31 z_29 => ?_)
      obtain ⟨I_u_31, G_u_31⟩ := z_29
      have F_u_31 : Fq [0, 3, 4, 5, 6, 7, 8, 9, 10, 11, 12, 13, 14, 15, 16, 17, 18, 19, 20, 21, 22, 23, 24] [6, 7, 8, 9, 10, 11, 12, 13, 14, 15, 16, 17, 18] u u_31 := Fq_tr F_u_20 G_u_31 rfl rfl
      have g_32 : (u_31.1 0).toInt = (u_20.1 0).toInt := by rw [G_u_31.1 0 rfl]
      refine okM_eq (fun c_33 c_33' => ?_) (fun c_33 => ?_)
      · rw [mC_SqlReader_read_J62]
        refine okM_pos (by decide) ?_
        rw [mC_SqlReader_read_J106]
        refine okM_neg (by decide) ?_
        refine okM_bP (kC_SqlReader_forget I_u_31) (fun u_35 z_34 => ?_)
        obtain ⟨I_u_35, G_u_35⟩ := z_34
        have F_u_35 : Fq [0, 3, 4, 5, 6, 7, 8, 9, 10, 11, 12, 13, 14, 15, 16, 17, 18, 19, 20, 21, 22, 23, 24] [6, 7, 8, 9, 10, 11, 12, 13, 14, 15, 16, 17, 18] u u_35 := Fq_tr F_u_31 G_u_35 rfl rfl
        have g_36 : (u_35.1 0).toInt = (u_31.1 0).toInt := by rw [G_u_35.1 0 rfl]
        exact okM_some ⟨I_u_35, F_u_35, (by have B_37 := IC_b I_u_35; omega)⟩
      · refine okM_bM (kC_Parser_ends I_u_31) (fun r_39 u_40 z_38 => ?_)
        obtain ⟨I_u_40, G_u_40, p_41, p_42⟩ := z_38
        have F_u_40 : Fq [0, 3, 4, 5, 6, 7, 8, 9, 10, 11, 12, 13, 14, 15, 16, 17, 18, 19, 20, 21, 22, 23, 24] [6, 7, 8, 9, 10, 11, 12, 13, 14, 15, 16, 17, 18] u u_40 := Fq_tr F_u_31 G_u_40 rfl rfl
        have g_43 : (u_40.1 0).toInt = (u_31.1 0).toInt := by rw [G_u_40.1 0 rfl]
        refine okM_eq (fun c_44 c_44' => ?_) (fun c_44 => ?_)
        · rw [mC_SqlReader_read_J62]
          refine okM_pos (by decide) ?_
          rw [mC_SqlReader_read_J106]
          refine okM_neg (by decide) ?_
          refine okM_bP (kC_SqlReader_forget I_u_40) (fun u_46 z_45 => ?_)
          obtain ⟨I_u_46, G_u_46⟩ := z_45
          have F_u_46 : Fq [0, 3, 4, 5, 6, 7, 8, 9, 10, 11, 12, 13, 14, 15, 16, 17, 18, 19, 20, 21, 22, 23, 24] [6, 7, 8, 9, 10, 11, 12, 13, 14, 15, 16, 17, 18] u u_46 := Fq_tr F_u_40 G_u_46 rfl rfl
          have g_47 : (u_46.1 0).toInt = (u_40.1 0).toInt := by rw [G_u_46.1 0 rfl]
          exact okM_some ⟨I_u_46, F_u_46, (by have B_48 := IC_b I_u_46; omega)⟩
        · rw [mC_SqlReader_read_J62]
          refine okM_neg (by decide) ?_
          refine okM_bP (kC_Nodes_isOver I_u_40) (fun r_50 z_49 => ?_)
          refine okM_eq (fun c_51 c_51' => ?_) (fun c_51 => ?_)
          · refine okM_bP (kC_Lists_isOver I_u_40) (fun r_53 z_52 => ?_)
            refine okM_eq (fun c_54 c_54' => ?_) (fun c_54 => ?_)
            · refine okM_bM (kC_Meaning_firstError I_u_40) (fun r_56 u_57 z_55 => ?_)
              obtain ⟨I_u_57, G_u_57⟩ := z_55
              have F_u_57 : Fq [0, 3, 4, 5, 6, 7, 8, 9, 10, 11, 12, 13, 14, 15, 16, 17, 18, 19, 20, 21, 22, 23, 24] [6, 7, 8, 9, 10, 11, 12, 13, 14, 15, 16, 17, 18] u u_57 := Fq_tr F_u_40 G_u_57 rfl rfl
              have g_58 : (u_57.1 0).toInt = (u_40.1 0).toInt := by rw [G_u_57.1 0 rfl]
              rw [mC_SqlReader_read_J106]
              refine okM_le (fun c_59 => ?_) (fun c_59 => ?_)
              · exact okM_some ⟨I_u_57, F_u_57, (by have B_60 := IC_b I_u_57; omega)⟩
              · refine okM_bP (kC_SqlReader_forget I_u_57) (fun u_62 z_61 => ?_)
                obtain ⟨I_u_62, G_u_62⟩ := z_61
                have F_u_62 : Fq [0, 3, 4, 5, 6, 7, 8, 9, 10, 11, 12, 13, 14, 15, 16, 17, 18, 19, 20, 21, 22, 23, 24] [6, 7, 8, 9, 10, 11, 12, 13, 14, 15, 16, 17, 18] u u_62 := Fq_tr F_u_57 G_u_62 rfl rfl
                have g_63 : (u_62.1 0).toInt = (u_57.1 0).toInt := by rw [G_u_62.1 0 rfl]
                exact okM_some ⟨I_u_62, F_u_62, (by have B_64 := IC_b I_u_62; omega)⟩
            · rw [mC_SqlReader_read_J106]
              refine okM_neg (by decide) ?_
              refine okM_bP (kC_SqlReader_forget I_u_40) (fun u_66 z_65 => ?_)
              obtain ⟨I_u_66, G_u_66⟩ := z_65
              have F_u_66 : Fq [0, 3, 4, 5, 6, 7, 8, 9, 10, 11, 12, 13, 14, 15, 16, 17, 18, 19, 20, 21, 22, 23, 24] [6, 7, 8, 9, 10, 11, 12, 13, 14, 15, 16, 17, 18] u u_66 := Fq_tr F_u_40 G_u_66 rfl rfl
              have g_67 : (u_66.1 0).toInt = (u_40.1 0).toInt := by rw [G_u_66.1 0 rfl]
              exact okM_some ⟨I_u_66, F_u_66, (by have B_68 := IC_b I_u_66; omega)⟩
          · rw [mC_SqlReader_read_J106]
            refine okM_neg (by decide) ?_
            refine okM_bP (kC_SqlReader_forget I_u_40) (fun u_70 z_69 => ?_)
            obtain ⟨I_u_70, G_u_70⟩ := z_69
            have F_u_70 : Fq [0, 3, 4, 5, 6, 7, 8, 9, 10, 11, 12, 13, 14, 15, 16, 17, 18, 19, 20, 21, 22, 23, 24] [6, 7, 8, 9, 10, 11, 12, 13, 14, 15, 16, 17, 18] u u_70 := Fq_tr F_u_40 G_u_70 rfl rfl
            have g_71 : (u_70.1 0).toInt = (u_40.1 0).toInt := by rw [G_u_70.1 0 rfl]
            exact okM_some ⟨I_u_70, F_u_70, (by have B_72 := IC_b I_u_70; omega)⟩
theorem kC_SqlReader_node {x1 : Int32} {x2 : Int32} {u : St} (I : IC u) : ok (mC_SqlReader_node x1 x2 u) (fun r => True) := by
  have lm1 : (-1 : Int32).toInt = -1 := by decide
  have l0 : (0 : Int32).toInt = 0 := by decide
  have l1 : (1 : Int32).toInt = 1 := by decide
  have l2 : (2 : Int32).toInt = 2 := by decide
  have l3 : (3 : Int32).toInt = 3 := by decide
  rw [mC_SqlReader_node]
  refine ok_eq (fun c_1 c_1' => ?_) (fun c_1 => ?_)
  · refine ok_bP (kC_Nodes_kindOf I) (fun r_3 z_2 => ?_)
    have p_4 := z_2
    exact ok_some trivial
  · refine ok_eq (fun c_5 c_5' => ?_) (fun c_5 => ?_)
    · refine ok_bP (kC_Nodes_firstOf I) (fun r_7 z_6 => ?_)
      have p_8 := z_6
      exact ok_some trivial
    · refine ok_eq (fun c_9 c_9' => ?_) (fun c_9 => ?_)
      · refine ok_bP (kC_Nodes_secondOf I) (fun r_11 z_10 => ?_)
        exact ok_some trivial
      · refine ok_eq (fun c_12 c_12' => ?_) (fun c_12 => ?_)
        · refine ok_bP (kC_Nodes_typeOf I) (fun r_14 z_13 => ?_)
          exact ok_some trivial
        · exact ok_some trivial
theorem kC_SqlReader_value {x1 : Int32} {u : St} (I : IC u) : ok (mC_SqlReader_value x1 u) (fun r => True) := by
  have l0 : (0 : Int32).toInt = 0 := by decide
  have l1 : (1 : Int32).toInt = 1 := by decide
  have l2 : (2 : Int32).toInt = 2 := by decide
  rw [mC_SqlReader_value]
  refine ok_bP (kC_Nodes_kindOf I) (fun r_2 z_1 => ?_)
  have p_3 := z_1
  refine ok_eq (fun c_4 c_4' => ?_) (fun c_4 => ?_)
  · refine ok_bP (kC_Nodes_spanOf I) (fun r_6 z_5 => ?_)
    refine ok_bP (kC_Tokens_numberOf I) (fun r_8 z_7 => ?_)
    have p_9 := z_7
    exact ok_some trivial
  · refine ok_eq (fun c_10 c_10' => ?_) (fun c_10 => ?_)
    · refine ok_bP (kC_Nodes_spanOf I) (fun r_12 z_11 => ?_)
      refine ok_bP (kC_Text_sizeOf I) (fun r_14 z_13 => ?_)
      obtain ⟨p_15, p_16, p_17⟩ := z_13
      exact ok_some trivial
    · exact ok_some trivial
theorem kC_Tokens_text {u : St} (I : IC u) : ok (mC_Tokens_text u) (fun _ => True) := by
  rw [mC_Tokens_text]
  exact ok_some trivial
theorem kC_Text_letterAt {x1 : Int32} {x2 : Int32} {u : St} (I : IC u) : ok (mC_Text_letterAt x1 x2 u) (fun r => True) := by
  have lm1 : (-1 : Int32).toInt = -1 := by decide
  have l0 : (0 : Int32).toInt = 0 := by decide
  rw [mC_Text_letterAt]
  refine ok_lt (fun c_1 => ?_) (fun c_1 => ?_)
  · exact ok_some trivial
  · refine ok_bP (kC_Text_sizeOf I) (fun r_3 z_2 => ?_)
    obtain ⟨p_4, p_5, p_6⟩ := z_2
    refine ok_lt (fun c_7 => ?_) (fun c_7 => ?_)
    · refine ok_bP (kC_Text_startOf I) (fun r_9 z_8 => ?_)
      try have e_10 : (r_9 + x2 : Int32).toInt = (r_9 : Int32).toInt + (x2 : Int32).toInt := by exact add_i (by omega) (by omega)
      refine ok_bP (kC_Text_at_11 I) (fun r_12 z_11 => ?_)
      obtain ⟨p_13, p_14, p_15⟩ := z_11
      exact ok_some trivial
    · exact ok_some trivial
theorem kC_SqlReader_letter {x1 : Int32} {x2 : Int32} {u : St} (I : IC u) : ok (mC_SqlReader_letter x1 x2 u) (fun r => True) := by
  have lm1 : (-1 : Int32).toInt = -1 := by decide
  have l2 : (2 : Int32).toInt = 2 := by decide
  rw [mC_SqlReader_letter]
  refine ok_bP (kC_Nodes_kindOf I) (fun r_2 z_1 => ?_)
  have p_3 := z_1
  refine ok_eq (fun c_4 c_4' => ?_) (fun c_4 => ?_)
  · refine ok_bP (kC_Tokens_text I) (fun r_6 z_5 => ?_)
    refine ok_bP (kC_Nodes_spanOf I) (fun r_8 z_7 => ?_)
    refine ok_bP (kC_Text_letterAt I) (fun r_10 z_9 => ?_)
    exact ok_some trivial
  · exact ok_some trivial
theorem kC_SqlReader_count {x1 : Int32} {u : St} (I : IC u) : ok (mC_SqlReader_count x1 u) (fun r => True) := by
  have lm1 : (-1 : Int32).toInt = -1 := by decide
  have l0 : (0 : Int32).toInt = 0 := by decide
  have l1 : (1 : Int32).toInt = 1 := by decide
  have l2 : (2 : Int32).toInt = 2 := by decide
  have l3 : (3 : Int32).toInt = 3 := by decide
  have l4 : (4 : Int32).toInt = 4 := by decide
  have l5 : (5 : Int32).toInt = 5 := by decide
  have l6 : (6 : Int32).toInt = 6 := by decide
  have l7 : (7 : Int32).toInt = 7 := by decide
  have l8 : (8 : Int32).toInt = 8 := by decide
  have l9 : (9 : Int32).toInt = 9 := by decide
  have l10 : (10 : Int32).toInt = 10 := by decide
  have l11 : (11 : Int32).toInt = 11 := by decide
  have l12 : (12 : Int32).toInt = 12 := by decide
  have l13 : (13 : Int32).toInt = 13 := by decide
  have l14 : (14 : Int32).toInt = 14 := by decide
  have l15 : (15 : Int32).toInt = 15 := by decide
  have l16 : (16 : Int32).toInt = 16 := by decide
  have l17 : (17 : Int32).toInt = 17 := by decide
  have l18 : (18 : Int32).toInt = 18 := by decide
  have l19 : (19 : Int32).toInt = 19 := by decide
  have l20 : (20 : Int32).toInt = 20 := by decide
  rw [mC_SqlReader_count]
  refine ok_eq (fun c_1 c_1' => ?_) (fun c_1 => ?_)
  · refine ok_bP (kC_Nodes_size I) (fun r_3 z_2 => ?_)
    have p_4 := z_2
    exact ok_some trivial
  · refine ok_eq (fun c_5 c_5' => ?_) (fun c_5 => ?_)
    · refine ok_bP (kC_Lists_size I) (fun r_7 z_6 => ?_)
      obtain ⟨p_8, p_9⟩ := z_6
      exact ok_some trivial
    · refine ok_eq (fun c_10 c_10' => ?_) (fun c_10 => ?_)
      · refine ok_bP (kC_Lists_size I) (fun r_12 z_11 => ?_)
        obtain ⟨p_13, p_14⟩ := z_11
        exact ok_some trivial
      · refine ok_eq (fun c_15 c_15' => ?_) (fun c_15 => ?_)
        · refine ok_bP (kC_Lists_size I) (fun r_17 z_16 => ?_)
          obtain ⟨p_18, p_19⟩ := z_16
          exact ok_some trivial
        · refine ok_eq (fun c_20 c_20' => ?_) (fun c_20 => ?_)
          · refine ok_bP (kC_Lists_size I) (fun r_22 z_21 => ?_)
            obtain ⟨p_23, p_24⟩ := z_21
            exact ok_some trivial
          · refine ok_eq (fun c_25 c_25' => ?_) (fun c_25 => ?_)
            · refine ok_bP (kC_Lists_size I) (fun r_27 z_26 => ?_)
              obtain ⟨p_28, p_29⟩ := z_26
              exact ok_some trivial
            · refine ok_eq (fun c_30 c_30' => ?_) (fun c_30 => ?_)
              · refine ok_bP (kC_Lists_size I) (fun r_32 z_31 => ?_)
                obtain ⟨p_33, p_34⟩ := z_31
                exact ok_some trivial
              · refine ok_eq (fun c_35 c_35' => ?_) (fun c_35 => ?_)
                · refine ok_bP (kC_Lists_size I) (fun r_37 z_36 => ?_)
                  obtain ⟨p_38, p_39⟩ := z_36
                  exact ok_some trivial
                · refine ok_eq (fun c_40 c_40' => ?_) (fun c_40 => ?_)
                  · refine ok_bP (kC_Lists_size I) (fun r_42 z_41 => ?_)
                    obtain ⟨p_43, p_44⟩ := z_41
                    exact ok_some trivial
                  · refine ok_eq (fun c_45 c_45' => ?_) (fun c_45 => ?_)
                    · refine ok_bP (kC_Lists_size I) (fun r_47 z_46 => ?_)
                      obtain ⟨p_48, p_49⟩ := z_46
                      exact ok_some trivial
                    · refine ok_eq (fun c_50 c_50' => ?_) (fun c_50 => ?_)
                      · exact ok_some trivial
                      · refine ok_eq (fun c_51 c_51' => ?_) (fun c_51 => ?_)
                        · refine ok_eq (fun c_52 c_52' => ?_) (fun c_52 => ?_)
                          · exact ok_some trivial
                          · exact ok_some trivial
                        · refine ok_eq (fun c_53 c_53' => ?_) (fun c_53 => ?_)
                          · exact ok_some trivial
                          · refine ok_eq (fun c_54 c_54' => ?_) (fun c_54 => ?_)
                            · exact ok_some trivial
                            · refine ok_eq (fun c_55 c_55' => ?_) (fun c_55 => ?_)
                              · refine ok_eq (fun c_56 c_56' => ?_) (fun c_56 => ?_)
                                · exact ok_some trivial
                                · exact ok_some trivial
                              · refine ok_eq (fun c_57 c_57' => ?_) (fun c_57 => ?_)
                                · exact ok_some trivial
                                · refine ok_eq (fun c_58 c_58' => ?_) (fun c_58 => ?_)
                                  · exact ok_some trivial
                                  · refine ok_eq (fun c_59 c_59' => ?_) (fun c_59 => ?_)
                                    · refine ok_eq (fun c_60 c_60' => ?_) (fun c_60 => ?_)
                                      · exact ok_some trivial
                                      · exact ok_some trivial
                                    · exact ok_some trivial
theorem kC_SqlReader_list {x1 : Int32} {x2 : Int32} {u : St} (I : IC u) : ok (mC_SqlReader_list x1 x2 u) (fun r => True) := by
  have lm1 : (-1 : Int32).toInt = -1 := by decide
  have l9 : (9 : Int32).toInt = 9 := by decide
  rw [mC_SqlReader_list]
  refine ok_lt (fun c_1 => ?_) (fun c_1 => ?_)
  · exact ok_some trivial
  · refine ok_bP (kC_Lists_at I) (fun r_3 z_2 => ?_)
    have p_4 := z_2
    exact ok_some trivial
theorem kC_SqlReader_name {x1 : Int32} {x2 : Int32} {u : St} (I : IC u) : ok (mC_SqlReader_name x1 x2 u) (fun r => True) := by
  have lm1 : (-1 : Int32).toInt = -1 := by decide
  have l0 : (0 : Int32).toInt = 0 := by decide
  have l1 : (1 : Int32).toInt = 1 := by decide
  have l9 : (9 : Int32).toInt = 9 := by decide
  have l11 : (11 : Int32).toInt = 11 := by decide
  have l13 : (13 : Int32).toInt = 13 := by decide
  rw [mC_SqlReader_name]
  refine ok_eq (fun c_1 c_1' => ?_) (fun c_1 => ?_)
  · refine ok_bP (kC_Tokens_text I) (fun r_3 z_2 => ?_)
    refine ok_bP (kC_Text_letterAt I) (fun r_5 z_4 => ?_)
    exact ok_some trivial
  · refine ok_eq (fun c_6 c_6' => ?_) (fun c_6 => ?_)
    · rw [mC_SqlReader_name_J40]
      refine ok_neg (by decide) ?_
      refine ok_bP (kC_Tokens_text I) (fun r_8 z_7 => ?_)
      refine ok_bP (kC_Lists_at I) (fun r_10 z_9 => ?_)
      have p_11 := z_9
      refine ok_bP (kC_Text_letterAt I) (fun r_13 z_12 => ?_)
      exact ok_some trivial
    · rw [mC_SqlReader_name_J40]
      refine ok_pos (by decide) ?_
      exact ok_some trivial
