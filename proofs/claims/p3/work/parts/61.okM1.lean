theorem kM_SqlReaderModel_at {x1 : Int32} {u : St} (I : IB u) (h0 : 0 ≤ x1.toInt) : ok (mM_SqlReaderModel_at x1 u) (fun r => (r.toInt = 0 ∧ (u.1 0).toInt ≤ x1.toInt) ∨ (x1.toInt < (u.1 0).toInt ∧ r.toInt = (ga u 0 x1).toInt)) := by
  have l0 : (0 : Int32).toInt = 0 := by decide
  rw [mM_SqlReaderModel_at]
  refine ok_le (fun c_1 => ?_) (fun c_1 => ?_)
  · exact ok_some (by have B_2 := IB_b I; omega)
  · refine ok_gd (inb_of (by have B_3 := IB_b I; omega) (by have B_4 := IB_b I; omega)) ?_
    exact ok_some (by have B_5 := IB_b I; omega)
theorem kM_SqlReaderModel_isCapital {x0 : Int32} {u : St} (I : IB u) : ok (mM_SqlReaderModel_isCapital x0 u) (fun r => 0 ≤ r.toInt ∧ r.toInt ≤ 1 ∧ (r.toInt = 0 ∨ (65 ≤ x0.toInt ∧ x0.toInt ≤ 90))) := by
  have l0 : (0 : Int32).toInt = 0 := by decide
  have l1 : (1 : Int32).toInt = 1 := by decide
  have l65 : (65 : Int32).toInt = 65 := by decide
  have l90 : (90 : Int32).toInt = 90 := by decide
  rw [mM_SqlReaderModel_isCapital]
  refine ok_lt (fun c_1 => ?_) (fun c_1 => ?_)
  · exact ok_some ⟨(by omega), (by omega), (by omega)⟩
  · refine ok_lt (fun c_2 => ?_) (fun c_2 => ?_)
    · exact ok_some ⟨(by omega), (by omega), (by omega)⟩
    · exact ok_some ⟨(by omega), (by omega), (by omega)⟩
theorem kM_SqlReaderModel_isSmall {x0 : Int32} {u : St} (I : IB u) : ok (mM_SqlReaderModel_isSmall x0 u) (fun r => 0 ≤ r.toInt ∧ r.toInt ≤ 1 ∧ (r.toInt = 0 ∨ (97 ≤ x0.toInt ∧ x0.toInt ≤ 122))) := by
  have l0 : (0 : Int32).toInt = 0 := by decide
  have l1 : (1 : Int32).toInt = 1 := by decide
  have l97 : (97 : Int32).toInt = 97 := by decide
  have l122 : (122 : Int32).toInt = 122 := by decide
  rw [mM_SqlReaderModel_isSmall]
  refine ok_lt (fun c_1 => ?_) (fun c_1 => ?_)
  · exact ok_some ⟨(by omega), (by omega), (by omega)⟩
  · refine ok_lt (fun c_2 => ?_) (fun c_2 => ?_)
    · exact ok_some ⟨(by omega), (by omega), (by omega)⟩
    · exact ok_some ⟨(by omega), (by omega), (by omega)⟩
theorem kM_SqlReaderModel_isDigit {x0 : Int32} {u : St} (I : IB u) : ok (mM_SqlReaderModel_isDigit x0 u) (fun r => 0 ≤ r.toInt ∧ r.toInt ≤ 1 ∧ (r.toInt = 0 ∨ (48 ≤ x0.toInt ∧ x0.toInt ≤ 57))) := by
  have l0 : (0 : Int32).toInt = 0 := by decide
  have l1 : (1 : Int32).toInt = 1 := by decide
  have l48 : (48 : Int32).toInt = 48 := by decide
  have l57 : (57 : Int32).toInt = 57 := by decide
  rw [mM_SqlReaderModel_isDigit]
  refine ok_lt (fun c_1 => ?_) (fun c_1 => ?_)
  · exact ok_some ⟨(by omega), (by omega), (by omega)⟩
  · refine ok_lt (fun c_2 => ?_) (fun c_2 => ?_)
    · exact ok_some ⟨(by omega), (by omega), (by omega)⟩
    · exact ok_some ⟨(by omega), (by omega), (by omega)⟩
theorem kM_SqlReaderModel_isInName {x0 : Int32} {u : St} (I : IB u) : ok (mM_SqlReaderModel_isInName x0 u) (fun r => 0 ≤ r.toInt ∧ r.toInt ≤ 1 ∧ (r.toInt = 0 ∨ (48 ≤ x0.toInt ∧ x0.toInt ≤ 122))) := by
  have l0 : (0 : Int32).toInt = 0 := by decide
  have l1 : (1 : Int32).toInt = 1 := by decide
  have l48 : (48 : Int32).toInt = 48 := by decide
  have l95 : (95 : Int32).toInt = 95 := by decide
  have l122 : (122 : Int32).toInt = 122 := by decide
  rw [mM_SqlReaderModel_isInName]
  refine ok_bP (kM_SqlReaderModel_isSmall I) (fun r_2 z_1 => ?_)
  obtain ⟨p_3, p_4, p_5⟩ := z_1
  refine ok_eq (fun c_6 c_6' => ?_) (fun c_6 => ?_)
  · refine ok_bP (kM_SqlReaderModel_isDigit I) (fun r_8 z_7 => ?_)
    obtain ⟨p_9, p_10, p_11⟩ := z_7
    refine ok_eq (fun c_12 c_12' => ?_) (fun c_12 => ?_)
    · refine ok_eq (fun c_13 c_13' => ?_) (fun c_13 => ?_)
      · exact ok_some ⟨(by omega), (by omega), (by omega)⟩
      · exact ok_some ⟨(by omega), (by omega), (by omega)⟩
    · exact ok_some ⟨(by omega), (by omega), (by omega)⟩
  · exact ok_some ⟨(by omega), (by omega), (by omega)⟩
theorem kM_SqlReaderModel_isName_0_5_L28 : ∀ (n : Nat) {x1 : Int32} {x3 : Int32} {x4 : Int32} {x5 : Int32} {x6 : Int32} {u : St} (I : IT u) (h0 : 0 ≤ x1.toInt) (h1 : x1.toInt < (u.1 1).toInt) (h2 : 0 ≤ x3.toInt) (h3 : x3.toInt ≤ 112) (h4 : x4.toInt ≤ 16) (h5 : 0 ≤ x5.toInt) (h6 : x5.toInt ≤ 1) (h7 : 0 ≤ x6.toInt) (h8 : x6.toInt ≤ 16) (h9 : x5.toInt = 0 ∨ (ga u 3 x1).toInt - (ga u 2 x1).toInt = x4.toInt) (hm : (16 - x6.toInt).toNat < n), ok (mM_SqlReaderModel_isName_0_5_L28 n x1 x3 x4 x5 x6 u) (fun r => 0 ≤ r.toInt ∧ r.toInt ≤ 1) := by
  intro n
  induction n with
  | zero => intro x1 x3 x4 x5 x6 u I h0 h1 h2 h3 h4 h5 h6 h7 h8 h9 hm; exact absurd hm (Nat.not_lt_zero _)
  | succ n ih =>
    intro x1 x3 x4 x5 x6 u I h0 h1 h2 h3 h4 h5 h6 h7 h8 h9 hm
    have l0 : (0 : Int32).toInt = 0 := by decide
    have l1 : (1 : Int32).toInt = 1 := by decide
    have l2 : (2 : Int32).toInt = 2 := by decide
    have l3 : (3 : Int32).toInt = 3 := by decide
    have l4 : (4 : Int32).toInt = 4 := by decide
    have l16 : (16 : Int32).toInt = 16 := by decide
    have l112 : (112 : Int32).toInt = 112 := by decide
    rw [mM_SqlReaderModel_isName_0_5_L28]
    have T := IT_tok I x1
    refine ok_eq (fun c_1 c_1' => ?_) (fun c_1 => ?_)
    · refine ok_gd (zb_of (by omega) (by omega)) ?_
      exact ok_some ⟨(by omega), (by omega)⟩
    · refine ok_le (fun c_2 => ?_) (fun c_2 => ?_)
      · refine ok_gd (zb_of (by omega) (by omega)) ?_
        exact ok_some ⟨(by omega), (by omega)⟩
      · refine ok_gd (inb_of (by have B_3 := IT_b I; omega) (by have B_4 := IT_b I; omega)) ?_
        try have e_5 : ((ga u 2 x1) + x6 : Int32).toInt = ((ga u 2 x1) : Int32).toInt + (x6 : Int32).toInt := by have B_6 := IT_b I; exact add_i (by omega) (by omega)
        refine ok_gd (inb_of (by have B_7 := IT_b I; omega) (by have B_8 := IT_b I; omega)) ?_
        try have e_9 : (x3 + x6 : Int32).toInt = (x3 : Int32).toInt + (x6 : Int32).toInt := by have B_10 := IT_b I; exact add_i (by omega) (by omega)
        refine ok_gd (inb_of (by have B_11 := IT_b I; omega) (by have B_12 := IT_b I; omega)) ?_
        refine ok_eq (fun c_13 c_13' => ?_) (fun c_13 => ?_)
        · try have e_16 : (x6 + 1 : Int32).toInt = (x6 : Int32).toInt + (1 : Int32).toInt := by have B_17 := IT_b I; exact add_i (by omega) (by omega)
          refine ok_seq (fun y_15 h_14 => ?_)
          have h_14' : y_15.toInt = (x6 + 1 : Int32).toInt := by rw [h_14]
          refine ok_mono (ih I (by have B_18 := IT_b I; omega) (by have B_19 := IT_b I; omega) (by have B_20 := IT_b I; omega) (by have B_21 := IT_b I; omega) (by have B_22 := IT_b I; omega) (by have B_23 := IT_b I; omega) (by have B_24 := IT_b I; omega) (by have B_25 := IT_b I; omega) (by have B_26 := IT_b I; omega) (by have B_27 := IT_b I; omega) (by have B_28 := IT_b I; omega)) (fun r_30 z_29 => ?_)
          obtain ⟨p_31, p_32⟩ := z_29
          exact ⟨(by omega), (by omega)⟩
        · try have e_35 : (x6 + 1 : Int32).toInt = (x6 : Int32).toInt + (1 : Int32).toInt := by have B_36 := IT_b I; exact add_i (by omega) (by omega)
          refine ok_seq (fun y_34 h_33 => ?_)
          have h_33' : y_34.toInt = (x6 + 1 : Int32).toInt := by rw [h_33]
          refine ok_mono (ih I (by have B_37 := IT_b I; omega) (by have B_38 := IT_b I; omega) (by have B_39 := IT_b I; omega) (by have B_40 := IT_b I; omega) (by have B_41 := IT_b I; omega) (by have B_42 := IT_b I; omega) (by have B_43 := IT_b I; omega) (by have B_44 := IT_b I; omega) (by have B_45 := IT_b I; omega) (by have B_46 := IT_b I; omega) (by have B_47 := IT_b I; omega)) (fun r_49 z_48 => ?_)
          obtain ⟨p_50, p_51⟩ := z_48
          exact ⟨(by omega), (by omega)⟩
theorem kM_SqlReaderModel_isName_0_5 {x1 : Int32} {x3 : Int32} {x4 : Int32} {u : St} (I : IT u) (h0 : 0 ≤ x1.toInt) (h1 : x1.toInt < (u.1 1).toInt) (h2 : 0 ≤ x3.toInt) (h3 : x3.toInt ≤ 112) (h4 : x4.toInt ≤ 16) : ok (mM_SqlReaderModel_isName_0_5 x1 x3 x4 u) (fun r => 0 ≤ r.toInt ∧ r.toInt ≤ 1) := by
  have l0 : (0 : Int32).toInt = 0 := by decide
  have l1 : (1 : Int32).toInt = 1 := by decide
  have l2 : (2 : Int32).toInt = 2 := by decide
  have l3 : (3 : Int32).toInt = 3 := by decide
  have l16 : (16 : Int32).toInt = 16 := by decide
  have l112 : (112 : Int32).toInt = 112 := by decide
  rw [mM_SqlReaderModel_isName_0_5]
  have T := IT_tok I x1
  refine ok_gd (inb_of (by have B_1 := IT_b I; omega) (by have B_2 := IT_b I; omega)) ?_
  refine ok_gd (inb_of (by have B_3 := IT_b I; omega) (by have B_4 := IT_b I; omega)) ?_
  try have e_5 : ((ga u 3 x1) - (ga u 2 x1) : Int32).toInt = ((ga u 3 x1) : Int32).toInt - ((ga u 2 x1) : Int32).toInt := by have B_6 := IT_b I; exact sub_i (by omega) (by omega)
  refine ok_eq (fun c_7 c_7' => ?_) (fun c_7 => ?_)
  · refine ok_mono (kM_SqlReaderModel_isName_0_5_L28 _ I (by have FUe : FU = 100000 := rfl; have B_8 := IT_b I; omega) (by have FUe : FU = 100000 := rfl; have B_9 := IT_b I; omega) (by have FUe : FU = 100000 := rfl; have B_10 := IT_b I; omega) (by have FUe : FU = 100000 := rfl; have B_11 := IT_b I; omega) (by have FUe : FU = 100000 := rfl; have B_12 := IT_b I; omega) (by have FUe : FU = 100000 := rfl; have B_13 := IT_b I; omega) (by have FUe : FU = 100000 := rfl; have B_14 := IT_b I; omega) (by have FUe : FU = 100000 := rfl; have B_15 := IT_b I; omega) (by have FUe : FU = 100000 := rfl; have B_16 := IT_b I; omega) (by have FUe : FU = 100000 := rfl; have B_17 := IT_b I; omega) (by have FUe : FU = 100000 := rfl; have B_18 := IT_b I; omega)) (fun r_20 z_19 => ?_)
    obtain ⟨p_21, p_22⟩ := z_19
    exact ⟨(by omega), (by omega)⟩
  · refine ok_mono (kM_SqlReaderModel_isName_0_5_L28 _ I (by have FUe : FU = 100000 := rfl; have B_23 := IT_b I; omega) (by have FUe : FU = 100000 := rfl; have B_24 := IT_b I; omega) (by have FUe : FU = 100000 := rfl; have B_25 := IT_b I; omega) (by have FUe : FU = 100000 := rfl; have B_26 := IT_b I; omega) (by have FUe : FU = 100000 := rfl; have B_27 := IT_b I; omega) (by have FUe : FU = 100000 := rfl; have B_28 := IT_b I; omega) (by have FUe : FU = 100000 := rfl; have B_29 := IT_b I; omega) (by have FUe : FU = 100000 := rfl; have B_30 := IT_b I; omega) (by have FUe : FU = 100000 := rfl; have B_31 := IT_b I; omega) (by have FUe : FU = 100000 := rfl; have B_32 := IT_b I; omega) (by have FUe : FU = 100000 := rfl; have B_33 := IT_b I; omega)) (fun r_35 z_34 => ?_)
    obtain ⟨p_36, p_37⟩ := z_34
    exact ⟨(by omega), (by omega)⟩
theorem kM_SqlReaderModel_tableOf_L4 : ∀ (n : Nat) {x1 : Int32} {x2 : Int32} {x3 : Int32} {u : St} (I : IT u) (h0 : 0 ≤ x1.toInt) (h1 : x1.toInt < (u.1 1).toInt) (h2 : 0 ≤ x3.toInt) (h3 : x3.toInt ≤ 8) (h4 : -1 ≤ x2.toInt) (h5 : x2.toInt ≤ 7) (hm : (8 - x3.toInt).toNat < n), ok (mM_SqlReaderModel_tableOf_L4 n x1 x2 x3 u) (fun r => -1 ≤ r.toInt ∧ r.toInt ≤ 7) := by
  intro n
  induction n with
  | zero => intro x1 x2 x3 u I h0 h1 h2 h3 h4 h5 hm; exact absurd hm (Nat.not_lt_zero _)
  | succ n ih =>
    intro x1 x2 x3 u I h0 h1 h2 h3 h4 h5 hm
    have l0 : (0 : Int32).toInt = 0 := by decide
    have l1 : (1 : Int32).toInt = 1 := by decide
    have l3 : (3 : Int32).toInt = 3 := by decide
    have l5 : (5 : Int32).toInt = 5 := by decide
    have l7 : (7 : Int32).toInt = 7 := by decide
    have l8 : (8 : Int32).toInt = 8 := by decide
    have l16 : (16 : Int32).toInt = 16 := by decide
    have l112 : (112 : Int32).toInt = 112 := by decide
    rw [mM_SqlReaderModel_tableOf_L4]
    have T := IT_a5 I x3
    refine ok_le (fun c_1 => ?_) (fun c_1 => ?_)
    · exact ok_some ⟨(by omega), (by omega)⟩
    · refine ok_gd (inb_of (by have B_2 := IT_b I; omega) (by have B_3 := IT_b I; omega)) ?_
      try have e_4 : (16 * x3 : Int32).toInt = 16 * (x3 : Int32).toInt := by have B_5 := IT_b I; exact cmu_i l16 (by omega) (by omega)
      refine ok_bP (kM_SqlReaderModel_isName_0_5 I (by have FUe : FU = 100000 := rfl; have B_7 := IT_b I; omega) (by have FUe : FU = 100000 := rfl; have B_8 := IT_b I; omega) (by have FUe : FU = 100000 := rfl; have B_9 := IT_b I; omega) (by have FUe : FU = 100000 := rfl; have B_10 := IT_b I; omega) (by have FUe : FU = 100000 := rfl; have B_11 := IT_b I; omega)) (fun r_12 z_6 => ?_)
      obtain ⟨p_13, p_14⟩ := z_6
      refine ok_eq (fun c_15 c_15' => ?_) (fun c_15 => ?_)
      · try have e_18 : (x3 + 1 : Int32).toInt = (x3 : Int32).toInt + (1 : Int32).toInt := by have B_19 := IT_b I; exact add_i (by omega) (by omega)
        refine ok_seq (fun y_17 h_16 => ?_)
        have h_16' : y_17.toInt = (x3 + 1 : Int32).toInt := by rw [h_16]
        refine ok_mono (ih I (by have B_20 := IT_b I; omega) (by have B_21 := IT_b I; omega) (by have B_22 := IT_b I; omega) (by have B_23 := IT_b I; omega) (by have B_24 := IT_b I; omega) (by have B_25 := IT_b I; omega) (by have B_26 := IT_b I; omega)) (fun r_28 z_27 => ?_)
        obtain ⟨p_29, p_30⟩ := z_27
        exact ⟨(by omega), (by omega)⟩
      · try have e_33 : (x3 + 1 : Int32).toInt = (x3 : Int32).toInt + (1 : Int32).toInt := by have B_34 := IT_b I; exact add_i (by omega) (by omega)
        refine ok_seq (fun y_32 h_31 => ?_)
        have h_31' : y_32.toInt = (x3 + 1 : Int32).toInt := by rw [h_31]
        refine ok_mono (ih I (by have B_35 := IT_b I; omega) (by have B_36 := IT_b I; omega) (by have B_37 := IT_b I; omega) (by have B_38 := IT_b I; omega) (by have B_39 := IT_b I; omega) (by have B_40 := IT_b I; omega) (by have B_41 := IT_b I; omega)) (fun r_43 z_42 => ?_)
        obtain ⟨p_44, p_45⟩ := z_42
        exact ⟨(by omega), (by omega)⟩
theorem kM_SqlReaderModel_tableOf {x1 : Int32} {u : St} (I : IT u) (h0 : 0 ≤ x1.toInt) (h1 : x1.toInt < (u.1 1).toInt) : ok (mM_SqlReaderModel_tableOf x1 u) (fun r => -1 ≤ r.toInt ∧ r.toInt ≤ 7) := by
  have lm1 : (-1 : Int32).toInt = -1 := by decide
  have l0 : (0 : Int32).toInt = 0 := by decide
  have l1 : (1 : Int32).toInt = 1 := by decide
  have l7 : (7 : Int32).toInt = 7 := by decide
  have l8 : (8 : Int32).toInt = 8 := by decide
  rw [mM_SqlReaderModel_tableOf]
  refine ok_mono (kM_SqlReaderModel_tableOf_L4 _ I (by have FUe : FU = 100000 := rfl; have B_1 := IT_b I; omega) (by have FUe : FU = 100000 := rfl; have B_2 := IT_b I; omega) (by have FUe : FU = 100000 := rfl; have B_3 := IT_b I; omega) (by have FUe : FU = 100000 := rfl; have B_4 := IT_b I; omega) (by have FUe : FU = 100000 := rfl; have B_5 := IT_b I; omega) (by have FUe : FU = 100000 := rfl; have B_6 := IT_b I; omega) (by have FUe : FU = 100000 := rfl; have B_7 := IT_b I; omega)) (fun r_9 z_8 => ?_)
  obtain ⟨p_10, p_11⟩ := z_8
  exact ⟨(by omega), (by omega)⟩
theorem kM_SqlReaderModel_isName_0_8_L28 : ∀ (n : Nat) {x1 : Int32} {x3 : Int32} {x4 : Int32} {x5 : Int32} {x6 : Int32} {u : St} (I : IT u) (h0 : 0 ≤ x1.toInt) (h1 : x1.toInt < (u.1 1).toInt) (h2 : 0 ≤ x3.toInt) (h3 : x3.toInt ≤ 1008) (h4 : x4.toInt ≤ 16) (h5 : 0 ≤ x5.toInt) (h6 : x5.toInt ≤ 1) (h7 : 0 ≤ x6.toInt) (h8 : x6.toInt ≤ 16) (h9 : x5.toInt = 0 ∨ (ga u 3 x1).toInt - (ga u 2 x1).toInt = x4.toInt) (hm : (16 - x6.toInt).toNat < n), ok (mM_SqlReaderModel_isName_0_8_L28 n x1 x3 x4 x5 x6 u) (fun r => 0 ≤ r.toInt ∧ r.toInt ≤ 1) := by
  intro n
  induction n with
  | zero => intro x1 x3 x4 x5 x6 u I h0 h1 h2 h3 h4 h5 h6 h7 h8 h9 hm; exact absurd hm (Nat.not_lt_zero _)
  | succ n ih =>
    intro x1 x3 x4 x5 x6 u I h0 h1 h2 h3 h4 h5 h6 h7 h8 h9 hm
    have l0 : (0 : Int32).toInt = 0 := by decide
    have l1 : (1 : Int32).toInt = 1 := by decide
    have l2 : (2 : Int32).toInt = 2 := by decide
    have l3 : (3 : Int32).toInt = 3 := by decide
    have l7 : (7 : Int32).toInt = 7 := by decide
    have l16 : (16 : Int32).toInt = 16 := by decide
    have l1008 : (1008 : Int32).toInt = 1008 := by decide
    rw [mM_SqlReaderModel_isName_0_8_L28]
    have T := IT_tok I x1
    refine ok_eq (fun c_1 c_1' => ?_) (fun c_1 => ?_)
    · refine ok_gd (zb_of (by omega) (by omega)) ?_
      exact ok_some ⟨(by omega), (by omega)⟩
    · refine ok_le (fun c_2 => ?_) (fun c_2 => ?_)
      · refine ok_gd (zb_of (by omega) (by omega)) ?_
        exact ok_some ⟨(by omega), (by omega)⟩
      · refine ok_gd (inb_of (by have B_3 := IT_b I; omega) (by have B_4 := IT_b I; omega)) ?_
        try have e_5 : ((ga u 2 x1) + x6 : Int32).toInt = ((ga u 2 x1) : Int32).toInt + (x6 : Int32).toInt := by have B_6 := IT_b I; exact add_i (by omega) (by omega)
        refine ok_gd (inb_of (by have B_7 := IT_b I; omega) (by have B_8 := IT_b I; omega)) ?_
        try have e_9 : (x3 + x6 : Int32).toInt = (x3 : Int32).toInt + (x6 : Int32).toInt := by have B_10 := IT_b I; exact add_i (by omega) (by omega)
        refine ok_gd (inb_of (by have B_11 := IT_b I; omega) (by have B_12 := IT_b I; omega)) ?_
        refine ok_eq (fun c_13 c_13' => ?_) (fun c_13 => ?_)
        · try have e_16 : (x6 + 1 : Int32).toInt = (x6 : Int32).toInt + (1 : Int32).toInt := by have B_17 := IT_b I; exact add_i (by omega) (by omega)
          refine ok_seq (fun y_15 h_14 => ?_)
          have h_14' : y_15.toInt = (x6 + 1 : Int32).toInt := by rw [h_14]
          refine ok_mono (ih I (by have B_18 := IT_b I; omega) (by have B_19 := IT_b I; omega) (by have B_20 := IT_b I; omega) (by have B_21 := IT_b I; omega) (by have B_22 := IT_b I; omega) (by have B_23 := IT_b I; omega) (by have B_24 := IT_b I; omega) (by have B_25 := IT_b I; omega) (by have B_26 := IT_b I; omega) (by have B_27 := IT_b I; omega) (by have B_28 := IT_b I; omega)) (fun r_30 z_29 => ?_)
          obtain ⟨p_31, p_32⟩ := z_29
          exact ⟨(by omega), (by omega)⟩
        · try have e_35 : (x6 + 1 : Int32).toInt = (x6 : Int32).toInt + (1 : Int32).toInt := by have B_36 := IT_b I; exact add_i (by omega) (by omega)
          refine ok_seq (fun y_34 h_33 => ?_)
          have h_33' : y_34.toInt = (x6 + 1 : Int32).toInt := by rw [h_33]
          refine ok_mono (ih I (by have B_37 := IT_b I; omega) (by have B_38 := IT_b I; omega) (by have B_39 := IT_b I; omega) (by have B_40 := IT_b I; omega) (by have B_41 := IT_b I; omega) (by have B_42 := IT_b I; omega) (by have B_43 := IT_b I; omega) (by have B_44 := IT_b I; omega) (by have B_45 := IT_b I; omega) (by have B_46 := IT_b I; omega) (by have B_47 := IT_b I; omega)) (fun r_49 z_48 => ?_)
          obtain ⟨p_50, p_51⟩ := z_48
          exact ⟨(by omega), (by omega)⟩
theorem kM_SqlReaderModel_isName_0_8 {x1 : Int32} {x3 : Int32} {x4 : Int32} {u : St} (I : IT u) (h0 : 0 ≤ x1.toInt) (h1 : x1.toInt < (u.1 1).toInt) (h2 : 0 ≤ x3.toInt) (h3 : x3.toInt ≤ 1008) (h4 : x4.toInt ≤ 16) : ok (mM_SqlReaderModel_isName_0_8 x1 x3 x4 u) (fun r => 0 ≤ r.toInt ∧ r.toInt ≤ 1) := by
  have l0 : (0 : Int32).toInt = 0 := by decide
  have l1 : (1 : Int32).toInt = 1 := by decide
  have l2 : (2 : Int32).toInt = 2 := by decide
  have l3 : (3 : Int32).toInt = 3 := by decide
  have l16 : (16 : Int32).toInt = 16 := by decide
  have l1008 : (1008 : Int32).toInt = 1008 := by decide
  rw [mM_SqlReaderModel_isName_0_8]
  have T := IT_tok I x1
  refine ok_gd (inb_of (by have B_1 := IT_b I; omega) (by have B_2 := IT_b I; omega)) ?_
  refine ok_gd (inb_of (by have B_3 := IT_b I; omega) (by have B_4 := IT_b I; omega)) ?_
  try have e_5 : ((ga u 3 x1) - (ga u 2 x1) : Int32).toInt = ((ga u 3 x1) : Int32).toInt - ((ga u 2 x1) : Int32).toInt := by have B_6 := IT_b I; exact sub_i (by omega) (by omega)
  refine ok_eq (fun c_7 c_7' => ?_) (fun c_7 => ?_)
  · refine ok_mono (kM_SqlReaderModel_isName_0_8_L28 _ I (by have FUe : FU = 100000 := rfl; have B_8 := IT_b I; omega) (by have FUe : FU = 100000 := rfl; have B_9 := IT_b I; omega) (by have FUe : FU = 100000 := rfl; have B_10 := IT_b I; omega) (by have FUe : FU = 100000 := rfl; have B_11 := IT_b I; omega) (by have FUe : FU = 100000 := rfl; have B_12 := IT_b I; omega) (by have FUe : FU = 100000 := rfl; have B_13 := IT_b I; omega) (by have FUe : FU = 100000 := rfl; have B_14 := IT_b I; omega) (by have FUe : FU = 100000 := rfl; have B_15 := IT_b I; omega) (by have FUe : FU = 100000 := rfl; have B_16 := IT_b I; omega) (by have FUe : FU = 100000 := rfl; have B_17 := IT_b I; omega) (by have FUe : FU = 100000 := rfl; have B_18 := IT_b I; omega)) (fun r_20 z_19 => ?_)
    obtain ⟨p_21, p_22⟩ := z_19
    exact ⟨(by omega), (by omega)⟩
  · refine ok_mono (kM_SqlReaderModel_isName_0_8_L28 _ I (by have FUe : FU = 100000 := rfl; have B_23 := IT_b I; omega) (by have FUe : FU = 100000 := rfl; have B_24 := IT_b I; omega) (by have FUe : FU = 100000 := rfl; have B_25 := IT_b I; omega) (by have FUe : FU = 100000 := rfl; have B_26 := IT_b I; omega) (by have FUe : FU = 100000 := rfl; have B_27 := IT_b I; omega) (by have FUe : FU = 100000 := rfl; have B_28 := IT_b I; omega) (by have FUe : FU = 100000 := rfl; have B_29 := IT_b I; omega) (by have FUe : FU = 100000 := rfl; have B_30 := IT_b I; omega) (by have FUe : FU = 100000 := rfl; have B_31 := IT_b I; omega) (by have FUe : FU = 100000 := rfl; have B_32 := IT_b I; omega) (by have FUe : FU = 100000 := rfl; have B_33 := IT_b I; omega)) (fun r_35 z_34 => ?_)
    obtain ⟨p_36, p_37⟩ := z_34
    exact ⟨(by omega), (by omega)⟩
theorem kM_SqlReaderModel_columnOf_L5 : ∀ (n : Nat) {x1 : Int32} {x2 : Int32} {x3 : Int32} {x4 : Int32} {u : St} (I : IT u) (h0 : 0 ≤ x1.toInt) (h1 : x1.toInt ≤ 7) (h2 : 0 ≤ x2.toInt) (h3 : x2.toInt < (u.1 1).toInt) (h4 : 0 ≤ x4.toInt) (h5 : x4.toInt ≤ 8) (h6 : -1 ≤ x3.toInt) (h7 : x3.toInt ≤ 7) (hm : (8 - x4.toInt).toNat < n), ok (mM_SqlReaderModel_columnOf_L5 n x1 x2 x3 x4 u) (fun r => -1 ≤ r.toInt ∧ r.toInt ≤ 7) := by
  intro n
  induction n with
  | zero => intro x1 x2 x3 x4 u I h0 h1 h2 h3 h4 h5 h6 h7 hm; exact absurd hm (Nat.not_lt_zero _)
  | succ n ih =>
    intro x1 x2 x3 x4 u I h0 h1 h2 h3 h4 h5 h6 h7 hm
    have l0 : (0 : Int32).toInt = 0 := by decide
    have l1 : (1 : Int32).toInt = 1 := by decide
    have l6 : (6 : Int32).toInt = 6 := by decide
    have l7 : (7 : Int32).toInt = 7 := by decide
    have l8 : (8 : Int32).toInt = 8 := by decide
    have l16 : (16 : Int32).toInt = 16 := by decide
    have l1008 : (1008 : Int32).toInt = 1008 := by decide
    rw [mM_SqlReaderModel_columnOf_L5]
    have T := IT_a6 I x1
    have T8 := IT_a8 I ((8 * x1) + x4)
    refine ok_gd (inb_of (by have B_1 := IT_b I; omega) (by have B_2 := IT_b I; omega)) ?_
    refine ok_le (fun c_3 => ?_) (fun c_3 => ?_)
    · exact ok_some ⟨(by omega), (by omega)⟩
    · try have e_4 : (8 * x1 : Int32).toInt = 8 * (x1 : Int32).toInt := by have B_5 := IT_b I; exact cmu_i l8 (by omega) (by omega)
      try have e_6 : ((8 * x1) + x4 : Int32).toInt = ((8 * x1) : Int32).toInt + (x4 : Int32).toInt := by have B_7 := IT_b I; exact add_i (by omega) (by omega)
      refine ok_gd (inb_of (by have B_8 := IT_b I; omega) (by have B_9 := IT_b I; omega)) ?_
      try have e_10 : (8 * x1 : Int32).toInt = 8 * (x1 : Int32).toInt := by have B_11 := IT_b I; exact cmu_i l8 (by omega) (by omega)
      try have e_12 : ((8 * x1) + x4 : Int32).toInt = ((8 * x1) : Int32).toInt + (x4 : Int32).toInt := by have B_13 := IT_b I; exact add_i (by omega) (by omega)
      try have e_14 : (16 * ((8 * x1) + x4) : Int32).toInt = 16 * (((8 * x1) + x4) : Int32).toInt := by have B_15 := IT_b I; exact cmu_i l16 (by omega) (by omega)
      refine ok_bP (kM_SqlReaderModel_isName_0_8 I (by have FUe : FU = 100000 := rfl; have B_17 := IT_b I; omega) (by have FUe : FU = 100000 := rfl; have B_18 := IT_b I; omega) (by have FUe : FU = 100000 := rfl; have B_19 := IT_b I; omega) (by have FUe : FU = 100000 := rfl; have B_20 := IT_b I; omega) (by have FUe : FU = 100000 := rfl; have B_21 := IT_b I; omega)) (fun r_22 z_16 => ?_)
      obtain ⟨p_23, p_24⟩ := z_16
      refine ok_eq (fun c_25 c_25' => ?_) (fun c_25 => ?_)
      · try have e_28 : (x4 + 1 : Int32).toInt = (x4 : Int32).toInt + (1 : Int32).toInt := by have B_29 := IT_b I; exact add_i (by omega) (by omega)
        refine ok_seq (fun y_27 h_26 => ?_)
        have h_26' : y_27.toInt = (x4 + 1 : Int32).toInt := by rw [h_26]
        refine ok_mono (ih I (by have B_30 := IT_b I; omega) (by have B_31 := IT_b I; omega) (by have B_32 := IT_b I; omega) (by have B_33 := IT_b I; omega) (by have B_34 := IT_b I; omega) (by have B_35 := IT_b I; omega) (by have B_36 := IT_b I; omega) (by have B_37 := IT_b I; omega) (by have B_38 := IT_b I; omega)) (fun r_40 z_39 => ?_)
        obtain ⟨p_41, p_42⟩ := z_39
        exact ⟨(by omega), (by omega)⟩
      · try have e_45 : (x4 + 1 : Int32).toInt = (x4 : Int32).toInt + (1 : Int32).toInt := by have B_46 := IT_b I; exact add_i (by omega) (by omega)
        refine ok_seq (fun y_44 h_43 => ?_)
        have h_43' : y_44.toInt = (x4 + 1 : Int32).toInt := by rw [h_43]
        refine ok_mono (ih I (by have B_47 := IT_b I; omega) (by have B_48 := IT_b I; omega) (by have B_49 := IT_b I; omega) (by have B_50 := IT_b I; omega) (by have B_51 := IT_b I; omega) (by have B_52 := IT_b I; omega) (by have B_53 := IT_b I; omega) (by have B_54 := IT_b I; omega) (by have B_55 := IT_b I; omega)) (fun r_57 z_56 => ?_)
        obtain ⟨p_58, p_59⟩ := z_56
        exact ⟨(by omega), (by omega)⟩
theorem kM_SqlReaderModel_columnOf {x1 : Int32} {x2 : Int32} {u : St} (I : IT u) (h0 : 0 ≤ x1.toInt) (h1 : x1.toInt ≤ 7) (h2 : 0 ≤ x2.toInt) (h3 : x2.toInt < (u.1 1).toInt) : ok (mM_SqlReaderModel_columnOf x1 x2 u) (fun r => -1 ≤ r.toInt ∧ r.toInt ≤ 7) := by
  have lm1 : (-1 : Int32).toInt = -1 := by decide
  have l0 : (0 : Int32).toInt = 0 := by decide
  have l1 : (1 : Int32).toInt = 1 := by decide
  have l7 : (7 : Int32).toInt = 7 := by decide
  have l8 : (8 : Int32).toInt = 8 := by decide
  rw [mM_SqlReaderModel_columnOf]
  refine ok_mono (kM_SqlReaderModel_columnOf_L5 _ I (by have FUe : FU = 100000 := rfl; have B_1 := IT_b I; omega) (by have FUe : FU = 100000 := rfl; have B_2 := IT_b I; omega) (by have FUe : FU = 100000 := rfl; have B_3 := IT_b I; omega) (by have FUe : FU = 100000 := rfl; have B_4 := IT_b I; omega) (by have FUe : FU = 100000 := rfl; have B_5 := IT_b I; omega) (by have FUe : FU = 100000 := rfl; have B_6 := IT_b I; omega) (by have FUe : FU = 100000 := rfl; have B_7 := IT_b I; omega) (by have FUe : FU = 100000 := rfl; have B_8 := IT_b I; omega) (by have FUe : FU = 100000 := rfl; have B_9 := IT_b I; omega)) (fun r_11 z_10 => ?_)
  obtain ⟨p_12, p_13⟩ := z_10
  exact ⟨(by omega), (by omega)⟩
theorem kM_String_coder {k0 : Nat} {u : St} (I : IB u) (h0 : stok k0 = true) : ok (mM_String_coder k0 u) (fun r => r = 0) := by
  rw [mM_String_coder]
  exact ok_gd h0 (ok_some rfl)
theorem kM_String_length {k0 : Nat} {u : St} (I : IB u) (h0 : stok k0 = true) : ok (mM_String_length k0 u) (fun r => r.toInt = (lnK k0 : Int) ∧ r.toInt ≤ 50 ∧ r = nI (lnK k0)) := by
  have b : lnK k0 ≤ 50 := lnK_le (of_decide_eq_true h0)
  rw [mM_String_length]
  refine ok_gd h0 (ok_gd h0 (ok_gd h0 (ok_bP (kM_String_coder I h0) (fun r hr => ok_some ?_))))
  subst hr
  rw [pk_shrN (by omega) _ 0 (by decide), Nat.pow_zero, Nat.div_one, nI_toInt (by omega)]
  exact ⟨rfl, by omega, rfl⟩
theorem kM_String_isLatin1 {k0 : Nat} {u : St} (I : IB u) (h0 : stok k0 = true) : ok (mM_String_isLatin1 k0 u) (fun r => r = 1) := by
  rw [mM_String_isLatin1]
  exact ok_gd h0 (ok_some rfl)
theorem kM_Preconditions_checkIndex {x0 : Int32} {x1 : Int32} {u : St} (I : IB u) (h0 : 0 ≤ x0.toInt) (h1 : x0.toInt < x1.toInt) : ok (mM_Preconditions_checkIndex x0 x1 u) (fun r => True) := by
  have l0 : (0 : Int32).toInt = 0 := by decide
  rw [mM_Preconditions_checkIndex]
  refine ok_lt (fun c_1 => ?_) (fun c_1 => ?_)
  · exfalso; omega
  · refine ok_lt (fun c_2 => ?_) (fun c_2 => ?_)
    · exact ok_some trivial
    · exfalso; omega
theorem kM_String_checkIndex {x0 : Int32} {x1 : Int32} {u : St} (I : IB u) (h0 : 0 ≤ x0.toInt) (h1 : x0.toInt < x1.toInt) : ok (mM_String_checkIndex x0 x1 u) (fun _ => True) := by
  have l0 : (0 : Int32).toInt = 0 := by decide
  rw [mM_String_checkIndex]
  refine ok_bP (kM_Preconditions_checkIndex I (by have FUe : FU = 100000 := rfl; have B_2 := IB_b I; omega) (by have FUe : FU = 100000 := rfl; have B_3 := IB_b I; omega)) (fun r_4 z_1 => ?_)
  exact ok_some trivial
theorem kM_StringLatin1_charAt {k0 : Nat} {x1 : Int32} {u : St} (I : IB u) (h0 : stok k0 = true) (h1 : 0 ≤ x1.toInt) (h2 : x1.toInt < (lnK k0 : Int)) : ok (mM_StringLatin1_charAt k0 x1 u) (fun r => cb r = true) := by
  have b : lnK k0 ≤ 50 := lnK_le (of_decide_eq_true h0)
  have e : (nI (lnK k0)).toInt = lnK k0 := nI_toInt (by omega)
  rw [mM_StringLatin1_charAt]
  refine ok_gd h0 (ok_bP (kM_String_checkIndex I (by omega) (by omega)) (fun _ _ => ok_gd h0 (ok_gd (inb_of (by omega) (by omega)) (ok_some ?_))))
  exact decide_eq_true (i2c_i2c _)
theorem kM_String_charAt {k0 : Nat} {x1 : Int32} {u : St} (I : IB u) (h0 : stok k0 = true) (h1 : 0 ≤ x1.toInt) (h2 : x1.toInt < (lnK k0 : Int)) : ok (mM_String_charAt k0 x1 u) (fun r => True) := by
  rw [mM_String_charAt]
  refine ok_gd h0 (ok_bP (kM_String_isLatin1 I h0) (fun r hr => ?_))
  subst hr
  exact ok_neg (by decide) (ok_gd h0 (ok_bP (kM_StringLatin1_charAt I h0 h1 h2) (fun r hr => ok_gd hr (ok_some trivial))))
theorem kM_SqlReaderModel_is_L58 : ∀ (n : Nat) {x1 : Int32} {k2 : Nat} {x3 : Int32} {x4 : Int32} {u : St} (I : IW u) (h0 : stok k2 = true) (h1 : 0 ≤ x4.toInt) (h2 : x4.toInt ≤ 50) (h3 : 0 ≤ x3.toInt) (h4 : x3.toInt ≤ 1) (h5 : x3.toInt = 0 ∨ (0 ≤ x1.toInt ∧ x1.toInt ≤ 2000 ∧ 0 ≤ (ga u 2 x1).toInt ∧ (ga u 2 x1).toInt + (lnK k2 : Int) ≤ 2000)) (hm : (50 - x4.toInt).toNat < n), ok (mM_SqlReaderModel_is_L58 n x1 k2 x3 x4 u) (fun r => 0 ≤ r.toInt ∧ r.toInt ≤ 1 ∧ (r.toInt = 0 ∨ x3.toInt = 1)) := by
  intro n
  induction n with
  | zero => intro x1 k2 x3 x4 u I h0 h1 h2 h3 h4 h5 hm; exact absurd hm (Nat.not_lt_zero _)
  | succ n ih =>
    intro x1 k2 x3 x4 u I h0 h1 h2 h3 h4 h5 hm
    have l0 : (0 : Int32).toInt = 0 := by decide
    have l1 : (1 : Int32).toInt = 1 := by decide
    have l2 : (2 : Int32).toInt = 2 := by decide
    have l50 : (50 : Int32).toInt = 50 := by decide
    have l2000 : (2000 : Int32).toInt = 2000 := by decide
    rw [mM_SqlReaderModel_is_L58]
    refine ok_eq (fun c_1 c_1' => ?_) (fun c_1 => ?_)
    · refine ok_gd (zb_of (by omega) (by omega)) ?_
      exact ok_some ⟨(by omega), (by omega), (by omega)⟩
    · refine ok_gd h0 ?_
      refine ok_bP (kM_String_length (IW_IB I) h0) (fun r_3 z_2 => ?_)
      obtain ⟨p_4, p_5, p_6⟩ := z_2
      refine ok_le (fun c_7 => ?_) (fun c_7 => ?_)
      · refine ok_gd (zb_of (by omega) (by omega)) ?_
        exact ok_some ⟨(by omega), (by omega), (by omega)⟩
      · refine ok_gd (inb_of (by have B_8 := IW_b I; omega) (by have B_9 := IW_b I; omega)) ?_
        try have e_10 : ((ga u 2 x1) + x4 : Int32).toInt = ((ga u 2 x1) : Int32).toInt + (x4 : Int32).toInt := by have B_11 := IW_b I; exact add_i (by omega) (by omega)
        refine ok_gd (inb_of (by have B_12 := IW_b I; omega) (by have B_13 := IW_b I; omega)) ?_
        refine ok_gd h0 ?_
        refine ok_bP (kM_String_charAt (IW_IB I) h0 (by have FUe : FU = 100000 := rfl; have B_15 := IW_b I; omega) (by have FUe : FU = 100000 := rfl; have B_16 := IW_b I; omega)) (fun r_17 z_14 => ?_)
        refine ok_eq (fun c_18 c_18' => ?_) (fun c_18 => ?_)
        · try have e_21 : (x4 + 1 : Int32).toInt = (x4 : Int32).toInt + (1 : Int32).toInt := by have B_22 := IW_b I; exact add_i (by omega) (by omega)
          refine ok_seq (fun y_20 h_19 => ?_)
          have h_19' : y_20.toInt = (x4 + 1 : Int32).toInt := by rw [h_19]
          refine ok_mono (ih I h0 (by have B_23 := IW_b I; omega) (by have B_24 := IW_b I; omega) (by have B_25 := IW_b I; omega) (by have B_26 := IW_b I; omega) (by have B_27 := IW_b I; omega) (by have B_28 := IW_b I; omega)) (fun r_30 z_29 => ?_)
          obtain ⟨p_31, p_32, p_33⟩ := z_29
          exact ⟨(by omega), (by omega), (by omega)⟩
        · try have e_36 : (x4 + 1 : Int32).toInt = (x4 : Int32).toInt + (1 : Int32).toInt := by have B_37 := IW_b I; exact add_i (by omega) (by omega)
          refine ok_seq (fun y_35 h_34 => ?_)
          have h_34' : y_35.toInt = (x4 + 1 : Int32).toInt := by rw [h_34]
          refine ok_mono (ih I h0 (by have B_38 := IW_b I; omega) (by have B_39 := IW_b I; omega) (by have B_40 := IW_b I; omega) (by have B_41 := IW_b I; omega) (by have B_42 := IW_b I; omega) (by have B_43 := IW_b I; omega)) (fun r_45 z_44 => ?_)
          obtain ⟨p_46, p_47, p_48⟩ := z_44
          exact ⟨(by omega), (by omega), (by omega)⟩
theorem kM_SqlReaderModel_is {x1 : Int32} {k2 : Nat} {u : St} (I : IW u) (h0 : stok k2 = true) (h1 : 0 ≤ x1.toInt) : ok (mM_SqlReaderModel_is x1 k2 u) (fun r => 0 ≤ r.toInt ∧ r.toInt ≤ 1 ∧ (r.toInt = 0 ∨ x1.toInt < (u.1 1).toInt)) := by
  have l0 : (0 : Int32).toInt = 0 := by decide
  have l1 : (1 : Int32).toInt = 1 := by decide
  have l2 : (2 : Int32).toInt = 2 := by decide
  have l3 : (3 : Int32).toInt = 3 := by decide
  have l6 : (6 : Int32).toInt = 6 := by decide
  have l50 : (50 : Int32).toInt = 50 := by decide
  have l2000 : (2000 : Int32).toInt = 2000 := by decide
  rw [mM_SqlReaderModel_is]
  have T := IW_tok I x1
  refine ok_le (fun c_1 => ?_) (fun c_1 => ?_)
  · refine ok_mono (kM_SqlReaderModel_is_L58 _ I h0 (by have FUe : FU = 100000 := rfl; have B_2 := IW_b I; omega) (by have FUe : FU = 100000 := rfl; have B_3 := IW_b I; omega) (by have FUe : FU = 100000 := rfl; have B_4 := IW_b I; omega) (by have FUe : FU = 100000 := rfl; have B_5 := IW_b I; omega) (by have FUe : FU = 100000 := rfl; have B_6 := IW_b I; omega) (by have FUe : FU = 100000 := rfl; have B_7 := IW_b I; omega)) (fun r_9 z_8 => ?_)
    obtain ⟨p_10, p_11, p_12⟩ := z_8
    exact ⟨(by omega), (by omega), (by have B_13 := IW_b I; omega)⟩
  · refine ok_gd (inb_of (by have B_14 := IW_b I; omega) (by have B_15 := IW_b I; omega)) ?_
    refine ok_eq (fun c_16 c_16' => ?_) (fun c_16 => ?_)
    · rw [mM_SqlReaderModel_is_J29]
      refine ok_gd (inb_of (by have B_17 := IW_b I; omega) (by have B_18 := IW_b I; omega)) ?_
      refine ok_gd (inb_of (by have B_19 := IW_b I; omega) (by have B_20 := IW_b I; omega)) ?_
      refine ok_gd h0 ?_
      refine ok_bP (kM_String_length (IW_IB I) h0) (fun r_22 z_21 => ?_)
      obtain ⟨p_23, p_24, p_25⟩ := z_21
      try have e_26 : ((ga u 3 x1) - (ga u 2 x1) : Int32).toInt = ((ga u 3 x1) : Int32).toInt - ((ga u 2 x1) : Int32).toInt := by have B_27 := IW_b I; exact sub_i (by omega) (by omega)
      refine ok_eq (fun c_28 c_28' => ?_) (fun c_28 => ?_)
      · refine ok_mono (kM_SqlReaderModel_is_L58 _ I h0 (by have FUe : FU = 100000 := rfl; have B_29 := IW_b I; omega) (by have FUe : FU = 100000 := rfl; have B_30 := IW_b I; omega) (by have FUe : FU = 100000 := rfl; have B_31 := IW_b I; omega) (by have FUe : FU = 100000 := rfl; have B_32 := IW_b I; omega) (by have FUe : FU = 100000 := rfl; have B_33 := IW_b I; omega) (by have FUe : FU = 100000 := rfl; have B_34 := IW_b I; omega)) (fun r_36 z_35 => ?_)
        obtain ⟨p_37, p_38, p_39⟩ := z_35
        exact ⟨(by omega), (by omega), (by have B_40 := IW_b I; omega)⟩
      · refine ok_mono (kM_SqlReaderModel_is_L58 _ I h0 (by have FUe : FU = 100000 := rfl; have B_41 := IW_b I; omega) (by have FUe : FU = 100000 := rfl; have B_42 := IW_b I; omega) (by have FUe : FU = 100000 := rfl; have B_43 := IW_b I; omega) (by have FUe : FU = 100000 := rfl; have B_44 := IW_b I; omega) (by have FUe : FU = 100000 := rfl; have B_45 := IW_b I; omega) (by have FUe : FU = 100000 := rfl; have B_46 := IW_b I; omega)) (fun r_48 z_47 => ?_)
        obtain ⟨p_49, p_50, p_51⟩ := z_47
        exact ⟨(by omega), (by omega), (by have B_52 := IW_b I; omega)⟩
    · refine ok_gd (inb_of (by have B_53 := IW_b I; omega) (by have B_54 := IW_b I; omega)) ?_
      refine ok_eq (fun c_55 c_55' => ?_) (fun c_55 => ?_)
      · rw [mM_SqlReaderModel_is_J29]
        refine ok_gd (inb_of (by have B_56 := IW_b I; omega) (by have B_57 := IW_b I; omega)) ?_
        refine ok_gd (inb_of (by have B_58 := IW_b I; omega) (by have B_59 := IW_b I; omega)) ?_
        refine ok_gd h0 ?_
        refine ok_bP (kM_String_length (IW_IB I) h0) (fun r_61 z_60 => ?_)
        obtain ⟨p_62, p_63, p_64⟩ := z_60
        try have e_65 : ((ga u 3 x1) - (ga u 2 x1) : Int32).toInt = ((ga u 3 x1) : Int32).toInt - ((ga u 2 x1) : Int32).toInt := by have B_66 := IW_b I; exact sub_i (by omega) (by omega)
        refine ok_eq (fun c_67 c_67' => ?_) (fun c_67 => ?_)
        · refine ok_mono (kM_SqlReaderModel_is_L58 _ I h0 (by have FUe : FU = 100000 := rfl; have B_68 := IW_b I; omega) (by have FUe : FU = 100000 := rfl; have B_69 := IW_b I; omega) (by have FUe : FU = 100000 := rfl; have B_70 := IW_b I; omega) (by have FUe : FU = 100000 := rfl; have B_71 := IW_b I; omega) (by have FUe : FU = 100000 := rfl; have B_72 := IW_b I; omega) (by have FUe : FU = 100000 := rfl; have B_73 := IW_b I; omega)) (fun r_75 z_74 => ?_)
          obtain ⟨p_76, p_77, p_78⟩ := z_74
          exact ⟨(by omega), (by omega), (by have B_79 := IW_b I; omega)⟩
        · refine ok_mono (kM_SqlReaderModel_is_L58 _ I h0 (by have FUe : FU = 100000 := rfl; have B_80 := IW_b I; omega) (by have FUe : FU = 100000 := rfl; have B_81 := IW_b I; omega) (by have FUe : FU = 100000 := rfl; have B_82 := IW_b I; omega) (by have FUe : FU = 100000 := rfl; have B_83 := IW_b I; omega) (by have FUe : FU = 100000 := rfl; have B_84 := IW_b I; omega) (by have FUe : FU = 100000 := rfl; have B_85 := IW_b I; omega)) (fun r_87 z_86 => ?_)
          obtain ⟨p_88, p_89, p_90⟩ := z_86
          exact ⟨(by omega), (by omega), (by have B_91 := IW_b I; omega)⟩
      · refine ok_mono (kM_SqlReaderModel_is_L58 _ I h0 (by have FUe : FU = 100000 := rfl; have B_92 := IW_b I; omega) (by have FUe : FU = 100000 := rfl; have B_93 := IW_b I; omega) (by have FUe : FU = 100000 := rfl; have B_94 := IW_b I; omega) (by have FUe : FU = 100000 := rfl; have B_95 := IW_b I; omega) (by have FUe : FU = 100000 := rfl; have B_96 := IW_b I; omega) (by have FUe : FU = 100000 := rfl; have B_97 := IW_b I; omega)) (fun r_99 z_98 => ?_)
        obtain ⟨p_100, p_101, p_102⟩ := z_98
        exact ⟨(by omega), (by omega), (by have B_103 := IW_b I; omega)⟩
theorem kM_SqlReaderModel_isKind {x1 : Int32} {x2 : Int32} {u : St} (I : IB u) (h0 : 0 ≤ x1.toInt) : ok (mM_SqlReaderModel_isKind x1 x2 u) (fun r => 0 ≤ r.toInt ∧ r.toInt ≤ 1 ∧ (r.toInt = 0 ∨ (x1.toInt < (u.1 1).toInt ∧ (ga u 1 x1).toInt = x2.toInt))) := by
  have l0 : (0 : Int32).toInt = 0 := by decide
  have l1 : (1 : Int32).toInt = 1 := by decide
  rw [mM_SqlReaderModel_isKind]
  refine ok_le (fun c_1 => ?_) (fun c_1 => ?_)
  · exact ok_some ⟨(by omega), (by omega), (by have B_2 := IB_b I; omega)⟩
  · refine ok_gd (inb_of (by have B_3 := IB_b I; omega) (by have B_4 := IB_b I; omega)) ?_
    refine ok_eq (fun c_5 c_5' => ?_) (fun c_5 => ?_)
    · exact ok_some ⟨(by omega), (by omega), (by have B_6 := IB_b I; omega)⟩
    · exact ok_some ⟨(by omega), (by omega), (by have B_7 := IB_b I; omega)⟩
theorem kM_SqlReaderModel_opens {x1 : Int32} {u : St} (I : IW u) (h0 : 0 ≤ x1.toInt) : ok (mM_SqlReaderModel_opens x1 u) (fun r => -1 ≤ r.toInt ∧ r.toInt ≤ 1) := by
  have lm1 : (-1 : Int32).toInt = -1 := by decide
  have l0 : (0 : Int32).toInt = 0 := by decide
  have l1 : (1 : Int32).toInt = 1 := by decide
  have l79 : (79 : Int32).toInt = 79 := by decide
  have l88 : (88 : Int32).toInt = 88 := by decide
  rw [mM_SqlReaderModel_opens]
  refine ok_bP (kM_SqlReaderModel_is I (by decide) (by have FUe : FU = 100000 := rfl; have B_2 := IW_b I; omega)) (fun r_3 z_1 => ?_)
  obtain ⟨p_4, p_5, p_6⟩ := z_1
  refine ok_eq (fun c_7 c_7' => ?_) (fun c_7 => ?_)
  · refine ok_bP (kM_SqlReaderModel_is I (by decide) (by have FUe : FU = 100000 := rfl; have B_9 := IW_b I; omega)) (fun r_10 z_8 => ?_)
    obtain ⟨p_11, p_12, p_13⟩ := z_8
    refine ok_eq (fun c_14 c_14' => ?_) (fun c_14 => ?_)
    · exact ok_some ⟨(by omega), (by omega)⟩
    · exact ok_some ⟨(by omega), (by omega)⟩
  · exact ok_some ⟨(by omega), (by omega)⟩
theorem kM_SqlReaderModel_reach_L7 : ∀ (n : Nat) {x1 : Int32} {x2 : Int32} {u : St} (I : IW u) (h0 : 0 ≤ x2.toInt) (h1 : x2.toInt ≤ 4000) (hm : (4000 - x2.toInt).toNat < n), ok (mM_SqlReaderModel_reach_L7 n x1 x2 u) (fun r => 0 ≤ r.toInt ∧ r.toInt ≤ (u.1 1).toInt ∧ (x2.toInt ≤ r.toInt ∨ r.toInt = (u.1 1).toInt)) := by
  intro n
  induction n with
  | zero => intro x1 x2 u I h0 h1 hm; exact absurd hm (Nat.not_lt_zero _)
  | succ n ih =>
    intro x1 x2 u I h0 h1 hm
    have l0 : (0 : Int32).toInt = 0 := by decide
    have l1 : (1 : Int32).toInt = 1 := by decide
    have l80 : (80 : Int32).toInt = 80 := by decide
    have l81 : (81 : Int32).toInt = 81 := by decide
    have l82 : (82 : Int32).toInt = 82 := by decide
    have l83 : (83 : Int32).toInt = 83 := by decide
    have l84 : (84 : Int32).toInt = 84 := by decide
    have l85 : (85 : Int32).toInt = 85 := by decide
    have l86 : (86 : Int32).toInt = 86 := by decide
    have l87 : (87 : Int32).toInt = 87 := by decide
    have l88 : (88 : Int32).toInt = 88 := by decide
    have l4000 : (4000 : Int32).toInt = 4000 := by decide
    rw [mM_SqlReaderModel_reach_L7]
    refine ok_le (fun c_1 => ?_) (fun c_1 => ?_)
    · exact ok_some ⟨(by have B_2 := IW_b I; omega), (by have B_3 := IW_b I; omega), (by have B_4 := IW_b I; omega)⟩
    · refine ok_bP (kM_SqlReaderModel_is I (by decide) (by have FUe : FU = 100000 := rfl; have B_6 := IW_b I; omega)) (fun r_7 z_5 => ?_)
      obtain ⟨p_8, p_9, p_10⟩ := z_5
      refine ok_eq (fun c_11 c_11' => ?_) (fun c_11 => ?_)
      · refine ok_bP (kM_SqlReaderModel_is I (by decide) (by have FUe : FU = 100000 := rfl; have B_13 := IW_b I; omega)) (fun r_14 z_12 => ?_)
        obtain ⟨p_15, p_16, p_17⟩ := z_12
        refine ok_eq (fun c_18 c_18' => ?_) (fun c_18 => ?_)
        · refine ok_bP (kM_SqlReaderModel_is I (by decide) (by have FUe : FU = 100000 := rfl; have B_20 := IW_b I; omega)) (fun r_21 z_19 => ?_)
          obtain ⟨p_22, p_23, p_24⟩ := z_19
          refine ok_eq (fun c_25 c_25' => ?_) (fun c_25 => ?_)
          · refine ok_bP (kM_SqlReaderModel_is I (by decide) (by have FUe : FU = 100000 := rfl; have B_27 := IW_b I; omega)) (fun r_28 z_26 => ?_)
            obtain ⟨p_29, p_30, p_31⟩ := z_26
            refine ok_eq (fun c_32 c_32' => ?_) (fun c_32 => ?_)
            · refine ok_bP (kM_SqlReaderModel_is I (by decide) (by have FUe : FU = 100000 := rfl; have B_34 := IW_b I; omega)) (fun r_35 z_33 => ?_)
              obtain ⟨p_36, p_37, p_38⟩ := z_33
              refine ok_eq (fun c_39 c_39' => ?_) (fun c_39 => ?_)
              · refine ok_bP (kM_SqlReaderModel_is I (by decide) (by have FUe : FU = 100000 := rfl; have B_41 := IW_b I; omega)) (fun r_42 z_40 => ?_)
                obtain ⟨p_43, p_44, p_45⟩ := z_40
                refine ok_eq (fun c_46 c_46' => ?_) (fun c_46 => ?_)
                · refine ok_bP (kM_SqlReaderModel_is I (by decide) (by have FUe : FU = 100000 := rfl; have B_48 := IW_b I; omega)) (fun r_49 z_47 => ?_)
                  obtain ⟨p_50, p_51, p_52⟩ := z_47
                  refine ok_eq (fun c_53 c_53' => ?_) (fun c_53 => ?_)
                  · refine ok_bP (kM_SqlReaderModel_is I (by decide) (by have FUe : FU = 100000 := rfl; have B_55 := IW_b I; omega)) (fun r_56 z_54 => ?_)
                    obtain ⟨p_57, p_58, p_59⟩ := z_54
                    refine ok_eq (fun c_60 c_60' => ?_) (fun c_60 => ?_)
                    · refine ok_bP (kM_SqlReaderModel_is I (by decide) (by have FUe : FU = 100000 := rfl; have B_62 := IW_b I; omega)) (fun r_63 z_61 => ?_)
                      obtain ⟨p_64, p_65, p_66⟩ := z_61
                      refine ok_eq (fun c_67 c_67' => ?_) (fun c_67 => ?_)
                      · rw [mM_SqlReaderModel_reach_J119]
                        refine ok_eq (fun c_68 c_68' => ?_) (fun c_68 => ?_)
                        · refine ok_pos (by decide) ?_
                          refine ok_bP (kM_SqlReaderModel_opens I (by have FUe : FU = 100000 := rfl; have B_70 := IW_b I; omega)) (fun r_71 z_69 => ?_)
                          obtain ⟨p_72, p_73⟩ := z_69
                          try have e_76 : (x1 + r_71 : Int32).toInt = (x1 : Int32).toInt + (r_71 : Int32).toInt := by have B_77 := IW_b I; exact add_i (by omega) (by omega)
                          refine ok_seq (fun y_75 h_74 => ?_)
                          have h_74' : y_75.toInt = ((x1 + r_71) : Int32).toInt := by rw [h_74]
                          try have e_80 : (x2 + 1 : Int32).toInt = (x2 : Int32).toInt + (1 : Int32).toInt := by have B_81 := IW_b I; exact add_i (by omega) (by omega)
                          refine ok_seq (fun y_79 h_78 => ?_)
                          have h_78' : y_79.toInt = (x2 + 1 : Int32).toInt := by rw [h_78]
                          refine ok_mono (ih I (by have B_82 := IW_b I; omega) (by have B_83 := IW_b I; omega) (by have B_84 := IW_b I; omega)) (fun r_86 z_85 => ?_)
                          obtain ⟨p_87, p_88, p_89⟩ := z_85
                          exact ⟨(by omega), (by have B_90 := IW_b I; omega), (by have B_91 := IW_b I; omega)⟩
                        · refine ok_bP (kM_SqlReaderModel_opens I (by have FUe : FU = 100000 := rfl; have B_93 := IW_b I; omega)) (fun r_94 z_92 => ?_)
                          obtain ⟨p_95, p_96⟩ := z_92
                          try have e_99 : (x1 + r_94 : Int32).toInt = (x1 : Int32).toInt + (r_94 : Int32).toInt := by have B_100 := IW_b I; exact add_i (by omega) (by omega)
                          refine ok_seq (fun y_98 h_97 => ?_)
                          have h_97' : y_98.toInt = ((x1 + r_94) : Int32).toInt := by rw [h_97]
                          try have e_103 : (x2 + 1 : Int32).toInt = (x2 : Int32).toInt + (1 : Int32).toInt := by have B_104 := IW_b I; exact add_i (by omega) (by omega)
                          refine ok_seq (fun y_102 h_101 => ?_)
                          have h_101' : y_102.toInt = (x2 + 1 : Int32).toInt := by rw [h_101]
                          refine ok_mono (ih I (by have B_105 := IW_b I; omega) (by have B_106 := IW_b I; omega) (by have B_107 := IW_b I; omega)) (fun r_109 z_108 => ?_)
                          obtain ⟨p_110, p_111, p_112⟩ := z_108
                          exact ⟨(by omega), (by have B_113 := IW_b I; omega), (by have B_114 := IW_b I; omega)⟩
                      · rw [mM_SqlReaderModel_reach_J119]
                        refine ok_eq (fun c_115 c_115' => ?_) (fun c_115 => ?_)
                        · refine ok_neg (by decide) ?_
                          exact ok_some ⟨(by omega), (by have B_116 := IW_b I; omega), (by have B_117 := IW_b I; omega)⟩
                        · refine ok_bP (kM_SqlReaderModel_opens I (by have FUe : FU = 100000 := rfl; have B_119 := IW_b I; omega)) (fun r_120 z_118 => ?_)
                          obtain ⟨p_121, p_122⟩ := z_118
                          try have e_125 : (x1 + r_120 : Int32).toInt = (x1 : Int32).toInt + (r_120 : Int32).toInt := by have B_126 := IW_b I; exact add_i (by omega) (by omega)
                          refine ok_seq (fun y_124 h_123 => ?_)
                          have h_123' : y_124.toInt = ((x1 + r_120) : Int32).toInt := by rw [h_123]
                          try have e_129 : (x2 + 1 : Int32).toInt = (x2 : Int32).toInt + (1 : Int32).toInt := by have B_130 := IW_b I; exact add_i (by omega) (by omega)
                          refine ok_seq (fun y_128 h_127 => ?_)
                          have h_127' : y_128.toInt = (x2 + 1 : Int32).toInt := by rw [h_127]
                          refine ok_mono (ih I (by have B_131 := IW_b I; omega) (by have B_132 := IW_b I; omega) (by have B_133 := IW_b I; omega)) (fun r_135 z_134 => ?_)
                          obtain ⟨p_136, p_137, p_138⟩ := z_134
                          exact ⟨(by omega), (by have B_139 := IW_b I; omega), (by have B_140 := IW_b I; omega)⟩
                    · rw [mM_SqlReaderModel_reach_J119]
                      refine ok_eq (fun c_141 c_141' => ?_) (fun c_141 => ?_)
                      · refine ok_neg (by decide) ?_
                        exact ok_some ⟨(by omega), (by have B_142 := IW_b I; omega), (by have B_143 := IW_b I; omega)⟩
                      · refine ok_bP (kM_SqlReaderModel_opens I (by have FUe : FU = 100000 := rfl; have B_145 := IW_b I; omega)) (fun r_146 z_144 => ?_)
                        obtain ⟨p_147, p_148⟩ := z_144
                        try have e_151 : (x1 + r_146 : Int32).toInt = (x1 : Int32).toInt + (r_146 : Int32).toInt := by have B_152 := IW_b I; exact add_i (by omega) (by omega)
                        refine ok_seq (fun y_150 h_149 => ?_)
                        have h_149' : y_150.toInt = ((x1 + r_146) : Int32).toInt := by rw [h_149]
                        try have e_155 : (x2 + 1 : Int32).toInt = (x2 : Int32).toInt + (1 : Int32).toInt := by have B_156 := IW_b I; exact add_i (by omega) (by omega)
                        refine ok_seq (fun y_154 h_153 => ?_)
                        have h_153' : y_154.toInt = (x2 + 1 : Int32).toInt := by rw [h_153]
                        refine ok_mono (ih I (by have B_157 := IW_b I; omega) (by have B_158 := IW_b I; omega) (by have B_159 := IW_b I; omega)) (fun r_161 z_160 => ?_)
                        obtain ⟨p_162, p_163, p_164⟩ := z_160
                        exact ⟨(by omega), (by have B_165 := IW_b I; omega), (by have B_166 := IW_b I; omega)⟩
                  · rw [mM_SqlReaderModel_reach_J119]
                    refine ok_eq (fun c_167 c_167' => ?_) (fun c_167 => ?_)
                    · refine ok_neg (by decide) ?_
                      exact ok_some ⟨(by omega), (by have B_168 := IW_b I; omega), (by have B_169 := IW_b I; omega)⟩
                    · refine ok_bP (kM_SqlReaderModel_opens I (by have FUe : FU = 100000 := rfl; have B_171 := IW_b I; omega)) (fun r_172 z_170 => ?_)
                      obtain ⟨p_173, p_174⟩ := z_170
                      try have e_177 : (x1 + r_172 : Int32).toInt = (x1 : Int32).toInt + (r_172 : Int32).toInt := by have B_178 := IW_b I; exact add_i (by omega) (by omega)
                      refine ok_seq (fun y_176 h_175 => ?_)
                      have h_175' : y_176.toInt = ((x1 + r_172) : Int32).toInt := by rw [h_175]
                      try have e_181 : (x2 + 1 : Int32).toInt = (x2 : Int32).toInt + (1 : Int32).toInt := by have B_182 := IW_b I; exact add_i (by omega) (by omega)
                      refine ok_seq (fun y_180 h_179 => ?_)
                      have h_179' : y_180.toInt = (x2 + 1 : Int32).toInt := by rw [h_179]
                      refine ok_mono (ih I (by have B_183 := IW_b I; omega) (by have B_184 := IW_b I; omega) (by have B_185 := IW_b I; omega)) (fun r_187 z_186 => ?_)
                      obtain ⟨p_188, p_189, p_190⟩ := z_186
                      exact ⟨(by omega), (by have B_191 := IW_b I; omega), (by have B_192 := IW_b I; omega)⟩
                · rw [mM_SqlReaderModel_reach_J119]
                  refine ok_eq (fun c_193 c_193' => ?_) (fun c_193 => ?_)
                  · refine ok_neg (by decide) ?_
                    exact ok_some ⟨(by omega), (by have B_194 := IW_b I; omega), (by have B_195 := IW_b I; omega)⟩
                  · refine ok_bP (kM_SqlReaderModel_opens I (by have FUe : FU = 100000 := rfl; have B_197 := IW_b I; omega)) (fun r_198 z_196 => ?_)
                    obtain ⟨p_199, p_200⟩ := z_196
                    try have e_203 : (x1 + r_198 : Int32).toInt = (x1 : Int32).toInt + (r_198 : Int32).toInt := by have B_204 := IW_b I; exact add_i (by omega) (by omega)
                    refine ok_seq (fun y_202 h_201 => ?_)
                    have h_201' : y_202.toInt = ((x1 + r_198) : Int32).toInt := by rw [h_201]
                    try have e_207 : (x2 + 1 : Int32).toInt = (x2 : Int32).toInt + (1 : Int32).toInt := by have B_208 := IW_b I; exact add_i (by omega) (by omega)
                    refine ok_seq (fun y_206 h_205 => ?_)
                    have h_205' : y_206.toInt = (x2 + 1 : Int32).toInt := by rw [h_205]
                    refine ok_mono (ih I (by have B_209 := IW_b I; omega) (by have B_210 := IW_b I; omega) (by have B_211 := IW_b I; omega)) (fun r_213 z_212 => ?_)
                    obtain ⟨p_214, p_215, p_216⟩ := z_212
                    exact ⟨(by omega), (by have B_217 := IW_b I; omega), (by have B_218 := IW_b I; omega)⟩
              · rw [mM_SqlReaderModel_reach_J119]
                refine ok_eq (fun c_219 c_219' => ?_) (fun c_219 => ?_)
                · refine ok_neg (by decide) ?_
                  exact ok_some ⟨(by omega), (by have B_220 := IW_b I; omega), (by have B_221 := IW_b I; omega)⟩
                · refine ok_bP (kM_SqlReaderModel_opens I (by have FUe : FU = 100000 := rfl; have B_223 := IW_b I; omega)) (fun r_224 z_222 => ?_)
                  obtain ⟨p_225, p_226⟩ := z_222
                  try have e_229 : (x1 + r_224 : Int32).toInt = (x1 : Int32).toInt + (r_224 : Int32).toInt := by have B_230 := IW_b I; exact add_i (by omega) (by omega)
                  refine ok_seq (fun y_228 h_227 => ?_)
                  have h_227' : y_228.toInt = ((x1 + r_224) : Int32).toInt := by rw [h_227]
                  try have e_233 : (x2 + 1 : Int32).toInt = (x2 : Int32).toInt + (1 : Int32).toInt := by have B_234 := IW_b I; exact add_i (by omega) (by omega)
                  refine ok_seq (fun y_232 h_231 => ?_)
                  have h_231' : y_232.toInt = (x2 + 1 : Int32).toInt := by rw [h_231]
                  refine ok_mono (ih I (by have B_235 := IW_b I; omega) (by have B_236 := IW_b I; omega) (by have B_237 := IW_b I; omega)) (fun r_239 z_238 => ?_)
                  obtain ⟨p_240, p_241, p_242⟩ := z_238
                  exact ⟨(by omega), (by have B_243 := IW_b I; omega), (by have B_244 := IW_b I; omega)⟩
            · rw [mM_SqlReaderModel_reach_J119]
              refine ok_eq (fun c_245 c_245' => ?_) (fun c_245 => ?_)
              · refine ok_neg (by decide) ?_
                exact ok_some ⟨(by omega), (by have B_246 := IW_b I; omega), (by have B_247 := IW_b I; omega)⟩
              · refine ok_bP (kM_SqlReaderModel_opens I (by have FUe : FU = 100000 := rfl; have B_249 := IW_b I; omega)) (fun r_250 z_248 => ?_)
                obtain ⟨p_251, p_252⟩ := z_248
                try have e_255 : (x1 + r_250 : Int32).toInt = (x1 : Int32).toInt + (r_250 : Int32).toInt := by have B_256 := IW_b I; exact add_i (by omega) (by omega)
                refine ok_seq (fun y_254 h_253 => ?_)
                have h_253' : y_254.toInt = ((x1 + r_250) : Int32).toInt := by rw [h_253]
                try have e_259 : (x2 + 1 : Int32).toInt = (x2 : Int32).toInt + (1 : Int32).toInt := by have B_260 := IW_b I; exact add_i (by omega) (by omega)
                refine ok_seq (fun y_258 h_257 => ?_)
                have h_257' : y_258.toInt = (x2 + 1 : Int32).toInt := by rw [h_257]
                refine ok_mono (ih I (by have B_261 := IW_b I; omega) (by have B_262 := IW_b I; omega) (by have B_263 := IW_b I; omega)) (fun r_265 z_264 => ?_)
                obtain ⟨p_266, p_267, p_268⟩ := z_264
                exact ⟨(by omega), (by have B_269 := IW_b I; omega), (by have B_270 := IW_b I; omega)⟩
          · rw [mM_SqlReaderModel_reach_J119]
            refine ok_eq (fun c_271 c_271' => ?_) (fun c_271 => ?_)
            · refine ok_neg (by decide) ?_
              exact ok_some ⟨(by omega), (by have B_272 := IW_b I; omega), (by have B_273 := IW_b I; omega)⟩
            · refine ok_bP (kM_SqlReaderModel_opens I (by have FUe : FU = 100000 := rfl; have B_275 := IW_b I; omega)) (fun r_276 z_274 => ?_)
              obtain ⟨p_277, p_278⟩ := z_274
              try have e_281 : (x1 + r_276 : Int32).toInt = (x1 : Int32).toInt + (r_276 : Int32).toInt := by have B_282 := IW_b I; exact add_i (by omega) (by omega)
              refine ok_seq (fun y_280 h_279 => ?_)
              have h_279' : y_280.toInt = ((x1 + r_276) : Int32).toInt := by rw [h_279]
              try have e_285 : (x2 + 1 : Int32).toInt = (x2 : Int32).toInt + (1 : Int32).toInt := by have B_286 := IW_b I; exact add_i (by omega) (by omega)
              refine ok_seq (fun y_284 h_283 => ?_)
              have h_283' : y_284.toInt = (x2 + 1 : Int32).toInt := by rw [h_283]
              refine ok_mono (ih I (by have B_287 := IW_b I; omega) (by have B_288 := IW_b I; omega) (by have B_289 := IW_b I; omega)) (fun r_291 z_290 => ?_)
              obtain ⟨p_292, p_293, p_294⟩ := z_290
              exact ⟨(by omega), (by have B_295 := IW_b I; omega), (by have B_296 := IW_b I; omega)⟩
        · rw [mM_SqlReaderModel_reach_J119]
          refine ok_eq (fun c_297 c_297' => ?_) (fun c_297 => ?_)
          · refine ok_neg (by decide) ?_
            exact ok_some ⟨(by omega), (by have B_298 := IW_b I; omega), (by have B_299 := IW_b I; omega)⟩
          · refine ok_bP (kM_SqlReaderModel_opens I (by have FUe : FU = 100000 := rfl; have B_301 := IW_b I; omega)) (fun r_302 z_300 => ?_)
            obtain ⟨p_303, p_304⟩ := z_300
            try have e_307 : (x1 + r_302 : Int32).toInt = (x1 : Int32).toInt + (r_302 : Int32).toInt := by have B_308 := IW_b I; exact add_i (by omega) (by omega)
            refine ok_seq (fun y_306 h_305 => ?_)
            have h_305' : y_306.toInt = ((x1 + r_302) : Int32).toInt := by rw [h_305]
            try have e_311 : (x2 + 1 : Int32).toInt = (x2 : Int32).toInt + (1 : Int32).toInt := by have B_312 := IW_b I; exact add_i (by omega) (by omega)
            refine ok_seq (fun y_310 h_309 => ?_)
            have h_309' : y_310.toInt = (x2 + 1 : Int32).toInt := by rw [h_309]
            refine ok_mono (ih I (by have B_313 := IW_b I; omega) (by have B_314 := IW_b I; omega) (by have B_315 := IW_b I; omega)) (fun r_317 z_316 => ?_)
            obtain ⟨p_318, p_319, p_320⟩ := z_316
            exact ⟨(by omega), (by have B_321 := IW_b I; omega), (by have B_322 := IW_b I; omega)⟩
      · rw [mM_SqlReaderModel_reach_J119]
        refine ok_eq (fun c_323 c_323' => ?_) (fun c_323 => ?_)
        · refine ok_neg (by decide) ?_
          exact ok_some ⟨(by omega), (by have B_324 := IW_b I; omega), (by have B_325 := IW_b I; omega)⟩
        · refine ok_bP (kM_SqlReaderModel_opens I (by have FUe : FU = 100000 := rfl; have B_327 := IW_b I; omega)) (fun r_328 z_326 => ?_)
          obtain ⟨p_329, p_330⟩ := z_326
          try have e_333 : (x1 + r_328 : Int32).toInt = (x1 : Int32).toInt + (r_328 : Int32).toInt := by have B_334 := IW_b I; exact add_i (by omega) (by omega)
          refine ok_seq (fun y_332 h_331 => ?_)
          have h_331' : y_332.toInt = ((x1 + r_328) : Int32).toInt := by rw [h_331]
          try have e_337 : (x2 + 1 : Int32).toInt = (x2 : Int32).toInt + (1 : Int32).toInt := by have B_338 := IW_b I; exact add_i (by omega) (by omega)
          refine ok_seq (fun y_336 h_335 => ?_)
          have h_335' : y_336.toInt = (x2 + 1 : Int32).toInt := by rw [h_335]
          refine ok_mono (ih I (by have B_339 := IW_b I; omega) (by have B_340 := IW_b I; omega) (by have B_341 := IW_b I; omega)) (fun r_343 z_342 => ?_)
          obtain ⟨p_344, p_345, p_346⟩ := z_342
          exact ⟨(by omega), (by have B_347 := IW_b I; omega), (by have B_348 := IW_b I; omega)⟩
theorem kM_SqlReaderModel_reach {u : St} (I : IW u) : ok (mM_SqlReaderModel_reach u) (fun r => 0 ≤ r.toInt ∧ r.toInt ≤ (u.1 1).toInt ∧ ((u.1 30).toInt ≤ r.toInt ∨ r.toInt = (u.1 1).toInt)) := by
  have l0 : (0 : Int32).toInt = 0 := by decide
  have l1 : (1 : Int32).toInt = 1 := by decide
  have l30 : (30 : Int32).toInt = 30 := by decide
  have l4000 : (4000 : Int32).toInt = 4000 := by decide
  rw [mM_SqlReaderModel_reach]
  refine ok_seq (fun y_2 h_1 => ?_)
  have h_1' : y_2.toInt = ((u.1 30) : Int32).toInt := by rw [h_1]
  refine ok_mono (kM_SqlReaderModel_reach_L7 _ I (by have FUe : FU = 100000 := rfl; have B_3 := IW_b I; omega) (by have FUe : FU = 100000 := rfl; have B_4 := IW_b I; omega) (by have FUe : FU = 100000 := rfl; have B_5 := IW_b I; omega)) (fun r_7 z_6 => ?_)
  obtain ⟨p_8, p_9, p_10⟩ := z_6
  exact ⟨(by omega), (by have B_11 := IW_b I; omega), (by have B_12 := IW_b I; omega)⟩
theorem kM_SqlReaderModel_compares {x1 : Int32} {u : St} (I : IW u) (h0 : 0 ≤ x1.toInt) : ok (mM_SqlReaderModel_compares x1 u) (fun r => 0 ≤ r.toInt ∧ r.toInt ≤ 22 ∧ (r.toInt = 0 ∨ 17 ≤ r.toInt)) := by
  have l0 : (0 : Int32).toInt = 0 := by decide
  have l17 : (17 : Int32).toInt = 17 := by decide
  have l18 : (18 : Int32).toInt = 18 := by decide
  have l19 : (19 : Int32).toInt = 19 := by decide
  have l20 : (20 : Int32).toInt = 20 := by decide
  have l21 : (21 : Int32).toInt = 21 := by decide
  have l22 : (22 : Int32).toInt = 22 := by decide
  have l91 : (91 : Int32).toInt = 91 := by decide
  have l92 : (92 : Int32).toInt = 92 := by decide
  have l93 : (93 : Int32).toInt = 93 := by decide
  have l94 : (94 : Int32).toInt = 94 := by decide
  have l95 : (95 : Int32).toInt = 95 := by decide
  have l96 : (96 : Int32).toInt = 96 := by decide
  rw [mM_SqlReaderModel_compares]
  refine ok_bP (kM_SqlReaderModel_is I (by decide) (by have FUe : FU = 100000 := rfl; have B_2 := IW_b I; omega)) (fun r_3 z_1 => ?_)
  obtain ⟨p_4, p_5, p_6⟩ := z_1
  refine ok_eq (fun c_7 c_7' => ?_) (fun c_7 => ?_)
  · refine ok_bP (kM_SqlReaderModel_is I (by decide) (by have FUe : FU = 100000 := rfl; have B_9 := IW_b I; omega)) (fun r_10 z_8 => ?_)
    obtain ⟨p_11, p_12, p_13⟩ := z_8
    refine ok_eq (fun c_14 c_14' => ?_) (fun c_14 => ?_)
    · refine ok_bP (kM_SqlReaderModel_is I (by decide) (by have FUe : FU = 100000 := rfl; have B_16 := IW_b I; omega)) (fun r_17 z_15 => ?_)
      obtain ⟨p_18, p_19, p_20⟩ := z_15
      refine ok_eq (fun c_21 c_21' => ?_) (fun c_21 => ?_)
      · refine ok_bP (kM_SqlReaderModel_is I (by decide) (by have FUe : FU = 100000 := rfl; have B_23 := IW_b I; omega)) (fun r_24 z_22 => ?_)
        obtain ⟨p_25, p_26, p_27⟩ := z_22
        refine ok_eq (fun c_28 c_28' => ?_) (fun c_28 => ?_)
        · refine ok_bP (kM_SqlReaderModel_is I (by decide) (by have FUe : FU = 100000 := rfl; have B_30 := IW_b I; omega)) (fun r_31 z_29 => ?_)
          obtain ⟨p_32, p_33, p_34⟩ := z_29
          refine ok_eq (fun c_35 c_35' => ?_) (fun c_35 => ?_)
          · refine ok_bP (kM_SqlReaderModel_is I (by decide) (by have FUe : FU = 100000 := rfl; have B_37 := IW_b I; omega)) (fun r_38 z_36 => ?_)
            obtain ⟨p_39, p_40, p_41⟩ := z_36
            refine ok_eq (fun c_42 c_42' => ?_) (fun c_42 => ?_)
            · exact ok_some ⟨(by omega), (by omega), (by omega)⟩
            · exact ok_some ⟨(by omega), (by omega), (by omega)⟩
          · exact ok_some ⟨(by omega), (by omega), (by omega)⟩
        · exact ok_some ⟨(by omega), (by omega), (by omega)⟩
      · exact ok_some ⟨(by omega), (by omega), (by omega)⟩
    · exact ok_some ⟨(by omega), (by omega), (by omega)⟩
  · exact ok_some ⟨(by omega), (by omega), (by omega)⟩
theorem kM_SqlReaderModel_firstComparison_L5 : ∀ (n : Nat) {x2 : Int32} {x3 : Int32} {x4 : Int32} {u : St} (I : IW u) (h0 : 0 ≤ x4.toInt) (h1 : x4.toInt ≤ 4000) (h2 : x2.toInt ≤ 2000) (hm : (4000 - x4.toInt).toNat < n), ok (mM_SqlReaderModel_firstComparison_L5 n x2 x3 x4 u) (fun r => r.toInt = x2.toInt ∨ (x4.toInt ≤ r.toInt ∧ r.toInt < x2.toInt)) := by
  intro n
  induction n with
  | zero => intro x2 x3 x4 u I h0 h1 h2 hm; exact absurd hm (Nat.not_lt_zero _)
  | succ n ih =>
    intro x2 x3 x4 u I h0 h1 h2 hm
    have l0 : (0 : Int32).toInt = 0 := by decide
    have l1 : (1 : Int32).toInt = 1 := by decide
    have l89 : (89 : Int32).toInt = 89 := by decide
    have l97 : (97 : Int32).toInt = 97 := by decide
    have l98 : (98 : Int32).toInt = 98 := by decide
    have l99 : (99 : Int32).toInt = 99 := by decide
    have l2000 : (2000 : Int32).toInt = 2000 := by decide
    have l4000 : (4000 : Int32).toInt = 4000 := by decide
    rw [mM_SqlReaderModel_firstComparison_L5]
    refine ok_le (fun c_1 => ?_) (fun c_1 => ?_)
    · exact ok_some (by omega)
    · refine ok_bP (kM_SqlReaderModel_compares I (by have FUe : FU = 100000 := rfl; have B_3 := IW_b I; omega)) (fun r_4 z_2 => ?_)
      obtain ⟨p_5, p_6, p_7⟩ := z_2
      refine ok_lt (fun c_8 => ?_) (fun c_8 => ?_)
      · rw [mM_SqlReaderModel_firstComparison_J73]
        refine ok_neg (by decide) ?_
        refine ok_eq (fun c_9 c_9' => ?_) (fun c_9 => ?_)
        · exact ok_some (by omega)
        · refine ok_bP (kM_SqlReaderModel_opens I (by have FUe : FU = 100000 := rfl; have B_11 := IW_b I; omega)) (fun r_12 z_10 => ?_)
          obtain ⟨p_13, p_14⟩ := z_10
          try have e_17 : (x3 + r_12 : Int32).toInt = (x3 : Int32).toInt + (r_12 : Int32).toInt := by have B_18 := IW_b I; exact add_i (by omega) (by omega)
          refine ok_seq (fun y_16 h_15 => ?_)
          have h_15' : y_16.toInt = ((x3 + r_12) : Int32).toInt := by rw [h_15]
          try have e_21 : (x4 + 1 : Int32).toInt = (x4 : Int32).toInt + (1 : Int32).toInt := by have B_22 := IW_b I; exact add_i (by omega) (by omega)
          refine ok_seq (fun y_20 h_19 => ?_)
          have h_19' : y_20.toInt = (x4 + 1 : Int32).toInt := by rw [h_19]
          refine ok_mono (ih I (by have B_23 := IW_b I; omega) (by have B_24 := IW_b I; omega) (by have B_25 := IW_b I; omega) (by have B_26 := IW_b I; omega)) (fun r_28 z_27 => ?_)
          have p_29 := z_27
          exact (by omega)
      · refine ok_bP (kM_SqlReaderModel_is I (by decide) (by have FUe : FU = 100000 := rfl; have B_31 := IW_b I; omega)) (fun r_32 z_30 => ?_)
        obtain ⟨p_33, p_34, p_35⟩ := z_30
        refine ok_eq (fun c_36 c_36' => ?_) (fun c_36 => ?_)
        · refine ok_bP (kM_SqlReaderModel_is I (by decide) (by have FUe : FU = 100000 := rfl; have B_38 := IW_b I; omega)) (fun r_39 z_37 => ?_)
          obtain ⟨p_40, p_41, p_42⟩ := z_37
          refine ok_eq (fun c_43 c_43' => ?_) (fun c_43 => ?_)
          · refine ok_bP (kM_SqlReaderModel_is I (by decide) (by have FUe : FU = 100000 := rfl; have B_45 := IW_b I; omega)) (fun r_46 z_44 => ?_)
            obtain ⟨p_47, p_48, p_49⟩ := z_44
            refine ok_eq (fun c_50 c_50' => ?_) (fun c_50 => ?_)
            · refine ok_bP (kM_SqlReaderModel_is I (by decide) (by have FUe : FU = 100000 := rfl; have B_52 := IW_b I; omega)) (fun r_53 z_51 => ?_)
              obtain ⟨p_54, p_55, p_56⟩ := z_51
              refine ok_eq (fun c_57 c_57' => ?_) (fun c_57 => ?_)
              · rw [mM_SqlReaderModel_firstComparison_J73]
                refine ok_pos (by decide) ?_
                refine ok_bP (kM_SqlReaderModel_opens I (by have FUe : FU = 100000 := rfl; have B_59 := IW_b I; omega)) (fun r_60 z_58 => ?_)
                obtain ⟨p_61, p_62⟩ := z_58
                try have e_65 : (x3 + r_60 : Int32).toInt = (x3 : Int32).toInt + (r_60 : Int32).toInt := by have B_66 := IW_b I; exact add_i (by omega) (by omega)
                refine ok_seq (fun y_64 h_63 => ?_)
                have h_63' : y_64.toInt = ((x3 + r_60) : Int32).toInt := by rw [h_63]
                try have e_69 : (x4 + 1 : Int32).toInt = (x4 : Int32).toInt + (1 : Int32).toInt := by have B_70 := IW_b I; exact add_i (by omega) (by omega)
                refine ok_seq (fun y_68 h_67 => ?_)
                have h_67' : y_68.toInt = (x4 + 1 : Int32).toInt := by rw [h_67]
                refine ok_mono (ih I (by have B_71 := IW_b I; omega) (by have B_72 := IW_b I; omega) (by have B_73 := IW_b I; omega) (by have B_74 := IW_b I; omega)) (fun r_76 z_75 => ?_)
                have p_77 := z_75
                exact (by omega)
              · rw [mM_SqlReaderModel_firstComparison_J73]
                refine ok_neg (by decide) ?_
                refine ok_eq (fun c_78 c_78' => ?_) (fun c_78 => ?_)
                · exact ok_some (by omega)
                · refine ok_bP (kM_SqlReaderModel_opens I (by have FUe : FU = 100000 := rfl; have B_80 := IW_b I; omega)) (fun r_81 z_79 => ?_)
                  obtain ⟨p_82, p_83⟩ := z_79
                  try have e_86 : (x3 + r_81 : Int32).toInt = (x3 : Int32).toInt + (r_81 : Int32).toInt := by have B_87 := IW_b I; exact add_i (by omega) (by omega)
                  refine ok_seq (fun y_85 h_84 => ?_)
                  have h_84' : y_85.toInt = ((x3 + r_81) : Int32).toInt := by rw [h_84]
                  try have e_90 : (x4 + 1 : Int32).toInt = (x4 : Int32).toInt + (1 : Int32).toInt := by have B_91 := IW_b I; exact add_i (by omega) (by omega)
                  refine ok_seq (fun y_89 h_88 => ?_)
                  have h_88' : y_89.toInt = (x4 + 1 : Int32).toInt := by rw [h_88]
                  refine ok_mono (ih I (by have B_92 := IW_b I; omega) (by have B_93 := IW_b I; omega) (by have B_94 := IW_b I; omega) (by have B_95 := IW_b I; omega)) (fun r_97 z_96 => ?_)
                  have p_98 := z_96
                  exact (by omega)
            · rw [mM_SqlReaderModel_firstComparison_J73]
              refine ok_neg (by decide) ?_
              refine ok_eq (fun c_99 c_99' => ?_) (fun c_99 => ?_)
              · exact ok_some (by omega)
              · refine ok_bP (kM_SqlReaderModel_opens I (by have FUe : FU = 100000 := rfl; have B_101 := IW_b I; omega)) (fun r_102 z_100 => ?_)
                obtain ⟨p_103, p_104⟩ := z_100
                try have e_107 : (x3 + r_102 : Int32).toInt = (x3 : Int32).toInt + (r_102 : Int32).toInt := by have B_108 := IW_b I; exact add_i (by omega) (by omega)
                refine ok_seq (fun y_106 h_105 => ?_)
                have h_105' : y_106.toInt = ((x3 + r_102) : Int32).toInt := by rw [h_105]
                try have e_111 : (x4 + 1 : Int32).toInt = (x4 : Int32).toInt + (1 : Int32).toInt := by have B_112 := IW_b I; exact add_i (by omega) (by omega)
                refine ok_seq (fun y_110 h_109 => ?_)
                have h_109' : y_110.toInt = (x4 + 1 : Int32).toInt := by rw [h_109]
                refine ok_mono (ih I (by have B_113 := IW_b I; omega) (by have B_114 := IW_b I; omega) (by have B_115 := IW_b I; omega) (by have B_116 := IW_b I; omega)) (fun r_118 z_117 => ?_)
                have p_119 := z_117
                exact (by omega)
          · rw [mM_SqlReaderModel_firstComparison_J73]
            refine ok_neg (by decide) ?_
            refine ok_eq (fun c_120 c_120' => ?_) (fun c_120 => ?_)
            · exact ok_some (by omega)
            · refine ok_bP (kM_SqlReaderModel_opens I (by have FUe : FU = 100000 := rfl; have B_122 := IW_b I; omega)) (fun r_123 z_121 => ?_)
              obtain ⟨p_124, p_125⟩ := z_121
              try have e_128 : (x3 + r_123 : Int32).toInt = (x3 : Int32).toInt + (r_123 : Int32).toInt := by have B_129 := IW_b I; exact add_i (by omega) (by omega)
              refine ok_seq (fun y_127 h_126 => ?_)
              have h_126' : y_127.toInt = ((x3 + r_123) : Int32).toInt := by rw [h_126]
              try have e_132 : (x4 + 1 : Int32).toInt = (x4 : Int32).toInt + (1 : Int32).toInt := by have B_133 := IW_b I; exact add_i (by omega) (by omega)
              refine ok_seq (fun y_131 h_130 => ?_)
              have h_130' : y_131.toInt = (x4 + 1 : Int32).toInt := by rw [h_130]
              refine ok_mono (ih I (by have B_134 := IW_b I; omega) (by have B_135 := IW_b I; omega) (by have B_136 := IW_b I; omega) (by have B_137 := IW_b I; omega)) (fun r_139 z_138 => ?_)
              have p_140 := z_138
              exact (by omega)
        · rw [mM_SqlReaderModel_firstComparison_J73]
          refine ok_neg (by decide) ?_
          refine ok_eq (fun c_141 c_141' => ?_) (fun c_141 => ?_)
          · exact ok_some (by omega)
          · refine ok_bP (kM_SqlReaderModel_opens I (by have FUe : FU = 100000 := rfl; have B_143 := IW_b I; omega)) (fun r_144 z_142 => ?_)
            obtain ⟨p_145, p_146⟩ := z_142
            try have e_149 : (x3 + r_144 : Int32).toInt = (x3 : Int32).toInt + (r_144 : Int32).toInt := by have B_150 := IW_b I; exact add_i (by omega) (by omega)
            refine ok_seq (fun y_148 h_147 => ?_)
            have h_147' : y_148.toInt = ((x3 + r_144) : Int32).toInt := by rw [h_147]
            try have e_153 : (x4 + 1 : Int32).toInt = (x4 : Int32).toInt + (1 : Int32).toInt := by have B_154 := IW_b I; exact add_i (by omega) (by omega)
            refine ok_seq (fun y_152 h_151 => ?_)
            have h_151' : y_152.toInt = (x4 + 1 : Int32).toInt := by rw [h_151]
            refine ok_mono (ih I (by have B_155 := IW_b I; omega) (by have B_156 := IW_b I; omega) (by have B_157 := IW_b I; omega) (by have B_158 := IW_b I; omega)) (fun r_160 z_159 => ?_)
            have p_161 := z_159
            exact (by omega)
theorem kM_SqlReaderModel_firstComparison {x1 : Int32} {x2 : Int32} {u : St} (I : IW u) (h0 : 0 ≤ x1.toInt) (h1 : x1.toInt ≤ 4000) (h2 : x2.toInt ≤ 2000) : ok (mM_SqlReaderModel_firstComparison x1 x2 u) (fun r => r.toInt = x2.toInt ∨ (x1.toInt ≤ r.toInt ∧ r.toInt < x2.toInt)) := by
  have l0 : (0 : Int32).toInt = 0 := by decide
  have l2000 : (2000 : Int32).toInt = 2000 := by decide
  have l4000 : (4000 : Int32).toInt = 4000 := by decide
  rw [mM_SqlReaderModel_firstComparison]
  refine ok_mono (kM_SqlReaderModel_firstComparison_L5 _ I (by have FUe : FU = 100000 := rfl; have B_1 := IW_b I; omega) (by have FUe : FU = 100000 := rfl; have B_2 := IW_b I; omega) (by have FUe : FU = 100000 := rfl; have B_3 := IW_b I; omega) (by have FUe : FU = 100000 := rfl; have B_4 := IW_b I; omega)) (fun r_6 z_5 => ?_)
  have p_7 := z_5
  exact (by omega)
theorem kM_SqlReaderModel_find_L6 : ∀ (n : Nat) {k1 : Nat} {x3 : Int32} {x4 : Int32} {x5 : Int32} {u : St} (I : IW u) (h0 : stok k1 = true) (h1 : 0 ≤ x5.toInt) (h2 : x5.toInt ≤ 4000) (h3 : x3.toInt ≤ 2000) (hm : (4000 - x5.toInt).toNat < n), ok (mM_SqlReaderModel_find_L6 n k1 x3 x4 x5 u) (fun r => r.toInt = x3.toInt ∨ (x5.toInt ≤ r.toInt ∧ r.toInt < x3.toInt)) := by
  intro n
  induction n with
  | zero => intro k1 x3 x4 x5 u I h0 h1 h2 h3 hm; exact absurd hm (Nat.not_lt_zero _)
  | succ n ih =>
    intro k1 x3 x4 x5 u I h0 h1 h2 h3 hm
    have l0 : (0 : Int32).toInt = 0 := by decide
    have l1 : (1 : Int32).toInt = 1 := by decide
    have l2000 : (2000 : Int32).toInt = 2000 := by decide
    have l4000 : (4000 : Int32).toInt = 4000 := by decide
    rw [mM_SqlReaderModel_find_L6]
    refine ok_le (fun c_1 => ?_) (fun c_1 => ?_)
    · exact ok_some (by omega)
    · refine ok_eq (fun c_2 c_2' => ?_) (fun c_2 => ?_)
      · refine ok_bP (kM_SqlReaderModel_is I h0 (by have FUe : FU = 100000 := rfl; have B_4 := IW_b I; omega)) (fun r_5 z_3 => ?_)
        obtain ⟨p_6, p_7, p_8⟩ := z_3
        refine ok_eq (fun c_9 c_9' => ?_) (fun c_9 => ?_)
        · refine ok_bP (kM_SqlReaderModel_opens I (by have FUe : FU = 100000 := rfl; have B_11 := IW_b I; omega)) (fun r_12 z_10 => ?_)
          obtain ⟨p_13, p_14⟩ := z_10
          try have e_17 : (x4 + r_12 : Int32).toInt = (x4 : Int32).toInt + (r_12 : Int32).toInt := by have B_18 := IW_b I; exact add_i (by omega) (by omega)
          refine ok_seq (fun y_16 h_15 => ?_)
          have h_15' : y_16.toInt = ((x4 + r_12) : Int32).toInt := by rw [h_15]
          try have e_21 : (x5 + 1 : Int32).toInt = (x5 : Int32).toInt + (1 : Int32).toInt := by have B_22 := IW_b I; exact add_i (by omega) (by omega)
          refine ok_seq (fun y_20 h_19 => ?_)
          have h_19' : y_20.toInt = (x5 + 1 : Int32).toInt := by rw [h_19]
          refine ok_mono (ih I h0 (by have B_23 := IW_b I; omega) (by have B_24 := IW_b I; omega) (by have B_25 := IW_b I; omega) (by have B_26 := IW_b I; omega)) (fun r_28 z_27 => ?_)
          have p_29 := z_27
          exact (by omega)
        · exact ok_some (by omega)
      · refine ok_bP (kM_SqlReaderModel_opens I (by have FUe : FU = 100000 := rfl; have B_31 := IW_b I; omega)) (fun r_32 z_30 => ?_)
        obtain ⟨p_33, p_34⟩ := z_30
        try have e_37 : (x4 + r_32 : Int32).toInt = (x4 : Int32).toInt + (r_32 : Int32).toInt := by have B_38 := IW_b I; exact add_i (by omega) (by omega)
        refine ok_seq (fun y_36 h_35 => ?_)
        have h_35' : y_36.toInt = ((x4 + r_32) : Int32).toInt := by rw [h_35]
        try have e_41 : (x5 + 1 : Int32).toInt = (x5 : Int32).toInt + (1 : Int32).toInt := by have B_42 := IW_b I; exact add_i (by omega) (by omega)
        refine ok_seq (fun y_40 h_39 => ?_)
        have h_39' : y_40.toInt = (x5 + 1 : Int32).toInt := by rw [h_39]
        refine ok_mono (ih I h0 (by have B_43 := IW_b I; omega) (by have B_44 := IW_b I; omega) (by have B_45 := IW_b I; omega) (by have B_46 := IW_b I; omega)) (fun r_48 z_47 => ?_)
        have p_49 := z_47
        exact (by omega)
theorem kM_SqlReaderModel_find {k1 : Nat} {x2 : Int32} {x3 : Int32} {u : St} (I : IW u) (h0 : stok k1 = true) (h1 : 0 ≤ x2.toInt) (h2 : x2.toInt ≤ 4000) (h3 : x3.toInt ≤ 2000) : ok (mM_SqlReaderModel_find k1 x2 x3 u) (fun r => r.toInt = x3.toInt ∨ (x2.toInt ≤ r.toInt ∧ r.toInt < x3.toInt)) := by
  have l0 : (0 : Int32).toInt = 0 := by decide
  have l2000 : (2000 : Int32).toInt = 2000 := by decide
  have l4000 : (4000 : Int32).toInt = 4000 := by decide
  rw [mM_SqlReaderModel_find]
  refine ok_mono (kM_SqlReaderModel_find_L6 _ I h0 (by have FUe : FU = 100000 := rfl; have B_1 := IW_b I; omega) (by have FUe : FU = 100000 := rfl; have B_2 := IW_b I; omega) (by have FUe : FU = 100000 := rfl; have B_3 := IW_b I; omega) (by have FUe : FU = 100000 := rfl; have B_4 := IW_b I; omega)) (fun r_6 z_5 => ?_)
  have p_7 := z_5
  exact (by omega)
theorem kM_SqlReaderModel_closing_L5 : ∀ (n : Nat) {x2 : Int32} {x3 : Int32} {x4 : Int32} {u : St} (I : IW u) (h0 : 0 ≤ x4.toInt) (h1 : x4.toInt ≤ 4000) (h2 : x2.toInt ≤ 2000) (hm : (4000 - x4.toInt).toNat < n), ok (mM_SqlReaderModel_closing_L5 n x2 x3 x4 u) (fun r => r.toInt = -1 ∨ (x4.toInt ≤ r.toInt ∧ r.toInt < x2.toInt)) := by
  intro n
  induction n with
  | zero => intro x2 x3 x4 u I h0 h1 h2 hm; exact absurd hm (Nat.not_lt_zero _)
  | succ n ih =>
    intro x2 x3 x4 u I h0 h1 h2 hm
    have lm1 : (-1 : Int32).toInt = -1 := by decide
    have l0 : (0 : Int32).toInt = 0 := by decide
    have l1 : (1 : Int32).toInt = 1 := by decide
    have l2000 : (2000 : Int32).toInt = 2000 := by decide
    have l4000 : (4000 : Int32).toInt = 4000 := by decide
    rw [mM_SqlReaderModel_closing_L5]
    refine ok_le (fun c_1 => ?_) (fun c_1 => ?_)
    · exact ok_some (by omega)
    · refine ok_bP (kM_SqlReaderModel_opens I (by have FUe : FU = 100000 := rfl; have B_3 := IW_b I; omega)) (fun r_4 z_2 => ?_)
      obtain ⟨p_5, p_6⟩ := z_2
      try have e_9 : (x3 + r_4 : Int32).toInt = (x3 : Int32).toInt + (r_4 : Int32).toInt := by have B_10 := IW_b I; exact add_i (by omega) (by omega)
      refine ok_seq (fun y_8 h_7 => ?_)
      have h_7' : y_8.toInt = ((x3 + r_4) : Int32).toInt := by rw [h_7]
      refine ok_eq (fun c_11 c_11' => ?_) (fun c_11 => ?_)
      · exact ok_some (by omega)
      · try have e_14 : (x4 + 1 : Int32).toInt = (x4 : Int32).toInt + (1 : Int32).toInt := by have B_15 := IW_b I; exact add_i (by omega) (by omega)
        refine ok_seq (fun y_13 h_12 => ?_)
        have h_12' : y_13.toInt = (x4 + 1 : Int32).toInt := by rw [h_12]
        refine ok_mono (ih I (by have B_16 := IW_b I; omega) (by have B_17 := IW_b I; omega) (by have B_18 := IW_b I; omega) (by have B_19 := IW_b I; omega)) (fun r_21 z_20 => ?_)
        have p_22 := z_20
        exact (by omega)
theorem kM_SqlReaderModel_closing {x1 : Int32} {x2 : Int32} {u : St} (I : IW u) (h0 : 0 ≤ x1.toInt) (h1 : x1.toInt ≤ 4000) (h2 : x2.toInt ≤ 2000) : ok (mM_SqlReaderModel_closing x1 x2 u) (fun r => r.toInt = -1 ∨ (x1.toInt ≤ r.toInt ∧ r.toInt < x2.toInt)) := by
  have l0 : (0 : Int32).toInt = 0 := by decide
  have l1 : (1 : Int32).toInt = 1 := by decide
  have l2000 : (2000 : Int32).toInt = 2000 := by decide
  have l4000 : (4000 : Int32).toInt = 4000 := by decide
  rw [mM_SqlReaderModel_closing]
  refine ok_mono (kM_SqlReaderModel_closing_L5 _ I (by have FUe : FU = 100000 := rfl; have B_1 := IW_b I; omega) (by have FUe : FU = 100000 := rfl; have B_2 := IW_b I; omega) (by have FUe : FU = 100000 := rfl; have B_3 := IW_b I; omega) (by have FUe : FU = 100000 := rfl; have B_4 := IW_b I; omega)) (fun r_6 z_5 => ?_)
  have p_7 := z_5
  exact (by omega)
theorem kM_SqlReaderModel_gathers {x1 : Int32} {u : St} (I : IW u) (h0 : 0 ≤ x1.toInt) : ok (mM_SqlReaderModel_gathers x1 u) (fun r => 0 ≤ r.toInt ∧ r.toInt ≤ 9 ∧ (r.toInt = 0 ∨ 6 ≤ r.toInt)) := by
  have l0 : (0 : Int32).toInt = 0 := by decide
  have l6 : (6 : Int32).toInt = 6 := by decide
  have l7 : (7 : Int32).toInt = 7 := by decide
  have l8 : (8 : Int32).toInt = 8 := by decide
  have l9 : (9 : Int32).toInt = 9 := by decide
  have l102 : (102 : Int32).toInt = 102 := by decide
  have l103 : (103 : Int32).toInt = 103 := by decide
  have l104 : (104 : Int32).toInt = 104 := by decide
  have l105 : (105 : Int32).toInt = 105 := by decide
  rw [mM_SqlReaderModel_gathers]
  refine ok_bP (kM_SqlReaderModel_is I (by decide) (by have FUe : FU = 100000 := rfl; have B_2 := IW_b I; omega)) (fun r_3 z_1 => ?_)
  obtain ⟨p_4, p_5, p_6⟩ := z_1
  refine ok_eq (fun c_7 c_7' => ?_) (fun c_7 => ?_)
  · refine ok_bP (kM_SqlReaderModel_is I (by decide) (by have FUe : FU = 100000 := rfl; have B_9 := IW_b I; omega)) (fun r_10 z_8 => ?_)
    obtain ⟨p_11, p_12, p_13⟩ := z_8
    refine ok_eq (fun c_14 c_14' => ?_) (fun c_14 => ?_)
    · refine ok_bP (kM_SqlReaderModel_is I (by decide) (by have FUe : FU = 100000 := rfl; have B_16 := IW_b I; omega)) (fun r_17 z_15 => ?_)
      obtain ⟨p_18, p_19, p_20⟩ := z_15
      refine ok_eq (fun c_21 c_21' => ?_) (fun c_21 => ?_)
      · refine ok_bP (kM_SqlReaderModel_is I (by decide) (by have FUe : FU = 100000 := rfl; have B_23 := IW_b I; omega)) (fun r_24 z_22 => ?_)
        obtain ⟨p_25, p_26, p_27⟩ := z_22
        refine ok_eq (fun c_28 c_28' => ?_) (fun c_28 => ?_)
        · exact ok_some ⟨(by omega), (by omega), (by omega)⟩
        · exact ok_some ⟨(by omega), (by omega), (by omega)⟩
      · exact ok_some ⟨(by omega), (by omega), (by omega)⟩
    · exact ok_some ⟨(by omega), (by omega), (by omega)⟩
  · exact ok_some ⟨(by omega), (by omega), (by omega)⟩
theorem kM_SqlReaderModel_numberOf_L10 : ∀ (n : Nat) {x1 : Int32} {x2 : Int64} {x4 : Int32} {u : St} (I : IT u) (h0 : 0 ≤ x1.toInt) (h1 : x1.toInt < (u.1 1).toInt) (h2 : 0 ≤ x4.toInt) (h3 : x4.toInt ≤ 2000) (hm : (2000 - x4.toInt).toNat < n), ok (mM_SqlReaderModel_numberOf_L10 n x1 x2 x4 u) (fun r => True) := by
  intro n
  induction n with
  | zero => intro x1 x2 x4 u I h0 h1 h2 h3 hm; exact absurd hm (Nat.not_lt_zero _)
  | succ n ih =>
    intro x1 x2 x4 u I h0 h1 h2 h3 hm
    have l0 : (0 : Int32).toInt = 0 := by decide
    have l1 : (1 : Int32).toInt = 1 := by decide
    have l3 : (3 : Int32).toInt = 3 := by decide
    have l10 : (10 : Int32).toInt = 10 := by decide
    have l48 : (48 : Int32).toInt = 48 := by decide
    have l2000 : (2000 : Int32).toInt = 2000 := by decide
    rw [mM_SqlReaderModel_numberOf_L10]
    have T := IT_tok I x1
    refine ok_gd (inb_of (by have B_1 := IT_b I; omega) (by have B_2 := IT_b I; omega)) ?_
    refine ok_le (fun c_3 => ?_) (fun c_3 => ?_)
    · exact ok_some trivial
    · refine ok_gd (inb_of (by have B_4 := IT_b I; omega) (by have B_5 := IT_b I; omega)) ?_
      try have e_8 : (10 * x2 : Int32).toInt = 10 * (x2 : Int32).toInt := by have B_9 := IT_b I; exact cmu_i l10 (by omega) (by omega)
      try have e_10 : ((10 * x2) + (Int32.toInt64 (ga u 0 x4)) : Int32).toInt = ((10 * x2) : Int32).toInt + ((Int32.toInt64 (ga u 0 x4)) : Int32).toInt := by have B_11 := IT_b I; exact add_i (by omega) (by omega)
      try have e_12 : (((10 * x2) + (Int32.toInt64 (ga u 0 x4))) - 48 : Int32).toInt = (((10 * x2) + (Int32.toInt64 (ga u 0 x4))) : Int32).toInt - (48 : Int32).toInt := by have B_13 := IT_b I; exact sub_i (by omega) (by omega)
      refine ok_seq (fun y_7 h_6 => ?_)
      try have e_16 : (x4 + 1 : Int32).toInt = (x4 : Int32).toInt + (1 : Int32).toInt := by have B_17 := IT_b I; exact add_i (by omega) (by omega)
      refine ok_seq (fun y_15 h_14 => ?_)
      have h_14' : y_15.toInt = (x4 + 1 : Int32).toInt := by rw [h_14]
      refine ok_mono (ih I (by have B_18 := IT_b I; omega) (by have B_19 := IT_b I; omega) (by have B_20 := IT_b I; omega) (by have B_21 := IT_b I; omega) (by have B_22 := IT_b I; omega)) (fun r_24 z_23 => ?_)
      exact trivial
theorem kM_SqlReaderModel_numberOf {x1 : Int32} {u : St} (I : IT u) (h0 : 0 ≤ x1.toInt) (h1 : x1.toInt < (u.1 1).toInt) : ok (mM_SqlReaderModel_numberOf x1 u) (fun r => True) := by
  have l0 : (0 : Int32).toInt = 0 := by decide
  have l1 : (1 : Int32).toInt = 1 := by decide
  have l2 : (2 : Int32).toInt = 2 := by decide
  have l2000 : (2000 : Int32).toInt = 2000 := by decide
  rw [mM_SqlReaderModel_numberOf]
  have T := IT_tok I x1
  refine ok_gd (inb_of (by have B_1 := IT_b I; omega) (by have B_2 := IT_b I; omega)) ?_
  refine ok_seq (fun y_4 h_3 => ?_)
  have h_3' : y_4.toInt = ((ga u 2 x1) : Int32).toInt := by rw [h_3]
  refine ok_mono (kM_SqlReaderModel_numberOf_L10 _ I (by have FUe : FU = 100000 := rfl; have B_5 := IT_b I; omega) (by have FUe : FU = 100000 := rfl; have B_6 := IT_b I; omega) (by have FUe : FU = 100000 := rfl; have B_7 := IT_b I; omega) (by have FUe : FU = 100000 := rfl; have B_8 := IT_b I; omega) (by have FUe : FU = 100000 := rfl; have B_9 := IT_b I; omega)) (fun r_11 z_10 => ?_)
  exact trivial
theorem kM_SqlReaderModel_endsOperand {x1 : Int32} {u : St} (I : IW u) (h0 : 0 ≤ x1.toInt) (h1 : x1.toInt ≤ 2000) : ok (mM_SqlReaderModel_endsOperand x1 u) (fun r => 0 ≤ r.toInt ∧ r.toInt ≤ 1) := by
  have l0 : (0 : Int32).toInt = 0 := by decide
  have l1 : (1 : Int32).toInt = 1 := by decide
  have l6 : (6 : Int32).toInt = 6 := by decide
  have l88 : (88 : Int32).toInt = 88 := by decide
  have l100 : (100 : Int32).toInt = 100 := by decide
  have l108 : (108 : Int32).toInt = 108 := by decide
  have l109 : (109 : Int32).toInt = 109 := by decide
  rw [mM_SqlReaderModel_endsOperand]
  refine ok_gd (inb_of (by have B_1 := IW_b I; omega) (by have B_2 := IW_b I; omega)) ?_
  refine ok_seq (fun y_4 h_3 => ?_)
  have h_3' : y_4.toInt = ((ga u 1 x1) : Int32).toInt := by rw [h_3]
  refine ok_le (fun c_5 => ?_) (fun c_5 => ?_)
  · rw [mM_SqlReaderModel_endsOperand_J18]
    refine ok_bP (kM_SqlReaderModel_is I (by decide) (by have FUe : FU = 100000 := rfl; have B_7 := IW_b I; omega)) (fun r_8 z_6 => ?_)
    obtain ⟨p_9, p_10, p_11⟩ := z_6
    refine ok_eq (fun c_12 c_12' => ?_) (fun c_12 => ?_)
    · refine ok_bP (kM_SqlReaderModel_is I (by decide) (by have FUe : FU = 100000 := rfl; have B_14 := IW_b I; omega)) (fun r_15 z_13 => ?_)
      obtain ⟨p_16, p_17, p_18⟩ := z_13
      refine ok_eq (fun c_19 c_19' => ?_) (fun c_19 => ?_)
      · refine ok_bP (kM_SqlReaderModel_is I (by decide) (by have FUe : FU = 100000 := rfl; have B_21 := IW_b I; omega)) (fun r_22 z_20 => ?_)
        obtain ⟨p_23, p_24, p_25⟩ := z_20
        refine ok_eq (fun c_26 c_26' => ?_) (fun c_26 => ?_)
        · refine ok_bP (kM_SqlReaderModel_is I (by decide) (by have FUe : FU = 100000 := rfl; have B_28 := IW_b I; omega)) (fun r_29 z_27 => ?_)
          obtain ⟨p_30, p_31, p_32⟩ := z_27
          refine ok_eq (fun c_33 c_33' => ?_) (fun c_33 => ?_)
          · exact ok_some ⟨(by omega), (by omega)⟩
          · exact ok_some ⟨(by omega), (by omega)⟩
        · exact ok_some ⟨(by omega), (by omega)⟩
      · exact ok_some ⟨(by omega), (by omega)⟩
    · exact ok_some ⟨(by omega), (by omega)⟩
  · refine ok_lt (fun c_34 => ?_) (fun c_34 => ?_)
    · exact ok_some ⟨(by omega), (by omega)⟩
    · rw [mM_SqlReaderModel_endsOperand_J18]
      refine ok_bP (kM_SqlReaderModel_is I (by decide) (by have FUe : FU = 100000 := rfl; have B_36 := IW_b I; omega)) (fun r_37 z_35 => ?_)
      obtain ⟨p_38, p_39, p_40⟩ := z_35
      refine ok_eq (fun c_41 c_41' => ?_) (fun c_41 => ?_)
      · refine ok_bP (kM_SqlReaderModel_is I (by decide) (by have FUe : FU = 100000 := rfl; have B_43 := IW_b I; omega)) (fun r_44 z_42 => ?_)
        obtain ⟨p_45, p_46, p_47⟩ := z_42
        refine ok_eq (fun c_48 c_48' => ?_) (fun c_48 => ?_)
        · refine ok_bP (kM_SqlReaderModel_is I (by decide) (by have FUe : FU = 100000 := rfl; have B_50 := IW_b I; omega)) (fun r_51 z_49 => ?_)
          obtain ⟨p_52, p_53, p_54⟩ := z_49
          refine ok_eq (fun c_55 c_55' => ?_) (fun c_55 => ?_)
          · refine ok_bP (kM_SqlReaderModel_is I (by decide) (by have FUe : FU = 100000 := rfl; have B_57 := IW_b I; omega)) (fun r_58 z_56 => ?_)
            obtain ⟨p_59, p_60, p_61⟩ := z_56
            refine ok_eq (fun c_62 c_62' => ?_) (fun c_62 => ?_)
            · exact ok_some ⟨(by omega), (by omega)⟩
            · exact ok_some ⟨(by omega), (by omega)⟩
          · exact ok_some ⟨(by omega), (by omega)⟩
        · exact ok_some ⟨(by omega), (by omega)⟩
      · exact ok_some ⟨(by omega), (by omega)⟩
theorem kM_SqlReaderModel_joins {x1 : Int32} {x2 : Int32} {x3 : Int32} {u : St} (I : IW u) (h0 : 0 ≤ x2.toInt) : ok (mM_SqlReaderModel_joins x1 x2 x3 u) (fun r => 0 ≤ r.toInt ∧ r.toInt ≤ 27 ∧ (r.toInt = 0 ∨ 11 ≤ r.toInt)) := by
  have l0 : (0 : Int32).toInt = 0 := by decide
  have l1 : (1 : Int32).toInt = 1 := by decide
  have l4 : (4 : Int32).toInt = 4 := by decide
  have l5 : (5 : Int32).toInt = 5 := by decide
  have l11 : (11 : Int32).toInt = 11 := by decide
  have l12 : (12 : Int32).toInt = 12 := by decide
  have l13 : (13 : Int32).toInt = 13 := by decide
  have l14 : (14 : Int32).toInt = 14 := by decide
  have l15 : (15 : Int32).toInt = 15 := by decide
  have l16 : (16 : Int32).toInt = 16 := by decide
  have l26 : (26 : Int32).toInt = 26 := by decide
  have l27 : (27 : Int32).toInt = 27 := by decide
  have l90 : (90 : Int32).toInt = 90 := by decide
  have l101 : (101 : Int32).toInt = 101 := by decide
  have l106 : (106 : Int32).toInt = 106 := by decide
  have l110 : (110 : Int32).toInt = 110 := by decide
  have l111 : (111 : Int32).toInt = 111 := by decide
  have l112 : (112 : Int32).toInt = 112 := by decide
  have l113 : (113 : Int32).toInt = 113 := by decide
  have l114 : (114 : Int32).toInt = 114 := by decide
  rw [mM_SqlReaderModel_joins]
  refine ok_eq (fun c_1 c_1' => ?_) (fun c_1 => ?_)
  · refine ok_bP (kM_SqlReaderModel_is I (by decide) (by have FUe : FU = 100000 := rfl; have B_3 := IW_b I; omega)) (fun r_4 z_2 => ?_)
    obtain ⟨p_5, p_6, p_7⟩ := z_2
    refine ok_eq (fun c_8 c_8' => ?_) (fun c_8 => ?_)
    · exact ok_some ⟨(by omega), (by omega), (by omega)⟩
    · exact ok_some ⟨(by omega), (by omega), (by omega)⟩
  · refine ok_eq (fun c_9 c_9' => ?_) (fun c_9 => ?_)
    · refine ok_bP (kM_SqlReaderModel_is I (by decide) (by have FUe : FU = 100000 := rfl; have B_11 := IW_b I; omega)) (fun r_12 z_10 => ?_)
      obtain ⟨p_13, p_14, p_15⟩ := z_10
      refine ok_eq (fun c_16 c_16' => ?_) (fun c_16 => ?_)
      · exact ok_some ⟨(by omega), (by omega), (by omega)⟩
      · exact ok_some ⟨(by omega), (by omega), (by omega)⟩
    · refine ok_eq (fun c_17 c_17' => ?_) (fun c_17 => ?_)
      · refine ok_bP (kM_SqlReaderModel_is I (by decide) (by have FUe : FU = 100000 := rfl; have B_19 := IW_b I; omega)) (fun r_20 z_18 => ?_)
        obtain ⟨p_21, p_22, p_23⟩ := z_18
        refine ok_eq (fun c_24 c_24' => ?_) (fun c_24 => ?_)
        · exact ok_some ⟨(by omega), (by omega), (by omega)⟩
        · exact ok_some ⟨(by omega), (by omega), (by omega)⟩
      · refine ok_eq (fun c_25 c_25' => ?_) (fun c_25 => ?_)
        · refine ok_eq (fun c_26 c_26' => ?_) (fun c_26 => ?_)
          · exact ok_some ⟨(by omega), (by omega), (by omega)⟩
          · refine ok_bP (kM_SqlReaderModel_is I (by decide) (by have FUe : FU = 100000 := rfl; have B_28 := IW_b I; omega)) (fun r_29 z_27 => ?_)
            obtain ⟨p_30, p_31, p_32⟩ := z_27
            refine ok_eq (fun c_33 c_33' => ?_) (fun c_33 => ?_)
            · refine ok_bP (kM_SqlReaderModel_is I (by decide) (by have FUe : FU = 100000 := rfl; have B_35 := IW_b I; omega)) (fun r_36 z_34 => ?_)
              obtain ⟨p_37, p_38, p_39⟩ := z_34
              refine ok_eq (fun c_40 c_40' => ?_) (fun c_40 => ?_)
              · exact ok_some ⟨(by omega), (by omega), (by omega)⟩
              · exact ok_some ⟨(by omega), (by omega), (by omega)⟩
            · exact ok_some ⟨(by omega), (by omega), (by omega)⟩
        · refine ok_bP (kM_SqlReaderModel_is I (by decide) (by have FUe : FU = 100000 := rfl; have B_42 := IW_b I; omega)) (fun r_43 z_41 => ?_)
          obtain ⟨p_44, p_45, p_46⟩ := z_41
          refine ok_eq (fun c_47 c_47' => ?_) (fun c_47 => ?_)
          · refine ok_bP (kM_SqlReaderModel_is I (by decide) (by have FUe : FU = 100000 := rfl; have B_49 := IW_b I; omega)) (fun r_50 z_48 => ?_)
            obtain ⟨p_51, p_52, p_53⟩ := z_48
            refine ok_eq (fun c_54 c_54' => ?_) (fun c_54 => ?_)
            · refine ok_bP (kM_SqlReaderModel_is I (by decide) (by have FUe : FU = 100000 := rfl; have B_56 := IW_b I; omega)) (fun r_57 z_55 => ?_)
              obtain ⟨p_58, p_59, p_60⟩ := z_55
              refine ok_eq (fun c_61 c_61' => ?_) (fun c_61 => ?_)
              · exact ok_some ⟨(by omega), (by omega), (by omega)⟩
              · exact ok_some ⟨(by omega), (by omega), (by omega)⟩
            · exact ok_some ⟨(by omega), (by omega), (by omega)⟩
          · exact ok_some ⟨(by omega), (by omega), (by omega)⟩
theorem kM_SqlReaderModel_sameToken_L38 : ∀ (n : Nat) {x1 : Int32} {x2 : Int32} {x3 : Int32} {x4 : Int32} {u : St} (I : IT u) (h0 : 0 ≤ x1.toInt) (h1 : x1.toInt < (u.1 1).toInt) (h2 : 0 ≤ x2.toInt) (h3 : x2.toInt < (u.1 1).toInt) (h4 : 0 ≤ x3.toInt) (h5 : x3.toInt ≤ 1) (h6 : 0 ≤ x4.toInt) (h7 : x4.toInt ≤ 2000) (h8 : x3.toInt = 0 ∨ (ga u 3 x1).toInt - (ga u 2 x1).toInt = (ga u 3 x2).toInt - (ga u 2 x2).toInt) (hm : (2000 - x4.toInt).toNat < n), ok (mM_SqlReaderModel_sameToken_L38 n x1 x2 x3 x4 u) (fun r => 0 ≤ r.toInt ∧ r.toInt ≤ 1) := by
  intro n
  induction n with
  | zero => intro x1 x2 x3 x4 u I h0 h1 h2 h3 h4 h5 h6 h7 h8 hm; exact absurd hm (Nat.not_lt_zero _)
  | succ n ih =>
    intro x1 x2 x3 x4 u I h0 h1 h2 h3 h4 h5 h6 h7 h8 hm
    have l0 : (0 : Int32).toInt = 0 := by decide
    have l1 : (1 : Int32).toInt = 1 := by decide
    have l2 : (2 : Int32).toInt = 2 := by decide
    have l3 : (3 : Int32).toInt = 3 := by decide
    have l2000 : (2000 : Int32).toInt = 2000 := by decide
    rw [mM_SqlReaderModel_sameToken_L38]
    have T := IT_tok I x1
    have T2 := IT_tok I x2
    refine ok_eq (fun c_1 c_1' => ?_) (fun c_1 => ?_)
    · refine ok_gd (zb_of (by omega) (by omega)) ?_
      exact ok_some ⟨(by omega), (by omega)⟩
    · refine ok_gd (inb_of (by have B_2 := IT_b I; omega) (by have B_3 := IT_b I; omega)) ?_
      refine ok_gd (inb_of (by have B_4 := IT_b I; omega) (by have B_5 := IT_b I; omega)) ?_
      try have e_6 : ((ga u 3 x1) - (ga u 2 x1) : Int32).toInt = ((ga u 3 x1) : Int32).toInt - ((ga u 2 x1) : Int32).toInt := by have B_7 := IT_b I; exact sub_i (by omega) (by omega)
      refine ok_le (fun c_8 => ?_) (fun c_8 => ?_)
      · refine ok_gd (zb_of (by omega) (by omega)) ?_
        exact ok_some ⟨(by omega), (by omega)⟩
      · refine ok_gd (inb_of (by have B_9 := IT_b I; omega) (by have B_10 := IT_b I; omega)) ?_
        try have e_11 : ((ga u 2 x1) + x4 : Int32).toInt = ((ga u 2 x1) : Int32).toInt + (x4 : Int32).toInt := by have B_12 := IT_b I; exact add_i (by omega) (by omega)
        refine ok_gd (inb_of (by have B_13 := IT_b I; omega) (by have B_14 := IT_b I; omega)) ?_
        refine ok_gd (inb_of (by have B_15 := IT_b I; omega) (by have B_16 := IT_b I; omega)) ?_
        try have e_17 : ((ga u 2 x2) + x4 : Int32).toInt = ((ga u 2 x2) : Int32).toInt + (x4 : Int32).toInt := by have B_18 := IT_b I; exact add_i (by omega) (by omega)
        refine ok_gd (inb_of (by have B_19 := IT_b I; omega) (by have B_20 := IT_b I; omega)) ?_
        refine ok_eq (fun c_21 c_21' => ?_) (fun c_21 => ?_)
        · try have e_24 : (x4 + 1 : Int32).toInt = (x4 : Int32).toInt + (1 : Int32).toInt := by have B_25 := IT_b I; exact add_i (by omega) (by omega)
          refine ok_seq (fun y_23 h_22 => ?_)
          have h_22' : y_23.toInt = (x4 + 1 : Int32).toInt := by rw [h_22]
          refine ok_mono (ih I (by have B_26 := IT_b I; omega) (by have B_27 := IT_b I; omega) (by have B_28 := IT_b I; omega) (by have B_29 := IT_b I; omega) (by have B_30 := IT_b I; omega) (by have B_31 := IT_b I; omega) (by have B_32 := IT_b I; omega) (by have B_33 := IT_b I; omega) (by have B_34 := IT_b I; omega) (by have B_35 := IT_b I; omega)) (fun r_37 z_36 => ?_)
          obtain ⟨p_38, p_39⟩ := z_36
          exact ⟨(by omega), (by omega)⟩
        · try have e_42 : (x4 + 1 : Int32).toInt = (x4 : Int32).toInt + (1 : Int32).toInt := by have B_43 := IT_b I; exact add_i (by omega) (by omega)
          refine ok_seq (fun y_41 h_40 => ?_)
          have h_40' : y_41.toInt = (x4 + 1 : Int32).toInt := by rw [h_40]
          refine ok_mono (ih I (by have B_44 := IT_b I; omega) (by have B_45 := IT_b I; omega) (by have B_46 := IT_b I; omega) (by have B_47 := IT_b I; omega) (by have B_48 := IT_b I; omega) (by have B_49 := IT_b I; omega) (by have B_50 := IT_b I; omega) (by have B_51 := IT_b I; omega) (by have B_52 := IT_b I; omega) (by have B_53 := IT_b I; omega)) (fun r_55 z_54 => ?_)
          obtain ⟨p_56, p_57⟩ := z_54
          exact ⟨(by omega), (by omega)⟩
theorem kM_SqlReaderModel_sameToken {x1 : Int32} {x2 : Int32} {u : St} (I : IT u) (h0 : 0 ≤ x1.toInt) (h1 : x1.toInt < (u.1 1).toInt) (h2 : 0 ≤ x2.toInt) (h3 : x2.toInt < (u.1 1).toInt) : ok (mM_SqlReaderModel_sameToken x1 x2 u) (fun r => 0 ≤ r.toInt ∧ r.toInt ≤ 1) := by
  have l0 : (0 : Int32).toInt = 0 := by decide
  have l1 : (1 : Int32).toInt = 1 := by decide
  have l2 : (2 : Int32).toInt = 2 := by decide
  have l3 : (3 : Int32).toInt = 3 := by decide
  have l2000 : (2000 : Int32).toInt = 2000 := by decide
  rw [mM_SqlReaderModel_sameToken]
  have T := IT_tok I x1
  have T2 := IT_tok I x2
  refine ok_gd (inb_of (by have B_1 := IT_b I; omega) (by have B_2 := IT_b I; omega)) ?_
  refine ok_gd (inb_of (by have B_3 := IT_b I; omega) (by have B_4 := IT_b I; omega)) ?_
  refine ok_gd (inb_of (by have B_5 := IT_b I; omega) (by have B_6 := IT_b I; omega)) ?_
  refine ok_gd (inb_of (by have B_7 := IT_b I; omega) (by have B_8 := IT_b I; omega)) ?_
  try have e_9 : ((ga u 3 x1) - (ga u 2 x1) : Int32).toInt = ((ga u 3 x1) : Int32).toInt - ((ga u 2 x1) : Int32).toInt := by have B_10 := IT_b I; exact sub_i (by omega) (by omega)
  try have e_11 : ((ga u 3 x2) - (ga u 2 x2) : Int32).toInt = ((ga u 3 x2) : Int32).toInt - ((ga u 2 x2) : Int32).toInt := by have B_12 := IT_b I; exact sub_i (by omega) (by omega)
  refine ok_eq (fun c_13 c_13' => ?_) (fun c_13 => ?_)
  · refine ok_mono (kM_SqlReaderModel_sameToken_L38 _ I (by have FUe : FU = 100000 := rfl; have B_14 := IT_b I; omega) (by have FUe : FU = 100000 := rfl; have B_15 := IT_b I; omega) (by have FUe : FU = 100000 := rfl; have B_16 := IT_b I; omega) (by have FUe : FU = 100000 := rfl; have B_17 := IT_b I; omega) (by have FUe : FU = 100000 := rfl; have B_18 := IT_b I; omega) (by have FUe : FU = 100000 := rfl; have B_19 := IT_b I; omega) (by have FUe : FU = 100000 := rfl; have B_20 := IT_b I; omega) (by have FUe : FU = 100000 := rfl; have B_21 := IT_b I; omega) (by have FUe : FU = 100000 := rfl; have B_22 := IT_b I; omega) (by have FUe : FU = 100000 := rfl; have B_23 := IT_b I; omega)) (fun r_25 z_24 => ?_)
    obtain ⟨p_26, p_27⟩ := z_24
    exact ⟨(by omega), (by omega)⟩
  · refine ok_mono (kM_SqlReaderModel_sameToken_L38 _ I (by have FUe : FU = 100000 := rfl; have B_28 := IT_b I; omega) (by have FUe : FU = 100000 := rfl; have B_29 := IT_b I; omega) (by have FUe : FU = 100000 := rfl; have B_30 := IT_b I; omega) (by have FUe : FU = 100000 := rfl; have B_31 := IT_b I; omega) (by have FUe : FU = 100000 := rfl; have B_32 := IT_b I; omega) (by have FUe : FU = 100000 := rfl; have B_33 := IT_b I; omega) (by have FUe : FU = 100000 := rfl; have B_34 := IT_b I; omega) (by have FUe : FU = 100000 := rfl; have B_35 := IT_b I; omega) (by have FUe : FU = 100000 := rfl; have B_36 := IT_b I; omega) (by have FUe : FU = 100000 := rfl; have B_37 := IT_b I; omega)) (fun r_39 z_38 => ?_)
    obtain ⟨p_40, p_41⟩ := z_38
    exact ⟨(by omega), (by omega)⟩
