theorem kQ_SqlReaderModel_checkStar_L22 {q4 : Int32 → Int32 → St → Option (Int32)} {w : Nat} (hq : ∀ {x1 : Int32} {x2 : Int32} {u : St} (I : IQ u) (h0 : 0 ≤ x1.toInt) (h1 : 0 ≤ x2.toInt) (h2 : x2.toInt ≤ (u.1 19).toInt) (h3 : x1.toInt ≤ 8 * x2.toInt) (hm : (3 - x2.toInt).toNat < w), ok (q4 x1 x2 u) (fun r => 0 ≤ r.toInt ∧ r.toInt ≤ 8)) : ∀ (n : Nat) {x1 : Int32} {x2 : Int32} {x3 : Int32} {u : St} (I : IQ u) (h0 : 0 ≤ (u.1 9).toInt) (h1 : 0 ≤ x1.toInt) (h2 : 0 ≤ x2.toInt) (h3 : x2.toInt < (u.1 19).toInt) (h4 : 0 ≤ x3.toInt) (h5 : x3.toInt ≤ 8) (h6 : x1.toInt ≤ 8 * x2.toInt + x3.toInt) (h7 : (3 - (x2.toInt + 1)).toNat < w) (hm : (8 - x3.toInt).toNat < n), ok (mM_SqlReaderModel_checkStar_L22 q4 n x1 x2 x3 u) (fun r => 0 ≤ r.toInt ∧ r.toInt ≤ 8) := by
  intro n
  induction n with
  | zero => intro x1 x2 x3 u I h0 h1 h2 h3 h4 h5 h6 h7 hm; exact absurd hm (Nat.not_lt_zero _)
  | succ n ih =>
    intro x1 x2 x3 u I h0 h1 h2 h3 h4 h5 h6 h7 hm
    have l0 : (0 : Int32).toInt = 0 := by decide
    have l1 : (1 : Int32).toInt = 1 := by decide
    have l3 : (3 : Int32).toInt = 3 := by decide
    have l6 : (6 : Int32).toInt = 6 := by decide
    have l8 : (8 : Int32).toInt = 8 := by decide
    have l9 : (9 : Int32).toInt = 9 := by decide
    have l19 : (19 : Int32).toInt = 19 := by decide
    have l24 : (24 : Int32).toInt = 24 := by decide
    rw [mM_SqlReaderModel_checkStar_L22]
    have FT := IQ_ft I x2
    have F7 := IT_a24 (IQ_IT I) x2
    have W1 := IT_a6 (IQ_IT I) (ga u 24 x2)
    have W2 := IT_a6 (IQ_IT I) (u.1 9)
    refine ok_gd (inb_of (by have B_1 := IQ_b I; omega) (by have B_2 := IQ_b I; omega)) ?_
    refine ok_gd (inb_of (by have B_3 := IQ_b I; omega) (by have B_4 := IQ_b I; omega)) ?_
    refine ok_le (fun c_5 => ?_) (fun c_5 => ?_)
    · try have e_8 : (x2 + 1 : Int32).toInt = (x2 : Int32).toInt + (1 : Int32).toInt := by have B_9 := IQ_b I; exact add_i (by omega) (by omega)
      refine ok_seq (fun y_7 h_6 => ?_)
      have h_6' : y_7.toInt = (x2 + 1 : Int32).toInt := by rw [h_6]
      refine ok_mono (hq I (by have B_10 := IQ_b I; omega) (by have B_11 := IQ_b I; omega) (by have B_12 := IQ_b I; omega) (by have B_13 := IQ_b I; omega) (by have B_14 := IQ_b I; omega)) (fun r_16 z_15 => ?_)
      obtain ⟨p_17, p_18⟩ := z_15
      exact ⟨(by omega), (by omega)⟩
    · refine ok_gd (inb_of (by have B_19 := IQ_b I; omega) (by have B_20 := IQ_b I; omega)) ?_
      refine ok_le (fun c_21 => ?_) (fun c_21 => ?_)
      · try have e_24 : (x1 + 1 : Int32).toInt = (x1 : Int32).toInt + (1 : Int32).toInt := by have B_25 := IQ_b I; exact add_i (by omega) (by omega)
        refine ok_seq (fun y_23 h_22 => ?_)
        have h_22' : y_23.toInt = (x1 + 1 : Int32).toInt := by rw [h_22]
        try have e_28 : (x3 + 1 : Int32).toInt = (x3 : Int32).toInt + (1 : Int32).toInt := by have B_29 := IQ_b I; exact add_i (by omega) (by omega)
        refine ok_seq (fun y_27 h_26 => ?_)
        have h_26' : y_27.toInt = (x3 + 1 : Int32).toInt := by rw [h_26]
        refine ok_mono (ih I (by have B_30 := IQ_b I; omega) (by have B_31 := IQ_b I; omega) (by have B_32 := IQ_b I; omega) (by have B_33 := IQ_b I; omega) (by have B_34 := IQ_b I; omega) (by have B_35 := IQ_b I; omega) (by have B_36 := IQ_b I; omega) (by have B_37 := IQ_b I; omega) (by have B_38 := IQ_b I; omega)) (fun r_40 z_39 => ?_)
        obtain ⟨p_41, p_42⟩ := z_39
        exact ⟨(by omega), (by omega)⟩
      · refine ok_gd (inb_of (by have B_43 := IQ_b I; omega) (by have B_44 := IQ_b I; omega)) ?_
        try have e_45 : (8 * (ga u 24 x2) : Int32).toInt = 8 * ((ga u 24 x2) : Int32).toInt := by have B_46 := IQ_b I; exact cmu_i l8 (by omega) (by omega)
        try have e_47 : ((8 * (ga u 24 x2)) + x3 : Int32).toInt = ((8 * (ga u 24 x2)) : Int32).toInt + (x3 : Int32).toInt := by have B_48 := IQ_b I; exact add_i (by omega) (by omega)
        refine ok_gd (inb_of (by have B_49 := IQ_b I; omega) (by have B_50 := IQ_b I; omega)) ?_
        refine ok_bP (kQ_SqlReaderModel_targetType I (by have FUe : FU = 100000 := rfl; have B_52 := IQ_b I; omega) (by have FUe : FU = 100000 := rfl; have B_53 := IQ_b I; omega)) (fun r_54 z_51 => ?_)
        refine ok_eq (fun c_55 c_55' => ?_) (fun c_55 => ?_)
        · try have e_58 : (x1 + 1 : Int32).toInt = (x1 : Int32).toInt + (1 : Int32).toInt := by have B_59 := IQ_b I; exact add_i (by omega) (by omega)
          refine ok_seq (fun y_57 h_56 => ?_)
          have h_56' : y_57.toInt = (x1 + 1 : Int32).toInt := by rw [h_56]
          try have e_62 : (x3 + 1 : Int32).toInt = (x3 : Int32).toInt + (1 : Int32).toInt := by have B_63 := IQ_b I; exact add_i (by omega) (by omega)
          refine ok_seq (fun y_61 h_60 => ?_)
          have h_60' : y_61.toInt = (x3 + 1 : Int32).toInt := by rw [h_60]
          refine ok_mono (ih I (by have B_64 := IQ_b I; omega) (by have B_65 := IQ_b I; omega) (by have B_66 := IQ_b I; omega) (by have B_67 := IQ_b I; omega) (by have B_68 := IQ_b I; omega) (by have B_69 := IQ_b I; omega) (by have B_70 := IQ_b I; omega) (by have B_71 := IQ_b I; omega) (by have B_72 := IQ_b I; omega)) (fun r_74 z_73 => ?_)
          obtain ⟨p_75, p_76⟩ := z_73
          exact ⟨(by omega), (by omega)⟩
        · exact ok_some ⟨(by omega), (by omega)⟩
theorem kQ_SqlReaderModel_checkStar_L4 : ∀ (n : Nat) {x1 : Int32} {x2 : Int32} {u : St} (I : IQ u) (h0 : 0 ≤ x1.toInt) (h1 : 0 ≤ x2.toInt) (h2 : x2.toInt ≤ (u.1 19).toInt) (h3 : x1.toInt ≤ 8 * x2.toInt) (hm : (3 - x2.toInt).toNat < n), ok (mM_SqlReaderModel_checkStar_L4 n x1 x2 u) (fun r => 0 ≤ r.toInt ∧ r.toInt ≤ 8) := by
  intro n
  induction n with
  | zero => intro x1 x2 u I h0 h1 h2 h3 hm; exact absurd hm (Nat.not_lt_zero _)
  | succ n ih =>
    intro x1 x2 u I h0 h1 h2 h3 hm
    have l0 : (0 : Int32).toInt = 0 := by decide
    have l1 : (1 : Int32).toInt = 1 := by decide
    have l3 : (3 : Int32).toInt = 3 := by decide
    have l5 : (5 : Int32).toInt = 5 := by decide
    have l8 : (8 : Int32).toInt = 8 := by decide
    have l9 : (9 : Int32).toInt = 9 := by decide
    have l19 : (19 : Int32).toInt = 19 := by decide
    rw [mM_SqlReaderModel_checkStar_L4]
    have TT := IK_tt (IQ_IK I)
    have TG := IQ_b I
    refine ok_le (fun c_1 => ?_) (fun c_1 => ?_)
    · exact ok_some ⟨(by omega), (by omega)⟩
    · refine ok_bP (kM_SqlReaderModel_deed (IQ_IB I)) (fun r_3 z_2 => ?_)
      have p_4 := z_2
      refine ok_eq (fun c_5 c_5' => ?_) (fun c_5 => ?_)
      · refine ok_mono (kQ_SqlReaderModel_checkStar_L22 ih _ I (by have FUe : FU = 100000 := rfl; have B_6 := IQ_b I; omega) (by have FUe : FU = 100000 := rfl; have B_7 := IQ_b I; omega) (by have FUe : FU = 100000 := rfl; have B_8 := IQ_b I; omega) (by have FUe : FU = 100000 := rfl; have B_9 := IQ_b I; omega) (by have FUe : FU = 100000 := rfl; have B_10 := IQ_b I; omega) (by have FUe : FU = 100000 := rfl; have B_11 := IQ_b I; omega) (by have FUe : FU = 100000 := rfl; have B_12 := IQ_b I; omega) (by have FUe : FU = 100000 := rfl; have B_13 := IQ_b I; omega) (by have FUe : FU = 100000 := rfl; have B_14 := IQ_b I; omega)) (fun r_16 z_15 => ?_)
        obtain ⟨p_17, p_18⟩ := z_15
        exact ⟨(by omega), (by omega)⟩
      · exact ok_some ⟨(by omega), (by omega)⟩
theorem kQ_SqlReaderModel_checkStar {u : St} (I : IQ u) : ok (mM_SqlReaderModel_checkStar u) (fun r => 0 ≤ r.toInt ∧ r.toInt ≤ 8) := by
  have l0 : (0 : Int32).toInt = 0 := by decide
  have l3 : (3 : Int32).toInt = 3 := by decide
  have l8 : (8 : Int32).toInt = 8 := by decide
  have l19 : (19 : Int32).toInt = 19 := by decide
  rw [mM_SqlReaderModel_checkStar]
  refine ok_mono (kQ_SqlReaderModel_checkStar_L4 _ I (by have FUe : FU = 100000 := rfl; have B_1 := IQ_b I; omega) (by have FUe : FU = 100000 := rfl; have B_2 := IQ_b I; omega) (by have FUe : FU = 100000 := rfl; have B_3 := IQ_b I; omega) (by have FUe : FU = 100000 := rfl; have B_4 := IQ_b I; omega) (by have FUe : FU = 100000 := rfl; have B_5 := IQ_b I; omega)) (fun r_7 z_6 => ?_)
  obtain ⟨p_8, p_9⟩ := z_6
  exact ⟨(by omega), (by omega)⟩
