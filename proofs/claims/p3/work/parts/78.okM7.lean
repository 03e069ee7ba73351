theorem kE_SqlReaderModel_type_L30 : ∀ (n : Nat) {x1 : Int64} {x4 : Int32} {u : St} (I : IE u) (h0 : -1 ≤ x4.toInt) (h1 : x4.toInt ≤ 7) (h2 : (u.1 0).toInt + x4.toInt + 1 ≤ 2000) (hm : (x4.toInt + 1).toNat < n), okM (mM_SqlReaderModel_type_L30 n x1 x4 u) (fun r v => IE v ∧ Fq [0] [0] u v ∧ r.toInt = 1 ∧ (v.1 0).toInt = (u.1 0).toInt + x4.toInt + 1) := by
  intro n
  induction n with
  | zero => intro x1 x4 u I h0 h1 h2 hm; exact absurd hm (Nat.not_lt_zero _)
  | succ n ih =>
    intro x1 x4 u I h0 h1 h2 hm
    have l0 : (0 : Int32).toInt = 0 := by decide
    have l1 : (1 : Int32).toInt = 1 := by decide
    have l7 : (7 : Int32).toInt = 7 := by decide
    have l2000 : (2000 : Int32).toInt = 2000 := by decide
    rw [mM_SqlReaderModel_type_L30]
    refine okM_lt (fun c_1 => ?_) (fun c_1 => ?_)
    · exact okM_some ⟨I, (Fq_rfl u), (by omega), (by have B_2 := IE_b I; omega)⟩
    · refine okM_gd (inb_of (by have B_3 := IE_b I; omega) (by have B_4 := IE_b I; omega)) ?_
      refine okM_seq (fun u_6 h_5 => ?_)
      have I_u_6 : IE u_6 := by rw [h_5]; exact I
      have F_u_6 : Fq [0] [0] u u_6 := by rw [h_5]; exact Fq_sa (Fq_rfl u) rfl
      have g_7 : (u_6.1 0).toInt = (u.1 0).toInt := by rw [h_5]; rfl
      refine okM_seq (fun u_9 h_8 => ?_)
      try have e_10 : ((u_6.1 0) + 1 : Int32).toInt = ((u_6.1 0) : Int32).toInt + (1 : Int32).toInt := by have B_11 := IE_b I; have B_12 := IE_b I_u_6; exact add_i (by omega) (by omega)
      have I_u_9 : IE u_9 := by rw [h_8]; exact IE_s0 I_u_6 (by have B_13 := IE_b I_u_6; omega) (by have B_14 := IE_b I_u_6; omega)
      have F_u_9 : Fq [0] [0] u u_9 := by rw [h_8]; exact Fq_ss F_u_6 rfl
      try have e_15 : ((u_6.1 0) + 1 : Int32).toInt = ((u_6.1 0) : Int32).toInt + (1 : Int32).toInt := by have B_16 := IE_b I; have B_17 := IE_b I_u_6; exact add_i (by omega) (by omega)
      have g_18 : (u_9.1 0).toInt = (((u_6.1 0) + 1) : Int32).toInt := by rw [h_8]; rfl
      refine okM_seq (fun y_20 h_19 => ?_)
      have h_19' : y_20.toInt = x4.toInt - 1 := by rw [h_19]; exact dec_i (by omega)
      refine okM_mono (ih I_u_9 (by have B_21 := IE_b I_u_9; omega) (by have B_22 := IE_b I_u_9; omega) (by have B_23 := IE_b I_u_9; omega) (by have B_24 := IE_b I_u_9; omega)) (fun r_26 u_27 z_25 => ?_)
      obtain ⟨I_u_27, G_u_27, p_28, p_29⟩ := z_25
      have F_u_27 : Fq [0] [0] u u_27 := Fq_tr F_u_9 G_u_27 rfl rfl
      exact ⟨I_u_27, F_u_27, (by omega), (by have B_30 := IE_b I_u_27; have B_31 := IE_b I; omega)⟩
theorem kE_SqlReaderModel_type {x1 : Int64} {x3 : Int32} {u : St} (I : IE u) : okM (mM_SqlReaderModel_type x1 x3 u) (fun r v => IE v ∧ Fq [0] [0] u v ∧ ((r.toInt = 1 ∧ 1 ≤ x3.toInt ∧ x3.toInt ≤ 8 ∧ (u.1 0).toInt + x3.toInt ≤ 2000 ∧ (v.1 0).toInt = (u.1 0).toInt + x3.toInt) ∨ (r.toInt = 0 ∧ (x3.toInt < 1 ∨ 8 < x3.toInt ∨ 2000 < (u.1 0).toInt + x3.toInt) ∧ (v.1 0).toInt = (u.1 0).toInt))) := by
  have l0 : (0 : Int32).toInt = 0 := by decide
  have l1 : (1 : Int32).toInt = 1 := by decide
  have l7 : (7 : Int32).toInt = 7 := by decide
  have l8 : (8 : Int32).toInt = 8 := by decide
  have l2000 : (2000 : Int32).toInt = 2000 := by decide
  rw [mM_SqlReaderModel_type]
  refine okM_lt (fun c_1 => ?_) (fun c_1 => ?_)
  · exact okM_some ⟨I, (Fq_rfl u), (by have B_2 := IE_b I; omega)⟩
  · refine okM_lt (fun c_3 => ?_) (fun c_3 => ?_)
    · exact okM_some ⟨I, (Fq_rfl u), (by have B_4 := IE_b I; omega)⟩
    · try have e_5 : ((u.1 0) + x3 : Int32).toInt = ((u.1 0) : Int32).toInt + (x3 : Int32).toInt := by have B_6 := IE_b I; exact add_i (by omega) (by omega)
      refine okM_le (fun c_7 => ?_) (fun c_7 => ?_)
      · try have e_10 : (x3 - 1 : Int32).toInt = (x3 : Int32).toInt - (1 : Int32).toInt := by have B_11 := IE_b I; exact sub_i (by omega) (by omega)
        refine okM_seq (fun y_9 h_8 => ?_)
        have h_8' : y_9.toInt = ((x3 - 1) : Int32).toInt := by rw [h_8]
        refine okM_mono (kE_SqlReaderModel_type_L30 _ I (by have FUe : FU = 100000 := rfl; have B_12 := IE_b I; omega) (by have FUe : FU = 100000 := rfl; have B_13 := IE_b I; omega) (by have FUe : FU = 100000 := rfl; have B_14 := IE_b I; omega) (by have FUe : FU = 100000 := rfl; have B_15 := IE_b I; omega)) (fun r_17 u_18 z_16 => ?_)
        obtain ⟨I_u_18, G_u_18, p_19, p_20⟩ := z_16
        have F_u_18 : Fq [0] [0] u u_18 := Fq_tr (Fq_rfl u) G_u_18 rfl rfl
        exact ⟨I_u_18, F_u_18, (by have B_21 := IE_b I; have B_22 := IE_b I_u_18; omega)⟩
      · exact okM_some ⟨I, (Fq_rfl u), (by have B_23 := IE_b I; omega)⟩
theorem kE_SqlReaderModel_typeOf {x1 : Int32} {u : St} (I : IE u) (h0 : 0 ≤ x1.toInt) (h1 : x1.toInt < (u.1 4).toInt) : ok (mM_SqlReaderModel_typeOf x1 u) (fun r => True) := by
  have l10 : (10 : Int32).toInt = 10 := by decide
  have l11 : (11 : Int32).toInt = 11 := by decide
  have l13 : (13 : Int32).toInt = 13 := by decide
  have l28 : (28 : Int32).toInt = 28 := by decide
  have l33 : (33 : Int32).toInt = 33 := by decide
  rw [mM_SqlReaderModel_typeOf]
  have N := IE_par I x1
  refine ok_gd (inb_of (by have B_1 := IE_b I; omega) (by have B_2 := IE_b I; omega)) ?_
  refine ok_eq (fun c_3 c_3' => ?_) (fun c_3 => ?_)
  · refine ok_gd (inb_of (by have B_4 := IE_b I; omega) (by have B_5 := IE_b I; omega)) ?_
    refine ok_gd (inb_of (by have B_6 := IE_b I; omega) (by have B_7 := IE_b I; omega)) ?_
    exact ok_some trivial
  · refine ok_gd (inb_of (by have B_8 := IE_b I; omega) (by have B_9 := IE_b I; omega)) ?_
    exact ok_some trivial
theorem kE_SqlReaderModel_node {x1 : Int32} {x2 : Int32} {u : St} (I : IE u) : ok (mM_SqlReaderModel_node x1 x2 u) (fun r => True) := by
  have lm1 : (-1 : Int32).toInt = -1 := by decide
  have l0 : (0 : Int32).toInt = 0 := by decide
  have l1 : (1 : Int32).toInt = 1 := by decide
  have l2 : (2 : Int32).toInt = 2 := by decide
  have l3 : (3 : Int32).toInt = 3 := by decide
  have l4 : (4 : Int32).toInt = 4 := by decide
  have l10 : (10 : Int32).toInt = 10 := by decide
  have l11 : (11 : Int32).toInt = 11 := by decide
  have l12 : (12 : Int32).toInt = 12 := by decide
  rw [mM_SqlReaderModel_node]
  refine ok_lt (fun c_1 => ?_) (fun c_1 => ?_)
  · exact ok_some trivial
  · refine ok_lt (fun c_2 => ?_) (fun c_2 => ?_)
    · refine ok_eq (fun c_3 c_3' => ?_) (fun c_3 => ?_)
      · refine ok_gd (inb_of (by have B_4 := IE_b I; omega) (by have B_5 := IE_b I; omega)) ?_
        exact ok_some trivial
      · refine ok_eq (fun c_6 c_6' => ?_) (fun c_6 => ?_)
        · refine ok_gd (inb_of (by have B_7 := IE_b I; omega) (by have B_8 := IE_b I; omega)) ?_
          exact ok_some trivial
        · refine ok_eq (fun c_9 c_9' => ?_) (fun c_9 => ?_)
          · refine ok_gd (inb_of (by have B_10 := IE_b I; omega) (by have B_11 := IE_b I; omega)) ?_
            exact ok_some trivial
          · refine ok_eq (fun c_12 c_12' => ?_) (fun c_12 => ?_)
            · refine ok_bP (kE_SqlReaderModel_typeOf I (by have FUe : FU = 100000 := rfl; have B_14 := IE_b I; omega) (by have FUe : FU = 100000 := rfl; have B_15 := IE_b I; omega)) (fun r_16 z_13 => ?_)
              exact ok_some trivial
            · exact ok_some trivial
    · exact ok_some trivial
theorem kE_SqlReaderModel_value {x1 : Int32} {u : St} (I : IE u) : ok (mM_SqlReaderModel_value x1 u) (fun r => True) := by
  have l0 : (0 : Int32).toInt = 0 := by decide
  have l1 : (1 : Int32).toInt = 1 := by decide
  have l2 : (2 : Int32).toInt = 2 := by decide
  have l4 : (4 : Int32).toInt = 4 := by decide
  have l10 : (10 : Int32).toInt = 10 := by decide
  have l17 : (17 : Int32).toInt = 17 := by decide
  rw [mM_SqlReaderModel_value]
  refine ok_lt (fun c_1 => ?_) (fun c_1 => ?_)
  · exact ok_some trivial
  · refine ok_lt (fun c_2 => ?_) (fun c_2 => ?_)
    · refine ok_gd (inb_of (by have B_3 := IE_b I; omega) (by have B_4 := IE_b I; omega)) ?_
      refine ok_eq (fun c_5 c_5' => ?_) (fun c_5 => ?_)
      · refine ok_gd (inb_of (by have B_6 := IE_b I; omega) (by have B_7 := IE_b I; omega)) ?_
        exact ok_some trivial
      · refine ok_gd (inb_of (by have B_8 := IE_b I; omega) (by have B_9 := IE_b I; omega)) ?_
        refine ok_eq (fun c_10 c_10' => ?_) (fun c_10 => ?_)
        · refine ok_gd (inb_of (by have B_11 := IE_b I; omega) (by have B_12 := IE_b I; omega)) ?_
          exact ok_some trivial
        · exact ok_some trivial
    · exact ok_some trivial
theorem kE_SqlReaderModel_letter {x1 : Int32} {x2 : Int32} {u : St} (I : IE u) : ok (mM_SqlReaderModel_letter x1 x2 u) (fun r => True) := by
  have lm1 : (-1 : Int32).toInt = -1 := by decide
  have l0 : (0 : Int32).toInt = 0 := by decide
  have l2 : (2 : Int32).toInt = 2 := by decide
  have l4 : (4 : Int32).toInt = 4 := by decide
  have l10 : (10 : Int32).toInt = 10 := by decide
  have l16 : (16 : Int32).toInt = 16 := by decide
  have l17 : (17 : Int32).toInt = 17 := by decide
  have l31 : (31 : Int32).toInt = 31 := by decide
  rw [mM_SqlReaderModel_letter]
  have A1 := IB_a (IE_IB I) x1
  have B0 := IE_b I
  refine ok_lt (fun c_1 => ?_) (fun c_1 => ?_)
  · exact ok_some trivial
  · refine ok_le (fun c_2 => ?_) (fun c_2 => ?_)
    · exact ok_some trivial
    · refine ok_gd (inb_of (by have B_3 := IE_b I; omega) (by have B_4 := IE_b I; omega)) ?_
      refine ok_eq (fun c_5 c_5' => ?_) (fun c_5 => ?_)
      · refine ok_lt (fun c_6 => ?_) (fun c_6 => ?_)
        · exact ok_some trivial
        · refine ok_gd (inb_of (by have B_7 := IE_b I; omega) (by have B_8 := IE_b I; omega)) ?_
          refine ok_lt (fun c_9 => ?_) (fun c_9 => ?_)
          · try have e_10 : (31 * x1 : Int32).toInt = 31 * (x1 : Int32).toInt := by have B_11 := IE_b I; exact cmu_i l31 (by omega) (by omega)
            try have e_12 : ((31 * x1) + x2 : Int32).toInt = ((31 * x1) : Int32).toInt + (x2 : Int32).toInt := by have B_13 := IE_b I; exact add_i (by omega) (by omega)
            refine ok_gd (inb_of (by have B_14 := IE_b I; omega) (by have B_15 := IE_b I; omega)) ?_
            exact ok_some trivial
          · exact ok_some trivial
      · exact ok_some trivial
theorem kE_SqlReaderModel_sizeOf {x1 : Int32} {u : St} (I : IE u) : ok (mM_SqlReaderModel_sizeOf x1 u) (fun r => 0 ≤ r.toInt ∧ r.toInt ≤ 1000 ∧ ((x1.toInt ≠ 0 ∧ x1.toInt ≠ 1) ∨ r.toInt ≤ 200) ∧ (x1.toInt ≠ 8 ∨ r.toInt ≤ 9)) := by
  have l0 : (0 : Int32).toInt = 0 := by decide
  have l1 : (1 : Int32).toInt = 1 := by decide
  have l2 : (2 : Int32).toInt = 2 := by decide
  have l3 : (3 : Int32).toInt = 3 := by decide
  have l4 : (4 : Int32).toInt = 4 := by decide
  have l5 : (5 : Int32).toInt = 5 := by decide
  have l6 : (6 : Int32).toInt = 6 := by decide
  have l7 : (7 : Int32).toInt = 7 := by decide
  have l8 : (8 : Int32).toInt = 8 := by decide
  have l9 : (9 : Int32).toInt = 9 := by decide
  have l16 : (16 : Int32).toInt = 16 := by decide
  have l17 : (17 : Int32).toInt = 17 := by decide
  have l18 : (18 : Int32).toInt = 18 := by decide
  have l19 : (19 : Int32).toInt = 19 := by decide
  have l20 : (20 : Int32).toInt = 20 := by decide
  have l23 : (23 : Int32).toInt = 23 := by decide
  have l24 : (24 : Int32).toInt = 24 := by decide
  have l28 : (28 : Int32).toInt = 28 := by decide
  have l200 : (200 : Int32).toInt = 200 := by decide
  have l1000 : (1000 : Int32).toInt = 1000 := by decide
  rw [mM_SqlReaderModel_sizeOf]
  refine ok_eq (fun c_1 c_1' => ?_) (fun c_1 => ?_)
  · rw [mM_SqlReaderModel_sizeOf_J12]
    refine ok_eq (fun c_2 c_2' => ?_) (fun c_2 => ?_)
    · rw [mM_SqlReaderModel_sizeOf_J26]
      refine ok_eq (fun c_3 c_3' => ?_) (fun c_3 => ?_)
      · refine ok_pos (by decide) ?_
        exact ok_some ⟨(by have B_4 := IE_b I; omega), (by have B_5 := IE_b I; omega), (by have B_6 := IE_b I; omega), (by have B_7 := IE_b I; omega)⟩
      · refine ok_neg (by decide) ?_
        exact ok_some ⟨(by omega), (by omega), (by omega), (by omega)⟩
    · rw [mM_SqlReaderModel_sizeOf_J26]
      refine ok_eq (fun c_8 c_8' => ?_) (fun c_8 => ?_)
      · refine ok_neg (by decide) ?_
        exact ok_some ⟨(by omega), (by omega), (by omega), (by omega)⟩
      · refine ok_pos (by decide) ?_
        exact ok_some ⟨(by have B_9 := IE_b I; omega), (by have B_10 := IE_b I; omega), (by have B_11 := IE_b I; omega), (by have B_12 := IE_b I; omega)⟩
  · refine ok_eq (fun c_13 c_13' => ?_) (fun c_13 => ?_)
    · rw [mM_SqlReaderModel_sizeOf_J12]
      refine ok_eq (fun c_14 c_14' => ?_) (fun c_14 => ?_)
      · rw [mM_SqlReaderModel_sizeOf_J26]
        refine ok_eq (fun c_15 c_15' => ?_) (fun c_15 => ?_)
        · refine ok_pos (by decide) ?_
          exact ok_some ⟨(by have B_16 := IE_b I; omega), (by have B_17 := IE_b I; omega), (by have B_18 := IE_b I; omega), (by have B_19 := IE_b I; omega)⟩
        · refine ok_neg (by decide) ?_
          exact ok_some ⟨(by omega), (by omega), (by omega), (by omega)⟩
      · rw [mM_SqlReaderModel_sizeOf_J26]
        refine ok_eq (fun c_20 c_20' => ?_) (fun c_20 => ?_)
        · refine ok_neg (by decide) ?_
          exact ok_some ⟨(by omega), (by omega), (by omega), (by omega)⟩
        · refine ok_pos (by decide) ?_
          exact ok_some ⟨(by have B_21 := IE_b I; omega), (by have B_22 := IE_b I; omega), (by have B_23 := IE_b I; omega), (by have B_24 := IE_b I; omega)⟩
    · refine ok_eq (fun c_25 c_25' => ?_) (fun c_25 => ?_)
      · exact ok_some ⟨(by have B_26 := IE_b I; omega), (by have B_27 := IE_b I; omega), (by have B_28 := IE_b I; omega), (by have B_29 := IE_b I; omega)⟩
      · refine ok_eq (fun c_30 c_30' => ?_) (fun c_30 => ?_)
        · exact ok_some ⟨(by have B_31 := IE_b I; omega), (by have B_32 := IE_b I; omega), (by have B_33 := IE_b I; omega), (by have B_34 := IE_b I; omega)⟩
        · refine ok_eq (fun c_35 c_35' => ?_) (fun c_35 => ?_)
          · exact ok_some ⟨(by have B_36 := IE_b I; omega), (by have B_37 := IE_b I; omega), (by have B_38 := IE_b I; omega), (by have B_39 := IE_b I; omega)⟩
          · refine ok_eq (fun c_40 c_40' => ?_) (fun c_40 => ?_)
            · exact ok_some ⟨(by have B_41 := IE_b I; omega), (by have B_42 := IE_b I; omega), (by have B_43 := IE_b I; omega), (by have B_44 := IE_b I; omega)⟩
            · refine ok_eq (fun c_45 c_45' => ?_) (fun c_45 => ?_)
              · exact ok_some ⟨(by have B_46 := IE_b I; omega), (by have B_47 := IE_b I; omega), (by have B_48 := IE_b I; omega), (by have B_49 := IE_b I; omega)⟩
              · refine ok_eq (fun c_50 c_50' => ?_) (fun c_50 => ?_)
                · exact ok_some ⟨(by have B_51 := IE_b I; omega), (by have B_52 := IE_b I; omega), (by have B_53 := IE_b I; omega), (by have B_54 := IE_b I; omega)⟩
                · refine ok_eq (fun c_55 c_55' => ?_) (fun c_55 => ?_)
                  · exact ok_some ⟨(by have B_56 := IE_b I; omega), (by have B_57 := IE_b I; omega), (by have B_58 := IE_b I; omega), (by have B_59 := IE_b I; omega)⟩
                  · refine ok_eq (fun c_60 c_60' => ?_) (fun c_60 => ?_)
                    · exact ok_some ⟨(by have B_61 := IE_b I; omega), (by have B_62 := IE_b I; omega), (by have B_63 := IE_b I; omega), (by have B_64 := IE_b I; omega)⟩
                    · exact ok_some ⟨(by omega), (by omega), (by omega), (by omega)⟩
theorem kE_SqlReaderModel_count {x1 : Int32} {u : St} (I : IE u) : ok (mM_SqlReaderModel_count x1 u) (fun r => True) := by
  have lm1 : (-1 : Int32).toInt = -1 := by decide
  have l0 : (0 : Int32).toInt = 0 := by decide
  have l1 : (1 : Int32).toInt = 1 := by decide
  have l2 : (2 : Int32).toInt = 2 := by decide
  have l3 : (3 : Int32).toInt = 3 := by decide
  have l4 : (4 : Int32).toInt = 4 := by decide
  have l5 : (5 : Int32).toInt = 5 := by decide
  have l6 : (6 : Int32).toInt = 6 := by decide
  have l7 : (7 : Int32).toInt = 7 := by decide
  have l8 : (8 : Int32).toInt = 8 := by decide
  have l9 : (9 : Int32).toInt = 9 := by decide
  have l10 : (10 : Int32).toInt = 10 := by decide
  have l11 : (11 : Int32).toInt = 11 := by decide
  have l12 : (12 : Int32).toInt = 12 := by decide
  have l14 : (14 : Int32).toInt = 14 := by decide
  have l15 : (15 : Int32).toInt = 15 := by decide
  have l16 : (16 : Int32).toInt = 16 := by decide
  have l17 : (17 : Int32).toInt = 17 := by decide
  have l18 : (18 : Int32).toInt = 18 := by decide
  have l19 : (19 : Int32).toInt = 19 := by decide
  have l20 : (20 : Int32).toInt = 20 := by decide
  have l21 : (21 : Int32).toInt = 21 := by decide
  have l24 : (24 : Int32).toInt = 24 := by decide
  have l25 : (25 : Int32).toInt = 25 := by decide
  have l27 : (27 : Int32).toInt = 27 := by decide
  have l28 : (28 : Int32).toInt = 28 := by decide
  rw [mM_SqlReaderModel_count]
  refine ok_le (fun c_1 => ?_) (fun c_1 => ?_)
  · refine ok_le (fun c_2 => ?_) (fun c_2 => ?_)
    · refine ok_eq (fun c_3 c_3' => ?_) (fun c_3 => ?_)
      · exact ok_some trivial
      · refine ok_eq (fun c_4 c_4' => ?_) (fun c_4 => ?_)
        · exact ok_some trivial
        · refine ok_eq (fun c_5 c_5' => ?_) (fun c_5 => ?_)
          · exact ok_some trivial
          · refine ok_eq (fun c_6 c_6' => ?_) (fun c_6 => ?_)
            · refine ok_eq (fun c_7 c_7' => ?_) (fun c_7 => ?_)
              · exact ok_some trivial
              · exact ok_some trivial
            · exact ok_some trivial
    · refine ok_eq (fun c_8 c_8' => ?_) (fun c_8 => ?_)
      · refine ok_bP (kE_SqlReaderModel_sizeOf I) (fun r_10 z_9 => ?_)
        obtain ⟨p_11, p_12, p_13, p_14⟩ := z_9
        exact ok_some trivial
      · refine ok_eq (fun c_15 c_15' => ?_) (fun c_15 => ?_)
        · exact ok_some trivial
        · refine ok_eq (fun c_16 c_16' => ?_) (fun c_16 => ?_)
          · refine ok_eq (fun c_17 c_17' => ?_) (fun c_17 => ?_)
            · exact ok_some trivial
            · exact ok_some trivial
          · refine ok_eq (fun c_18 c_18' => ?_) (fun c_18 => ?_)
            · exact ok_some trivial
            · exact ok_some trivial
  · refine ok_eq (fun c_19 c_19' => ?_) (fun c_19 => ?_)
    · exact ok_some trivial
    · refine ok_eq (fun c_20 c_20' => ?_) (fun c_20 => ?_)
      · exact ok_some trivial
      · refine ok_eq (fun c_21 c_21' => ?_) (fun c_21 => ?_)
        · exact ok_some trivial
        · refine ok_eq (fun c_22 c_22' => ?_) (fun c_22 => ?_)
          · exact ok_some trivial
          · refine ok_eq (fun c_23 c_23' => ?_) (fun c_23 => ?_)
            · exact ok_some trivial
            · refine ok_eq (fun c_24 c_24' => ?_) (fun c_24 => ?_)
              · exact ok_some trivial
              · refine ok_eq (fun c_25 c_25' => ?_) (fun c_25 => ?_)
                · exact ok_some trivial
                · refine ok_eq (fun c_26 c_26' => ?_) (fun c_26 => ?_)
                  · exact ok_some trivial
                  · refine ok_eq (fun c_27 c_27' => ?_) (fun c_27 => ?_)
                    · exact ok_some trivial
                    · exact ok_some trivial
theorem kE_SqlReaderModel_list {x1 : Int32} {x2 : Int32} {u : St} (I : IE u) : ok (mM_SqlReaderModel_list x1 x2 u) (fun r => True) := by
  have lm1 : (-1 : Int32).toInt = -1 := by decide
  have l0 : (0 : Int32).toInt = 0 := by decide
  have l1 : (1 : Int32).toInt = 1 := by decide
  have l2 : (2 : Int32).toInt = 2 := by decide
  have l3 : (3 : Int32).toInt = 3 := by decide
  have l4 : (4 : Int32).toInt = 4 := by decide
  have l5 : (5 : Int32).toInt = 5 := by decide
  have l7 : (7 : Int32).toInt = 7 := by decide
  have l8 : (8 : Int32).toInt = 8 := by decide
  have l21 : (21 : Int32).toInt = 21 := by decide
  have l22 : (22 : Int32).toInt = 22 := by decide
  have l23 : (23 : Int32).toInt = 23 := by decide
  have l24 : (24 : Int32).toInt = 24 := by decide
  have l28 : (28 : Int32).toInt = 28 := by decide
  have l29 : (29 : Int32).toInt = 29 := by decide
  have l30 : (30 : Int32).toInt = 30 := by decide
  have l32 : (32 : Int32).toInt = 32 := by decide
  have l33 : (33 : Int32).toInt = 33 := by decide
  rw [mM_SqlReaderModel_list]
  refine ok_lt (fun c_1 => ?_) (fun c_1 => ?_)
  · exact ok_some trivial
  · refine ok_bP (kE_SqlReaderModel_sizeOf I) (fun r_3 z_2 => ?_)
    obtain ⟨p_4, p_5, p_6, p_7⟩ := z_2
    refine ok_lt (fun c_8 => ?_) (fun c_8 => ?_)
    · refine ok_eq (fun c_9 c_9' => ?_) (fun c_9 => ?_)
      · refine ok_gd (inb_of (by have B_10 := IE_b I; omega) (by have B_11 := IE_b I; omega)) ?_
        refine ok_eq (fun c_12 c_12' => ?_) (fun c_12 => ?_)
        · refine ok_gd (inb_of (by have B_13 := IE_b I; omega) (by have B_14 := IE_b I; omega)) ?_
          try have e_15 : ((Int64.toInt32 (gl u 1 x2)) - 1 : Int32).toInt = ((Int64.toInt32 (gl u 1 x2)) : Int32).toInt - (1 : Int32).toInt := by have B_16 := IE_b I; exact sub_i (by omega) (by omega)
          exact ok_some trivial
        · refine ok_gd (inb_of (by have B_17 := IE_b I; omega) (by have B_18 := IE_b I; omega)) ?_
          exact ok_some trivial
      · refine ok_eq (fun c_19 c_19' => ?_) (fun c_19 => ?_)
        · refine ok_gd (inb_of (by have B_20 := IE_b I; omega) (by have B_21 := IE_b I; omega)) ?_
          exact ok_some trivial
        · refine ok_eq (fun c_22 c_22' => ?_) (fun c_22 => ?_)
          · refine ok_gd (inb_of (by have B_23 := IE_b I; omega) (by have B_24 := IE_b I; omega)) ?_
            exact ok_some trivial
          · refine ok_eq (fun c_25 c_25' => ?_) (fun c_25 => ?_)
            · refine ok_gd (inb_of (by have B_26 := IE_b I; omega) (by have B_27 := IE_b I; omega)) ?_
              exact ok_some trivial
            · refine ok_eq (fun c_28 c_28' => ?_) (fun c_28 => ?_)
              · refine ok_gd (inb_of (by have B_29 := IE_b I; omega) (by have B_30 := IE_b I; omega)) ?_
                exact ok_some trivial
              · refine ok_eq (fun c_31 c_31' => ?_) (fun c_31 => ?_)
                · refine ok_gd (inb_of (by have B_32 := IE_b I; omega) (by have B_33 := IE_b I; omega)) ?_
                  exact ok_some trivial
                · refine ok_eq (fun c_34 c_34' => ?_) (fun c_34 => ?_)
                  · refine ok_gd (inb_of (by have B_35 := IE_b I; omega) (by have B_36 := IE_b I; omega)) ?_
                    exact ok_some trivial
                  · refine ok_eq (fun c_37 c_37' => ?_) (fun c_37 => ?_)
                    · try have e_38 : (x2 + 1 : Int32).toInt = (x2 : Int32).toInt + (1 : Int32).toInt := by have B_39 := IE_b I; exact add_i (by omega) (by omega)
                      refine ok_gd (inb_of (by have B_40 := IE_b I; omega) (by have B_41 := IE_b I; omega)) ?_
                      exact ok_some trivial
                    · refine ok_gd (inb_of (by have B_42 := IE_b I; omega) (by have B_43 := IE_b I; omega)) ?_
                      exact ok_some trivial
    · exact ok_some trivial
theorem kE_SqlReaderModel_name {x1 : Int32} {x2 : Int32} {u : St} (I : IE u) : ok (mM_SqlReaderModel_name x1 x2 u) (fun r => True) := by
  have lm1 : (-1 : Int32).toInt = -1 := by decide
  have l0 : (0 : Int32).toInt = 0 := by decide
  have l1 : (1 : Int32).toInt = 1 := by decide
  have l8 : (8 : Int32).toInt = 8 := by decide
  have l16 : (16 : Int32).toInt = 16 := by decide
  have l35 : (35 : Int32).toInt = 35 := by decide
  have l36 : (36 : Int32).toInt = 36 := by decide
  rw [mM_SqlReaderModel_name]
  have A1 := IB_a (IE_IB I) (x1 + 1)
  refine ok_lt (fun c_1 => ?_) (fun c_1 => ?_)
  · rw [mM_SqlReaderModel_name_J32]
    refine ok_pos (by decide) ?_
    exact ok_some trivial
  · refine ok_le (fun c_2 => ?_) (fun c_2 => ?_)
    · rw [mM_SqlReaderModel_name_J32]
      refine ok_pos (by decide) ?_
      exact ok_some trivial
    · refine ok_lt (fun c_3 => ?_) (fun c_3 => ?_)
      · rw [mM_SqlReaderModel_name_J32]
        refine ok_pos (by decide) ?_
        exact ok_some trivial
      · try have e_4 : (x1 + 1 : Int32).toInt = (x1 : Int32).toInt + (1 : Int32).toInt := by have B_5 := IE_b I; exact add_i (by omega) (by omega)
        refine ok_gd (inb_of (by have B_6 := IE_b I; omega) (by have B_7 := IE_b I; omega)) ?_
        refine ok_le (fun c_8 => ?_) (fun c_8 => ?_)
        · rw [mM_SqlReaderModel_name_J32]
          refine ok_pos (by decide) ?_
          exact ok_some trivial
        · rw [mM_SqlReaderModel_name_J32]
          refine ok_neg (by decide) ?_
          try have e_9 : (x1 + 1 : Int32).toInt = (x1 : Int32).toInt + (1 : Int32).toInt := by have B_10 := IE_b I; exact add_i (by omega) (by omega)
          try have e_11 : (16 * (x1 + 1) : Int32).toInt = 16 * ((x1 + 1) : Int32).toInt := by have B_12 := IE_b I; exact cmu_i l16 (by omega) (by omega)
          try have e_13 : ((16 * (x1 + 1)) + x2 : Int32).toInt = ((16 * (x1 + 1)) : Int32).toInt + (x2 : Int32).toInt := by have B_14 := IE_b I; exact add_i (by omega) (by omega)
          refine ok_gd (inb_of (by have B_15 := IE_b I; omega) (by have B_16 := IE_b I; omega)) ?_
          exact ok_some trivial
theorem kE_SqlReaderModel_table_L31 : ∀ (n : Nat) {x1 : Int32} {u : St} (I : IEt u) (h0 : (ga u 3 0).toInt ≤ 16) (h1 : 0 ≤ (ga u 3 0).toInt) (h2 : 0 ≤ x1.toInt) (h3 : x1.toInt ≤ 16) (h4 : (u.1 3).toInt ≤ 7) (h5 : (u.1 0).toInt = 0) (hm : (16 - x1.toInt).toNat < n), okM (mM_SqlReaderModel_table_L31 n x1 u) (fun r v => IEt v ∧ Fq [3] [4, 5, 6] u v ∧ (v.1 0).toInt = 0) := by
  intro n
  induction n with
  | zero => intro x1 u I h0 h1 h2 h3 h4 h5 hm; exact absurd hm (Nat.not_lt_zero _)
  | succ n ih =>
    intro x1 u I h0 h1 h2 h3 h4 h5 hm
    have l0 : (0 : Int32).toInt = 0 := by decide
    have l1 : (1 : Int32).toInt = 1 := by decide
    have l3 : (3 : Int32).toInt = 3 := by decide
    have l7 : (7 : Int32).toInt = 7 := by decide
    have l16 : (16 : Int32).toInt = 16 := by decide
    rw [mM_SqlReaderModel_table_L31]
    refine okM_gd (inb_of (by have B_1 := IEt_b I; omega) (by have B_2 := IEt_b I; omega)) ?_
    refine okM_le (fun c_3 => ?_) (fun c_3 => ?_)
    · refine okM_gd (inb_of (by have B_4 := IEt_b I; omega) (by have B_5 := IEt_b I; omega)) ?_
      refine okM_gd (inb_of (by have B_6 := IEt_b I; omega) (by have B_7 := IEt_b I; omega)) ?_
      refine okM_seq (fun u_9 h_8 => ?_)
      have I_u_9 : IEt u_9 := by rw [h_8]; exact IEt_a5 I (by have B_10 := IEt_b I; omega) (by have B_11 := IEt_b I; omega)
      have F_u_9 : Fq [3] [4, 5, 6] u u_9 := by rw [h_8]; exact Fq_sa (Fq_rfl u) rfl
      have g_12 : (ga u_9 3 0).toInt = (ga u 3 0).toInt := by rw [h_8]; rfl
      have g_13 : (u_9.1 0).toInt = (u.1 0).toInt := by rw [h_8]; rfl
      have g_14 : (u_9.1 3).toInt = (u.1 3).toInt := by rw [h_8]; rfl
      refine okM_gd (inb_of (by have B_15 := IEt_b I_u_9; omega) (by have B_16 := IEt_b I_u_9; omega)) ?_
      refine okM_seq (fun u_18 h_17 => ?_)
      have I_u_18 : IEt u_18 := by rw [h_17]; exact IEt_a6 I_u_9 (by have B_19 := IEt_b I_u_9; omega) (by have B_20 := IEt_b I_u_9; omega)
      have F_u_18 : Fq [3] [4, 5, 6] u u_18 := by rw [h_17]; exact Fq_sa F_u_9 rfl
      have g_21 : (ga u_18 3 0).toInt = (ga u_9 3 0).toInt := by rw [h_17]; rfl
      have g_22 : (u_18.1 0).toInt = (u_9.1 0).toInt := by rw [h_17]; rfl
      have g_23 : (u_18.1 3).toInt = (u_9.1 3).toInt := by rw [h_17]; rfl
      refine okM_seq (fun u_25 h_24 => ?_)
      try have e_26 : ((u_18.1 3) + 1 : Int32).toInt = ((u_18.1 3) : Int32).toInt + (1 : Int32).toInt := by have B_27 := IEt_b I; have B_28 := IEt_b I_u_18; exact add_i (by omega) (by omega)
      have I_u_25 : IEt u_25 := by rw [h_24]; exact IEt_s3 I_u_18 (by have B_29 := IEt_b I_u_18; omega) (by have B_30 := IEt_b I_u_18; omega)
      have F_u_25 : Fq [3] [4, 5, 6] u u_25 := by rw [h_24]; exact Fq_ss F_u_18 rfl
      have g_31 : (ga u_25 3 0).toInt = (ga u_18 3 0).toInt := by rw [h_24]; rfl
      try have e_32 : ((u_18.1 3) + 1 : Int32).toInt = ((u_18.1 3) : Int32).toInt + (1 : Int32).toInt := by have B_33 := IEt_b I; have B_34 := IEt_b I_u_18; exact add_i (by omega) (by omega)
      have g_35 : (u_25.1 3).toInt = (((u_18.1 3) + 1) : Int32).toInt := by rw [h_24]; rfl
      have g_36 : (u_25.1 0).toInt = (u_18.1 0).toInt := by rw [h_24]; rfl
      try have e_37 : ((u_25.1 3) - 1 : Int32).toInt = ((u_25.1 3) : Int32).toInt - (1 : Int32).toInt := by have B_38 := IEt_b I; have B_39 := IEt_b I_u_25; exact sub_i (by omega) (by omega)
      exact okM_some ⟨I_u_25, F_u_25, (by have B_40 := IEt_b I_u_25; omega)⟩
    · refine okM_gd (inb_of (by have B_41 := IEt_b I; omega) (by have B_42 := IEt_b I; omega)) ?_
      try have e_43 : (16 * (u.1 3) : Int32).toInt = 16 * ((u.1 3) : Int32).toInt := by have B_44 := IEt_b I; exact cmu_i l16 (by omega) (by omega)
      try have e_45 : ((16 * (u.1 3)) + x1 : Int32).toInt = ((16 * (u.1 3)) : Int32).toInt + (x1 : Int32).toInt := by have B_46 := IEt_b I; exact add_i (by omega) (by omega)
      refine okM_gd (inb_of (by have B_47 := IEt_b I; omega) (by have B_48 := IEt_b I; omega)) ?_
      refine okM_seq (fun u_50 h_49 => ?_)
      have I_u_50 : IEt u_50 := by rw [h_49]; exact I
      have F_u_50 : Fq [3] [4, 5, 6] u u_50 := by rw [h_49]; exact Fq_sa (Fq_rfl u) rfl
      have g_51 : (ga u_50 3 0).toInt = (ga u 3 0).toInt := by rw [h_49]; rfl
      have g_52 : (u_50.1 0).toInt = (u.1 0).toInt := by rw [h_49]; rfl
      have g_53 : (u_50.1 3).toInt = (u.1 3).toInt := by rw [h_49]; rfl
      try have e_56 : (x1 + 1 : Int32).toInt = (x1 : Int32).toInt + (1 : Int32).toInt := by have B_57 := IEt_b I; exact add_i (by omega) (by omega)
      refine okM_seq (fun y_55 h_54 => ?_)
      have h_54' : y_55.toInt = (x1 + 1 : Int32).toInt := by rw [h_54]
      refine okM_mono (ih I_u_50 (by have B_58 := IEt_b I_u_50; omega) (by have B_59 := IEt_b I_u_50; omega) (by have B_60 := IEt_b I_u_50; omega) (by have B_61 := IEt_b I_u_50; omega) (by have B_62 := IEt_b I_u_50; omega) (by have B_63 := IEt_b I_u_50; omega) (by have B_64 := IEt_b I_u_50; omega)) (fun r_66 u_67 z_65 => ?_)
      obtain ⟨I_u_67, G_u_67, p_68⟩ := z_65
      have F_u_67 : Fq [3] [4, 5, 6] u u_67 := Fq_tr F_u_50 G_u_67 rfl rfl
      have g_69 : (u_67.1 0).toInt = (u_50.1 0).toInt := by rw [G_u_67.1 0 rfl]
      have g_70 : (ga u_67 3 0).toInt = (ga u_50 3 0).toInt := by show (u_67.2.1 3 _).toInt = _; rw [G_u_67.2 3 rfl]; rfl
      exact ⟨I_u_67, F_u_67, (by have B_71 := IEt_b I_u_67; omega)⟩
theorem kE_SqlReaderModel_column_L72 : ∀ (n : Nat) {x1 : Int32} {x2 : Int32} {x4 : Int32} {x5 : Int32} {u : St} (I : IEt u) (h0 : (ga u 3 0).toInt ≤ 16) (h1 : 0 ≤ (ga u 3 0).toInt) (h2 : 0 ≤ x5.toInt) (h3 : x5.toInt ≤ 16) (h4 : 0 ≤ x1.toInt) (h5 : x1.toInt ≤ 7) (h6 : 0 ≤ x4.toInt) (h7 : x4.toInt ≤ 63) (h8 : (ga u 6 x1).toInt ≤ 7) (h9 : (u.1 0).toInt = 0) (hm : (16 - x5.toInt).toNat < n), okM (mM_SqlReaderModel_column_L72 n x1 x2 x4 x5 u) (fun r v => IEt v ∧ Fq [] [6, 7, 8, 9] u v ∧ (v.1 0).toInt = 0) := by
  intro n
  induction n with
  | zero => intro x1 x2 x4 x5 u I h0 h1 h2 h3 h4 h5 h6 h7 h8 h9 hm; exact absurd hm (Nat.not_lt_zero _)
  | succ n ih =>
    intro x1 x2 x4 x5 u I h0 h1 h2 h3 h4 h5 h6 h7 h8 h9 hm
    have l0 : (0 : Int32).toInt = 0 := by decide
    have l1 : (1 : Int32).toInt = 1 := by decide
    have l3 : (3 : Int32).toInt = 3 := by decide
    have l6 : (6 : Int32).toInt = 6 := by decide
    have l7 : (7 : Int32).toInt = 7 := by decide
    have l16 : (16 : Int32).toInt = 16 := by decide
    have l63 : (63 : Int32).toInt = 63 := by decide
    rw [mM_SqlReaderModel_column_L72]
    have A1 := IB_a (IEt_IB I) x1
    refine okM_gd (inb_of (by have B_1 := IEt_b I; omega) (by have B_2 := IEt_b I; omega)) ?_
    refine okM_le (fun c_3 => ?_) (fun c_3 => ?_)
    · refine okM_gd (inb_of (by have B_4 := IEt_b I; omega) (by have B_5 := IEt_b I; omega)) ?_
      refine okM_gd (inb_of (by have B_6 := IEt_b I; omega) (by have B_7 := IEt_b I; omega)) ?_
      refine okM_seq (fun u_9 h_8 => ?_)
      have I_u_9 : IEt u_9 := by rw [h_8]; exact IEt_a8 I (by have B_10 := IEt_b I; omega) (by have B_11 := IEt_b I; omega)
      have F_u_9 : Fq [] [6, 7, 8, 9] u u_9 := by rw [h_8]; exact Fq_sa (Fq_rfl u) rfl
      have g_12 : (ga u_9 3 0).toInt = (ga u 3 0).toInt := by rw [h_8]; rfl
      have g_13 : (ga u_9 6 x1).toInt = (ga u 6 x1).toInt := by rw [h_8]; rfl
      have g_14 : (u_9.1 0).toInt = (u.1 0).toInt := by rw [h_8]; rfl
      refine okM_gd (inb_of (by have B_15 := IEt_b I_u_9; omega) (by have B_16 := IEt_b I_u_9; omega)) ?_
      refine okM_seq (fun u_18 h_17 => ?_)
      have I_u_18 : IEt u_18 := by rw [h_17]; exact I_u_9
      have F_u_18 : Fq [] [6, 7, 8, 9] u u_18 := by rw [h_17]; exact Fq_sa F_u_9 rfl
      have g_19 : (ga u_18 3 0).toInt = (ga u_9 3 0).toInt := by rw [h_17]; rfl
      have g_20 : (ga u_18 6 x1).toInt = (ga u_9 6 x1).toInt := by rw [h_17]; rfl
      have g_21 : (u_18.1 0).toInt = (u_9.1 0).toInt := by rw [h_17]; rfl
      refine okM_gd (inb_of (by have B_22 := IEt_b I_u_18; omega) (by have B_23 := IEt_b I_u_18; omega)) ?_
      refine okM_gd (inb_of (by have B_24 := IEt_b I_u_18; omega) (by have B_25 := IEt_b I_u_18; omega)) ?_
      refine okM_seq (fun u_27 h_26 => ?_)
      try have e_28 : ((ga u_18 6 x1) + 1 : Int32).toInt = ((ga u_18 6 x1) : Int32).toInt + (1 : Int32).toInt := by have B_29 := IEt_b I; have B_30 := IEt_b I_u_18; exact add_i (by omega) (by omega)
      have I_u_27 : IEt u_27 := by rw [h_26]; exact IEt_a6 I_u_18 (by have B_31 := IEt_b I_u_18; omega) (by have B_32 := IEt_b I_u_18; omega)
      have F_u_27 : Fq [] [6, 7, 8, 9] u u_27 := by rw [h_26]; exact Fq_sa F_u_18 rfl
      have g_33 : (ga u_27 3 0).toInt = (ga u_18 3 0).toInt := by rw [h_26]; rfl
      have g_34 : (u_27.1 0).toInt = (u_18.1 0).toInt := by rw [h_26]; rfl
      refine okM_gd (inb_of (by have B_35 := IEt_b I_u_27; omega) (by have B_36 := IEt_b I_u_27; omega)) ?_
      try have e_37 : ((ga u_27 6 x1) - 1 : Int32).toInt = ((ga u_27 6 x1) : Int32).toInt - (1 : Int32).toInt := by have B_38 := IEt_b I; have B_39 := IEt_b I_u_27; exact sub_i (by omega) (by omega)
      exact okM_some ⟨I_u_27, F_u_27, (by have B_40 := IEt_b I_u_27; omega)⟩
    · refine okM_gd (inb_of (by have B_41 := IEt_b I; omega) (by have B_42 := IEt_b I; omega)) ?_
      try have e_43 : (16 * x4 : Int32).toInt = 16 * (x4 : Int32).toInt := by have B_44 := IEt_b I; exact cmu_i l16 (by omega) (by omega)
      try have e_45 : ((16 * x4) + x5 : Int32).toInt = ((16 * x4) : Int32).toInt + (x5 : Int32).toInt := by have B_46 := IEt_b I; exact add_i (by omega) (by omega)
      refine okM_gd (inb_of (by have B_47 := IEt_b I; omega) (by have B_48 := IEt_b I; omega)) ?_
      refine okM_seq (fun u_50 h_49 => ?_)
      have I_u_50 : IEt u_50 := by rw [h_49]; exact I
      have F_u_50 : Fq [] [6, 7, 8, 9] u u_50 := by rw [h_49]; exact Fq_sa (Fq_rfl u) rfl
      have g_51 : (ga u_50 3 0).toInt = (ga u 3 0).toInt := by rw [h_49]; rfl
      have g_52 : (ga u_50 6 x1).toInt = (ga u 6 x1).toInt := by rw [h_49]; rfl
      have g_53 : (u_50.1 0).toInt = (u.1 0).toInt := by rw [h_49]; rfl
      try have e_56 : (x5 + 1 : Int32).toInt = (x5 : Int32).toInt + (1 : Int32).toInt := by have B_57 := IEt_b I; exact add_i (by omega) (by omega)
      refine okM_seq (fun y_55 h_54 => ?_)
      have h_54' : y_55.toInt = (x5 + 1 : Int32).toInt := by rw [h_54]
      refine okM_mono (ih I_u_50 (by have B_58 := IEt_b I_u_50; omega) (by have B_59 := IEt_b I_u_50; omega) (by have B_60 := IEt_b I_u_50; omega) (by have B_61 := IEt_b I_u_50; omega) (by have B_62 := IEt_b I_u_50; omega) (by have B_63 := IEt_b I_u_50; omega) (by have B_64 := IEt_b I_u_50; omega) (by have B_65 := IEt_b I_u_50; omega) (by have B_66 := IEt_b I_u_50; omega) (by have B_67 := IEt_b I_u_50; omega) (by have B_68 := IEt_b I_u_50; omega)) (fun r_70 u_71 z_69 => ?_)
      obtain ⟨I_u_71, G_u_71, p_72⟩ := z_69
      have F_u_71 : Fq [] [6, 7, 8, 9] u u_71 := Fq_tr F_u_50 G_u_71 rfl rfl
      have g_73 : (u_71.1 0).toInt = (u_50.1 0).toInt := by rw [G_u_71.1 0 rfl]
      have g_74 : (ga u_71 3 0).toInt = (ga u_50 3 0).toInt := by show (u_71.2.1 3 _).toInt = _; rw [G_u_71.2 3 rfl]; rfl
      exact ⟨I_u_71, F_u_71, (by have B_75 := IEt_b I_u_71; omega)⟩
