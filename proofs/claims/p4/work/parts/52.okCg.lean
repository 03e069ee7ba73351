theorem kC_Nodes_needOf {x1 : Int32} {u : St} (I : IC u) : ok (mC_Nodes_needOf x1 u) (fun r => True) := by
  have l0 : (0 : Int32).toInt = 0 := by decide
  have l6 : (6 : Int32).toInt = 6 := by decide
  have l13 : (13 : Int32).toInt = 13 := by decide
  rw [mC_Nodes_needOf]
  refine ok_lt (fun c_1 => ?_) (fun c_1 => ?_)
  · exact ok_some trivial
  · refine ok_le (fun c_2 => ?_) (fun c_2 => ?_)
    · exact ok_some trivial
    · refine ok_gd (inb_of (by have B_3 := IC_b I; omega) (by have B_4 := IC_b I; omega)) ?_
      exact ok_some trivial
theorem kC_Nodes_compares {x0 : Int32} {u : St} (I : IC u) : ok (mC_Nodes_compares x0 u) (fun r => 0 ≤ r.toInt ∧ r.toInt ≤ 1) := by
  have l0 : (0 : Int32).toInt = 0 := by decide
  have l1 : (1 : Int32).toInt = 1 := by decide
  have l17 : (17 : Int32).toInt = 17 := by decide
  have l22 : (22 : Int32).toInt = 22 := by decide
  rw [mC_Nodes_compares]
  refine ok_lt (fun c_1 => ?_) (fun c_1 => ?_)
  · exact ok_some ⟨(by omega), (by omega)⟩
  · refine ok_lt (fun c_2 => ?_) (fun c_2 => ?_)
    · exact ok_some ⟨(by omega), (by omega)⟩
    · exact ok_some ⟨(by omega), (by omega)⟩
theorem kC_Nodes_secondOf {x1 : Int32} {u : St} (I : IC u) : ok (mC_Nodes_secondOf x1 u) (fun r => True) := by
  have lm1 : (-1 : Int32).toInt = -1 := by decide
  have l0 : (0 : Int32).toInt = 0 := by decide
  have l6 : (6 : Int32).toInt = 6 := by decide
  have l10 : (10 : Int32).toInt = 10 := by decide
  rw [mC_Nodes_secondOf]
  refine ok_lt (fun c_1 => ?_) (fun c_1 => ?_)
  · exact ok_some trivial
  · refine ok_le (fun c_2 => ?_) (fun c_2 => ?_)
    · exact ok_some trivial
    · refine ok_gd (inb_of (by have B_3 := IC_b I; omega) (by have B_4 := IC_b I; omega)) ?_
      exact ok_some trivial
theorem kC_Nodes_typeOf {x1 : Int32} {u : St} (I : IC u) : ok (mC_Nodes_typeOf x1 u) (fun r => True) := by
  have lm1 : (-1 : Int32).toInt = -1 := by decide
  have l0 : (0 : Int32).toInt = 0 := by decide
  have l6 : (6 : Int32).toInt = 6 := by decide
  have l11 : (11 : Int32).toInt = 11 := by decide
  rw [mC_Nodes_typeOf]
  refine ok_lt (fun c_1 => ?_) (fun c_1 => ?_)
  · exact ok_some trivial
  · refine ok_le (fun c_2 => ?_) (fun c_2 => ?_)
    · exact ok_some trivial
    · refine ok_gd (inb_of (by have B_3 := IC_b I; omega) (by have B_4 := IC_b I; omega)) ?_
      exact ok_some trivial
theorem kC_Meaning_typeByKind {x0 : Int32} {u : St} (I : IC u) : ok (mC_Meaning_typeByKind x0 u) (fun r => True) := by
  have z0 : (0 : Int32).toInt = 0 := by decide
  have l29 : (29 : Int32).toInt = 29 := by decide
  have t3 : lnT 3 = 29 := by decide
  rw [mC_Meaning_typeByKind, t3]
  refine ok_lt (fun c => ok_some trivial) (fun c => ?_)
  exact ok_lt (fun c => ok_gd (inb_of (by omega) (by omega)) (ok_some trivial)) (fun c => ok_some trivial)
theorem kC_Meaning_typeAhead_L14 : ∀ (n : Nat) {x2 : Int32} {x3 : Int32} {x4 : Int32} {u : St} (I : IC u) (h0 : 0 ≤ x4.toInt) (h1 : x4.toInt ≤ 200) (hm : (200 - x4.toInt).toNat < n), ok (mC_Meaning_typeAhead_L14 n x2 x3 x4 u) (fun r => True) := by
  intro n
  induction n with
  | zero => intro x2 x3 x4 u I h0 h1 hm; exact absurd hm (Nat.not_lt_zero _)
  | succ n ih =>
    intro x2 x3 x4 u I h0 h1 hm
    have l0 : (0 : Int32).toInt = 0 := by decide
    have l1 : (1 : Int32).toInt = 1 := by decide
    have l4 : (4 : Int32).toInt = 4 := by decide
    have l8 : (8 : Int32).toInt = 8 := by decide
    have l9 : (9 : Int32).toInt = 9 := by decide
    have l28 : (28 : Int32).toInt = 28 := by decide
    have l200 : (200 : Int32).toInt = 200 := by decide
    rw [mC_Meaning_typeAhead_L14]
    refine ok_le (fun c_1 => ?_) (fun c_1 => ?_)
    · rw [mC_Meaning_typeAhead_J58]
      refine ok_eq (fun c_2 c_2' => ?_) (fun c_2 => ?_)
      · refine ok_bP (kC_Nodes_typeOf I) (fun r_4 z_3 => ?_)
        exact ok_some trivial
      · refine ok_eq (fun c_5 c_5' => ?_) (fun c_5 => ?_)
        · refine ok_bP (kC_Nodes_firstOf I) (fun r_7 z_6 => ?_)
          have p_8 := z_6
          try have e_9 : (r_7 - 1 : Int32).toInt = (r_7 : Int32).toInt - (1 : Int32).toInt := by exact sub_i (by omega) (by omega)
          refine ok_bP (kC_Lists_at I) (fun r_11 z_10 => ?_)
          have p_12 := z_10
          exact ok_some trivial
        · refine ok_bP (kC_Meaning_typeByKind I) (fun r_14 z_13 => ?_)
          exact ok_some trivial
    · refine ok_eq (fun c_15 c_15' => ?_) (fun c_15 => ?_)
      · rw [mC_Meaning_typeAhead_J34]
        refine ok_bP (kC_Nodes_firstOf I) (fun r_17 z_16 => ?_)
        have p_18 := z_16
        refine ok_bP (kC_Nodes_kindOf I) (fun r_20 z_19 => ?_)
        have p_21 := z_19
        try have e_24 : (x4 + 1 : Int32).toInt = (x4 : Int32).toInt + (1 : Int32).toInt := by exact add_i (by omega) (by omega)
        refine ok_seq (fun y_23 h_22 => ?_)
        have h_22' : y_23.toInt = (x4 + 1 : Int32).toInt := by rw [h_22]
        refine ok_mono (ih I (by have B_25 := IC_b I; omega) (by have B_26 := IC_b I; omega) (by have B_27 := IC_b I; omega)) (fun r_29 z_28 => ?_)
        exact trivial
      · refine ok_eq (fun c_30 c_30' => ?_) (fun c_30 => ?_)
        · rw [mC_Meaning_typeAhead_J34]
          refine ok_bP (kC_Nodes_firstOf I) (fun r_32 z_31 => ?_)
          have p_33 := z_31
          refine ok_bP (kC_Nodes_kindOf I) (fun r_35 z_34 => ?_)
          have p_36 := z_34
          try have e_39 : (x4 + 1 : Int32).toInt = (x4 : Int32).toInt + (1 : Int32).toInt := by exact add_i (by omega) (by omega)
          refine ok_seq (fun y_38 h_37 => ?_)
          have h_37' : y_38.toInt = (x4 + 1 : Int32).toInt := by rw [h_37]
          refine ok_mono (ih I (by have B_40 := IC_b I; omega) (by have B_41 := IC_b I; omega) (by have B_42 := IC_b I; omega)) (fun r_44 z_43 => ?_)
          exact trivial
        · rw [mC_Meaning_typeAhead_J58]
          refine ok_eq (fun c_45 c_45' => ?_) (fun c_45 => ?_)
          · refine ok_bP (kC_Nodes_typeOf I) (fun r_47 z_46 => ?_)
            exact ok_some trivial
          · refine ok_eq (fun c_48 c_48' => ?_) (fun c_48 => ?_)
            · refine ok_bP (kC_Nodes_firstOf I) (fun r_50 z_49 => ?_)
              have p_51 := z_49
              try have e_52 : (r_50 - 1 : Int32).toInt = (r_50 : Int32).toInt - (1 : Int32).toInt := by exact sub_i (by omega) (by omega)
              refine ok_bP (kC_Lists_at I) (fun r_54 z_53 => ?_)
              have p_55 := z_53
              exact ok_some trivial
            · refine ok_bP (kC_Meaning_typeByKind I) (fun r_57 z_56 => ?_)
              exact ok_some trivial
theorem kC_Meaning_typeAhead {x1 : Int32} {u : St} (I : IC u) : ok (mC_Meaning_typeAhead x1 u) (fun r => True) := by
  have l0 : (0 : Int32).toInt = 0 := by decide
  have l200 : (200 : Int32).toInt = 200 := by decide
  rw [mC_Meaning_typeAhead]
  refine ok_bP (kC_Nodes_kindOf I) (fun r_2 z_1 => ?_)
  have p_3 := z_1
  refine ok_mono (kC_Meaning_typeAhead_L14 _ I (by have FUe : FU = 100000 := rfl; have B_4 := IC_b I; omega) (by have FUe : FU = 100000 := rfl; have B_5 := IC_b I; omega) (by have FUe : FU = 100000 := rfl; have B_6 := IC_b I; omega)) (fun r_8 z_7 => ?_)
  exact trivial
theorem kC_Meaning_neededAt {x1 : Int32} {u : St} (I : IC u) : ok (mC_Meaning_neededAt x1 u) (fun r => True) := by
  have l0 : (0 : Int32).toInt = 0 := by decide
  have l2 : (2 : Int32).toInt = 2 := by decide
  have l29 : (29 : Int32).toInt = 29 := by decide
  rw [mC_Meaning_neededAt]
  have t2 : lnT 2 = 29 := by decide
  refine ok_bP (kC_Nodes_parentOf I) (fun r_2 z_1 => ?_)
  refine ok_bP (kC_Nodes_kindOf I) (fun r_4 z_3 => ?_)
  have p_5 := z_3
  refine ok_lt (fun c_6 => ?_) (fun c_6 => ?_)
  · refine ok_bP (kC_Nodes_needOf I) (fun r_8 z_7 => ?_)
    exact ok_some trivial
  · refine ok_lt (fun c_9 => ?_) (fun c_9 => ?_)
    · refine ok_bP (kC_Nodes_compares I) (fun r_11 z_10 => ?_)
      obtain ⟨p_12, p_13⟩ := z_10
      refine ok_eq (fun c_14 c_14' => ?_) (fun c_14 => ?_)
      · refine ok_gd (inb_of (by have B_15 := IC_b I; omega) (by have B_16 := IC_b I; omega)) ?_
        exact ok_some trivial
      · refine ok_bP (kC_Nodes_firstOf I) (fun r_18 z_17 => ?_)
        have p_19 := z_17
        refine ok_eq (fun c_20 c_20' => ?_) (fun c_20 => ?_)
        · refine ok_bP (kC_Nodes_secondOf I) (fun r_22 z_21 => ?_)
          refine ok_bP (kC_Meaning_typeAhead I) (fun r_24 z_23 => ?_)
          exact ok_some trivial
        · refine ok_bP (kC_Meaning_typeAhead I) (fun r_26 z_25 => ?_)
          exact ok_some trivial
    · refine ok_bP (kC_Nodes_needOf I) (fun r_28 z_27 => ?_)
      exact ok_some trivial
theorem kC_Lists_put {x1 : Int32} {x2 : Int32} {x3 : Int32} {u : St} (I : IC u) (h0 : (x1.toInt ≠ 0 ∧ x1.toInt ≠ 5 ∧ x1.toInt ≠ 12) ∨ (-1 ≤ x3.toInt ∧ x3.toInt ≤ 200)) : ok (mC_Lists_put x1 x2 x3 u) (fun v => IC v ∧ Fq [] [18] u v) := by
  have z0 : (0 : Int32).toInt = 0 := by decide
  have l14 : (14 : Int32).toInt = 14 := by decide
  have t1 : lnT 1 = 14 := by decide
  rw [mC_Lists_put, t1]
  refine ok_lt (fun c => ok_some ⟨I, Fq_rfl u⟩) (fun c => ?_)
  refine ok_le (fun c => ok_some ⟨I, Fq_rfl u⟩) (fun c2 => ?_)
  refine ok_lt (fun c => ok_some ⟨I, Fq_rfl u⟩) (fun c3 => ?_)
  have F := gst_f (i := x1) (by omega) (by omega)
  have Z := IC_siz I (i := x1) (by omega) (by omega)
  have gi : inb x1 14 = true := inb_of (by omega) (by omega)
  refine ok_gd gi ?_
  refine ok_le (fun c => ok_some ⟨I, Fq_rfl u⟩) (fun c4 => ?_)
  have e : (gst 1 x1 + x2 : Int32).toInt = (gst 1 x1).toInt + x2.toInt := add_i (by omega) (by omega)
  have e' := cl_of (i := gst 1 x1 + x2) (by omega)
  refine ok_gd gi (ok_gd (inb_of (by omega) (by omega)) (ok_seq (fun u1 h => ok_some ?_)))
  rw [h]
  exact ⟨IC_a18 I (fun q => by omega), Fq_sa (Fq_rfl u) rfl⟩
theorem kC_Meaning_parameterType_L19 : ∀ (n : Nat) {x1 : Int32} {x2 : Int32} {x3 : Int32} {u : St} (I : IC u) (h0 : 0 ≤ x3.toInt) (h1 : x3.toInt ≤ 300) (h2 : x2.toInt ≤ 300) (hm : (300 - x3.toInt).toNat < n), okM (mC_Meaning_parameterType_L19 n x1 x2 x3 u) (fun r v => IC v ∧ Fq [8] [17, 18] u v) := by
  intro n
  induction n with
  | zero => intro x1 x2 x3 u I h0 h1 h2 hm; exact absurd hm (Nat.not_lt_zero _)
  | succ n ih =>
    intro x1 x2 x3 u I h0 h1 h2 hm
    have l0 : (0 : Int32).toInt = 0 := by decide
    have l1 : (1 : Int32).toInt = 1 := by decide
    have l2 : (2 : Int32).toInt = 2 := by decide
    have l5 : (5 : Int32).toInt = 5 := by decide
    have l8 : (8 : Int32).toInt = 8 := by decide
    have l12 : (12 : Int32).toInt = 12 := by decide
    have l200 : (200 : Int32).toInt = 200 := by decide
    have l300 : (300 : Int32).toInt = 300 := by decide
    rw [mC_Meaning_parameterType_L19]
    refine okM_le (fun c_1 => ?_) (fun c_1 => ?_)
    · try have e_2 : (x2 - 1 : Int32).toInt = (x2 : Int32).toInt - (1 : Int32).toInt := by exact sub_i (by omega) (by omega)
      refine okM_bP (kC_Lists_at I) (fun r_4 z_3 => ?_)
      have p_5 := z_3
      refine okM_eq (fun c_6 c_6' => ?_) (fun c_6 => ?_)
      · refine okM_bP (kC_Meaning_neededAt I) (fun r_8 z_7 => ?_)
        refine okM_eq (fun c_9 c_9' => ?_) (fun c_9 => ?_)
        · try have e_10 : (x2 - 1 : Int32).toInt = (x2 : Int32).toInt - (1 : Int32).toInt := by exact sub_i (by omega) (by omega)
          refine okM_bP (kC_Lists_put I (by have FUe : FU = 100000 := rfl; have B_12 := IC_b I; omega)) (fun u_13 z_11 => ?_)
          obtain ⟨I_u_13, G_u_13⟩ := z_11
          have F_u_13 : Fq [8] [17, 18] u u_13 := Fq_tr (Fq_rfl u) G_u_13 rfl rfl
          try have e_14 : (x2 - 1 : Int32).toInt = (x2 : Int32).toInt - (1 : Int32).toInt := by exact sub_i (by omega) (by omega)
          refine okM_bP (kC_Lists_at I_u_13) (fun r_16 z_15 => ?_)
          have p_17 := z_15
          exact okM_some ⟨I_u_13, F_u_13⟩
        · try have e_18 : (x2 - 1 : Int32).toInt = (x2 : Int32).toInt - (1 : Int32).toInt := by exact sub_i (by omega) (by omega)
          refine okM_bP (kC_Lists_put I (by have FUe : FU = 100000 := rfl; have B_20 := IC_b I; omega)) (fun u_21 z_19 => ?_)
          obtain ⟨I_u_21, G_u_21⟩ := z_19
          have F_u_21 : Fq [8] [17, 18] u u_21 := Fq_tr (Fq_rfl u) G_u_21 rfl rfl
          try have e_22 : (x2 - 1 : Int32).toInt = (x2 : Int32).toInt - (1 : Int32).toInt := by exact sub_i (by omega) (by omega)
          refine okM_bP (kC_Lists_at I_u_21) (fun r_24 z_23 => ?_)
          have p_25 := z_23
          exact okM_some ⟨I_u_21, F_u_21⟩
      · try have e_26 : (x2 - 1 : Int32).toInt = (x2 : Int32).toInt - (1 : Int32).toInt := by exact sub_i (by omega) (by omega)
        refine okM_bP (kC_Lists_at I) (fun r_28 z_27 => ?_)
        have p_29 := z_27
        exact okM_some ⟨I, (Fq_rfl u)⟩
    · refine okM_bP (kC_Lists_add I (by have FUe : FU = 100000 := rfl; have B_31 := IC_b I; omega)) (fun u_32 z_30 => ?_)
      obtain ⟨I_u_32, G_u_32⟩ := z_30
      have F_u_32 : Fq [8] [17, 18] u u_32 := Fq_tr (Fq_rfl u) G_u_32 rfl rfl
      try have e_35 : (x3 + 1 : Int32).toInt = (x3 : Int32).toInt + (1 : Int32).toInt := by exact add_i (by omega) (by omega)
      refine okM_seq (fun y_34 h_33 => ?_)
      have h_33' : y_34.toInt = (x3 + 1 : Int32).toInt := by rw [h_33]
      refine okM_mono (ih I_u_32 (by have B_36 := IC_b I_u_32; omega) (by have B_37 := IC_b I_u_32; omega) (by have B_38 := IC_b I_u_32; omega) (by have B_39 := IC_b I_u_32; omega)) (fun r_41 u_42 z_40 => ?_)
      obtain ⟨I_u_42, G_u_42⟩ := z_40
      have F_u_42 : Fq [8] [17, 18] u u_42 := Fq_tr F_u_32 G_u_42 rfl rfl
      exact ⟨I_u_42, F_u_42⟩
theorem kC_Meaning_parameterType {x1 : Int32} {u : St} (I : IC u) (h0 : (ga u 8 x1).toInt = 28) : okM (mC_Meaning_parameterType x1 u) (fun r v => IC v ∧ Fq [8] [17, 18] u v) := by
  have l0 : (0 : Int32).toInt = 0 := by decide
  have l8 : (8 : Int32).toInt = 8 := by decide
  have l300 : (300 : Int32).toInt = 300 := by decide
  rw [mC_Meaning_parameterType]
  refine okM_bP (kC_Nodes_firstOf I) (fun r_2 z_1 => ?_)
  have p_3 := z_1
  refine okM_bP (kC_Lists_size I) (fun r_5 z_4 => ?_)
  obtain ⟨p_6, p_7⟩ := z_4
  refine okM_mono (kC_Meaning_parameterType_L19 _ I (by have FUe : FU = 100000 := rfl; have B_8 := IC_b I; omega) (by have FUe : FU = 100000 := rfl; have B_9 := IC_b I; omega) (by have FUe : FU = 100000 := rfl; have B_10 := IC_b I; omega) (by have FUe : FU = 100000 := rfl; have B_11 := IC_b I; omega)) (fun r_13 u_14 z_12 => ?_)
  obtain ⟨I_u_14, G_u_14⟩ := z_12
  have F_u_14 : Fq [8] [17, 18] u u_14 := Fq_tr (Fq_rfl u) G_u_14 rfl rfl
  exact ⟨I_u_14, F_u_14⟩
theorem kC_Meaning_typeParameters_L2 : ∀ (n : Nat) {x1 : Int32} {u : St} (I : IC u) (h0 : 0 ≤ x1.toInt) (h1 : x1.toInt ≤ 200) (hm : (200 - x1.toInt).toNat < n), ok (mC_Meaning_typeParameters_L2 n x1 u) (fun v => IC v ∧ Fq [8] [11, 17, 18] u v) := by
  intro n
  induction n with
  | zero => intro x1 u I h0 h1 hm; exact absurd hm (Nat.not_lt_zero _)
  | succ n ih =>
    intro x1 u I h0 h1 hm
    have l0 : (0 : Int32).toInt = 0 := by decide
    have l1 : (1 : Int32).toInt = 1 := by decide
    have l8 : (8 : Int32).toInt = 8 := by decide
    have l28 : (28 : Int32).toInt = 28 := by decide
    have l200 : (200 : Int32).toInt = 200 := by decide
    rw [mC_Meaning_typeParameters_L2]
    refine ok_bP (kC_Nodes_size I) (fun r_2 z_1 => ?_)
    have p_3 := z_1
    refine ok_le (fun c_4 => ?_) (fun c_4 => ?_)
    · exact ok_some ⟨I, (Fq_rfl u)⟩
    · refine ok_bP (kC_Nodes_kindOf I) (fun r_6 z_5 => ?_)
      have p_7 := z_5
      refine ok_eq (fun c_8 c_8' => ?_) (fun c_8 => ?_)
      · refine ok_bM (kC_Meaning_parameterType I (by have FUe : FU = 100000 := rfl; have B_10 := IC_b I; omega)) (fun r_11 u_12 z_9 => ?_)
        obtain ⟨I_u_12, G_u_12⟩ := z_9
        have F_u_12 : Fq [8] [11, 17, 18] u u_12 := Fq_tr (Fq_rfl u) G_u_12 rfl rfl
        refine ok_bP (kC_Nodes_putType I_u_12) (fun u_14 z_13 => ?_)
        obtain ⟨I_u_14, G_u_14⟩ := z_13
        have F_u_14 : Fq [8] [11, 17, 18] u u_14 := Fq_tr F_u_12 G_u_14 rfl rfl
        try have e_17 : (x1 + 1 : Int32).toInt = (x1 : Int32).toInt + (1 : Int32).toInt := by exact add_i (by omega) (by omega)
        refine ok_seq (fun y_16 h_15 => ?_)
        have h_15' : y_16.toInt = (x1 + 1 : Int32).toInt := by rw [h_15]
        refine ok_mono (ih I_u_14 (by have B_18 := IC_b I_u_14; omega) (by have B_19 := IC_b I_u_14; omega) (by have B_20 := IC_b I_u_14; omega)) (fun u_22 z_21 => ?_)
        obtain ⟨I_u_22, G_u_22⟩ := z_21
        have F_u_22 : Fq [8] [11, 17, 18] u u_22 := Fq_tr F_u_14 G_u_22 rfl rfl
        exact ⟨I_u_22, F_u_22⟩
      · try have e_25 : (x1 + 1 : Int32).toInt = (x1 : Int32).toInt + (1 : Int32).toInt := by exact add_i (by omega) (by omega)
        refine ok_seq (fun y_24 h_23 => ?_)
        have h_23' : y_24.toInt = (x1 + 1 : Int32).toInt := by rw [h_23]
        refine ok_mono (ih I (by have B_26 := IC_b I; omega) (by have B_27 := IC_b I; omega) (by have B_28 := IC_b I; omega)) (fun u_30 z_29 => ?_)
        obtain ⟨I_u_30, G_u_30⟩ := z_29
        have F_u_30 : Fq [8] [11, 17, 18] u u_30 := Fq_tr (Fq_rfl u) G_u_30 rfl rfl
        exact ⟨I_u_30, F_u_30⟩
theorem kC_Meaning_typeParameters {u : St} (I : IC u) : ok (mC_Meaning_typeParameters u) (fun v => IC v ∧ Fq [8] [11, 17, 18] u v) := by
  have l0 : (0 : Int32).toInt = 0 := by decide
  have l200 : (200 : Int32).toInt = 200 := by decide
  rw [mC_Meaning_typeParameters]
  refine ok_mono (kC_Meaning_typeParameters_L2 _ I (by have FUe : FU = 100000 := rfl; have B_1 := IC_b I; omega) (by have FUe : FU = 100000 := rfl; have B_2 := IC_b I; omega) (by have FUe : FU = 100000 := rfl; have B_3 := IC_b I; omega)) (fun u_5 z_4 => ?_)
  obtain ⟨I_u_5, G_u_5⟩ := z_4
  have F_u_5 : Fq [8] [11, 17, 18] u u_5 := Fq_tr (Fq_rfl u) G_u_5 rfl rfl
  exact ⟨I_u_5, F_u_5⟩
theorem kC_Meaning_indexError {u : St} (I : IC u) : okM (mC_Meaning_indexError u) (fun r v => IC v ∧ Fq [15] [] u v) := by
  have l0 : (0 : Int32).toInt = 0 := by decide
  have l6 : (6 : Int32).toInt = 6 := by decide
  have l13 : (13 : Int32).toInt = 13 := by decide
  have l14 : (14 : Int32).toInt = 14 := by decide
  have l15 : (15 : Int32).toInt = 15 := by decide
  rw [mC_Meaning_indexError]
  refine okM_bP (kC_Catalog_findColumn_3_11 I) (fun r_2 z_1 => ?_)
  obtain ⟨p_3, p_4⟩ := z_1
  refine okM_seq (fun u_6 h_5 => ?_)
  have I_u_6 : IC u_6 := by rw [h_5]; exact I
  have F_u_6 : Fq [15] [] u u_6 := by rw [h_5]; exact Fq_ss (Fq_rfl u) rfl
  refine okM_le (fun c_7 => ?_) (fun c_7 => ?_)
  · exact okM_some ⟨I_u_6, F_u_6⟩
  · exact okM_some ⟨I_u_6, F_u_6⟩
theorem kC_Nodes_faultOf {x1 : Int32} {u : St} (I : IC u) : ok (mC_Nodes_faultOf x1 u) (fun r => True) := by
  have l0 : (0 : Int32).toInt = 0 := by decide
  have l6 : (6 : Int32).toInt = 6 := by decide
  have l14 : (14 : Int32).toInt = 14 := by decide
  rw [mC_Nodes_faultOf]
  refine ok_lt (fun c_1 => ?_) (fun c_1 => ?_)
  · exact ok_some trivial
  · refine ok_le (fun c_2 => ?_) (fun c_2 => ?_)
    · exact ok_some trivial
    · refine ok_gd (inb_of (by have B_3 := IC_b I; omega) (by have B_4 := IC_b I; omega)) ?_
      exact ok_some trivial
theorem kC_Meaning_fits {x0 : Int32} {x1 : Int32} {u : St} (I : IC u) : ok (mC_Meaning_fits x0 x1 u) (fun r => 0 ≤ r.toInt ∧ r.toInt ≤ 1) := by
  have l0 : (0 : Int32).toInt = 0 := by decide
  have l1 : (1 : Int32).toInt = 1 := by decide
  rw [mC_Meaning_fits]
  refine ok_le (fun c_1 => ?_) (fun c_1 => ?_)
  · exact ok_some ⟨(by omega), (by omega)⟩
  · refine ok_le (fun c_2 => ?_) (fun c_2 => ?_)
    · exact ok_some ⟨(by omega), (by omega)⟩
    · refine ok_eq (fun c_3 c_3' => ?_) (fun c_3 => ?_)
      · exact ok_some ⟨(by omega), (by omega)⟩
      · exact ok_some ⟨(by omega), (by omega)⟩
theorem kC_Meaning_operandsFit {x1 : Int32} {u : St} (I : IC u) : ok (mC_Meaning_operandsFit x1 u) (fun r => 0 ≤ r.toInt ∧ r.toInt ≤ 1) := by
  have l0 : (0 : Int32).toInt = 0 := by decide
  have l1 : (1 : Int32).toInt = 1 := by decide
  have l2 : (2 : Int32).toInt = 2 := by decide
  have l3 : (3 : Int32).toInt = 3 := by decide
  have l8 : (8 : Int32).toInt = 8 := by decide
  have l9 : (9 : Int32).toInt = 9 := by decide
  have l29 : (29 : Int32).toInt = 29 := by decide
  rw [mC_Meaning_operandsFit]
  have t2 : lnT 2 = 29 := by decide
  refine ok_bP (kC_Nodes_kindOf I) (fun r_2 z_1 => ?_)
  have p_3 := z_1
  refine ok_bP (kC_Nodes_works I) (fun r_5 z_4 => ?_)
  obtain ⟨p_6, p_7, p_8⟩ := z_4
  refine ok_eq (fun c_9 c_9' => ?_) (fun c_9 => ?_)
  · exact ok_some ⟨(by omega), (by omega)⟩
  · refine ok_bP (kC_Nodes_firstOf I) (fun r_11 z_10 => ?_)
    have p_12 := z_10
    refine ok_bP (kC_Nodes_typeOf I) (fun r_14 z_13 => ?_)
    refine ok_bP (kC_Nodes_secondOf I) (fun r_16 z_15 => ?_)
    refine ok_bP (kC_Nodes_typeOf I) (fun r_18 z_17 => ?_)
    refine ok_eq (fun c_19 c_19' => ?_) (fun c_19 => ?_)
    · refine ok_eq (fun c_20 c_20' => ?_) (fun c_20 => ?_)
      · exact ok_some ⟨(by omega), (by omega)⟩
      · exact ok_some ⟨(by omega), (by omega)⟩
    · refine ok_eq (fun c_21 c_21' => ?_) (fun c_21 => ?_)
      · refine ok_eq (fun c_22 c_22' => ?_) (fun c_22 => ?_)
        · exact ok_some ⟨(by omega), (by omega)⟩
        · exact ok_some ⟨(by omega), (by omega)⟩
      · refine ok_bP (kC_Nodes_compares I) (fun r_24 z_23 => ?_)
        obtain ⟨p_25, p_26⟩ := z_23
        refine ok_eq (fun c_27 c_27' => ?_) (fun c_27 => ?_)
        · refine ok_gd (inb_of (by have B_28 := IC_b I; omega) (by have B_29 := IC_b I; omega)) ?_
          refine ok_bP (kC_Meaning_fits I) (fun r_31 z_30 => ?_)
          obtain ⟨p_32, p_33⟩ := z_30
          refine ok_eq (fun c_34 c_34' => ?_) (fun c_34 => ?_)
          · exact ok_some ⟨(by omega), (by omega)⟩
          · refine ok_gd (inb_of (by have B_35 := IC_b I; omega) (by have B_36 := IC_b I; omega)) ?_
            refine ok_bP (kC_Meaning_fits I) (fun r_38 z_37 => ?_)
            obtain ⟨p_39, p_40⟩ := z_37
            refine ok_eq (fun c_41 c_41' => ?_) (fun c_41 => ?_)
            · exact ok_some ⟨(by omega), (by omega)⟩
            · exact ok_some ⟨(by omega), (by omega)⟩
        · refine ok_bP (kC_Meaning_fits I) (fun r_43 z_42 => ?_)
          obtain ⟨p_44, p_45⟩ := z_42
          refine ok_gd (zb_of (by omega) (by omega)) ?_
          exact ok_some ⟨(by omega), (by omega)⟩
theorem kC_Meaning_typeFor {x1 : Int32} {u : St} (I : IC u) : ok (mC_Meaning_typeFor x1 u) (fun r => True) := by
  have l0 : (0 : Int32).toInt = 0 := by decide
  have l1 : (1 : Int32).toInt = 1 := by decide
  have l4 : (4 : Int32).toInt = 4 := by decide
  have l8 : (8 : Int32).toInt = 8 := by decide
  have l9 : (9 : Int32).toInt = 9 := by decide
  have l28 : (28 : Int32).toInt = 28 := by decide
  rw [mC_Meaning_typeFor]
  refine ok_bP (kC_Nodes_kindOf I) (fun r_2 z_1 => ?_)
  have p_3 := z_1
  refine ok_eq (fun c_4 c_4' => ?_) (fun c_4 => ?_)
  · refine ok_bP (kC_Nodes_firstOf I) (fun r_6 z_5 => ?_)
    have p_7 := z_5
    refine ok_bP (kC_Nodes_typeOf I) (fun r_9 z_8 => ?_)
    exact ok_some trivial
  · refine ok_eq (fun c_10 c_10' => ?_) (fun c_10 => ?_)
    · refine ok_bP (kC_Nodes_firstOf I) (fun r_12 z_11 => ?_)
      have p_13 := z_11
      refine ok_bP (kC_Nodes_typeOf I) (fun r_15 z_14 => ?_)
      exact ok_some trivial
    · refine ok_eq (fun c_16 c_16' => ?_) (fun c_16 => ?_)
      · rw [mC_Meaning_typeFor_J53]
        refine ok_neg (by decide) ?_
        refine ok_bP (kC_Nodes_typeOf I) (fun r_18 z_17 => ?_)
        exact ok_some trivial
      · refine ok_eq (fun c_19 c_19' => ?_) (fun c_19 => ?_)
        · rw [mC_Meaning_typeFor_J53]
          refine ok_neg (by decide) ?_
          refine ok_bP (kC_Nodes_typeOf I) (fun r_21 z_20 => ?_)
          exact ok_some trivial
        · rw [mC_Meaning_typeFor_J53]
          refine ok_pos (by decide) ?_
          refine ok_bP (kC_Meaning_typeByKind I) (fun r_23 z_22 => ?_)
          exact ok_some trivial
theorem kC_Meaning_judge {x1 : Int32} {u : St} (I : IC u) : okM (mC_Meaning_judge x1 u) (fun r v => IC v ∧ Fq [] [11] u v) := by
  have l0 : (0 : Int32).toInt = 0 := by decide
  have l8 : (8 : Int32).toInt = 8 := by decide
  rw [mC_Meaning_judge]
  refine okM_bP (kC_Nodes_faultOf I) (fun r_2 z_1 => ?_)
  refine okM_eq (fun c_3 c_3' => ?_) (fun c_3 => ?_)
  · refine okM_bP (kC_Meaning_operandsFit I) (fun r_5 z_4 => ?_)
    obtain ⟨p_6, p_7⟩ := z_4
    refine okM_eq (fun c_8 c_8' => ?_) (fun c_8 => ?_)
    · exact okM_some ⟨I, (Fq_rfl u)⟩
    · refine okM_bP (kC_Meaning_typeFor I) (fun r_10 z_9 => ?_)
      refine okM_bP (kC_Nodes_putType I) (fun u_12 z_11 => ?_)
      obtain ⟨I_u_12, G_u_12⟩ := z_11
      have F_u_12 : Fq [] [11] u u_12 := Fq_tr (Fq_rfl u) G_u_12 rfl rfl
      refine okM_bP (kC_Nodes_needOf I_u_12) (fun r_14 z_13 => ?_)
      refine okM_bP (kC_Meaning_fits I_u_12) (fun r_16 z_15 => ?_)
      obtain ⟨p_17, p_18⟩ := z_15
      refine okM_eq (fun c_19 c_19' => ?_) (fun c_19 => ?_)
      · exact okM_some ⟨I_u_12, F_u_12⟩
      · exact okM_some ⟨I_u_12, F_u_12⟩
  · exact okM_some ⟨I, (Fq_rfl u)⟩
theorem kC_Meaning_judgeTo_L7 : ∀ (n : Nat) {x1 : Int32} {x2 : Int32} {x3 : Int32} {u : St} (I : IC u) (h0 : 0 ≤ x1.toInt) (h1 : x1.toInt ≤ 300) (h2 : 0 ≤ x3.toInt) (h3 : x3.toInt ≤ 300) (hm : (300 - x3.toInt).toNat < n), okM (mC_Meaning_judgeTo_L7 n x1 x2 x3 u) (fun r v => IC v ∧ Fq [24] [11] u v) := by
  intro n
  induction n with
  | zero => intro x1 x2 x3 u I h0 h1 h2 h3 hm; exact absurd hm (Nat.not_lt_zero _)
  | succ n ih =>
    intro x1 x2 x3 u I h0 h1 h2 h3 hm
    have l0 : (0 : Int32).toInt = 0 := by decide
    have l1 : (1 : Int32).toInt = 1 := by decide
    have l300 : (300 : Int32).toInt = 300 := by decide
    rw [mC_Meaning_judgeTo_L7]
    refine okM_le (fun c_1 => ?_) (fun c_1 => ?_)
    · refine okM_seq (fun u_3 h_2 => ?_)
      have I_u_3 : IC u_3 := by rw [h_2]; exact IC_s24 I (by have B_4 := IC_b I; omega) (by have B_5 := IC_b I; omega)
      have F_u_3 : Fq [24] [11] u u_3 := by rw [h_2]; exact Fq_ss (Fq_rfl u) rfl
      have g_6 : (u_3.1 24).toInt = (x1 : Int32).toInt := by rw [h_2]; rfl
      exact okM_some ⟨I_u_3, F_u_3⟩
    · refine okM_eq (fun c_7 c_7' => ?_) (fun c_7 => ?_)
      · refine okM_bM (kC_Meaning_judge I) (fun r_9 u_10 z_8 => ?_)
        obtain ⟨I_u_10, G_u_10⟩ := z_8
        have F_u_10 : Fq [24] [11] u u_10 := Fq_tr (Fq_rfl u) G_u_10 rfl rfl
        try have e_13 : (x3 + 1 : Int32).toInt = (x3 : Int32).toInt + (1 : Int32).toInt := by exact add_i (by omega) (by omega)
        refine okM_seq (fun y_12 h_11 => ?_)
        have h_11' : y_12.toInt = (x3 + 1 : Int32).toInt := by rw [h_11]
        refine okM_mono (ih I_u_10 (by have B_14 := IC_b I_u_10; omega) (by have B_15 := IC_b I_u_10; omega) (by have B_16 := IC_b I_u_10; omega) (by have B_17 := IC_b I_u_10; omega) (by have B_18 := IC_b I_u_10; omega)) (fun r_20 u_21 z_19 => ?_)
        obtain ⟨I_u_21, G_u_21⟩ := z_19
        have F_u_21 : Fq [24] [11] u u_21 := Fq_tr F_u_10 G_u_21 rfl rfl
        exact ⟨I_u_21, F_u_21⟩
      · refine okM_seq (fun u_23 h_22 => ?_)
        have I_u_23 : IC u_23 := by rw [h_22]; exact IC_s24 I (by have B_24 := IC_b I; omega) (by have B_25 := IC_b I; omega)
        have F_u_23 : Fq [24] [11] u u_23 := by rw [h_22]; exact Fq_ss (Fq_rfl u) rfl
        have g_26 : (u_23.1 24).toInt = (x1 : Int32).toInt := by rw [h_22]; rfl
        exact okM_some ⟨I_u_23, F_u_23⟩
theorem kC_Meaning_judgeTo {x1 : Int32} {u : St} (I : IC u) (h0 : 0 ≤ x1.toInt) (h1 : x1.toInt ≤ 300) : okM (mC_Meaning_judgeTo x1 u) (fun r v => IC v ∧ Fq [24] [11] u v) := by
  have l0 : (0 : Int32).toInt = 0 := by decide
  have l24 : (24 : Int32).toInt = 24 := by decide
  have l300 : (300 : Int32).toInt = 300 := by decide
  rw [mC_Meaning_judgeTo]
  refine okM_seq (fun y_2 h_1 => ?_)
  have h_1' : y_2.toInt = ((u.1 24) : Int32).toInt := by rw [h_1]
  refine okM_mono (kC_Meaning_judgeTo_L7 _ I (by have FUe : FU = 100000 := rfl; have B_3 := IC_b I; omega) (by have FUe : FU = 100000 := rfl; have B_4 := IC_b I; omega) (by have FUe : FU = 100000 := rfl; have B_5 := IC_b I; omega) (by have FUe : FU = 100000 := rfl; have B_6 := IC_b I; omega) (by have FUe : FU = 100000 := rfl; have B_7 := IC_b I; omega)) (fun r_9 u_10 z_8 => ?_)
  obtain ⟨I_u_10, G_u_10⟩ := z_8
  have F_u_10 : Fq [24] [11] u u_10 := Fq_tr (Fq_rfl u) G_u_10 rfl rfl
  exact ⟨I_u_10, F_u_10⟩
theorem kC_Meaning_starError_L29 {q4 : Int32 → Int32 → St → Option (Int32)} {m : Nat} (hq : ∀ {x1 x2 : Int32} {u : St} (I : IC u) (h0 : 0 ≤ x2.toInt) (h1 : x2.toInt ≤ 200) (hm : (200 - x2.toInt).toNat < m), ok (q4 x1 x2 u) (fun r => 0 ≤ r.toInt ∧ r.toInt ≤ 8)) : ∀ (n : Nat) {x1 : Int32} {x2 : Int32} {x3 : Int32} {x4 : Int32} {u : St} (I : IC u) (h0 : 0 ≤ x4.toInt) (h1 : x4.toInt ≤ 8) (h2 : 0 ≤ x2.toInt) (h3 : x2.toInt < 200) (h4 : (200 - x2.toInt).toNat < m + 1) (hm : (8 - x4.toInt).toNat < n), ok (mC_Meaning_starError_L29 q4 n x1 x2 x3 x4 u) (fun r => 0 ≤ r.toInt ∧ r.toInt ≤ 8) := by
  intro n
  induction n with
  | zero => intro x1 x2 x3 x4 u I h0 h1 h2 h3 h4 hm; exact absurd hm (Nat.not_lt_zero _)
  | succ n ih =>
    intro x1 x2 x3 x4 u I h0 h1 h2 h3 h4 hm
    have l0 : (0 : Int32).toInt = 0 := by decide
    have l1 : (1 : Int32).toInt = 1 := by decide
    have l8 : (8 : Int32).toInt = 8 := by decide
    have l13 : (13 : Int32).toInt = 13 := by decide
    have l200 : (200 : Int32).toInt = 200 := by decide
    rw [mC_Meaning_starError_L29]
    refine ok_bP (kC_Catalog_columnsOf I) (fun r_2 z_1 => ?_)
    obtain ⟨p_3, p_4, p_5⟩ := z_1
    refine ok_le (fun c_6 => ?_) (fun c_6 => ?_)
    · try have e_9 : (x2 + 1 : Int32).toInt = (x2 : Int32).toInt + (1 : Int32).toInt := by exact add_i (by omega) (by omega)
      refine ok_seq (fun y_8 h_7 => ?_)
      have h_7' : y_8.toInt = (x2 + 1 : Int32).toInt := by rw [h_7]
      refine ok_mono (hq I (by have B_10 := IC_b I; omega) (by have B_11 := IC_b I; omega) (by have B_12 := IC_b I; omega)) (fun r_14 z_13 => ?_)
      obtain ⟨p_15, p_16⟩ := z_13
      exact ⟨(by omega), (by omega)⟩
    · refine ok_bP (kC_Catalog_typeOf I) (fun r_18 z_17 => ?_)
      refine ok_bP (kC_Catalog_typeOf I) (fun r_20 z_19 => ?_)
      refine ok_bP (kC_Meaning_fits I) (fun r_22 z_21 => ?_)
      obtain ⟨p_23, p_24⟩ := z_21
      refine ok_eq (fun c_25 c_25' => ?_) (fun c_25 => ?_)
      · exact ok_some ⟨(by omega), (by omega)⟩
      · try have e_28 : (x1 + 1 : Int32).toInt = (x1 : Int32).toInt + (1 : Int32).toInt := by exact add_i (by omega) (by omega)
        refine ok_seq (fun y_27 h_26 => ?_)
        have h_26' : y_27.toInt = (x1 + 1 : Int32).toInt := by rw [h_26]
        try have e_31 : (x4 + 1 : Int32).toInt = (x4 : Int32).toInt + (1 : Int32).toInt := by exact add_i (by omega) (by omega)
        refine ok_seq (fun y_30 h_29 => ?_)
        have h_29' : y_30.toInt = (x4 + 1 : Int32).toInt := by rw [h_29]
        refine ok_mono (ih I (by have B_32 := IC_b I; omega) (by have B_33 := IC_b I; omega) (by have B_34 := IC_b I; omega) (by have B_35 := IC_b I; omega) (by have B_36 := IC_b I; omega) (by have B_37 := IC_b I; omega)) (fun r_39 z_38 => ?_)
        obtain ⟨p_40, p_41⟩ := z_38
        exact ⟨(by omega), (by omega)⟩
theorem kC_Meaning_starError_L4 : ∀ (n : Nat) {x1 : Int32} {x2 : Int32} {u : St} (I : IC u) (h0 : 0 ≤ x2.toInt) (h1 : x2.toInt ≤ 200) (hm : (200 - x2.toInt).toNat < n), ok (mC_Meaning_starError_L4 n x1 x2 u) (fun r => 0 ≤ r.toInt ∧ r.toInt ≤ 8) := by
  intro n
  induction n with
  | zero => intro x1 x2 u I h0 h1 hm; exact absurd hm (Nat.not_lt_zero _)
  | succ n ih =>
    intro x1 x2 u I h0 h1 hm
    have l0 : (0 : Int32).toInt = 0 := by decide
    have l1 : (1 : Int32).toInt = 1 := by decide
    have l3 : (3 : Int32).toInt = 3 := by decide
    have l8 : (8 : Int32).toInt = 8 := by decide
    have l200 : (200 : Int32).toInt = 200 := by decide
    rw [mC_Meaning_starError_L4]
    refine ok_bP (kC_Lists_size I) (fun r_2 z_1 => ?_)
    obtain ⟨p_3, p_4⟩ := z_1
    refine ok_le (fun c_5 => ?_) (fun c_5 => ?_)
    · exact ok_some ⟨(by omega), (by omega)⟩
    · refine ok_bP (kC_Lists_at I) (fun r_7 z_6 => ?_)
      have p_8 := z_6
      refine ok_mono (kC_Meaning_starError_L29 ih _ I (by have FUe : FU = 100000 := rfl; have B_9 := IC_b I; omega) (by have FUe : FU = 100000 := rfl; have B_10 := IC_b I; omega) (by have FUe : FU = 100000 := rfl; have B_11 := IC_b I; omega) (by have FUe : FU = 100000 := rfl; have B_12 := IC_b I; omega) (by have FUe : FU = 100000 := rfl; have B_13 := IC_b I; omega) (by have FUe : FU = 100000 := rfl; have B_14 := IC_b I; omega)) (fun r_16 z_15 => ?_)
      obtain ⟨p_17, p_18⟩ := z_15
      exact ⟨(by omega), (by omega)⟩
theorem kC_Meaning_starError {u : St} (I : IC u) : ok (mC_Meaning_starError u) (fun r => 0 ≤ r.toInt ∧ r.toInt ≤ 8) := by
  have l0 : (0 : Int32).toInt = 0 := by decide
  have l8 : (8 : Int32).toInt = 8 := by decide
  have l200 : (200 : Int32).toInt = 200 := by decide
  rw [mC_Meaning_starError]
  refine ok_mono (kC_Meaning_starError_L4 _ I (by have FUe : FU = 100000 := rfl; have B_1 := IC_b I; omega) (by have FUe : FU = 100000 := rfl; have B_2 := IC_b I; omega) (by have FUe : FU = 100000 := rfl; have B_3 := IC_b I; omega)) (fun r_5 z_4 => ?_)
  obtain ⟨p_6, p_7⟩ := z_4
  exact ⟨(by omega), (by omega)⟩
theorem kC_Meaning_settingsError_L4 : ∀ (n : Nat) {x1 : Int32} {x2 : Int32} {u : St} (I : IC u) (h0 : 0 ≤ x2.toInt) (h1 : x2.toInt ≤ 200) (hm : (200 - x2.toInt).toNat < n), okM (mC_Meaning_settingsError_L4 n x1 x2 u) (fun r v => IC v ∧ Fq [24] [11] u v) := by
  intro n
  induction n with
  | zero => intro x1 x2 u I h0 h1 hm; exact absurd hm (Nat.not_lt_zero _)
  | succ n ih =>
    intro x1 x2 u I h0 h1 hm
    have l0 : (0 : Int32).toInt = 0 := by decide
    have l1 : (1 : Int32).toInt = 1 := by decide
    have l4 : (4 : Int32).toInt = 4 := by decide
    have l5 : (5 : Int32).toInt = 5 := by decide
    have l6 : (6 : Int32).toInt = 6 := by decide
    have l200 : (200 : Int32).toInt = 200 := by decide
    have l300 : (300 : Int32).toInt = 300 := by decide
    rw [mC_Meaning_settingsError_L4]
    refine okM_bP (kC_Lists_size I) (fun r_2 z_1 => ?_)
    obtain ⟨p_3, p_4⟩ := z_1
    refine okM_le (fun c_5 => ?_) (fun c_5 => ?_)
    · exact okM_some ⟨I, (Fq_rfl u)⟩
    · refine okM_eq (fun c_6 c_6' => ?_) (fun c_6 => ?_)
      · refine okM_bP (kC_Lists_at I) (fun r_8 z_7 => ?_)
        have p_9 := z_7
        refine okM_lt (fun c_10 => ?_) (fun c_10 => ?_)
        · rw [mC_Meaning_settingsError_J37]
          refine okM_pos (by decide) ?_
          try have e_13 : (x2 + 1 : Int32).toInt = (x2 : Int32).toInt + (1 : Int32).toInt := by exact add_i (by omega) (by omega)
          refine okM_seq (fun y_12 h_11 => ?_)
          have h_11' : y_12.toInt = (x2 + 1 : Int32).toInt := by rw [h_11]
          refine okM_mono (ih I (by have B_14 := IC_b I; omega) (by have B_15 := IC_b I; omega) (by have B_16 := IC_b I; omega)) (fun r_18 u_19 z_17 => ?_)
          obtain ⟨I_u_19, G_u_19⟩ := z_17
          have F_u_19 : Fq [24] [11] u u_19 := Fq_tr (Fq_rfl u) G_u_19 rfl rfl
          exact ⟨I_u_19, F_u_19⟩
        · rw [mC_Meaning_settingsError_J37]
          refine okM_neg (by decide) ?_
          refine okM_bP (kC_Lists_at I) (fun r_21 z_20 => ?_)
          have p_22 := z_20
          try have e_23 : (r_21 + 1 : Int32).toInt = (r_21 : Int32).toInt + (1 : Int32).toInt := by exact add_i (by omega) (by omega)
          refine okM_bM (kC_Meaning_judgeTo I (by have FUe : FU = 100000 := rfl; have B_25 := IC_b I; omega) (by have FUe : FU = 100000 := rfl; have B_26 := IC_b I; omega)) (fun r_27 u_28 z_24 => ?_)
          obtain ⟨I_u_28, G_u_28⟩ := z_24
          have F_u_28 : Fq [24] [11] u u_28 := Fq_tr (Fq_rfl u) G_u_28 rfl rfl
          try have e_31 : (x2 + 1 : Int32).toInt = (x2 : Int32).toInt + (1 : Int32).toInt := by exact add_i (by omega) (by omega)
          refine okM_seq (fun y_30 h_29 => ?_)
          have h_29' : y_30.toInt = (x2 + 1 : Int32).toInt := by rw [h_29]
          refine okM_mono (ih I_u_28 (by have B_32 := IC_b I_u_28; omega) (by have B_33 := IC_b I_u_28; omega) (by have B_34 := IC_b I_u_28; omega)) (fun r_36 u_37 z_35 => ?_)
          obtain ⟨I_u_37, G_u_37⟩ := z_35
          have F_u_37 : Fq [24] [11] u u_37 := Fq_tr F_u_28 G_u_37 rfl rfl
          exact ⟨I_u_37, F_u_37⟩
      · exact okM_some ⟨I, (Fq_rfl u)⟩
theorem kC_Meaning_settingsError {u : St} (I : IC u) : okM (mC_Meaning_settingsError u) (fun r v => IC v ∧ Fq [24] [11] u v) := by
  have l0 : (0 : Int32).toInt = 0 := by decide
  have l200 : (200 : Int32).toInt = 200 := by decide
  rw [mC_Meaning_settingsError]
  refine okM_mono (kC_Meaning_settingsError_L4 _ I (by have FUe : FU = 100000 := rfl; have B_1 := IC_b I; omega) (by have FUe : FU = 100000 := rfl; have B_2 := IC_b I; omega) (by have FUe : FU = 100000 := rfl; have B_3 := IC_b I; omega)) (fun r_5 u_6 z_4 => ?_)
  obtain ⟨I_u_6, G_u_6⟩ := z_4
  have F_u_6 : Fq [24] [11] u u_6 := Fq_tr (Fq_rfl u) G_u_6 rfl rfl
  exact ⟨I_u_6, F_u_6⟩
theorem kC_Meaning_typeError {u : St} (I : IC u) : okM (mC_Meaning_typeError u) (fun r v => IC v ∧ Fq [8, 15, 24] [9, 10, 11, 13, 14, 17, 18] u v) := by
  have l0 : (0 : Int32).toInt = 0 := by decide
  have l2 : (2 : Int32).toInt = 2 := by decide
  have l5 : (5 : Int32).toInt = 5 := by decide
  have l6 : (6 : Int32).toInt = 6 := by decide
  have l10 : (10 : Int32).toInt = 10 := by decide
  have l21 : (21 : Int32).toInt = 21 := by decide
  have l300 : (300 : Int32).toInt = 300 := by decide
  rw [mC_Meaning_typeError]
  refine okM_bP (kC_Meaning_findPlaces I) (fun u_2 z_1 => ?_)
  obtain ⟨I_u_2, G_u_2⟩ := z_1
  have F_u_2 : Fq [8, 15, 24] [9, 10, 11, 13, 14, 17, 18] u u_2 := Fq_tr (Fq_rfl u) G_u_2 rfl rfl
  refine okM_bP (kC_Meaning_findColumnsSet I_u_2) (fun u_4 z_3 => ?_)
  obtain ⟨I_u_4, G_u_4⟩ := z_3
  have F_u_4 : Fq [8, 15, 24] [9, 10, 11, 13, 14, 17, 18] u u_4 := Fq_tr F_u_2 G_u_4 rfl rfl
  refine okM_bP (kC_Meaning_tellNeeds I_u_4) (fun u_6 z_5 => ?_)
  obtain ⟨I_u_6, G_u_6⟩ := z_5
  have F_u_6 : Fq [8, 15, 24] [9, 10, 11, 13, 14, 17, 18] u u_6 := Fq_tr F_u_4 G_u_6 rfl rfl
  refine okM_bP (kC_Meaning_typeParameters I_u_6) (fun u_8 z_7 => ?_)
  obtain ⟨I_u_8, G_u_8⟩ := z_7
  have F_u_8 : Fq [8, 15, 24] [9, 10, 11, 13, 14, 17, 18] u u_8 := Fq_tr F_u_6 G_u_8 rfl rfl
  refine okM_seq (fun u_10 h_9 => ?_)
  have I_u_10 : IC u_10 := by rw [h_9]; exact IC_s24 I_u_8 (by have B_11 := IC_b I_u_8; omega) (by have B_12 := IC_b I_u_8; omega)
  have F_u_10 : Fq [8, 15, 24] [9, 10, 11, 13, 14, 17, 18] u u_10 := by rw [h_9]; exact Fq_ss F_u_8 rfl
  have g_13 : (u_10.1 24).toInt = (0 : Int32).toInt := by rw [h_9]; rfl
  refine okM_eq (fun c_14 c_14' => ?_) (fun c_14 => ?_)
  · refine okM_bM (kC_Meaning_indexError I_u_10) (fun r_16 u_17 z_15 => ?_)
    obtain ⟨I_u_17, G_u_17⟩ := z_15
    have F_u_17 : Fq [8, 15, 24] [9, 10, 11, 13, 14, 17, 18] u u_17 := Fq_tr F_u_10 G_u_17 rfl rfl
    rw [mC_Meaning_typeError_J88]
    refine okM_eq (fun c_18 c_18' => ?_) (fun c_18 => ?_)
    · refine okM_bP (kC_Nodes_size I_u_17) (fun r_20 z_19 => ?_)
      have p_21 := z_19
      refine okM_bM (kC_Meaning_judgeTo I_u_17 (by have FUe : FU = 100000 := rfl; have B_23 := IC_b I_u_17; omega) (by have FUe : FU = 100000 := rfl; have B_24 := IC_b I_u_17; omega)) (fun r_25 u_26 z_22 => ?_)
      obtain ⟨I_u_26, G_u_26⟩ := z_22
      have F_u_26 : Fq [8, 15, 24] [9, 10, 11, 13, 14, 17, 18] u u_26 := Fq_tr F_u_17 G_u_26 rfl rfl
      exact okM_some ⟨I_u_26, F_u_26⟩
    · exact okM_some ⟨I_u_17, F_u_17⟩
  · refine okM_eq (fun c_27 c_27' => ?_) (fun c_27 => ?_)
    · refine okM_eq (fun c_28 c_28' => ?_) (fun c_28 => ?_)
      · rw [mC_Meaning_typeError_J71]
        refine okM_eq (fun c_29 c_29' => ?_) (fun c_29 => ?_)
        · refine okM_bM (kC_Meaning_settingsError I_u_10) (fun r_31 u_32 z_30 => ?_)
          obtain ⟨I_u_32, G_u_32⟩ := z_30
          have F_u_32 : Fq [8, 15, 24] [9, 10, 11, 13, 14, 17, 18] u u_32 := Fq_tr F_u_10 G_u_32 rfl rfl
          rw [mC_Meaning_typeError_J88]
          refine okM_eq (fun c_33 c_33' => ?_) (fun c_33 => ?_)
          · refine okM_bP (kC_Nodes_size I_u_32) (fun r_35 z_34 => ?_)
            have p_36 := z_34
            refine okM_bM (kC_Meaning_judgeTo I_u_32 (by have FUe : FU = 100000 := rfl; have B_38 := IC_b I_u_32; omega) (by have FUe : FU = 100000 := rfl; have B_39 := IC_b I_u_32; omega)) (fun r_40 u_41 z_37 => ?_)
            obtain ⟨I_u_41, G_u_41⟩ := z_37
            have F_u_41 : Fq [8, 15, 24] [9, 10, 11, 13, 14, 17, 18] u u_41 := Fq_tr F_u_32 G_u_41 rfl rfl
            exact okM_some ⟨I_u_41, F_u_41⟩
          · exact okM_some ⟨I_u_32, F_u_32⟩
        · rw [mC_Meaning_typeError_J88]
          refine okM_pos (by decide) ?_
          refine okM_bP (kC_Nodes_size I_u_10) (fun r_43 z_42 => ?_)
          have p_44 := z_42
          refine okM_bM (kC_Meaning_judgeTo I_u_10 (by have FUe : FU = 100000 := rfl; have B_46 := IC_b I_u_10; omega) (by have FUe : FU = 100000 := rfl; have B_47 := IC_b I_u_10; omega)) (fun r_48 u_49 z_45 => ?_)
          obtain ⟨I_u_49, G_u_49⟩ := z_45
          have F_u_49 : Fq [8, 15, 24] [9, 10, 11, 13, 14, 17, 18] u u_49 := Fq_tr F_u_10 G_u_49 rfl rfl
          exact okM_some ⟨I_u_49, F_u_49⟩
      · refine okM_bP (kC_Meaning_starError I_u_10) (fun r_51 z_50 => ?_)
        obtain ⟨p_52, p_53⟩ := z_50
        rw [mC_Meaning_typeError_J88]
        refine okM_eq (fun c_54 c_54' => ?_) (fun c_54 => ?_)
        · refine okM_bP (kC_Nodes_size I_u_10) (fun r_56 z_55 => ?_)
          have p_57 := z_55
          refine okM_bM (kC_Meaning_judgeTo I_u_10 (by have FUe : FU = 100000 := rfl; have B_59 := IC_b I_u_10; omega) (by have FUe : FU = 100000 := rfl; have B_60 := IC_b I_u_10; omega)) (fun r_61 u_62 z_58 => ?_)
          obtain ⟨I_u_62, G_u_62⟩ := z_58
          have F_u_62 : Fq [8, 15, 24] [9, 10, 11, 13, 14, 17, 18] u u_62 := Fq_tr F_u_10 G_u_62 rfl rfl
          exact okM_some ⟨I_u_62, F_u_62⟩
        · exact okM_some ⟨I_u_10, F_u_10⟩
    · rw [mC_Meaning_typeError_J71]
      refine okM_eq (fun c_63 c_63' => ?_) (fun c_63 => ?_)
      · refine okM_bM (kC_Meaning_settingsError I_u_10) (fun r_65 u_66 z_64 => ?_)
        obtain ⟨I_u_66, G_u_66⟩ := z_64
        have F_u_66 : Fq [8, 15, 24] [9, 10, 11, 13, 14, 17, 18] u u_66 := Fq_tr F_u_10 G_u_66 rfl rfl
        rw [mC_Meaning_typeError_J88]
        refine okM_eq (fun c_67 c_67' => ?_) (fun c_67 => ?_)
        · refine okM_bP (kC_Nodes_size I_u_66) (fun r_69 z_68 => ?_)
          have p_70 := z_68
          refine okM_bM (kC_Meaning_judgeTo I_u_66 (by have FUe : FU = 100000 := rfl; have B_72 := IC_b I_u_66; omega) (by have FUe : FU = 100000 := rfl; have B_73 := IC_b I_u_66; omega)) (fun r_74 u_75 z_71 => ?_)
          obtain ⟨I_u_75, G_u_75⟩ := z_71
          have F_u_75 : Fq [8, 15, 24] [9, 10, 11, 13, 14, 17, 18] u u_75 := Fq_tr F_u_66 G_u_75 rfl rfl
          exact okM_some ⟨I_u_75, F_u_75⟩
        · exact okM_some ⟨I_u_66, F_u_66⟩
      · rw [mC_Meaning_typeError_J88]
        refine okM_pos (by decide) ?_
        refine okM_bP (kC_Nodes_size I_u_10) (fun r_77 z_76 => ?_)
        have p_78 := z_76
        refine okM_bM (kC_Meaning_judgeTo I_u_10 (by have FUe : FU = 100000 := rfl; have B_80 := IC_b I_u_10; omega) (by have FUe : FU = 100000 := rfl; have B_81 := IC_b I_u_10; omega)) (fun r_82 u_83 z_79 => ?_)
        obtain ⟨I_u_83, G_u_83⟩ := z_79
        have F_u_83 : Fq [8, 15, 24] [9, 10, 11, 13, 14, 17, 18] u u_83 := Fq_tr F_u_10 G_u_83 rfl rfl
        exact okM_some ⟨I_u_83, F_u_83⟩
theorem kC_Meaning_columnsOfStar_L4 : ∀ (n : Nat) {x1 : Int32} {x2 : Int32} {u : St} (I : IC u) (h0 : 0 ≤ x2.toInt) (h1 : x2.toInt ≤ 200) (h2 : 0 ≤ x1.toInt) (h3 : x1.toInt ≤ 8 * x2.toInt) (hm : (200 - x2.toInt).toNat < n), ok (mC_Meaning_columnsOfStar_L4 n x1 x2 u) (fun r => 0 ≤ r.toInt ∧ r.toInt ≤ 1600) := by
  intro n
  induction n with
  | zero => intro x1 x2 u I h0 h1 h2 h3 hm; exact absurd hm (Nat.not_lt_zero _)
  | succ n ih =>
    intro x1 x2 u I h0 h1 h2 h3 hm
    have l0 : (0 : Int32).toInt = 0 := by decide
    have l1 : (1 : Int32).toInt = 1 := by decide
    have l3 : (3 : Int32).toInt = 3 := by decide
    have l8 : (8 : Int32).toInt = 8 := by decide
    have l200 : (200 : Int32).toInt = 200 := by decide
    have l1600 : (1600 : Int32).toInt = 1600 := by decide
    rw [mC_Meaning_columnsOfStar_L4]
    refine ok_bP (kC_Lists_size I) (fun r_2 z_1 => ?_)
    obtain ⟨p_3, p_4⟩ := z_1
    refine ok_le (fun c_5 => ?_) (fun c_5 => ?_)
    · exact ok_some ⟨(by omega), (by omega)⟩
    · refine ok_bP (kC_Lists_at I) (fun r_7 z_6 => ?_)
      have p_8 := z_6
      refine ok_bP (kC_Catalog_columnsOf I) (fun r_10 z_9 => ?_)
      obtain ⟨p_11, p_12, p_13⟩ := z_9
      try have e_16 : (x1 + r_10 : Int32).toInt = (x1 : Int32).toInt + (r_10 : Int32).toInt := by exact add_i (by omega) (by omega)
      refine ok_seq (fun y_15 h_14 => ?_)
      have h_14' : y_15.toInt = ((x1 + r_10) : Int32).toInt := by rw [h_14]
      try have e_19 : (x2 + 1 : Int32).toInt = (x2 : Int32).toInt + (1 : Int32).toInt := by exact add_i (by omega) (by omega)
      refine ok_seq (fun y_18 h_17 => ?_)
      have h_17' : y_18.toInt = (x2 + 1 : Int32).toInt := by rw [h_17]
      refine ok_mono (ih I (by have B_20 := IC_b I; omega) (by have B_21 := IC_b I; omega) (by have B_22 := IC_b I; omega) (by have B_23 := IC_b I; omega) (by have B_24 := IC_b I; omega)) (fun r_26 z_25 => ?_)
      obtain ⟨p_27, p_28⟩ := z_25
      exact ⟨(by omega), (by omega)⟩
theorem kC_Meaning_columnsOfStar {u : St} (I : IC u) : ok (mC_Meaning_columnsOfStar u) (fun r => 0 ≤ r.toInt ∧ r.toInt ≤ 1600) := by
  have l0 : (0 : Int32).toInt = 0 := by decide
  have l8 : (8 : Int32).toInt = 8 := by decide
  have l200 : (200 : Int32).toInt = 200 := by decide
  have l1600 : (1600 : Int32).toInt = 1600 := by decide
  rw [mC_Meaning_columnsOfStar]
  refine ok_mono (kC_Meaning_columnsOfStar_L4 _ I (by have FUe : FU = 100000 := rfl; have B_1 := IC_b I; omega) (by have FUe : FU = 100000 := rfl; have B_2 := IC_b I; omega) (by have FUe : FU = 100000 := rfl; have B_3 := IC_b I; omega) (by have FUe : FU = 100000 := rfl; have B_4 := IC_b I; omega) (by have FUe : FU = 100000 := rfl; have B_5 := IC_b I; omega)) (fun r_7 z_6 => ?_)
  obtain ⟨p_8, p_9⟩ := z_6
  exact ⟨(by omega), (by omega)⟩
theorem kC_Meaning_spreadStar_L26 {q2 : Int32 → St → Option (St)} {m : Nat} (hq : ∀ {x1 : Int32} {u : St} (I : IC u) (h0 : 0 ≤ x1.toInt) (h1 : x1.toInt ≤ 200) (hm : (200 - x1.toInt).toNat < m), ok (q2 x1 u) (fun v => IC v ∧ Fq [6, 7, 8] [8, 9, 10, 11, 12, 13, 14, 15, 16, 17, 18] u v)) : ∀ (n : Nat) {x1 : Int32} {x2 : Int32} {x3 : Int32} {u : St} (I : IC u) (h0 : 0 ≤ x3.toInt) (h1 : x3.toInt ≤ 8) (h2 : 0 ≤ x1.toInt) (h3 : x1.toInt < 200) (h4 : (200 - x1.toInt).toNat < m + 1) (hm : (8 - x3.toInt).toNat < n), ok (mC_Meaning_spreadStar_L26 q2 n x1 x2 x3 u) (fun v => IC v ∧ Fq [6, 7, 8] [8, 9, 10, 11, 12, 13, 14, 15, 16, 17, 18] u v) := by
  intro n
  induction n with
  | zero => intro x1 x2 x3 u I h0 h1 h2 h3 h4 hm; exact absurd hm (Nat.not_lt_zero _)
  | succ n ih =>
    intro x1 x2 x3 u I h0 h1 h2 h3 h4 hm
    have lm1 : (-1 : Int32).toInt = -1 := by decide
    have l0 : (0 : Int32).toInt = 0 := by decide
    have l1 : (1 : Int32).toInt = 1 := by decide
    have l4 : (4 : Int32).toInt = 4 := by decide
    have l5 : (5 : Int32).toInt = 5 := by decide
    have l8 : (8 : Int32).toInt = 8 := by decide
    have l12 : (12 : Int32).toInt = 12 := by decide
    have l28 : (28 : Int32).toInt = 28 := by decide
    have l200 : (200 : Int32).toInt = 200 := by decide
    have l300 : (300 : Int32).toInt = 300 := by decide
    rw [mC_Meaning_spreadStar_L26]
    refine ok_bP (kC_Catalog_columnsOf I) (fun r_2 z_1 => ?_)
    obtain ⟨p_3, p_4, p_5⟩ := z_1
    refine ok_le (fun c_6 => ?_) (fun c_6 => ?_)
    · try have e_9 : (x1 + 1 : Int32).toInt = (x1 : Int32).toInt + (1 : Int32).toInt := by exact add_i (by omega) (by omega)
      refine ok_seq (fun y_8 h_7 => ?_)
      have h_7' : y_8.toInt = (x1 + 1 : Int32).toInt := by rw [h_7]
      refine ok_mono (hq I (by have B_10 := IC_b I; omega) (by have B_11 := IC_b I; omega) (by have B_12 := IC_b I; omega)) (fun u_14 z_13 => ?_)
      obtain ⟨I_u_14, G_u_14⟩ := z_13
      have F_u_14 : Fq [6, 7, 8] [8, 9, 10, 11, 12, 13, 14, 15, 16, 17, 18] u u_14 := Fq_tr (Fq_rfl u) G_u_14 rfl rfl
      exact ⟨I_u_14, F_u_14⟩
    · refine ok_bM (kC_Nodes_leaf I (by have FUe : FU = 100000 := rfl; have B_16 := IC_b I; omega)) (fun r_17 u_18 z_15 => ?_)
      obtain ⟨I_u_18, G_u_18, p_19, p_20⟩ := z_15
      have F_u_18 : Fq [6, 7, 8] [8, 9, 10, 11, 12, 13, 14, 15, 16, 17, 18] u u_18 := Fq_tr (Fq_rfl u) G_u_18 rfl rfl
      refine ok_bP (kC_Nodes_putPlace I_u_18 (by have FUe : FU = 100000 := rfl; have B_22 := IC_b I_u_18; omega)) (fun u_23 z_21 => ?_)
      obtain ⟨I_u_23, G_u_23⟩ := z_21
      have F_u_23 : Fq [6, 7, 8] [8, 9, 10, 11, 12, 13, 14, 15, 16, 17, 18] u u_23 := Fq_tr F_u_18 G_u_23 rfl rfl
      refine ok_bP (kC_Catalog_typeOf I_u_23) (fun r_25 z_24 => ?_)
      refine ok_bP (kC_Nodes_putType I_u_23) (fun u_27 z_26 => ?_)
      obtain ⟨I_u_27, G_u_27⟩ := z_26
      have F_u_27 : Fq [6, 7, 8] [8, 9, 10, 11, 12, 13, 14, 15, 16, 17, 18] u u_27 := Fq_tr F_u_23 G_u_27 rfl rfl
      refine ok_bP (kC_Lists_add I_u_27 (by have FUe : FU = 100000 := rfl; have B_29 := IC_b I_u_27; omega)) (fun u_30 z_28 => ?_)
      obtain ⟨I_u_30, G_u_30⟩ := z_28
      have F_u_30 : Fq [6, 7, 8] [8, 9, 10, 11, 12, 13, 14, 15, 16, 17, 18] u u_30 := Fq_tr F_u_27 G_u_30 rfl rfl
      try have e_33 : (x3 + 1 : Int32).toInt = (x3 : Int32).toInt + (1 : Int32).toInt := by exact add_i (by omega) (by omega)
      refine ok_seq (fun y_32 h_31 => ?_)
      have h_31' : y_32.toInt = (x3 + 1 : Int32).toInt := by rw [h_31]
      refine ok_mono (ih I_u_30 (by have B_34 := IC_b I_u_30; omega) (by have B_35 := IC_b I_u_30; omega) (by have B_36 := IC_b I_u_30; omega) (by have B_37 := IC_b I_u_30; omega) (by have B_38 := IC_b I_u_30; omega) (by have B_39 := IC_b I_u_30; omega)) (fun u_41 z_40 => ?_)
      obtain ⟨I_u_41, G_u_41⟩ := z_40
      have F_u_41 : Fq [6, 7, 8] [8, 9, 10, 11, 12, 13, 14, 15, 16, 17, 18] u u_41 := Fq_tr F_u_30 G_u_41 rfl rfl
      exact ⟨I_u_41, F_u_41⟩
theorem kC_Meaning_spreadStar_L2 : ∀ (n : Nat) {x1 : Int32} {u : St} (I : IC u) (h0 : 0 ≤ x1.toInt) (h1 : x1.toInt ≤ 200) (hm : (200 - x1.toInt).toNat < n), ok (mC_Meaning_spreadStar_L2 n x1 u) (fun v => IC v ∧ Fq [6, 7, 8] [8, 9, 10, 11, 12, 13, 14, 15, 16, 17, 18] u v) := by
  intro n
  induction n with
  | zero => intro x1 u I h0 h1 hm; exact absurd hm (Nat.not_lt_zero _)
  | succ n ih =>
    intro x1 u I h0 h1 hm
    have l0 : (0 : Int32).toInt = 0 := by decide
    have l1 : (1 : Int32).toInt = 1 := by decide
    have l3 : (3 : Int32).toInt = 3 := by decide
    have l8 : (8 : Int32).toInt = 8 := by decide
    have l200 : (200 : Int32).toInt = 200 := by decide
    rw [mC_Meaning_spreadStar_L2]
    refine ok_bP (kC_Lists_size I) (fun r_2 z_1 => ?_)
    obtain ⟨p_3, p_4⟩ := z_1
    refine ok_le (fun c_5 => ?_) (fun c_5 => ?_)
    · exact ok_some ⟨I, (Fq_rfl u)⟩
    · refine ok_bP (kC_Lists_at I) (fun r_7 z_6 => ?_)
      have p_8 := z_6
      refine ok_mono (kC_Meaning_spreadStar_L26 ih _ I (by have FUe : FU = 100000 := rfl; have B_9 := IC_b I; omega) (by have FUe : FU = 100000 := rfl; have B_10 := IC_b I; omega) (by have FUe : FU = 100000 := rfl; have B_11 := IC_b I; omega) (by have FUe : FU = 100000 := rfl; have B_12 := IC_b I; omega) (by have FUe : FU = 100000 := rfl; have B_13 := IC_b I; omega) (by have FUe : FU = 100000 := rfl; have B_14 := IC_b I; omega)) (fun u_16 z_15 => ?_)
      obtain ⟨I_u_16, G_u_16⟩ := z_15
      have F_u_16 : Fq [6, 7, 8] [8, 9, 10, 11, 12, 13, 14, 15, 16, 17, 18] u u_16 := Fq_tr (Fq_rfl u) G_u_16 rfl rfl
      exact ⟨I_u_16, F_u_16⟩
theorem kC_Meaning_spreadStar {u : St} (I : IC u) : ok (mC_Meaning_spreadStar u) (fun v => IC v ∧ Fq [6, 7, 8] [8, 9, 10, 11, 12, 13, 14, 15, 16, 17, 18] u v) := by
  have l0 : (0 : Int32).toInt = 0 := by decide
  have l200 : (200 : Int32).toInt = 200 := by decide
  rw [mC_Meaning_spreadStar]
  refine ok_mono (kC_Meaning_spreadStar_L2 _ I (by have FUe : FU = 100000 := rfl; have B_1 := IC_b I; omega) (by have FUe : FU = 100000 := rfl; have B_2 := IC_b I; omega) (by have FUe : FU = 100000 := rfl; have B_3 := IC_b I; omega)) (fun u_5 z_4 => ?_)
  obtain ⟨I_u_5, G_u_5⟩ := z_4
  have F_u_5 : Fq [6, 7, 8] [8, 9, 10, 11, 12, 13, 14, 15, 16, 17, 18] u u_5 := Fq_tr (Fq_rfl u) G_u_5 rfl rfl
  exact ⟨I_u_5, F_u_5⟩
theorem kC_Meaning_valuesMatch_L44 : ∀ (n : Nat) {x1 : Int32} {x2 : Int32} {x3 : Int32} {u : St} (I : IC u) (h0 : 0 ≤ x3.toInt) (h1 : x3.toInt ≤ 200) (hm : (200 - x3.toInt).toNat < n), ok (mC_Meaning_valuesMatch_L44 n x1 x2 x3 u) (fun r => 0 ≤ r.toInt ∧ r.toInt ≤ 1) := by
  intro n
  induction n with
  | zero => intro x1 x2 x3 u I h0 h1 hm; exact absurd hm (Nat.not_lt_zero _)
  | succ n ih =>
    intro x1 x2 x3 u I h0 h1 hm
    have l0 : (0 : Int32).toInt = 0 := by decide
    have l1 : (1 : Int32).toInt = 1 := by decide
    have l12 : (12 : Int32).toInt = 12 := by decide
    have l200 : (200 : Int32).toInt = 200 := by decide
    rw [mC_Meaning_valuesMatch_L44]
    refine ok_bP (kC_Lists_size I) (fun r_2 z_1 => ?_)
    obtain ⟨p_3, p_4⟩ := z_1
    refine ok_le (fun c_5 => ?_) (fun c_5 => ?_)
    · exact ok_some ⟨(by omega), (by omega)⟩
    · refine ok_bP (kC_Lists_at I) (fun r_7 z_6 => ?_)
      have p_8 := z_6
      try have e_9 : (r_7 - x2 : Int32).toInt = (r_7 : Int32).toInt - (x2 : Int32).toInt := by exact sub_i (by omega) (by omega)
      refine ok_eq (fun c_10 c_10' => ?_) (fun c_10 => ?_)
      · try have e_13 : (x3 + 1 : Int32).toInt = (x3 : Int32).toInt + (1 : Int32).toInt := by exact add_i (by omega) (by omega)
        refine ok_seq (fun y_12 h_11 => ?_)
        have h_11' : y_12.toInt = (x3 + 1 : Int32).toInt := by rw [h_11]
        refine ok_mono (ih I (by have B_14 := IC_b I; omega) (by have B_15 := IC_b I; omega) (by have B_16 := IC_b I; omega)) (fun r_18 z_17 => ?_)
        obtain ⟨p_19, p_20⟩ := z_17
        exact ⟨(by omega), (by omega)⟩
      · exact ok_some ⟨(by omega), (by omega)⟩
theorem kC_Meaning_valuesMatch {u : St} (I : IC u) : ok (mC_Meaning_valuesMatch u) (fun r => 0 ≤ r.toInt ∧ r.toInt ≤ 1) := by
  have l0 : (0 : Int32).toInt = 0 := by decide
  have l1 : (1 : Int32).toInt = 1 := by decide
  have l5 : (5 : Int32).toInt = 5 := by decide
  have l10 : (10 : Int32).toInt = 10 := by decide
  have l13 : (13 : Int32).toInt = 13 := by decide
  have l200 : (200 : Int32).toInt = 200 := by decide
  rw [mC_Meaning_valuesMatch]
  refine ok_bP (kC_Catalog_columnsOf I) (fun r_2 z_1 => ?_)
  obtain ⟨p_3, p_4, p_5⟩ := z_1
  refine ok_eq (fun c_6 c_6' => ?_) (fun c_6 => ?_)
  · refine ok_bP (kC_Lists_size I) (fun r_8 z_7 => ?_)
    obtain ⟨p_9, p_10⟩ := z_7
    refine ok_eq (fun c_11 c_11' => ?_) (fun c_11 => ?_)
    · refine ok_mono (kC_Meaning_valuesMatch_L44 _ I (by have FUe : FU = 100000 := rfl; have B_12 := IC_b I; omega) (by have FUe : FU = 100000 := rfl; have B_13 := IC_b I; omega) (by have FUe : FU = 100000 := rfl; have B_14 := IC_b I; omega)) (fun r_16 z_15 => ?_)
      obtain ⟨p_17, p_18⟩ := z_15
      exact ⟨(by omega), (by omega)⟩
    · exact ok_some ⟨(by omega), (by omega)⟩
  · refine ok_mono (kC_Meaning_valuesMatch_L44 _ I (by have FUe : FU = 100000 := rfl; have B_19 := IC_b I; omega) (by have FUe : FU = 100000 := rfl; have B_20 := IC_b I; omega) (by have FUe : FU = 100000 := rfl; have B_21 := IC_b I; omega)) (fun r_23 z_22 => ?_)
    obtain ⟨p_24, p_25⟩ := z_22
    exact ⟨(by omega), (by omega)⟩
theorem kC_Meaning_namesDiffer_L28 {q2 : Int32 → St → Option (Int32)} {m : Nat} (hq : ∀ {x1 : Int32} {u : St} (I : IC u) (h0 : 0 ≤ x1.toInt) (h1 : x1.toInt ≤ 200) (hm : (200 - x1.toInt).toNat < m), ok (q2 x1 u) (fun r => 0 ≤ r.toInt ∧ r.toInt ≤ 1)) : ∀ (n : Nat) {x1 : Int32} {x2 : Int32} {x3 : Int32} {u : St} (I : IC u) (h0 : 0 ≤ x3.toInt) (h1 : x3.toInt ≤ 200) (h2 : 0 ≤ x1.toInt) (h3 : x1.toInt < 200) (h4 : (200 - x1.toInt).toNat < m + 1) (hm : (200 - x3.toInt).toNat < n), ok (mC_Meaning_namesDiffer_L28 q2 n x1 x2 x3 u) (fun r => 0 ≤ r.toInt ∧ r.toInt ≤ 1) := by
  intro n
  induction n with
  | zero => intro x1 x2 x3 u I h0 h1 h2 h3 h4 hm; exact absurd hm (Nat.not_lt_zero _)
  | succ n ih =>
    intro x1 x2 x3 u I h0 h1 h2 h3 h4 hm
    have l0 : (0 : Int32).toInt = 0 := by decide
    have l1 : (1 : Int32).toInt = 1 := by decide
    have l13 : (13 : Int32).toInt = 13 := by decide
    have l200 : (200 : Int32).toInt = 200 := by decide
    rw [mC_Meaning_namesDiffer_L28]
    refine ok_le (fun c_1 => ?_) (fun c_1 => ?_)
    · try have e_4 : (x1 + 1 : Int32).toInt = (x1 : Int32).toInt + (1 : Int32).toInt := by exact add_i (by omega) (by omega)
      refine ok_seq (fun y_3 h_2 => ?_)
      have h_2' : y_3.toInt = (x1 + 1 : Int32).toInt := by rw [h_2]
      refine ok_mono (hq I (by have B_5 := IC_b I; omega) (by have B_6 := IC_b I; omega) (by have B_7 := IC_b I; omega)) (fun r_9 z_8 => ?_)
      obtain ⟨p_10, p_11⟩ := z_8
      exact ⟨(by omega), (by omega)⟩
    · refine ok_bP (kC_Lists_at I) (fun r_13 z_12 => ?_)
      have p_14 := z_12
      refine ok_bP (kC_Text_same_11_11 I) (fun r_16 z_15 => ?_)
      obtain ⟨p_17, p_18⟩ := z_15
      refine ok_eq (fun c_19 c_19' => ?_) (fun c_19 => ?_)
      · try have e_22 : (x3 + 1 : Int32).toInt = (x3 : Int32).toInt + (1 : Int32).toInt := by exact add_i (by omega) (by omega)
        refine ok_seq (fun y_21 h_20 => ?_)
        have h_20' : y_21.toInt = (x3 + 1 : Int32).toInt := by rw [h_20]
        refine ok_mono (ih I (by have B_23 := IC_b I; omega) (by have B_24 := IC_b I; omega) (by have B_25 := IC_b I; omega) (by have B_26 := IC_b I; omega) (by have B_27 := IC_b I; omega) (by have B_28 := IC_b I; omega)) (fun r_30 z_29 => ?_)
        obtain ⟨p_31, p_32⟩ := z_29
        exact ⟨(by omega), (by omega)⟩
      · exact ok_some ⟨(by omega), (by omega)⟩
theorem kC_Meaning_namesDiffer_L2 : ∀ (n : Nat) {x1 : Int32} {u : St} (I : IC u) (h0 : 0 ≤ x1.toInt) (h1 : x1.toInt ≤ 200) (hm : (200 - x1.toInt).toNat < n), ok (mC_Meaning_namesDiffer_L2 n x1 u) (fun r => 0 ≤ r.toInt ∧ r.toInt ≤ 1) := by
  intro n
  induction n with
  | zero => intro x1 u I h0 h1 hm; exact absurd hm (Nat.not_lt_zero _)
  | succ n ih =>
    intro x1 u I h0 h1 hm
    have l0 : (0 : Int32).toInt = 0 := by decide
    have l1 : (1 : Int32).toInt = 1 := by decide
    have l13 : (13 : Int32).toInt = 13 := by decide
    have l200 : (200 : Int32).toInt = 200 := by decide
    rw [mC_Meaning_namesDiffer_L2]
    refine ok_bP (kC_Lists_size I) (fun r_2 z_1 => ?_)
    obtain ⟨p_3, p_4⟩ := z_1
    refine ok_le (fun c_5 => ?_) (fun c_5 => ?_)
    · exact ok_some ⟨(by omega), (by omega)⟩
    · refine ok_bP (kC_Lists_at I) (fun r_7 z_6 => ?_)
      have p_8 := z_6
      refine ok_mono (kC_Meaning_namesDiffer_L28 ih _ I (by have FUe : FU = 100000 := rfl; have B_9 := IC_b I; omega) (by have FUe : FU = 100000 := rfl; have B_10 := IC_b I; omega) (by have FUe : FU = 100000 := rfl; have B_11 := IC_b I; omega) (by have FUe : FU = 100000 := rfl; have B_12 := IC_b I; omega) (by have FUe : FU = 100000 := rfl; have B_13 := IC_b I; omega) (by have FUe : FU = 100000 := rfl; have B_14 := IC_b I; omega)) (fun r_16 z_15 => ?_)
      obtain ⟨p_17, p_18⟩ := z_15
      exact ⟨(by omega), (by omega)⟩
theorem kC_Meaning_namesDiffer {u : St} (I : IC u) : ok (mC_Meaning_namesDiffer u) (fun r => 0 ≤ r.toInt ∧ r.toInt ≤ 1) := by
  have l0 : (0 : Int32).toInt = 0 := by decide
  have l1 : (1 : Int32).toInt = 1 := by decide
  have l200 : (200 : Int32).toInt = 200 := by decide
  rw [mC_Meaning_namesDiffer]
  refine ok_mono (kC_Meaning_namesDiffer_L2 _ I (by have FUe : FU = 100000 := rfl; have B_1 := IC_b I; omega) (by have FUe : FU = 100000 := rfl; have B_2 := IC_b I; omega) (by have FUe : FU = 100000 := rfl; have B_3 := IC_b I; omega)) (fun r_5 z_4 => ?_)
  obtain ⟨p_6, p_7⟩ := z_4
  exact ⟨(by omega), (by omega)⟩
theorem kC_Meaning_ordersMatch_L2 : ∀ (n : Nat) {x1 : Int32} {u : St} (I : IC u) (h0 : 0 ≤ x1.toInt) (h1 : x1.toInt ≤ 200) (hm : (200 - x1.toInt).toNat < n), ok (mC_Meaning_ordersMatch_L2 n x1 u) (fun r => 0 ≤ r.toInt ∧ r.toInt ≤ 1) := by
  intro n
  induction n with
  | zero => intro x1 u I h0 h1 hm; exact absurd hm (Nat.not_lt_zero _)
  | succ n ih =>
    intro x1 u I h0 h1 hm
    have lm1 : (-1 : Int32).toInt = -1 := by decide
    have l0 : (0 : Int32).toInt = 0 := by decide
    have l1 : (1 : Int32).toInt = 1 := by decide
    have l2 : (2 : Int32).toInt = 2 := by decide
    have l200 : (200 : Int32).toInt = 200 := by decide
    rw [mC_Meaning_ordersMatch_L2]
    refine ok_bP (kC_Lists_size I) (fun r_2 z_1 => ?_)
    obtain ⟨p_3, p_4⟩ := z_1
    refine ok_le (fun c_5 => ?_) (fun c_5 => ?_)
    · exact ok_some ⟨(by omega), (by omega)⟩
    · refine ok_bP (kC_Lists_at I) (fun r_7 z_6 => ?_)
      have p_8 := z_6
      refine ok_le (fun c_9 => ?_) (fun c_9 => ?_)
      · rw [mC_Meaning_ordersMatch_J35]
        refine ok_bP (kC_Lists_size I) (fun r_11 z_10 => ?_)
        obtain ⟨p_12, p_13⟩ := z_10
        refine ok_lt (fun c_14 => ?_) (fun c_14 => ?_)
        · try have e_17 : (x1 + 1 : Int32).toInt = (x1 : Int32).toInt + (1 : Int32).toInt := by exact add_i (by omega) (by omega)
          refine ok_seq (fun y_16 h_15 => ?_)
          have h_15' : y_16.toInt = (x1 + 1 : Int32).toInt := by rw [h_15]
          refine ok_mono (ih I (by have B_18 := IC_b I; omega) (by have B_19 := IC_b I; omega) (by have B_20 := IC_b I; omega)) (fun r_22 z_21 => ?_)
          obtain ⟨p_23, p_24⟩ := z_21
          exact ⟨(by omega), (by omega)⟩
        · exact ok_some ⟨(by omega), (by omega)⟩
      · try have e_25 : ((-1) - r_7 : Int32).toInt = ((-1) : Int32).toInt - (r_7 : Int32).toInt := by exact sub_i (by omega) (by omega)
        rw [mC_Meaning_ordersMatch_J35]
        refine ok_bP (kC_Lists_size I) (fun r_27 z_26 => ?_)
        obtain ⟨p_28, p_29⟩ := z_26
        try have e_30 : ((-1) - r_7 : Int32).toInt = ((-1) : Int32).toInt - (r_7 : Int32).toInt := by exact sub_i (by omega) (by omega)
        refine ok_lt (fun c_31 => ?_) (fun c_31 => ?_)
        · try have e_34 : (x1 + 1 : Int32).toInt = (x1 : Int32).toInt + (1 : Int32).toInt := by exact add_i (by omega) (by omega)
          refine ok_seq (fun y_33 h_32 => ?_)
          have h_32' : y_33.toInt = (x1 + 1 : Int32).toInt := by rw [h_32]
          refine ok_mono (ih I (by have B_35 := IC_b I; omega) (by have B_36 := IC_b I; omega) (by have B_37 := IC_b I; omega)) (fun r_39 z_38 => ?_)
          obtain ⟨p_40, p_41⟩ := z_38
          exact ⟨(by omega), (by omega)⟩
        · exact ok_some ⟨(by omega), (by omega)⟩
