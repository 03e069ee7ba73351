theorem kG_SqlReaderModel_counts_L171 {q161 : Int32 → Int32 → St → Option (Int32)} {w : Nat} (hq : ∀ {x1 : Int32} {x2 : Int32} {u : St} (I : IG u) (h0 : 0 ≤ x1.toInt) (h1 : x1.toInt ≤ 1) (h2 : 0 ≤ x2.toInt) (h3 : x2.toInt ≤ (u.1 24).toInt) (hm : ((u.1 24).toInt - x2.toInt).toNat < w), ok (q161 x1 x2 u) (fun r => 0 ≤ r.toInt ∧ r.toInt ≤ 1)) : ∀ (n : Nat) {x1 : Int32} {x2 : Int32} {x3 : Int32} {u : St} (I : IG u) (h0 : 0 ≤ x1.toInt) (h1 : x1.toInt ≤ 1) (h2 : 0 ≤ x2.toInt) (h3 : x2.toInt < (u.1 24).toInt) (h4 : 0 ≤ x3.toInt) (h5 : x3.toInt ≤ x2.toInt) (h6 : ((u.1 24).toInt - (x2.toInt + 1)).toNat < w) (hm : (x2.toInt - x3.toInt).toNat < n), ok (mM_SqlReaderModel_counts_L171 q161 n x1 x2 x3 u) (fun r => 0 ≤ r.toInt ∧ r.toInt ≤ 1) := by
  intro n
  induction n with
  | zero => intro x1 x2 x3 u I h0 h1 h2 h3 h4 h5 h6 hm; exact absurd hm (Nat.not_lt_zero _)
  | succ n ih =>
    intro x1 x2 x3 u I h0 h1 h2 h3 h4 h5 h6 hm
    have l0 : (0 : Int32).toInt = 0 := by decide
    have l1 : (1 : Int32).toInt = 1 := by decide
    have l24 : (24 : Int32).toInt = 24 := by decide
    have l31 : (31 : Int32).toInt = 31 := by decide
    rw [mM_SqlReaderModel_counts_L171]
    have NA := IG_nt I x2
    have NB := IG_nt I x3
    refine ok_le (fun c_1 => ?_) (fun c_1 => ?_)
    · try have e_4 : (x2 + 1 : Int32).toInt = (x2 : Int32).toInt + (1 : Int32).toInt := by have B_5 := IG_b I; exact add_i (by omega) (by omega)
      refine ok_seq (fun y_3 h_2 => ?_)
      have h_2' : y_3.toInt = (x2 + 1 : Int32).toInt := by rw [h_2]
      refine ok_mono (hq I (by have B_6 := IG_b I; omega) (by have B_7 := IG_b I; omega) (by have B_8 := IG_b I; omega) (by have B_9 := IG_b I; omega) (by have B_10 := IG_b I; omega)) (fun r_12 z_11 => ?_)
      obtain ⟨p_13, p_14⟩ := z_11
      exact ⟨(by omega), (by omega)⟩
    · refine ok_eq (fun c_15 c_15' => ?_) (fun c_15 => ?_)
      · try have e_18 : (x3 + 1 : Int32).toInt = (x3 : Int32).toInt + (1 : Int32).toInt := by have B_19 := IG_b I; exact add_i (by omega) (by omega)
        refine ok_seq (fun y_17 h_16 => ?_)
        have h_16' : y_17.toInt = (x3 + 1 : Int32).toInt := by rw [h_16]
        refine ok_mono (ih I (by have B_20 := IG_b I; omega) (by have B_21 := IG_b I; omega) (by have B_22 := IG_b I; omega) (by have B_23 := IG_b I; omega) (by have B_24 := IG_b I; omega) (by have B_25 := IG_b I; omega) (by have B_26 := IG_b I; omega) (by have B_27 := IG_b I; omega)) (fun r_29 z_28 => ?_)
        obtain ⟨p_30, p_31⟩ := z_28
        exact ⟨(by omega), (by omega)⟩
      · refine ok_gd (inb_of (by have B_32 := IG_b I; omega) (by have B_33 := IG_b I; omega)) ?_
        refine ok_gd (inb_of (by have B_34 := IG_b I; omega) (by have B_35 := IG_b I; omega)) ?_
        refine ok_bP (kM_SqlReaderModel_sameToken (IG_IT I) (by have FUe : FU = 100000 := rfl; have B_37 := IG_b I; omega) (by have FUe : FU = 100000 := rfl; have B_38 := IG_b I; omega) (by have FUe : FU = 100000 := rfl; have B_39 := IG_b I; omega) (by have FUe : FU = 100000 := rfl; have B_40 := IG_b I; omega)) (fun r_41 z_36 => ?_)
        obtain ⟨p_42, p_43⟩ := z_36
        refine ok_eq (fun c_44 c_44' => ?_) (fun c_44 => ?_)
        · try have e_47 : (x3 + 1 : Int32).toInt = (x3 : Int32).toInt + (1 : Int32).toInt := by have B_48 := IG_b I; exact add_i (by omega) (by omega)
          refine ok_seq (fun y_46 h_45 => ?_)
          have h_45' : y_46.toInt = (x3 + 1 : Int32).toInt := by rw [h_45]
          refine ok_mono (ih I (by have B_49 := IG_b I; omega) (by have B_50 := IG_b I; omega) (by have B_51 := IG_b I; omega) (by have B_52 := IG_b I; omega) (by have B_53 := IG_b I; omega) (by have B_54 := IG_b I; omega) (by have B_55 := IG_b I; omega) (by have B_56 := IG_b I; omega)) (fun r_58 z_57 => ?_)
          obtain ⟨p_59, p_60⟩ := z_57
          exact ⟨(by omega), (by omega)⟩
        · try have e_63 : (x3 + 1 : Int32).toInt = (x3 : Int32).toInt + (1 : Int32).toInt := by have B_64 := IG_b I; exact add_i (by omega) (by omega)
          refine ok_seq (fun y_62 h_61 => ?_)
          have h_61' : y_62.toInt = (x3 + 1 : Int32).toInt := by rw [h_61]
          refine ok_mono (ih I (by have B_65 := IG_b I; omega) (by have B_66 := IG_b I; omega) (by have B_67 := IG_b I; omega) (by have B_68 := IG_b I; omega) (by have B_69 := IG_b I; omega) (by have B_70 := IG_b I; omega) (by have B_71 := IG_b I; omega) (by have B_72 := IG_b I; omega)) (fun r_74 z_73 => ?_)
          obtain ⟨p_75, p_76⟩ := z_73
          exact ⟨(by omega), (by omega)⟩
theorem kG_SqlReaderModel_counts_L161 : ∀ (n : Nat) {x1 : Int32} {x2 : Int32} {u : St} (I : IG u) (h0 : 0 ≤ x1.toInt) (h1 : x1.toInt ≤ 1) (h2 : 0 ≤ x2.toInt) (h3 : x2.toInt ≤ (u.1 24).toInt) (hm : ((u.1 24).toInt - x2.toInt).toNat < n), ok (mM_SqlReaderModel_counts_L161 n x1 x2 u) (fun r => 0 ≤ r.toInt ∧ r.toInt ≤ 1) := by
  intro n
  induction n with
  | zero => intro x1 x2 u I h0 h1 h2 h3 hm; exact absurd hm (Nat.not_lt_zero _)
  | succ n ih =>
    intro x1 x2 u I h0 h1 h2 h3 hm
    have l0 : (0 : Int32).toInt = 0 := by decide
    have l1 : (1 : Int32).toInt = 1 := by decide
    have l24 : (24 : Int32).toInt = 24 := by decide
    rw [mM_SqlReaderModel_counts_L161]
    refine ok_le (fun c_1 => ?_) (fun c_1 => ?_)
    · refine ok_gd (zb_of (by omega) (by omega)) ?_
      exact ok_some ⟨(by omega), (by omega)⟩
    · refine ok_mono (kG_SqlReaderModel_counts_L171 ih _ I (by have FUe : FU = 100000 := rfl; have B_2 := IG_b I; omega) (by have FUe : FU = 100000 := rfl; have B_3 := IG_b I; omega) (by have FUe : FU = 100000 := rfl; have B_4 := IG_b I; omega) (by have FUe : FU = 100000 := rfl; have B_5 := IG_b I; omega) (by have FUe : FU = 100000 := rfl; have B_6 := IG_b I; omega) (by have FUe : FU = 100000 := rfl; have B_7 := IG_b I; omega) (by have FUe : FU = 100000 := rfl; have B_8 := IG_b I; omega) (by have FUe : FU = 100000 := rfl; have B_9 := IG_b I; omega)) (fun r_11 z_10 => ?_)
      obtain ⟨p_12, p_13⟩ := z_10
      exact ⟨(by omega), (by omega)⟩
theorem kG_SqlReaderModel_counts_L109 : ∀ (n : Nat) {x1 : Int32} {x2 : Int32} {u : St} (I : IG u) (h0 : 0 ≤ x1.toInt) (h1 : x1.toInt ≤ 1) (h2 : 0 ≤ x2.toInt) (h3 : x2.toInt ≤ (u.1 18).toInt) (hm : ((u.1 18).toInt - x2.toInt).toNat < n), ok (mM_SqlReaderModel_counts_L109 n x1 x2 u) (fun r => 0 ≤ r.toInt ∧ r.toInt ≤ 1) := by
  intro n
  induction n with
  | zero => intro x1 x2 u I h0 h1 h2 h3 hm; exact absurd hm (Nat.not_lt_zero _)
  | succ n ih =>
    intro x1 x2 u I h0 h1 h2 h3 hm
    have l0 : (0 : Int32).toInt = 0 := by decide
    have l1 : (1 : Int32).toInt = 1 := by decide
    have l16 : (16 : Int32).toInt = 16 := by decide
    have l18 : (18 : Int32).toInt = 18 := by decide
    have l24 : (24 : Int32).toInt = 24 := by decide
    rw [mM_SqlReaderModel_counts_L109]
    refine ok_le (fun c_1 => ?_) (fun c_1 => ?_)
    · refine ok_mono (kG_SqlReaderModel_counts_L161 _ I (by have FUe : FU = 100000 := rfl; have B_2 := IG_b I; omega) (by have FUe : FU = 100000 := rfl; have B_3 := IG_b I; omega) (by have FUe : FU = 100000 := rfl; have B_4 := IG_b I; omega) (by have FUe : FU = 100000 := rfl; have B_5 := IG_b I; omega) (by have FUe : FU = 100000 := rfl; have B_6 := IG_b I; omega)) (fun r_8 z_7 => ?_)
      obtain ⟨p_9, p_10⟩ := z_7
      exact ⟨(by omega), (by omega)⟩
    · refine ok_eq (fun c_11 c_11' => ?_) (fun c_11 => ?_)
      · try have e_14 : (x2 + 1 : Int32).toInt = (x2 : Int32).toInt + (1 : Int32).toInt := by have B_15 := IG_b I; exact add_i (by omega) (by omega)
        refine ok_seq (fun y_13 h_12 => ?_)
        have h_12' : y_13.toInt = (x2 + 1 : Int32).toInt := by rw [h_12]
        refine ok_mono (ih I (by have B_16 := IG_b I; omega) (by have B_17 := IG_b I; omega) (by have B_18 := IG_b I; omega) (by have B_19 := IG_b I; omega) (by have B_20 := IG_b I; omega)) (fun r_22 z_21 => ?_)
        obtain ⟨p_23, p_24⟩ := z_21
        exact ⟨(by omega), (by omega)⟩
      · refine ok_gd (inb_of (by have B_25 := IG_b I; omega) (by have B_26 := IG_b I; omega)) ?_
        refine ok_lt (fun c_27 => ?_) (fun c_27 => ?_)
        · try have e_30 : (x2 + 1 : Int32).toInt = (x2 : Int32).toInt + (1 : Int32).toInt := by have B_31 := IG_b I; exact add_i (by omega) (by omega)
          refine ok_seq (fun y_29 h_28 => ?_)
          have h_28' : y_29.toInt = (x2 + 1 : Int32).toInt := by rw [h_28]
          refine ok_mono (ih I (by have B_32 := IG_b I; omega) (by have B_33 := IG_b I; omega) (by have B_34 := IG_b I; omega) (by have B_35 := IG_b I; omega) (by have B_36 := IG_b I; omega)) (fun r_38 z_37 => ?_)
          obtain ⟨p_39, p_40⟩ := z_37
          exact ⟨(by omega), (by omega)⟩
        · refine ok_gd (inb_of (by have B_41 := IG_b I; omega) (by have B_42 := IG_b I; omega)) ?_
          refine ok_lt (fun c_43 => ?_) (fun c_43 => ?_)
          · try have e_46 : (x2 + 1 : Int32).toInt = (x2 : Int32).toInt + (1 : Int32).toInt := by have B_47 := IG_b I; exact add_i (by omega) (by omega)
            refine ok_seq (fun y_45 h_44 => ?_)
            have h_44' : y_45.toInt = (x2 + 1 : Int32).toInt := by rw [h_44]
            refine ok_mono (ih I (by have B_48 := IG_b I; omega) (by have B_49 := IG_b I; omega) (by have B_50 := IG_b I; omega) (by have B_51 := IG_b I; omega) (by have B_52 := IG_b I; omega)) (fun r_54 z_53 => ?_)
            obtain ⟨p_55, p_56⟩ := z_53
            exact ⟨(by omega), (by omega)⟩
          · try have e_59 : (x2 + 1 : Int32).toInt = (x2 : Int32).toInt + (1 : Int32).toInt := by have B_60 := IG_b I; exact add_i (by omega) (by omega)
            refine ok_seq (fun y_58 h_57 => ?_)
            have h_57' : y_58.toInt = (x2 + 1 : Int32).toInt := by rw [h_57]
            refine ok_mono (ih I (by have B_61 := IG_b I; omega) (by have B_62 := IG_b I; omega) (by have B_63 := IG_b I; omega) (by have B_64 := IG_b I; omega) (by have B_65 := IG_b I; omega)) (fun r_67 z_66 => ?_)
            obtain ⟨p_68, p_69⟩ := z_66
            exact ⟨(by omega), (by omega)⟩
theorem kG_SqlReaderModel_counts_L65 {q55 : Int32 → Int32 → St → Option (Int32)} {w : Nat} (hq : ∀ {x1 : Int32} {x2 : Int32} {u : St} (I : IG u) (h0 : 0 ≤ x1.toInt) (h1 : x1.toInt ≤ 1) (h2 : 0 ≤ x2.toInt) (h3 : x2.toInt ≤ (u.1 20).toInt) (hm : ((u.1 20).toInt - x2.toInt).toNat < w), ok (q55 x1 x2 u) (fun r => 0 ≤ r.toInt ∧ r.toInt ≤ 1)) : ∀ (n : Nat) {x1 : Int32} {x2 : Int32} {x3 : Int32} {u : St} (I : IG u) (h0 : 0 ≤ x1.toInt) (h1 : x1.toInt ≤ 1) (h2 : 0 ≤ x2.toInt) (h3 : x2.toInt < (u.1 20).toInt) (h4 : 0 ≤ x3.toInt) (h5 : x3.toInt ≤ x2.toInt) (h6 : ((u.1 20).toInt - (x2.toInt + 1)).toNat < w) (hm : (x2.toInt - x3.toInt).toNat < n), ok (mM_SqlReaderModel_counts_L65 q55 n x1 x2 x3 u) (fun r => 0 ≤ r.toInt ∧ r.toInt ≤ 1) := by
  intro n
  induction n with
  | zero => intro x1 x2 x3 u I h0 h1 h2 h3 h4 h5 h6 hm; exact absurd hm (Nat.not_lt_zero _)
  | succ n ih =>
    intro x1 x2 x3 u I h0 h1 h2 h3 h4 h5 h6 hm
    have l0 : (0 : Int32).toInt = 0 := by decide
    have l1 : (1 : Int32).toInt = 1 := by decide
    have l20 : (20 : Int32).toInt = 20 := by decide
    have l28 : (28 : Int32).toInt = 28 := by decide
    rw [mM_SqlReaderModel_counts_L65]
    refine ok_le (fun c_1 => ?_) (fun c_1 => ?_)
    · try have e_4 : (x2 + 1 : Int32).toInt = (x2 : Int32).toInt + (1 : Int32).toInt := by have B_5 := IG_b I; exact add_i (by omega) (by omega)
      refine ok_seq (fun y_3 h_2 => ?_)
      have h_2' : y_3.toInt = (x2 + 1 : Int32).toInt := by rw [h_2]
      refine ok_mono (hq I (by have B_6 := IG_b I; omega) (by have B_7 := IG_b I; omega) (by have B_8 := IG_b I; omega) (by have B_9 := IG_b I; omega) (by have B_10 := IG_b I; omega)) (fun r_12 z_11 => ?_)
      obtain ⟨p_13, p_14⟩ := z_11
      exact ⟨(by omega), (by omega)⟩
    · refine ok_eq (fun c_15 c_15' => ?_) (fun c_15 => ?_)
      · try have e_18 : (x3 + 1 : Int32).toInt = (x3 : Int32).toInt + (1 : Int32).toInt := by have B_19 := IG_b I; exact add_i (by omega) (by omega)
        refine ok_seq (fun y_17 h_16 => ?_)
        have h_16' : y_17.toInt = (x3 + 1 : Int32).toInt := by rw [h_16]
        refine ok_mono (ih I (by have B_20 := IG_b I; omega) (by have B_21 := IG_b I; omega) (by have B_22 := IG_b I; omega) (by have B_23 := IG_b I; omega) (by have B_24 := IG_b I; omega) (by have B_25 := IG_b I; omega) (by have B_26 := IG_b I; omega) (by have B_27 := IG_b I; omega)) (fun r_29 z_28 => ?_)
        obtain ⟨p_30, p_31⟩ := z_28
        exact ⟨(by omega), (by omega)⟩
      · refine ok_gd (inb_of (by have B_32 := IG_b I; omega) (by have B_33 := IG_b I; omega)) ?_
        refine ok_gd (inb_of (by have B_34 := IG_b I; omega) (by have B_35 := IG_b I; omega)) ?_
        refine ok_eq (fun c_36 c_36' => ?_) (fun c_36 => ?_)
        · try have e_39 : (x3 + 1 : Int32).toInt = (x3 : Int32).toInt + (1 : Int32).toInt := by have B_40 := IG_b I; exact add_i (by omega) (by omega)
          refine ok_seq (fun y_38 h_37 => ?_)
          have h_37' : y_38.toInt = (x3 + 1 : Int32).toInt := by rw [h_37]
          refine ok_mono (ih I (by have B_41 := IG_b I; omega) (by have B_42 := IG_b I; omega) (by have B_43 := IG_b I; omega) (by have B_44 := IG_b I; omega) (by have B_45 := IG_b I; omega) (by have B_46 := IG_b I; omega) (by have B_47 := IG_b I; omega) (by have B_48 := IG_b I; omega)) (fun r_50 z_49 => ?_)
          obtain ⟨p_51, p_52⟩ := z_49
          exact ⟨(by omega), (by omega)⟩
        · try have e_55 : (x3 + 1 : Int32).toInt = (x3 : Int32).toInt + (1 : Int32).toInt := by have B_56 := IG_b I; exact add_i (by omega) (by omega)
          refine ok_seq (fun y_54 h_53 => ?_)
          have h_53' : y_54.toInt = (x3 + 1 : Int32).toInt := by rw [h_53]
          refine ok_mono (ih I (by have B_57 := IG_b I; omega) (by have B_58 := IG_b I; omega) (by have B_59 := IG_b I; omega) (by have B_60 := IG_b I; omega) (by have B_61 := IG_b I; omega) (by have B_62 := IG_b I; omega) (by have B_63 := IG_b I; omega) (by have B_64 := IG_b I; omega)) (fun r_66 z_65 => ?_)
          obtain ⟨p_67, p_68⟩ := z_65
          exact ⟨(by omega), (by omega)⟩
theorem kG_SqlReaderModel_counts_L55 : ∀ (n : Nat) {x1 : Int32} {x2 : Int32} {u : St} (I : IG u) (h0 : 0 ≤ x1.toInt) (h1 : x1.toInt ≤ 1) (h2 : 0 ≤ x2.toInt) (h3 : x2.toInt ≤ (u.1 20).toInt) (hm : ((u.1 20).toInt - x2.toInt).toNat < n), ok (mM_SqlReaderModel_counts_L55 n x1 x2 u) (fun r => 0 ≤ r.toInt ∧ r.toInt ≤ 1) := by
  intro n
  induction n with
  | zero => intro x1 x2 u I h0 h1 h2 h3 hm; exact absurd hm (Nat.not_lt_zero _)
  | succ n ih =>
    intro x1 x2 u I h0 h1 h2 h3 hm
    have l0 : (0 : Int32).toInt = 0 := by decide
    have l1 : (1 : Int32).toInt = 1 := by decide
    have l18 : (18 : Int32).toInt = 18 := by decide
    have l20 : (20 : Int32).toInt = 20 := by decide
    rw [mM_SqlReaderModel_counts_L55]
    refine ok_le (fun c_1 => ?_) (fun c_1 => ?_)
    · refine ok_mono (kG_SqlReaderModel_counts_L109 _ I (by have FUe : FU = 100000 := rfl; have B_2 := IG_b I; omega) (by have FUe : FU = 100000 := rfl; have B_3 := IG_b I; omega) (by have FUe : FU = 100000 := rfl; have B_4 := IG_b I; omega) (by have FUe : FU = 100000 := rfl; have B_5 := IG_b I; omega) (by have FUe : FU = 100000 := rfl; have B_6 := IG_b I; omega)) (fun r_8 z_7 => ?_)
      obtain ⟨p_9, p_10⟩ := z_7
      exact ⟨(by omega), (by omega)⟩
    · refine ok_mono (kG_SqlReaderModel_counts_L65 ih _ I (by have FUe : FU = 100000 := rfl; have B_11 := IG_b I; omega) (by have FUe : FU = 100000 := rfl; have B_12 := IG_b I; omega) (by have FUe : FU = 100000 := rfl; have B_13 := IG_b I; omega) (by have FUe : FU = 100000 := rfl; have B_14 := IG_b I; omega) (by have FUe : FU = 100000 := rfl; have B_15 := IG_b I; omega) (by have FUe : FU = 100000 := rfl; have B_16 := IG_b I; omega) (by have FUe : FU = 100000 := rfl; have B_17 := IG_b I; omega) (by have FUe : FU = 100000 := rfl; have B_18 := IG_b I; omega)) (fun r_20 z_19 => ?_)
      obtain ⟨p_21, p_22⟩ := z_19
      exact ⟨(by omega), (by omega)⟩
theorem kG_SqlReaderModel_counts {u : St} (I : IG u) : ok (mM_SqlReaderModel_counts u) (fun r => 0 ≤ r.toInt ∧ r.toInt ≤ 1) := by
  have l0 : (0 : Int32).toInt = 0 := by decide
  have l1 : (1 : Int32).toInt = 1 := by decide
  have l5 : (5 : Int32).toInt = 5 := by decide
  have l6 : (6 : Int32).toInt = 6 := by decide
  have l7 : (7 : Int32).toInt = 7 := by decide
  have l9 : (9 : Int32).toInt = 9 := by decide
  have l16 : (16 : Int32).toInt = 16 := by decide
  have l20 : (20 : Int32).toInt = 20 := by decide
  have l22 : (22 : Int32).toInt = 22 := by decide
  have l28 : (28 : Int32).toInt = 28 := by decide
  rw [mM_SqlReaderModel_counts]
  have TT := IG_tt I
  refine ok_eq (fun c_1 c_1' => ?_) (fun c_1 => ?_)
  · refine ok_bP (kM_SqlReaderModel_deed (IG_IB I)) (fun r_3 z_2 => ?_)
    have p_4 := z_2
    refine ok_eq (fun c_5 c_5' => ?_) (fun c_5 => ?_)
    · refine ok_gd (inb_of (by have B_6 := IG_b I; omega) (by have B_7 := IG_b I; omega)) ?_
      refine ok_eq (fun c_8 c_8' => ?_) (fun c_8 => ?_)
      · rw [mM_SqlReaderModel_counts_J31]
        refine ok_eq (fun c_9 c_9' => ?_) (fun c_9 => ?_)
        · refine ok_mono (kG_SqlReaderModel_counts_L55 _ I (by have FUe : FU = 100000 := rfl; have B_10 := IG_b I; omega) (by have FUe : FU = 100000 := rfl; have B_11 := IG_b I; omega) (by have FUe : FU = 100000 := rfl; have B_12 := IG_b I; omega) (by have FUe : FU = 100000 := rfl; have B_13 := IG_b I; omega) (by have FUe : FU = 100000 := rfl; have B_14 := IG_b I; omega)) (fun r_16 z_15 => ?_)
          obtain ⟨p_17, p_18⟩ := z_15
          exact ⟨(by omega), (by omega)⟩
        · refine ok_eq (fun c_19 c_19' => ?_) (fun c_19 => ?_)
          · refine ok_mono (kG_SqlReaderModel_counts_L55 _ I (by have FUe : FU = 100000 := rfl; have B_20 := IG_b I; omega) (by have FUe : FU = 100000 := rfl; have B_21 := IG_b I; omega) (by have FUe : FU = 100000 := rfl; have B_22 := IG_b I; omega) (by have FUe : FU = 100000 := rfl; have B_23 := IG_b I; omega) (by have FUe : FU = 100000 := rfl; have B_24 := IG_b I; omega)) (fun r_26 z_25 => ?_)
            obtain ⟨p_27, p_28⟩ := z_25
            exact ⟨(by omega), (by omega)⟩
          · refine ok_mono (kG_SqlReaderModel_counts_L55 _ I (by have FUe : FU = 100000 := rfl; have B_29 := IG_b I; omega) (by have FUe : FU = 100000 := rfl; have B_30 := IG_b I; omega) (by have FUe : FU = 100000 := rfl; have B_31 := IG_b I; omega) (by have FUe : FU = 100000 := rfl; have B_32 := IG_b I; omega) (by have FUe : FU = 100000 := rfl; have B_33 := IG_b I; omega)) (fun r_35 z_34 => ?_)
            obtain ⟨p_36, p_37⟩ := z_34
            exact ⟨(by omega), (by omega)⟩
      · refine ok_mono (kG_SqlReaderModel_counts_L55 _ I (by have FUe : FU = 100000 := rfl; have B_38 := IG_b I; omega) (by have FUe : FU = 100000 := rfl; have B_39 := IG_b I; omega) (by have FUe : FU = 100000 := rfl; have B_40 := IG_b I; omega) (by have FUe : FU = 100000 := rfl; have B_41 := IG_b I; omega) (by have FUe : FU = 100000 := rfl; have B_42 := IG_b I; omega)) (fun r_44 z_43 => ?_)
        obtain ⟨p_45, p_46⟩ := z_43
        exact ⟨(by omega), (by omega)⟩
    · rw [mM_SqlReaderModel_counts_J31]
      refine ok_eq (fun c_47 c_47' => ?_) (fun c_47 => ?_)
      · refine ok_mono (kG_SqlReaderModel_counts_L55 _ I (by have FUe : FU = 100000 := rfl; have B_48 := IG_b I; omega) (by have FUe : FU = 100000 := rfl; have B_49 := IG_b I; omega) (by have FUe : FU = 100000 := rfl; have B_50 := IG_b I; omega) (by have FUe : FU = 100000 := rfl; have B_51 := IG_b I; omega) (by have FUe : FU = 100000 := rfl; have B_52 := IG_b I; omega)) (fun r_54 z_53 => ?_)
        obtain ⟨p_55, p_56⟩ := z_53
        exact ⟨(by omega), (by omega)⟩
      · refine ok_eq (fun c_57 c_57' => ?_) (fun c_57 => ?_)
        · refine ok_mono (kG_SqlReaderModel_counts_L55 _ I (by have FUe : FU = 100000 := rfl; have B_58 := IG_b I; omega) (by have FUe : FU = 100000 := rfl; have B_59 := IG_b I; omega) (by have FUe : FU = 100000 := rfl; have B_60 := IG_b I; omega) (by have FUe : FU = 100000 := rfl; have B_61 := IG_b I; omega) (by have FUe : FU = 100000 := rfl; have B_62 := IG_b I; omega)) (fun r_64 z_63 => ?_)
          obtain ⟨p_65, p_66⟩ := z_63
          exact ⟨(by omega), (by omega)⟩
        · refine ok_mono (kG_SqlReaderModel_counts_L55 _ I (by have FUe : FU = 100000 := rfl; have B_67 := IG_b I; omega) (by have FUe : FU = 100000 := rfl; have B_68 := IG_b I; omega) (by have FUe : FU = 100000 := rfl; have B_69 := IG_b I; omega) (by have FUe : FU = 100000 := rfl; have B_70 := IG_b I; omega) (by have FUe : FU = 100000 := rfl; have B_71 := IG_b I; omega)) (fun r_73 z_72 => ?_)
          obtain ⟨p_74, p_75⟩ := z_72
          exact ⟨(by omega), (by omega)⟩
  · refine ok_mono (kG_SqlReaderModel_counts_L55 _ I (by have FUe : FU = 100000 := rfl; have B_76 := IG_b I; omega) (by have FUe : FU = 100000 := rfl; have B_77 := IG_b I; omega) (by have FUe : FU = 100000 := rfl; have B_78 := IG_b I; omega) (by have FUe : FU = 100000 := rfl; have B_79 := IG_b I; omega) (by have FUe : FU = 100000 := rfl; have B_80 := IG_b I; omega)) (fun r_82 z_81 => ?_)
    obtain ⟨p_83, p_84⟩ := z_81
    exact ⟨(by omega), (by omega)⟩
set_option maxHeartbeats 4000000 in
theorem kG_SqlReaderModel_hasAggregate_L31 : ∀ (n : Nat) {x2 : Int32} {x3 : Int32} {u : St} (I : IG u) (h0 : 0 ≤ x2.toInt) (h1 : x2.toInt ≤ 1) (h2 : -1 ≤ x3.toInt) (h3 : x3.toInt < (u.1 4).toInt) (hm : (x3.toInt + 1).toNat < n), okM (mM_SqlReaderModel_hasAggregate_L31 n x2 x3 u) (fun r v => IG v ∧ Fr [] [34] u v ∧ 0 ≤ r.toInt ∧ r.toInt ≤ 1) := by
  intro n
  induction n with
  | zero => intro x2 x3 u I h0 h1 h2 h3 hm; exact absurd hm (Nat.not_lt_zero _)
  | succ n ih =>
    intro x2 x3 u I h0 h1 h2 h3 hm
    have l0 : (0 : Int32).toInt = 0 := by decide
    have l1 : (1 : Int32).toInt = 1 := by decide
    have l4 : (4 : Int32).toInt = 4 := by decide
    have l5 : (5 : Int32).toInt = 5 := by decide
    have l10 : (10 : Int32).toInt = 10 := by decide
    have l11 : (11 : Int32).toInt = 11 := by decide
    have l12 : (12 : Int32).toInt = 12 := by decide
    have l28 : (28 : Int32).toInt = 28 := by decide
    have l34 : (34 : Int32).toInt = 34 := by decide
    have l200 : (200 : Int32).toInt = 200 := by decide
    rw [mM_SqlReaderModel_hasAggregate_L31]
    have N_x3 := IG_nd I x3
    refine okM_lt (fun c_1 => ?_) (fun c_1 => ?_)
    · refine okM_gd (zb_of (by omega) (by omega)) ?_
      exact okM_some ⟨I, (Fr_rfl u), (by omega), (by omega)⟩
    · refine okM_gd (inb_of (by have B_2 := IG_b I; omega) (by have B_3 := IG_b I; omega)) ?_
      refine okM_eq (fun c_4 c_4' => ?_) (fun c_4 => ?_)
      · rw [mM_SqlReaderModel_hasAggregate_J70]
        refine okM_pos (by decide) ?_
        rw [mM_SqlReaderModel_hasAggregate_J116]
        refine okM_eq (fun c_5 c_5' => ?_) (fun c_5 => ?_)
        · refine okM_gd (inb_of (by have B_6 := IG_b I; omega) (by have B_7 := IG_b I; omega)) ?_
          refine okM_eq (fun c_8 c_8' => ?_) (fun c_8 => ?_)
          · refine okM_seq (fun y_10 h_9 => ?_)
            have h_9' : y_10.toInt = x3.toInt - 1 := by rw [h_9]; exact dec_i (by omega)
            refine okM_mono (ih I (by have B_11 := IG_b I; omega) (by have B_12 := IG_b I; omega) (by have B_13 := IG_b I; omega) (by have B_14 := IG_b I; omega) (by have B_15 := IG_b I; omega)) (fun r_17 u_18 z_16 => ?_)
            obtain ⟨I_u_18, G_u_18, p_19, p_20⟩ := z_16
            have F_u_18 : Fr [] [34] u u_18 := Fr_tr (Fr_rfl u) G_u_18 rfl rfl
            have g_21 : (u_18.1 4).toInt = (u.1 4).toInt := by rw [G_u_18.1 4 rfl]
            have g_22 : (ga u_18 10 x3).toInt = (ga u 10 x3).toInt := by show (u_18.2.1 10 _).toInt = _; rw [G_u_18.2.1 10 rfl]; rfl
            have g_23 : (ga u_18 11 x3).toInt = (ga u 11 x3).toInt := by show (u_18.2.1 11 _).toInt = _; rw [G_u_18.2.1 11 rfl]; rfl
            have g_24 : (ga u_18 12 x3).toInt = (ga u 12 x3).toInt := by show (u_18.2.1 12 _).toInt = _; rw [G_u_18.2.1 12 rfl]; rfl
            exact ⟨I_u_18, F_u_18, (by omega), (by omega)⟩
          · refine okM_gd (inb_of (by have B_25 := IG_b I; omega) (by have B_26 := IG_b I; omega)) ?_
            refine okM_le (fun c_27 => ?_) (fun c_27 => ?_)
            · refine okM_seq (fun y_29 h_28 => ?_)
              have h_28' : y_29.toInt = x3.toInt - 1 := by rw [h_28]; exact dec_i (by omega)
              refine okM_mono (ih I (by have B_30 := IG_b I; omega) (by have B_31 := IG_b I; omega) (by have B_32 := IG_b I; omega) (by have B_33 := IG_b I; omega) (by have B_34 := IG_b I; omega)) (fun r_36 u_37 z_35 => ?_)
              obtain ⟨I_u_37, G_u_37, p_38, p_39⟩ := z_35
              have F_u_37 : Fr [] [34] u u_37 := Fr_tr (Fr_rfl u) G_u_37 rfl rfl
              have g_40 : (u_37.1 4).toInt = (u.1 4).toInt := by rw [G_u_37.1 4 rfl]
              have g_41 : (ga u_37 10 x3).toInt = (ga u 10 x3).toInt := by show (u_37.2.1 10 _).toInt = _; rw [G_u_37.2.1 10 rfl]; rfl
              have g_42 : (ga u_37 11 x3).toInt = (ga u 11 x3).toInt := by show (u_37.2.1 11 _).toInt = _; rw [G_u_37.2.1 11 rfl]; rfl
              have g_43 : (ga u_37 12 x3).toInt = (ga u 12 x3).toInt := by show (u_37.2.1 12 _).toInt = _; rw [G_u_37.2.1 12 rfl]; rfl
              exact ⟨I_u_37, F_u_37, (by omega), (by omega)⟩
            · refine okM_gd (inb_of (by have B_44 := IG_b I; omega) (by have B_45 := IG_b I; omega)) ?_
              refine okM_le (fun c_46 => ?_) (fun c_46 => ?_)
              · refine okM_seq (fun y_48 h_47 => ?_)
                have h_47' : y_48.toInt = x3.toInt - 1 := by rw [h_47]; exact dec_i (by omega)
                refine okM_mono (ih I (by have B_49 := IG_b I; omega) (by have B_50 := IG_b I; omega) (by have B_51 := IG_b I; omega) (by have B_52 := IG_b I; omega) (by have B_53 := IG_b I; omega)) (fun r_55 u_56 z_54 => ?_)
                obtain ⟨I_u_56, G_u_56, p_57, p_58⟩ := z_54
                have F_u_56 : Fr [] [34] u u_56 := Fr_tr (Fr_rfl u) G_u_56 rfl rfl
                have g_59 : (u_56.1 4).toInt = (u.1 4).toInt := by rw [G_u_56.1 4 rfl]
                have g_60 : (ga u_56 10 x3).toInt = (ga u 10 x3).toInt := by show (u_56.2.1 10 _).toInt = _; rw [G_u_56.2.1 10 rfl]; rfl
                have g_61 : (ga u_56 11 x3).toInt = (ga u 11 x3).toInt := by show (u_56.2.1 11 _).toInt = _; rw [G_u_56.2.1 11 rfl]; rfl
                have g_62 : (ga u_56 12 x3).toInt = (ga u 12 x3).toInt := by show (u_56.2.1 12 _).toInt = _; rw [G_u_56.2.1 12 rfl]; rfl
                exact ⟨I_u_56, F_u_56, (by omega), (by omega)⟩
              · refine okM_seq (fun y_64 h_63 => ?_)
                have h_63' : y_64.toInt = x3.toInt - 1 := by rw [h_63]; exact dec_i (by omega)
                refine okM_mono (ih I (by have B_65 := IG_b I; omega) (by have B_66 := IG_b I; omega) (by have B_67 := IG_b I; omega) (by have B_68 := IG_b I; omega) (by have B_69 := IG_b I; omega)) (fun r_71 u_72 z_70 => ?_)
                obtain ⟨I_u_72, G_u_72, p_73, p_74⟩ := z_70
                have F_u_72 : Fr [] [34] u u_72 := Fr_tr (Fr_rfl u) G_u_72 rfl rfl
                have g_75 : (u_72.1 4).toInt = (u.1 4).toInt := by rw [G_u_72.1 4 rfl]
                have g_76 : (ga u_72 10 x3).toInt = (ga u 10 x3).toInt := by show (u_72.2.1 10 _).toInt = _; rw [G_u_72.2.1 10 rfl]; rfl
                have g_77 : (ga u_72 11 x3).toInt = (ga u 11 x3).toInt := by show (u_72.2.1 11 _).toInt = _; rw [G_u_72.2.1 11 rfl]; rfl
                have g_78 : (ga u_72 12 x3).toInt = (ga u 12 x3).toInt := by show (u_72.2.1 12 _).toInt = _; rw [G_u_72.2.1 12 rfl]; rfl
                exact ⟨I_u_72, F_u_72, (by omega), (by omega)⟩
        · refine okM_seq (fun y_80 h_79 => ?_)
          have h_79' : y_80.toInt = x3.toInt - 1 := by rw [h_79]; exact dec_i (by omega)
          refine okM_mono (ih I (by have B_81 := IG_b I; omega) (by have B_82 := IG_b I; omega) (by have B_83 := IG_b I; omega) (by have B_84 := IG_b I; omega) (by have B_85 := IG_b I; omega)) (fun r_87 u_88 z_86 => ?_)
          obtain ⟨I_u_88, G_u_88, p_89, p_90⟩ := z_86
          have F_u_88 : Fr [] [34] u u_88 := Fr_tr (Fr_rfl u) G_u_88 rfl rfl
          have g_91 : (u_88.1 4).toInt = (u.1 4).toInt := by rw [G_u_88.1 4 rfl]
          have g_92 : (ga u_88 10 x3).toInt = (ga u 10 x3).toInt := by show (u_88.2.1 10 _).toInt = _; rw [G_u_88.2.1 10 rfl]; rfl
          have g_93 : (ga u_88 11 x3).toInt = (ga u 11 x3).toInt := by show (u_88.2.1 11 _).toInt = _; rw [G_u_88.2.1 11 rfl]; rfl
          have g_94 : (ga u_88 12 x3).toInt = (ga u 12 x3).toInt := by show (u_88.2.1 12 _).toInt = _; rw [G_u_88.2.1 12 rfl]; rfl
          exact ⟨I_u_88, F_u_88, (by omega), (by omega)⟩
      · refine okM_gd (inb_of (by have B_95 := IG_b I; omega) (by have B_96 := IG_b I; omega)) ?_
        refine okM_le (fun c_97 => ?_) (fun c_97 => ?_)
        · rw [mM_SqlReaderModel_hasAggregate_J70]
          refine okM_pos (by decide) ?_
          rw [mM_SqlReaderModel_hasAggregate_J116]
          refine okM_eq (fun c_98 c_98' => ?_) (fun c_98 => ?_)
          · refine okM_gd (inb_of (by have B_99 := IG_b I; omega) (by have B_100 := IG_b I; omega)) ?_
            refine okM_eq (fun c_101 c_101' => ?_) (fun c_101 => ?_)
            · refine okM_seq (fun y_103 h_102 => ?_)
              have h_102' : y_103.toInt = x3.toInt - 1 := by rw [h_102]; exact dec_i (by omega)
              refine okM_mono (ih I (by have B_104 := IG_b I; omega) (by have B_105 := IG_b I; omega) (by have B_106 := IG_b I; omega) (by have B_107 := IG_b I; omega) (by have B_108 := IG_b I; omega)) (fun r_110 u_111 z_109 => ?_)
              obtain ⟨I_u_111, G_u_111, p_112, p_113⟩ := z_109
              have F_u_111 : Fr [] [34] u u_111 := Fr_tr (Fr_rfl u) G_u_111 rfl rfl
              have g_114 : (u_111.1 4).toInt = (u.1 4).toInt := by rw [G_u_111.1 4 rfl]
              have g_115 : (ga u_111 10 x3).toInt = (ga u 10 x3).toInt := by show (u_111.2.1 10 _).toInt = _; rw [G_u_111.2.1 10 rfl]; rfl
              have g_116 : (ga u_111 11 x3).toInt = (ga u 11 x3).toInt := by show (u_111.2.1 11 _).toInt = _; rw [G_u_111.2.1 11 rfl]; rfl
              have g_117 : (ga u_111 12 x3).toInt = (ga u 12 x3).toInt := by show (u_111.2.1 12 _).toInt = _; rw [G_u_111.2.1 12 rfl]; rfl
              exact ⟨I_u_111, F_u_111, (by omega), (by omega)⟩
            · refine okM_gd (inb_of (by have B_118 := IG_b I; omega) (by have B_119 := IG_b I; omega)) ?_
              refine okM_le (fun c_120 => ?_) (fun c_120 => ?_)
              · refine okM_seq (fun y_122 h_121 => ?_)
                have h_121' : y_122.toInt = x3.toInt - 1 := by rw [h_121]; exact dec_i (by omega)
                refine okM_mono (ih I (by have B_123 := IG_b I; omega) (by have B_124 := IG_b I; omega) (by have B_125 := IG_b I; omega) (by have B_126 := IG_b I; omega) (by have B_127 := IG_b I; omega)) (fun r_129 u_130 z_128 => ?_)
                obtain ⟨I_u_130, G_u_130, p_131, p_132⟩ := z_128
                have F_u_130 : Fr [] [34] u u_130 := Fr_tr (Fr_rfl u) G_u_130 rfl rfl
                have g_133 : (u_130.1 4).toInt = (u.1 4).toInt := by rw [G_u_130.1 4 rfl]
                have g_134 : (ga u_130 10 x3).toInt = (ga u 10 x3).toInt := by show (u_130.2.1 10 _).toInt = _; rw [G_u_130.2.1 10 rfl]; rfl
                have g_135 : (ga u_130 11 x3).toInt = (ga u 11 x3).toInt := by show (u_130.2.1 11 _).toInt = _; rw [G_u_130.2.1 11 rfl]; rfl
                have g_136 : (ga u_130 12 x3).toInt = (ga u 12 x3).toInt := by show (u_130.2.1 12 _).toInt = _; rw [G_u_130.2.1 12 rfl]; rfl
                exact ⟨I_u_130, F_u_130, (by omega), (by omega)⟩
              · refine okM_gd (inb_of (by have B_137 := IG_b I; omega) (by have B_138 := IG_b I; omega)) ?_
                refine okM_le (fun c_139 => ?_) (fun c_139 => ?_)
                · refine okM_seq (fun y_141 h_140 => ?_)
                  have h_140' : y_141.toInt = x3.toInt - 1 := by rw [h_140]; exact dec_i (by omega)
                  refine okM_mono (ih I (by have B_142 := IG_b I; omega) (by have B_143 := IG_b I; omega) (by have B_144 := IG_b I; omega) (by have B_145 := IG_b I; omega) (by have B_146 := IG_b I; omega)) (fun r_148 u_149 z_147 => ?_)
                  obtain ⟨I_u_149, G_u_149, p_150, p_151⟩ := z_147
                  have F_u_149 : Fr [] [34] u u_149 := Fr_tr (Fr_rfl u) G_u_149 rfl rfl
                  have g_152 : (u_149.1 4).toInt = (u.1 4).toInt := by rw [G_u_149.1 4 rfl]
                  have g_153 : (ga u_149 10 x3).toInt = (ga u 10 x3).toInt := by show (u_149.2.1 10 _).toInt = _; rw [G_u_149.2.1 10 rfl]; rfl
                  have g_154 : (ga u_149 11 x3).toInt = (ga u 11 x3).toInt := by show (u_149.2.1 11 _).toInt = _; rw [G_u_149.2.1 11 rfl]; rfl
                  have g_155 : (ga u_149 12 x3).toInt = (ga u 12 x3).toInt := by show (u_149.2.1 12 _).toInt = _; rw [G_u_149.2.1 12 rfl]; rfl
                  exact ⟨I_u_149, F_u_149, (by omega), (by omega)⟩
                · refine okM_seq (fun y_157 h_156 => ?_)
                  have h_156' : y_157.toInt = x3.toInt - 1 := by rw [h_156]; exact dec_i (by omega)
                  refine okM_mono (ih I (by have B_158 := IG_b I; omega) (by have B_159 := IG_b I; omega) (by have B_160 := IG_b I; omega) (by have B_161 := IG_b I; omega) (by have B_162 := IG_b I; omega)) (fun r_164 u_165 z_163 => ?_)
                  obtain ⟨I_u_165, G_u_165, p_166, p_167⟩ := z_163
                  have F_u_165 : Fr [] [34] u u_165 := Fr_tr (Fr_rfl u) G_u_165 rfl rfl
                  have g_168 : (u_165.1 4).toInt = (u.1 4).toInt := by rw [G_u_165.1 4 rfl]
                  have g_169 : (ga u_165 10 x3).toInt = (ga u 10 x3).toInt := by show (u_165.2.1 10 _).toInt = _; rw [G_u_165.2.1 10 rfl]; rfl
                  have g_170 : (ga u_165 11 x3).toInt = (ga u 11 x3).toInt := by show (u_165.2.1 11 _).toInt = _; rw [G_u_165.2.1 11 rfl]; rfl
                  have g_171 : (ga u_165 12 x3).toInt = (ga u 12 x3).toInt := by show (u_165.2.1 12 _).toInt = _; rw [G_u_165.2.1 12 rfl]; rfl
                  exact ⟨I_u_165, F_u_165, (by omega), (by omega)⟩
          · refine okM_seq (fun y_173 h_172 => ?_)
            have h_172' : y_173.toInt = x3.toInt - 1 := by rw [h_172]; exact dec_i (by omega)
            refine okM_mono (ih I (by have B_174 := IG_b I; omega) (by have B_175 := IG_b I; omega) (by have B_176 := IG_b I; omega) (by have B_177 := IG_b I; omega) (by have B_178 := IG_b I; omega)) (fun r_180 u_181 z_179 => ?_)
            obtain ⟨I_u_181, G_u_181, p_182, p_183⟩ := z_179
            have F_u_181 : Fr [] [34] u u_181 := Fr_tr (Fr_rfl u) G_u_181 rfl rfl
            have g_184 : (u_181.1 4).toInt = (u.1 4).toInt := by rw [G_u_181.1 4 rfl]
            have g_185 : (ga u_181 10 x3).toInt = (ga u 10 x3).toInt := by show (u_181.2.1 10 _).toInt = _; rw [G_u_181.2.1 10 rfl]; rfl
            have g_186 : (ga u_181 11 x3).toInt = (ga u 11 x3).toInt := by show (u_181.2.1 11 _).toInt = _; rw [G_u_181.2.1 11 rfl]; rfl
            have g_187 : (ga u_181 12 x3).toInt = (ga u 12 x3).toInt := by show (u_181.2.1 12 _).toInt = _; rw [G_u_181.2.1 12 rfl]; rfl
            exact ⟨I_u_181, F_u_181, (by omega), (by omega)⟩
        · refine okM_gd (inb_of (by have B_188 := IG_b I; omega) (by have B_189 := IG_b I; omega)) ?_
          refine okM_le (fun c_190 => ?_) (fun c_190 => ?_)
          · rw [mM_SqlReaderModel_hasAggregate_J70]
            refine okM_pos (by decide) ?_
            rw [mM_SqlReaderModel_hasAggregate_J116]
            refine okM_eq (fun c_191 c_191' => ?_) (fun c_191 => ?_)
            · refine okM_gd (inb_of (by have B_192 := IG_b I; omega) (by have B_193 := IG_b I; omega)) ?_
              refine okM_eq (fun c_194 c_194' => ?_) (fun c_194 => ?_)
              · refine okM_seq (fun y_196 h_195 => ?_)
                have h_195' : y_196.toInt = x3.toInt - 1 := by rw [h_195]; exact dec_i (by omega)
                refine okM_mono (ih I (by have B_197 := IG_b I; omega) (by have B_198 := IG_b I; omega) (by have B_199 := IG_b I; omega) (by have B_200 := IG_b I; omega) (by have B_201 := IG_b I; omega)) (fun r_203 u_204 z_202 => ?_)
                obtain ⟨I_u_204, G_u_204, p_205, p_206⟩ := z_202
                have F_u_204 : Fr [] [34] u u_204 := Fr_tr (Fr_rfl u) G_u_204 rfl rfl
                have g_207 : (u_204.1 4).toInt = (u.1 4).toInt := by rw [G_u_204.1 4 rfl]
                have g_208 : (ga u_204 10 x3).toInt = (ga u 10 x3).toInt := by show (u_204.2.1 10 _).toInt = _; rw [G_u_204.2.1 10 rfl]; rfl
                have g_209 : (ga u_204 11 x3).toInt = (ga u 11 x3).toInt := by show (u_204.2.1 11 _).toInt = _; rw [G_u_204.2.1 11 rfl]; rfl
                have g_210 : (ga u_204 12 x3).toInt = (ga u 12 x3).toInt := by show (u_204.2.1 12 _).toInt = _; rw [G_u_204.2.1 12 rfl]; rfl
                exact ⟨I_u_204, F_u_204, (by omega), (by omega)⟩
              · refine okM_gd (inb_of (by have B_211 := IG_b I; omega) (by have B_212 := IG_b I; omega)) ?_
                refine okM_le (fun c_213 => ?_) (fun c_213 => ?_)
                · refine okM_seq (fun y_215 h_214 => ?_)
                  have h_214' : y_215.toInt = x3.toInt - 1 := by rw [h_214]; exact dec_i (by omega)
                  refine okM_mono (ih I (by have B_216 := IG_b I; omega) (by have B_217 := IG_b I; omega) (by have B_218 := IG_b I; omega) (by have B_219 := IG_b I; omega) (by have B_220 := IG_b I; omega)) (fun r_222 u_223 z_221 => ?_)
                  obtain ⟨I_u_223, G_u_223, p_224, p_225⟩ := z_221
                  have F_u_223 : Fr [] [34] u u_223 := Fr_tr (Fr_rfl u) G_u_223 rfl rfl
                  have g_226 : (u_223.1 4).toInt = (u.1 4).toInt := by rw [G_u_223.1 4 rfl]
                  have g_227 : (ga u_223 10 x3).toInt = (ga u 10 x3).toInt := by show (u_223.2.1 10 _).toInt = _; rw [G_u_223.2.1 10 rfl]; rfl
                  have g_228 : (ga u_223 11 x3).toInt = (ga u 11 x3).toInt := by show (u_223.2.1 11 _).toInt = _; rw [G_u_223.2.1 11 rfl]; rfl
                  have g_229 : (ga u_223 12 x3).toInt = (ga u 12 x3).toInt := by show (u_223.2.1 12 _).toInt = _; rw [G_u_223.2.1 12 rfl]; rfl
                  exact ⟨I_u_223, F_u_223, (by omega), (by omega)⟩
                · refine okM_gd (inb_of (by have B_230 := IG_b I; omega) (by have B_231 := IG_b I; omega)) ?_
                  refine okM_le (fun c_232 => ?_) (fun c_232 => ?_)
                  · refine okM_seq (fun y_234 h_233 => ?_)
                    have h_233' : y_234.toInt = x3.toInt - 1 := by rw [h_233]; exact dec_i (by omega)
                    refine okM_mono (ih I (by have B_235 := IG_b I; omega) (by have B_236 := IG_b I; omega) (by have B_237 := IG_b I; omega) (by have B_238 := IG_b I; omega) (by have B_239 := IG_b I; omega)) (fun r_241 u_242 z_240 => ?_)
                    obtain ⟨I_u_242, G_u_242, p_243, p_244⟩ := z_240
                    have F_u_242 : Fr [] [34] u u_242 := Fr_tr (Fr_rfl u) G_u_242 rfl rfl
                    have g_245 : (u_242.1 4).toInt = (u.1 4).toInt := by rw [G_u_242.1 4 rfl]
                    have g_246 : (ga u_242 10 x3).toInt = (ga u 10 x3).toInt := by show (u_242.2.1 10 _).toInt = _; rw [G_u_242.2.1 10 rfl]; rfl
                    have g_247 : (ga u_242 11 x3).toInt = (ga u 11 x3).toInt := by show (u_242.2.1 11 _).toInt = _; rw [G_u_242.2.1 11 rfl]; rfl
                    have g_248 : (ga u_242 12 x3).toInt = (ga u 12 x3).toInt := by show (u_242.2.1 12 _).toInt = _; rw [G_u_242.2.1 12 rfl]; rfl
                    exact ⟨I_u_242, F_u_242, (by omega), (by omega)⟩
                  · refine okM_seq (fun y_250 h_249 => ?_)
                    have h_249' : y_250.toInt = x3.toInt - 1 := by rw [h_249]; exact dec_i (by omega)
                    refine okM_mono (ih I (by have B_251 := IG_b I; omega) (by have B_252 := IG_b I; omega) (by have B_253 := IG_b I; omega) (by have B_254 := IG_b I; omega) (by have B_255 := IG_b I; omega)) (fun r_257 u_258 z_256 => ?_)
                    obtain ⟨I_u_258, G_u_258, p_259, p_260⟩ := z_256
                    have F_u_258 : Fr [] [34] u u_258 := Fr_tr (Fr_rfl u) G_u_258 rfl rfl
                    have g_261 : (u_258.1 4).toInt = (u.1 4).toInt := by rw [G_u_258.1 4 rfl]
                    have g_262 : (ga u_258 10 x3).toInt = (ga u 10 x3).toInt := by show (u_258.2.1 10 _).toInt = _; rw [G_u_258.2.1 10 rfl]; rfl
                    have g_263 : (ga u_258 11 x3).toInt = (ga u 11 x3).toInt := by show (u_258.2.1 11 _).toInt = _; rw [G_u_258.2.1 11 rfl]; rfl
                    have g_264 : (ga u_258 12 x3).toInt = (ga u 12 x3).toInt := by show (u_258.2.1 12 _).toInt = _; rw [G_u_258.2.1 12 rfl]; rfl
                    exact ⟨I_u_258, F_u_258, (by omega), (by omega)⟩
            · refine okM_seq (fun y_266 h_265 => ?_)
              have h_265' : y_266.toInt = x3.toInt - 1 := by rw [h_265]; exact dec_i (by omega)
              refine okM_mono (ih I (by have B_267 := IG_b I; omega) (by have B_268 := IG_b I; omega) (by have B_269 := IG_b I; omega) (by have B_270 := IG_b I; omega) (by have B_271 := IG_b I; omega)) (fun r_273 u_274 z_272 => ?_)
              obtain ⟨I_u_274, G_u_274, p_275, p_276⟩ := z_272
              have F_u_274 : Fr [] [34] u u_274 := Fr_tr (Fr_rfl u) G_u_274 rfl rfl
              have g_277 : (u_274.1 4).toInt = (u.1 4).toInt := by rw [G_u_274.1 4 rfl]
              have g_278 : (ga u_274 10 x3).toInt = (ga u 10 x3).toInt := by show (u_274.2.1 10 _).toInt = _; rw [G_u_274.2.1 10 rfl]; rfl
              have g_279 : (ga u_274 11 x3).toInt = (ga u 11 x3).toInt := by show (u_274.2.1 11 _).toInt = _; rw [G_u_274.2.1 11 rfl]; rfl
              have g_280 : (ga u_274 12 x3).toInt = (ga u 12 x3).toInt := by show (u_274.2.1 12 _).toInt = _; rw [G_u_274.2.1 12 rfl]; rfl
              exact ⟨I_u_274, F_u_274, (by omega), (by omega)⟩
          · rw [mM_SqlReaderModel_hasAggregate_J70]
            refine okM_neg (by decide) ?_
            refine okM_gd (inb_of (by have B_281 := IG_b I; omega) (by have B_282 := IG_b I; omega)) ?_
            refine okM_gd (inb_of (by have B_283 := IG_b I; omega) (by have B_284 := IG_b I; omega)) ?_
            refine okM_seq (fun u_286 h_285 => ?_)
            have I_u_286 : IG u_286 := by rw [h_285]; exact I
            have F_u_286 : Fr [] [34] u u_286 := by rw [h_285]; exact Fr_sa (Fr_rfl u) rfl rfl rfl
            have g_287 : (ga u_286 10 x3).toInt = (ga u 10 x3).toInt := by rw [h_285]; rfl
            have g_288 : (ga u_286 11 x3).toInt = (ga u 11 x3).toInt := by rw [h_285]; rfl
            have g_289 : (ga u_286 12 x3).toInt = (ga u 12 x3).toInt := by rw [h_285]; rfl
            have g_290 : (u_286.1 4).toInt = (u.1 4).toInt := by rw [h_285]; rfl
            refine okM_gd (inb_of (by have B_291 := IG_b I_u_286; omega) (by have B_292 := IG_b I_u_286; omega)) ?_
            refine okM_le (fun c_293 => ?_) (fun c_293 => ?_)
            · refine okM_gd (inb_of (by have B_294 := IG_b I_u_286; omega) (by have B_295 := IG_b I_u_286; omega)) ?_
              refine okM_gd (inb_of (by have B_296 := IG_b I_u_286; omega) (by have B_297 := IG_b I_u_286; omega)) ?_
              refine okM_seq (fun u_299 h_298 => ?_)
              have I_u_299 : IG u_299 := by rw [h_298]; exact I_u_286
              have F_u_299 : Fr [] [34] u u_299 := by rw [h_298]; exact Fr_sa F_u_286 rfl rfl rfl
              have g_300 : (ga u_299 10 x3).toInt = (ga u_286 10 x3).toInt := by rw [h_298]; rfl
              have g_301 : (ga u_299 11 x3).toInt = (ga u_286 11 x3).toInt := by rw [h_298]; rfl
              have g_302 : (ga u_299 12 x3).toInt = (ga u_286 12 x3).toInt := by rw [h_298]; rfl
              have g_303 : (u_299.1 4).toInt = (u_286.1 4).toInt := by rw [h_298]; rfl
              rw [mM_SqlReaderModel_hasAggregate_J116]
              refine okM_eq (fun c_304 c_304' => ?_) (fun c_304 => ?_)
              · refine okM_gd (inb_of (by have B_305 := IG_b I_u_299; omega) (by have B_306 := IG_b I_u_299; omega)) ?_
                refine okM_eq (fun c_307 c_307' => ?_) (fun c_307 => ?_)
                · refine okM_seq (fun y_309 h_308 => ?_)
                  have h_308' : y_309.toInt = x3.toInt - 1 := by rw [h_308]; exact dec_i (by omega)
                  refine okM_mono (ih I_u_299 (by have B_310 := IG_b I_u_299; omega) (by have B_311 := IG_b I_u_299; omega) (by have B_312 := IG_b I_u_299; omega) (by have B_313 := IG_b I_u_299; omega) (by have B_314 := IG_b I_u_299; omega)) (fun r_316 u_317 z_315 => ?_)
                  obtain ⟨I_u_317, G_u_317, p_318, p_319⟩ := z_315
                  have F_u_317 : Fr [] [34] u u_317 := Fr_tr F_u_299 G_u_317 rfl rfl
                  have g_320 : (u_317.1 4).toInt = (u_299.1 4).toInt := by rw [G_u_317.1 4 rfl]
                  have g_321 : (ga u_317 10 x3).toInt = (ga u_299 10 x3).toInt := by show (u_317.2.1 10 _).toInt = _; rw [G_u_317.2.1 10 rfl]; rfl
                  have g_322 : (ga u_317 11 x3).toInt = (ga u_299 11 x3).toInt := by show (u_317.2.1 11 _).toInt = _; rw [G_u_317.2.1 11 rfl]; rfl
                  have g_323 : (ga u_317 12 x3).toInt = (ga u_299 12 x3).toInt := by show (u_317.2.1 12 _).toInt = _; rw [G_u_317.2.1 12 rfl]; rfl
                  exact ⟨I_u_317, F_u_317, (by omega), (by omega)⟩
                · refine okM_gd (inb_of (by have B_324 := IG_b I_u_299; omega) (by have B_325 := IG_b I_u_299; omega)) ?_
                  refine okM_le (fun c_326 => ?_) (fun c_326 => ?_)
                  · refine okM_seq (fun y_328 h_327 => ?_)
                    have h_327' : y_328.toInt = x3.toInt - 1 := by rw [h_327]; exact dec_i (by omega)
                    refine okM_mono (ih I_u_299 (by have B_329 := IG_b I_u_299; omega) (by have B_330 := IG_b I_u_299; omega) (by have B_331 := IG_b I_u_299; omega) (by have B_332 := IG_b I_u_299; omega) (by have B_333 := IG_b I_u_299; omega)) (fun r_335 u_336 z_334 => ?_)
                    obtain ⟨I_u_336, G_u_336, p_337, p_338⟩ := z_334
                    have F_u_336 : Fr [] [34] u u_336 := Fr_tr F_u_299 G_u_336 rfl rfl
                    have g_339 : (u_336.1 4).toInt = (u_299.1 4).toInt := by rw [G_u_336.1 4 rfl]
                    have g_340 : (ga u_336 10 x3).toInt = (ga u_299 10 x3).toInt := by show (u_336.2.1 10 _).toInt = _; rw [G_u_336.2.1 10 rfl]; rfl
                    have g_341 : (ga u_336 11 x3).toInt = (ga u_299 11 x3).toInt := by show (u_336.2.1 11 _).toInt = _; rw [G_u_336.2.1 11 rfl]; rfl
                    have g_342 : (ga u_336 12 x3).toInt = (ga u_299 12 x3).toInt := by show (u_336.2.1 12 _).toInt = _; rw [G_u_336.2.1 12 rfl]; rfl
                    exact ⟨I_u_336, F_u_336, (by omega), (by omega)⟩
                  · refine okM_gd (inb_of (by have B_343 := IG_b I_u_299; omega) (by have B_344 := IG_b I_u_299; omega)) ?_
                    refine okM_le (fun c_345 => ?_) (fun c_345 => ?_)
                    · refine okM_seq (fun y_347 h_346 => ?_)
                      have h_346' : y_347.toInt = x3.toInt - 1 := by rw [h_346]; exact dec_i (by omega)
                      refine okM_mono (ih I_u_299 (by have B_348 := IG_b I_u_299; omega) (by have B_349 := IG_b I_u_299; omega) (by have B_350 := IG_b I_u_299; omega) (by have B_351 := IG_b I_u_299; omega) (by have B_352 := IG_b I_u_299; omega)) (fun r_354 u_355 z_353 => ?_)
                      obtain ⟨I_u_355, G_u_355, p_356, p_357⟩ := z_353
                      have F_u_355 : Fr [] [34] u u_355 := Fr_tr F_u_299 G_u_355 rfl rfl
                      have g_358 : (u_355.1 4).toInt = (u_299.1 4).toInt := by rw [G_u_355.1 4 rfl]
                      have g_359 : (ga u_355 10 x3).toInt = (ga u_299 10 x3).toInt := by show (u_355.2.1 10 _).toInt = _; rw [G_u_355.2.1 10 rfl]; rfl
                      have g_360 : (ga u_355 11 x3).toInt = (ga u_299 11 x3).toInt := by show (u_355.2.1 11 _).toInt = _; rw [G_u_355.2.1 11 rfl]; rfl
                      have g_361 : (ga u_355 12 x3).toInt = (ga u_299 12 x3).toInt := by show (u_355.2.1 12 _).toInt = _; rw [G_u_355.2.1 12 rfl]; rfl
                      exact ⟨I_u_355, F_u_355, (by omega), (by omega)⟩
                    · refine okM_seq (fun y_363 h_362 => ?_)
                      have h_362' : y_363.toInt = x3.toInt - 1 := by rw [h_362]; exact dec_i (by omega)
                      refine okM_mono (ih I_u_299 (by have B_364 := IG_b I_u_299; omega) (by have B_365 := IG_b I_u_299; omega) (by have B_366 := IG_b I_u_299; omega) (by have B_367 := IG_b I_u_299; omega) (by have B_368 := IG_b I_u_299; omega)) (fun r_370 u_371 z_369 => ?_)
                      obtain ⟨I_u_371, G_u_371, p_372, p_373⟩ := z_369
                      have F_u_371 : Fr [] [34] u u_371 := Fr_tr F_u_299 G_u_371 rfl rfl
                      have g_374 : (u_371.1 4).toInt = (u_299.1 4).toInt := by rw [G_u_371.1 4 rfl]
                      have g_375 : (ga u_371 10 x3).toInt = (ga u_299 10 x3).toInt := by show (u_371.2.1 10 _).toInt = _; rw [G_u_371.2.1 10 rfl]; rfl
                      have g_376 : (ga u_371 11 x3).toInt = (ga u_299 11 x3).toInt := by show (u_371.2.1 11 _).toInt = _; rw [G_u_371.2.1 11 rfl]; rfl
                      have g_377 : (ga u_371 12 x3).toInt = (ga u_299 12 x3).toInt := by show (u_371.2.1 12 _).toInt = _; rw [G_u_371.2.1 12 rfl]; rfl
                      exact ⟨I_u_371, F_u_371, (by omega), (by omega)⟩
              · refine okM_seq (fun y_379 h_378 => ?_)
                have h_378' : y_379.toInt = x3.toInt - 1 := by rw [h_378]; exact dec_i (by omega)
                refine okM_mono (ih I_u_299 (by have B_380 := IG_b I_u_299; omega) (by have B_381 := IG_b I_u_299; omega) (by have B_382 := IG_b I_u_299; omega) (by have B_383 := IG_b I_u_299; omega) (by have B_384 := IG_b I_u_299; omega)) (fun r_386 u_387 z_385 => ?_)
                obtain ⟨I_u_387, G_u_387, p_388, p_389⟩ := z_385
                have F_u_387 : Fr [] [34] u u_387 := Fr_tr F_u_299 G_u_387 rfl rfl
                have g_390 : (u_387.1 4).toInt = (u_299.1 4).toInt := by rw [G_u_387.1 4 rfl]
                have g_391 : (ga u_387 10 x3).toInt = (ga u_299 10 x3).toInt := by show (u_387.2.1 10 _).toInt = _; rw [G_u_387.2.1 10 rfl]; rfl
                have g_392 : (ga u_387 11 x3).toInt = (ga u_299 11 x3).toInt := by show (u_387.2.1 11 _).toInt = _; rw [G_u_387.2.1 11 rfl]; rfl
                have g_393 : (ga u_387 12 x3).toInt = (ga u_299 12 x3).toInt := by show (u_387.2.1 12 _).toInt = _; rw [G_u_387.2.1 12 rfl]; rfl
                exact ⟨I_u_387, F_u_387, (by omega), (by omega)⟩
            · refine okM_gd (inb_of (by have B_394 := IG_b I_u_286; omega) (by have B_395 := IG_b I_u_286; omega)) ?_
              refine okM_seq (fun u_397 h_396 => ?_)
              have I_u_397 : IG u_397 := by rw [h_396]; exact I_u_286
              have F_u_397 : Fr [] [34] u u_397 := by rw [h_396]; exact Fr_sa F_u_286 rfl rfl rfl
              have g_398 : (ga u_397 10 x3).toInt = (ga u_286 10 x3).toInt := by rw [h_396]; rfl
              have g_399 : (ga u_397 11 x3).toInt = (ga u_286 11 x3).toInt := by rw [h_396]; rfl
              have g_400 : (ga u_397 12 x3).toInt = (ga u_286 12 x3).toInt := by rw [h_396]; rfl
              have g_401 : (u_397.1 4).toInt = (u_286.1 4).toInt := by rw [h_396]; rfl
              rw [mM_SqlReaderModel_hasAggregate_J116]
              refine okM_eq (fun c_402 c_402' => ?_) (fun c_402 => ?_)
              · refine okM_gd (inb_of (by have B_403 := IG_b I_u_397; omega) (by have B_404 := IG_b I_u_397; omega)) ?_
                refine okM_eq (fun c_405 c_405' => ?_) (fun c_405 => ?_)
                · refine okM_seq (fun y_407 h_406 => ?_)
                  have h_406' : y_407.toInt = x3.toInt - 1 := by rw [h_406]; exact dec_i (by omega)
                  refine okM_mono (ih I_u_397 (by have B_408 := IG_b I_u_397; omega) (by have B_409 := IG_b I_u_397; omega) (by have B_410 := IG_b I_u_397; omega) (by have B_411 := IG_b I_u_397; omega) (by have B_412 := IG_b I_u_397; omega)) (fun r_414 u_415 z_413 => ?_)
                  obtain ⟨I_u_415, G_u_415, p_416, p_417⟩ := z_413
                  have F_u_415 : Fr [] [34] u u_415 := Fr_tr F_u_397 G_u_415 rfl rfl
                  have g_418 : (u_415.1 4).toInt = (u_397.1 4).toInt := by rw [G_u_415.1 4 rfl]
                  have g_419 : (ga u_415 10 x3).toInt = (ga u_397 10 x3).toInt := by show (u_415.2.1 10 _).toInt = _; rw [G_u_415.2.1 10 rfl]; rfl
                  have g_420 : (ga u_415 11 x3).toInt = (ga u_397 11 x3).toInt := by show (u_415.2.1 11 _).toInt = _; rw [G_u_415.2.1 11 rfl]; rfl
                  have g_421 : (ga u_415 12 x3).toInt = (ga u_397 12 x3).toInt := by show (u_415.2.1 12 _).toInt = _; rw [G_u_415.2.1 12 rfl]; rfl
                  exact ⟨I_u_415, F_u_415, (by omega), (by omega)⟩
                · refine okM_gd (inb_of (by have B_422 := IG_b I_u_397; omega) (by have B_423 := IG_b I_u_397; omega)) ?_
                  refine okM_le (fun c_424 => ?_) (fun c_424 => ?_)
                  · refine okM_seq (fun y_426 h_425 => ?_)
                    have h_425' : y_426.toInt = x3.toInt - 1 := by rw [h_425]; exact dec_i (by omega)
                    refine okM_mono (ih I_u_397 (by have B_427 := IG_b I_u_397; omega) (by have B_428 := IG_b I_u_397; omega) (by have B_429 := IG_b I_u_397; omega) (by have B_430 := IG_b I_u_397; omega) (by have B_431 := IG_b I_u_397; omega)) (fun r_433 u_434 z_432 => ?_)
                    obtain ⟨I_u_434, G_u_434, p_435, p_436⟩ := z_432
                    have F_u_434 : Fr [] [34] u u_434 := Fr_tr F_u_397 G_u_434 rfl rfl
                    have g_437 : (u_434.1 4).toInt = (u_397.1 4).toInt := by rw [G_u_434.1 4 rfl]
                    have g_438 : (ga u_434 10 x3).toInt = (ga u_397 10 x3).toInt := by show (u_434.2.1 10 _).toInt = _; rw [G_u_434.2.1 10 rfl]; rfl
                    have g_439 : (ga u_434 11 x3).toInt = (ga u_397 11 x3).toInt := by show (u_434.2.1 11 _).toInt = _; rw [G_u_434.2.1 11 rfl]; rfl
                    have g_440 : (ga u_434 12 x3).toInt = (ga u_397 12 x3).toInt := by show (u_434.2.1 12 _).toInt = _; rw [G_u_434.2.1 12 rfl]; rfl
                    exact ⟨I_u_434, F_u_434, (by omega), (by omega)⟩
                  · refine okM_gd (inb_of (by have B_441 := IG_b I_u_397; omega) (by have B_442 := IG_b I_u_397; omega)) ?_
                    refine okM_le (fun c_443 => ?_) (fun c_443 => ?_)
                    · refine okM_seq (fun y_445 h_444 => ?_)
                      have h_444' : y_445.toInt = x3.toInt - 1 := by rw [h_444]; exact dec_i (by omega)
                      refine okM_mono (ih I_u_397 (by have B_446 := IG_b I_u_397; omega) (by have B_447 := IG_b I_u_397; omega) (by have B_448 := IG_b I_u_397; omega) (by have B_449 := IG_b I_u_397; omega) (by have B_450 := IG_b I_u_397; omega)) (fun r_452 u_453 z_451 => ?_)
                      obtain ⟨I_u_453, G_u_453, p_454, p_455⟩ := z_451
                      have F_u_453 : Fr [] [34] u u_453 := Fr_tr F_u_397 G_u_453 rfl rfl
                      have g_456 : (u_453.1 4).toInt = (u_397.1 4).toInt := by rw [G_u_453.1 4 rfl]
                      have g_457 : (ga u_453 10 x3).toInt = (ga u_397 10 x3).toInt := by show (u_453.2.1 10 _).toInt = _; rw [G_u_453.2.1 10 rfl]; rfl
                      have g_458 : (ga u_453 11 x3).toInt = (ga u_397 11 x3).toInt := by show (u_453.2.1 11 _).toInt = _; rw [G_u_453.2.1 11 rfl]; rfl
                      have g_459 : (ga u_453 12 x3).toInt = (ga u_397 12 x3).toInt := by show (u_453.2.1 12 _).toInt = _; rw [G_u_453.2.1 12 rfl]; rfl
                      exact ⟨I_u_453, F_u_453, (by omega), (by omega)⟩
                    · refine okM_seq (fun y_461 h_460 => ?_)
                      have h_460' : y_461.toInt = x3.toInt - 1 := by rw [h_460]; exact dec_i (by omega)
                      refine okM_mono (ih I_u_397 (by have B_462 := IG_b I_u_397; omega) (by have B_463 := IG_b I_u_397; omega) (by have B_464 := IG_b I_u_397; omega) (by have B_465 := IG_b I_u_397; omega) (by have B_466 := IG_b I_u_397; omega)) (fun r_468 u_469 z_467 => ?_)
                      obtain ⟨I_u_469, G_u_469, p_470, p_471⟩ := z_467
                      have F_u_469 : Fr [] [34] u u_469 := Fr_tr F_u_397 G_u_469 rfl rfl
                      have g_472 : (u_469.1 4).toInt = (u_397.1 4).toInt := by rw [G_u_469.1 4 rfl]
                      have g_473 : (ga u_469 10 x3).toInt = (ga u_397 10 x3).toInt := by show (u_469.2.1 10 _).toInt = _; rw [G_u_469.2.1 10 rfl]; rfl
                      have g_474 : (ga u_469 11 x3).toInt = (ga u_397 11 x3).toInt := by show (u_469.2.1 11 _).toInt = _; rw [G_u_469.2.1 11 rfl]; rfl
                      have g_475 : (ga u_469 12 x3).toInt = (ga u_397 12 x3).toInt := by show (u_469.2.1 12 _).toInt = _; rw [G_u_469.2.1 12 rfl]; rfl
                      exact ⟨I_u_469, F_u_469, (by omega), (by omega)⟩
              · refine okM_seq (fun y_477 h_476 => ?_)
                have h_476' : y_477.toInt = x3.toInt - 1 := by rw [h_476]; exact dec_i (by omega)
                refine okM_mono (ih I_u_397 (by have B_478 := IG_b I_u_397; omega) (by have B_479 := IG_b I_u_397; omega) (by have B_480 := IG_b I_u_397; omega) (by have B_481 := IG_b I_u_397; omega) (by have B_482 := IG_b I_u_397; omega)) (fun r_484 u_485 z_483 => ?_)
                obtain ⟨I_u_485, G_u_485, p_486, p_487⟩ := z_483
                have F_u_485 : Fr [] [34] u u_485 := Fr_tr F_u_397 G_u_485 rfl rfl
                have g_488 : (u_485.1 4).toInt = (u_397.1 4).toInt := by rw [G_u_485.1 4 rfl]
                have g_489 : (ga u_485 10 x3).toInt = (ga u_397 10 x3).toInt := by show (u_485.2.1 10 _).toInt = _; rw [G_u_485.2.1 10 rfl]; rfl
                have g_490 : (ga u_485 11 x3).toInt = (ga u_397 11 x3).toInt := by show (u_485.2.1 11 _).toInt = _; rw [G_u_485.2.1 11 rfl]; rfl
                have g_491 : (ga u_485 12 x3).toInt = (ga u_397 12 x3).toInt := by show (u_485.2.1 12 _).toInt = _; rw [G_u_485.2.1 12 rfl]; rfl
                exact ⟨I_u_485, F_u_485, (by omega), (by omega)⟩
theorem kG_SqlReaderModel_hasAggregate_L4 : ∀ (n : Nat) {x1 : Int32} {x2 : Int32} {x3 : Int32} {u : St} (I : IG u) (h0 : 0 ≤ x1.toInt) (h1 : x1.toInt < (u.1 4).toInt) (h2 : 0 ≤ x2.toInt) (h3 : x2.toInt ≤ 1) (h4 : 0 ≤ x3.toInt) (h5 : x3.toInt ≤ x1.toInt) (hm : (x1.toInt - x3.toInt).toNat < n), okM (mM_SqlReaderModel_hasAggregate_L4 n x1 x2 x3 u) (fun r v => IG v ∧ Fr [] [34] u v ∧ 0 ≤ r.toInt ∧ r.toInt ≤ 1) := by
  intro n
  induction n with
  | zero => intro x1 x2 x3 u I h0 h1 h2 h3 h4 h5 hm; exact absurd hm (Nat.not_lt_zero _)
  | succ n ih =>
    intro x1 x2 x3 u I h0 h1 h2 h3 h4 h5 hm
    have l0 : (0 : Int32).toInt = 0 := by decide
    have l1 : (1 : Int32).toInt = 1 := by decide
    have l4 : (4 : Int32).toInt = 4 := by decide
    rw [mM_SqlReaderModel_hasAggregate_L4]
    refine okM_le (fun c_1 => ?_) (fun c_1 => ?_)
    · refine okM_gd (inb_of (by have B_2 := IG_b I; omega) (by have B_3 := IG_b I; omega)) ?_
      refine okM_seq (fun u_5 h_4 => ?_)
      have I_u_5 : IG u_5 := by rw [h_4]; exact I
      have F_u_5 : Fr [] [34] u u_5 := by rw [h_4]; exact Fr_sa (Fr_rfl u) rfl rfl rfl
      have g_6 : (u_5.1 4).toInt = (u.1 4).toInt := by rw [h_4]; rfl
      refine okM_mono (kG_SqlReaderModel_hasAggregate_L31 _ I_u_5 (by have FUe : FU = 100000 := rfl; have B_7 := IG_b I_u_5; have B_8 := IG_b I; omega) (by have FUe : FU = 100000 := rfl; have B_9 := IG_b I_u_5; have B_10 := IG_b I; omega) (by have FUe : FU = 100000 := rfl; have B_11 := IG_b I_u_5; have B_12 := IG_b I; omega) (by have FUe : FU = 100000 := rfl; have B_13 := IG_b I_u_5; have B_14 := IG_b I; omega) (by have FUe : FU = 100000 := rfl; have B_15 := IG_b I_u_5; have B_16 := IG_b I; omega)) (fun r_18 u_19 z_17 => ?_)
      obtain ⟨I_u_19, G_u_19, p_20, p_21⟩ := z_17
      have F_u_19 : Fr [] [34] u u_19 := Fr_tr F_u_5 G_u_19 rfl rfl
      have g_22 : (u_19.1 4).toInt = (u_5.1 4).toInt := by rw [G_u_19.1 4 rfl]
      exact ⟨I_u_19, F_u_19, (by omega), (by omega)⟩
    · refine okM_gd (inb_of (by have B_23 := IG_b I; omega) (by have B_24 := IG_b I; omega)) ?_
      refine okM_seq (fun u_26 h_25 => ?_)
      have I_u_26 : IG u_26 := by rw [h_25]; exact I
      have F_u_26 : Fr [] [34] u u_26 := by rw [h_25]; exact Fr_sa (Fr_rfl u) rfl rfl rfl
      have g_27 : (u_26.1 4).toInt = (u.1 4).toInt := by rw [h_25]; rfl
      try have e_30 : (x3 + 1 : Int32).toInt = (x3 : Int32).toInt + (1 : Int32).toInt := by have B_31 := IG_b I; exact add_i (by omega) (by omega)
      refine okM_seq (fun y_29 h_28 => ?_)
      have h_28' : y_29.toInt = (x3 + 1 : Int32).toInt := by rw [h_28]
      refine okM_mono (ih I_u_26 (by have B_32 := IG_b I_u_26; omega) (by have B_33 := IG_b I_u_26; omega) (by have B_34 := IG_b I_u_26; omega) (by have B_35 := IG_b I_u_26; omega) (by have B_36 := IG_b I_u_26; omega) (by have B_37 := IG_b I_u_26; omega) (by have B_38 := IG_b I_u_26; omega)) (fun r_40 u_41 z_39 => ?_)
      obtain ⟨I_u_41, G_u_41, p_42, p_43⟩ := z_39
      have F_u_41 : Fr [] [34] u u_41 := Fr_tr F_u_26 G_u_41 rfl rfl
      have g_44 : (u_41.1 4).toInt = (u_26.1 4).toInt := by rw [G_u_41.1 4 rfl]
      exact ⟨I_u_41, F_u_41, (by omega), (by omega)⟩
