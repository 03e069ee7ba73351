theorem lnK_le {k : Nat} (h : k < nS) : lnK k ≤ 50 := by
  have t : ∀ j : Fin nS, lnK j.val ≤ 50 := by decide +kernel
  exact t ⟨k, h⟩
theorem i2c_i2c (x : Int32) : i2c (i2c x) = i2c x := by
  have e : i2c x = nI (x.toBitVec.toNat % 65536) := pk_char x
  have e2 : i2c (nI (x.toBitVec.toNat % 65536)) = nI ((nI (x.toBitVec.toNat % 65536)).toBitVec.toNat % 65536) := pk_char _
  rw [e, e2, pk_tn (by omega), Nat.mod_mod]
theorem kC_Text_append_L30 : ∀ (n : Nat) {x1 : Int64} {x4 : Int32} {u : St} (I : IC u) (h0 : -1 ≤ x4.toInt) (h1 : x4.toInt ≤ 7) (h2 : (u.1 0).toInt + x4.toInt + 1 ≤ 2000) (hm : (x4.toInt + 1).toNat < n), okM (mC_Text_append_L30 n x1 x4 u) (fun r v => IC v ∧ r.toInt = 1 ∧ (v.1 0).toInt = (u.1 0).toInt + x4.toInt + 1) := by
  intro n
  induction n with
  | zero => intro x1 x4 u I h0 h1 h2 hm; exact absurd hm (Nat.not_lt_zero _)
  | succ n ih =>
    intro x1 x4 u I h0 h1 h2 hm
    have lm1 : (-1 : Int32).toInt = -1 := by decide
    have l0 : (0 : Int32).toInt = 0 := by decide
    have l1 : (1 : Int32).toInt = 1 := by decide
    have l7 : (7 : Int32).toInt = 7 := by decide
    have l8 : (8 : Int32).toInt = 8 := by decide
    have l2000 : (2000 : Int32).toInt = 2000 := by decide
    rw [mC_Text_append_L30]
    refine okM_lt (fun c_1 => ?_) (fun c_1 => ?_)
    · exact okM_some ⟨I, (by omega), (by have B_2 := IC_b I; omega)⟩
    · refine okM_gd (inb_of (by have B_3 := IC_b I; omega) (by have B_4 := IC_b I; omega)) ?_
      refine okM_seq (fun u_6 h_5 => ?_)
      have I_u_6 : IC u_6 := by rw [h_5]; exact IC_a0 I (pk_fb _)
      have g_7 : (u_6.1 0).toInt = (u.1 0).toInt := by rw [h_5]; rfl
      refine okM_seq (fun u_9 h_8 => ?_)
      try have e_10 : ((u_6.1 0) + 1 : Int32).toInt = ((u_6.1 0) : Int32).toInt + (1 : Int32).toInt := by have B_11 := IC_b I_u_6; exact add_i (by omega) (by omega)
      have I_u_9 : IC u_9 := by rw [h_8]; exact IC_s0 I_u_6 (by have B_12 := IC_b I_u_6; omega) (by have B_13 := IC_b I_u_6; omega)
      try have e_14 : ((u_6.1 0) + 1 : Int32).toInt = ((u_6.1 0) : Int32).toInt + (1 : Int32).toInt := by have B_15 := IC_b I_u_6; exact add_i (by omega) (by omega)
      have g_16 : (u_9.1 0).toInt = (((u_6.1 0) + 1) : Int32).toInt := by rw [h_8]; rfl
      try have e_19 : (x4 + (-1) : Int32).toInt = (x4 : Int32).toInt + ((-1) : Int32).toInt := by exact add_i (by omega) (by omega)
      refine okM_seq (fun y_18 h_17 => ?_)
      have h_17' : y_18.toInt = (x4 + (-1) : Int32).toInt := by rw [h_17]
      refine okM_mono (ih I_u_9 (by have B_20 := IC_b I_u_9; omega) (by have B_21 := IC_b I_u_9; omega) (by have B_22 := IC_b I_u_9; omega) (by have B_23 := IC_b I_u_9; omega)) (fun r_25 u_26 z_24 => ?_)
      obtain ⟨I_u_26, p_27, p_28⟩ := z_24
      exact ⟨I_u_26, (by omega), (by have B_29 := IC_b I_u_26; have B_30 := IC_b I; omega)⟩
theorem kC_Text_append {x1 : Int64} {x3 : Int32} {u : St} (I : IC u) : okM (mC_Text_append x1 x3 u) (fun r v => IC v ∧ (r.toInt = 1 ∧ 1 ≤ x3.toInt ∧ x3.toInt ≤ 8 ∧ (u.1 0).toInt + x3.toInt ≤ 2000 ∧ (v.1 0).toInt = (u.1 0).toInt + x3.toInt) ∨ (r.toInt = 0 ∧ (x3.toInt < 1 ∨ 8 < x3.toInt ∨ 2000 < (u.1 0).toInt + x3.toInt) ∧ (v.1 0).toInt = (u.1 0).toInt)) := by
  have l0 : (0 : Int32).toInt = 0 := by decide
  have l1 : (1 : Int32).toInt = 1 := by decide
  have l7 : (7 : Int32).toInt = 7 := by decide
  have l8 : (8 : Int32).toInt = 8 := by decide
  have l2000 : (2000 : Int32).toInt = 2000 := by decide
  rw [mC_Text_append]
  refine okM_lt (fun c_1 => ?_) (fun c_1 => ?_)
  · exact okM_some ⟨I, (by have B_2 := IC_b I; omega)⟩
  · refine okM_lt (fun c_3 => ?_) (fun c_3 => ?_)
    · exact okM_some ⟨I, (by have B_4 := IC_b I; omega)⟩
    · try have e_5 : (2000 - x3 : Int32).toInt = (2000 : Int32).toInt - (x3 : Int32).toInt := by exact sub_i (by omega) (by omega)
      refine okM_le (fun c_6 => ?_) (fun c_6 => ?_)
      · try have e_9 : (x3 - 1 : Int32).toInt = (x3 : Int32).toInt - (1 : Int32).toInt := by exact sub_i (by omega) (by omega)
        refine okM_seq (fun y_8 h_7 => ?_)
        have h_7' : y_8.toInt = ((x3 - 1) : Int32).toInt := by rw [h_7]
        refine okM_mono (kC_Text_append_L30 _ I (by have FUe : FU = 100000 := rfl; have B_10 := IC_b I; omega) (by have FUe : FU = 100000 := rfl; have B_11 := IC_b I; omega) (by have FUe : FU = 100000 := rfl; have B_12 := IC_b I; omega) (by have FUe : FU = 100000 := rfl; have B_13 := IC_b I; omega)) (fun r_15 u_16 z_14 => ?_)
        obtain ⟨I_u_16, p_17, p_18⟩ := z_14
        exact ⟨I_u_16, (by have B_19 := IC_b I; have B_20 := IC_b I_u_16; omega)⟩
      · exact okM_some ⟨I, (by have B_21 := IC_b I; omega)⟩
theorem kC_SqlReader_type {x1 : Int64} {x3 : Int32} {u : St} (I : IC u) : okM (mC_SqlReader_type x1 x3 u) (fun r v => IC v ∧ (r.toInt = 1 ∧ 1 ≤ x3.toInt ∧ x3.toInt ≤ 8 ∧ (u.1 0).toInt + x3.toInt ≤ 2000 ∧ (v.1 0).toInt = (u.1 0).toInt + x3.toInt) ∨ (r.toInt = 0 ∧ (x3.toInt < 1 ∨ 8 < x3.toInt ∨ 2000 < (u.1 0).toInt + x3.toInt) ∧ (v.1 0).toInt = (u.1 0).toInt)) := by
  have l0 : (0 : Int32).toInt = 0 := by decide
  have l1 : (1 : Int32).toInt = 1 := by decide
  have l8 : (8 : Int32).toInt = 8 := by decide
  have l2000 : (2000 : Int32).toInt = 2000 := by decide
  rw [mC_SqlReader_type]
  refine okM_bM (kC_Text_append I) (fun r_2 u_3 z_1 => ?_)
  obtain ⟨I_u_3, p_4⟩ := z_1
  refine okM_gd (zb_of (by omega) (by omega)) ?_
  exact okM_some ⟨I_u_3, (by have B_5 := IC_b I; have B_6 := IC_b I_u_3; omega)⟩
theorem kC_Text_at_1 {x1 : Int32} {u : St} (I : IC u) : ok (mC_Text_at_1 x1 u) (fun r => -1 ≤ r.toInt ∧ r.toInt ≤ 255 ∧ r.toInt = -1 ∨ (0 ≤ x1.toInt ∧ x1.toInt < (u.1 0).toInt)) := by
  have B := IC_b I
  have m1 : ((-1 : Int32)).toInt = -1 := by decide
  have z0 : ((0 : Int32)).toInt = 0 := by decide
  rw [mC_Text_at_1]
  refine ok_lt (fun h => ok_some ⟨by omega, by omega, by omega⟩) (fun h => ?_)
  refine ok_lt (fun h => ?_) (fun h => ok_some ⟨by omega, by omega, by omega⟩)
  refine ok_gd (inb_of (by omega) (by omega)) (ok_some ?_)
  obtain ⟨j, hj, e⟩ := pk_andE (ga u 0 x1) (m := 255) 8 (by decide)
  rw [e, nI_toInt (by omega)]
  exact ⟨by omega, by omega, by omega⟩
theorem kC_Text_isSmall {x0 : Int32} {u : St} (I : IC u) : ok (mC_Text_isSmall x0 u) (fun r => 0 ≤ r.toInt ∧ r.toInt ≤ 1 ∧ r.toInt = 0 ∨ 1 ≤ x0.toInt) := by
  have l0 : (0 : Int32).toInt = 0 := by decide
  have l1 : (1 : Int32).toInt = 1 := by decide
  have l97 : (97 : Int32).toInt = 97 := by decide
  have l122 : (122 : Int32).toInt = 122 := by decide
  rw [mC_Text_isSmall]
  refine ok_lt (fun c_1 => ?_) (fun c_1 => ?_)
  · exact ok_some ⟨(by omega), (by omega), (by omega)⟩
  · refine ok_lt (fun c_2 => ?_) (fun c_2 => ?_)
    · exact ok_some ⟨(by omega), (by omega), (by omega)⟩
    · exact ok_some ⟨(by omega), (by omega), (by omega)⟩
theorem kC_Text_isDigit {x0 : Int32} {u : St} (I : IC u) : ok (mC_Text_isDigit x0 u) (fun r => 0 ≤ r.toInt ∧ r.toInt ≤ 1 ∧ r.toInt = 0 ∨ 1 ≤ x0.toInt) := by
  have l0 : (0 : Int32).toInt = 0 := by decide
  have l1 : (1 : Int32).toInt = 1 := by decide
  have l48 : (48 : Int32).toInt = 48 := by decide
  have l57 : (57 : Int32).toInt = 57 := by decide
  rw [mC_Text_isDigit]
  refine ok_lt (fun c_1 => ?_) (fun c_1 => ?_)
  · exact ok_some ⟨(by omega), (by omega), (by omega)⟩
  · refine ok_lt (fun c_2 => ?_) (fun c_2 => ?_)
    · exact ok_some ⟨(by omega), (by omega), (by omega)⟩
    · exact ok_some ⟨(by omega), (by omega), (by omega)⟩
theorem kC_Text_isOfName {x0 : Int32} {u : St} (I : IC u) : ok (mC_Text_isOfName x0 u) (fun r => 0 ≤ r.toInt ∧ r.toInt ≤ 1 ∧ r.toInt = 0 ∨ 1 ≤ x0.toInt) := by
  have l0 : (0 : Int32).toInt = 0 := by decide
  have l1 : (1 : Int32).toInt = 1 := by decide
  have l95 : (95 : Int32).toInt = 95 := by decide
  rw [mC_Text_isOfName]
  refine ok_bP (kC_Text_isSmall I) (fun r_2 z_1 => ?_)
  obtain ⟨p_3, p_4, p_5⟩ := z_1
  refine ok_eq (fun c_6 c_6' => ?_) (fun c_6 => ?_)
  · refine ok_bP (kC_Text_isDigit I) (fun r_8 z_7 => ?_)
    obtain ⟨p_9, p_10, p_11⟩ := z_7
    refine ok_eq (fun c_12 c_12' => ?_) (fun c_12 => ?_)
    · refine ok_eq (fun c_13 c_13' => ?_) (fun c_13 => ?_)
      · exact ok_some ⟨(by omega), (by omega), (by omega)⟩
      · exact ok_some ⟨(by omega), (by omega), (by omega)⟩
    · exact ok_some ⟨(by omega), (by omega), (by omega)⟩
  · exact ok_some ⟨(by omega), (by omega), (by omega)⟩
theorem kC_Text_isName_L24 : ∀ (n : Nat) {x1 : Int32} {u : St} (I : IC u) (h0 : 0 ≤ x1.toInt) (h1 : x1.toInt ≤ 2000) (hm : (2000 - x1.toInt).toNat < n), ok (mC_Text_isName_L24 n x1 u) (fun r => 0 ≤ r.toInt ∧ r.toInt ≤ 1) := by
  intro n
  induction n with
  | zero => intro x1 u I h0 h1 hm; exact absurd hm (Nat.not_lt_zero _)
  | succ n ih =>
    intro x1 u I h0 h1 hm
    have l0 : (0 : Int32).toInt = 0 := by decide
    have l1 : (1 : Int32).toInt = 1 := by decide
    have l2000 : (2000 : Int32).toInt = 2000 := by decide
    rw [mC_Text_isName_L24]
    refine ok_le (fun c_1 => ?_) (fun c_1 => ?_)
    · exact ok_some ⟨(by omega), (by omega)⟩
    · refine ok_bP (kC_Text_at_1 I) (fun r_3 z_2 => ?_)
      obtain ⟨p_4, p_5, p_6⟩ := z_2
      refine ok_bP (kC_Text_isOfName I) (fun r_8 z_7 => ?_)
      obtain ⟨p_9, p_10, p_11⟩ := z_7
      refine ok_eq (fun c_12 c_12' => ?_) (fun c_12 => ?_)
      · exact ok_some ⟨(by omega), (by omega)⟩
      · try have e_15 : (x1 + 1 : Int32).toInt = (x1 : Int32).toInt + (1 : Int32).toInt := by exact add_i (by omega) (by omega)
        refine ok_seq (fun y_14 h_13 => ?_)
        have h_13' : y_14.toInt = (x1 + 1 : Int32).toInt := by rw [h_13]
        refine ok_mono (ih I (by have B_16 := IC_b I; omega) (by have B_17 := IC_b I; omega) (by have B_18 := IC_b I; omega)) (fun r_20 z_19 => ?_)
        obtain ⟨p_21, p_22⟩ := z_19
        exact ⟨(by omega), (by omega)⟩
theorem kC_Text_isName {u : St} (I : IC u) : ok (mC_Text_isName u) (fun r => 0 ≤ r.toInt ∧ r.toInt ≤ 1) := by
  have l0 : (0 : Int32).toInt = 0 := by decide
  have l1 : (1 : Int32).toInt = 1 := by decide
  have l16 : (16 : Int32).toInt = 16 := by decide
  have l2000 : (2000 : Int32).toInt = 2000 := by decide
  rw [mC_Text_isName]
  refine ok_lt (fun c_1 => ?_) (fun c_1 => ?_)
  · exact ok_some ⟨(by omega), (by omega)⟩
  · refine ok_bP (kC_Text_at_1 I) (fun r_3 z_2 => ?_)
    obtain ⟨p_4, p_5, p_6⟩ := z_2
    refine ok_bP (kC_Text_isSmall I) (fun r_8 z_7 => ?_)
    obtain ⟨p_9, p_10, p_11⟩ := z_7
    refine ok_eq (fun c_12 c_12' => ?_) (fun c_12 => ?_)
    · exact ok_some ⟨(by omega), (by omega)⟩
    · refine ok_mono (kC_Text_isName_L24 _ I (by have FUe : FU = 100000 := rfl; have B_13 := IC_b I; omega) (by have FUe : FU = 100000 := rfl; have B_14 := IC_b I; omega) (by have FUe : FU = 100000 := rfl; have B_15 := IC_b I; omega)) (fun r_17 z_16 => ?_)
      obtain ⟨p_18, p_19⟩ := z_16
      exact ⟨(by omega), (by omega)⟩
theorem kC_Text_size_1 {u : St} (I : IC u) : ok (mC_Text_size_1 u) (fun r => r.toInt = (u.1 0).toInt) := by
  have l0 : (0 : Int32).toInt = 0 := by decide
  rw [mC_Text_size_1]
  exact ok_some (by have B_1 := IC_b I; omega)
theorem kC_Text_span {x0 : Int32} {x1 : Int32} {u : St} (I : IC u) : ok (mC_Text_span x0 x1 u) (fun r => r = ((x0 <<< (5 &&& 31)) ||| x1)) := by
  exact ok_some rfl
theorem kC_Text_sizeOf {x0 : Int32} {u : St} (I : IC u) : ok (mC_Text_sizeOf x0 u) (fun r => 0 ≤ r.toInt ∧ r.toInt ≤ 31 ∧ x0.toInt < 0 ∨ r.toInt = (x0 &&& 31).toInt) := by
  have z0 : ((0 : Int32)).toInt = 0 := by decide
  rw [mC_Text_sizeOf]
  refine ok_le (fun h => ok_some ?_) (fun h => ok_some ⟨by omega, by omega, by omega⟩)
  obtain ⟨j, hj, e⟩ := pk_andE x0 (m := 31) 5 (by decide)
  rw [e, nI_toInt (by omega)]
  exact ⟨by omega, by omega, by omega⟩
theorem kC_Text_startOf {x0 : Int32} {u : St} (I : IC u) : ok (mC_Text_startOf x0 u) (fun r => True) := by
  have l5 : (5 : Int32).toInt = 5 := by decide
  have l31 : (31 : Int32).toInt = 31 := by decide
  rw [mC_Text_startOf]
  exact ok_some trivial
theorem kC_Text_at_4 {x1 : Int32} {u : St} (I : IC u) : ok (mC_Text_at_4 x1 u) (fun r => -1 ≤ r.toInt ∧ r.toInt ≤ 255 ∧ r.toInt = -1 ∨ (0 ≤ x1.toInt ∧ x1.toInt < (u.1 2).toInt)) := by
  have B := IC_b I
  have m1 : ((-1 : Int32)).toInt = -1 := by decide
  have z0 : ((0 : Int32)).toInt = 0 := by decide
  rw [mC_Text_at_4]
  refine ok_lt (fun h => ok_some ⟨by omega, by omega, by omega⟩) (fun h => ?_)
  refine ok_lt (fun h => ?_) (fun h => ok_some ⟨by omega, by omega, by omega⟩)
  refine ok_gd (inb_of (by omega) (by omega)) (ok_some ?_)
  obtain ⟨j, hj, e⟩ := pk_andE (ga u 1 x1) (m := 255) 8 (by decide)
  rw [e, nI_toInt (by omega)]
  exact ⟨by omega, by omega, by omega⟩
theorem kC_Text_same_4_1_L20 : ∀ (n : Nat) {x1 : Int32} {x3 : Int32} {x4 : Int32} {x5 : Int32} {u : St} (I : IC u) (h0 : 0 ≤ x5.toInt) (h1 : x5.toInt ≤ 31) (h2 : x4.toInt ≤ 31) (hm : (31 - x5.toInt).toNat < n), ok (mC_Text_same_4_1_L20 n x1 x3 x4 x5 u) (fun r => 0 ≤ r.toInt ∧ r.toInt ≤ 1) := by
  intro n
  induction n with
  | zero => intro x1 x3 x4 x5 u I h0 h1 h2 hm; exact absurd hm (Nat.not_lt_zero _)
  | succ n ih =>
    intro x1 x3 x4 x5 u I h0 h1 h2 hm
    have l0 : (0 : Int32).toInt = 0 := by decide
    have l1 : (1 : Int32).toInt = 1 := by decide
    have l31 : (31 : Int32).toInt = 31 := by decide
    rw [mC_Text_same_4_1_L20]
    refine ok_le (fun c_1 => ?_) (fun c_1 => ?_)
    · exact ok_some ⟨(by omega), (by omega)⟩
    · refine ok_bP (kC_Text_startOf I) (fun r_3 z_2 => ?_)
      try have e_4 : (r_3 + x5 : Int32).toInt = (r_3 : Int32).toInt + (x5 : Int32).toInt := by exact add_i (by omega) (by omega)
      refine ok_bP (kC_Text_at_4 I) (fun r_6 z_5 => ?_)
      obtain ⟨p_7, p_8, p_9⟩ := z_5
      refine ok_bP (kC_Text_startOf I) (fun r_11 z_10 => ?_)
      try have e_12 : (r_11 + x5 : Int32).toInt = (r_11 : Int32).toInt + (x5 : Int32).toInt := by exact add_i (by omega) (by omega)
      refine ok_bP (kC_Text_at_1 I) (fun r_14 z_13 => ?_)
      obtain ⟨p_15, p_16, p_17⟩ := z_13
      refine ok_eq (fun c_18 c_18' => ?_) (fun c_18 => ?_)
      · try have e_21 : (x5 + 1 : Int32).toInt = (x5 : Int32).toInt + (1 : Int32).toInt := by exact add_i (by omega) (by omega)
        refine ok_seq (fun y_20 h_19 => ?_)
        have h_19' : y_20.toInt = (x5 + 1 : Int32).toInt := by rw [h_19]
        refine ok_mono (ih I (by have B_22 := IC_b I; omega) (by have B_23 := IC_b I; omega) (by have B_24 := IC_b I; omega) (by have B_25 := IC_b I; omega)) (fun r_27 z_26 => ?_)
        obtain ⟨p_28, p_29⟩ := z_26
        exact ⟨(by omega), (by omega)⟩
      · exact ok_some ⟨(by omega), (by omega)⟩
theorem kC_Text_same_4_1 {x1 : Int32} {x3 : Int32} {u : St} (I : IC u) : ok (mC_Text_same_4_1 x1 x3 u) (fun r => 0 ≤ r.toInt ∧ r.toInt ≤ 1) := by
  have l0 : (0 : Int32).toInt = 0 := by decide
  have l1 : (1 : Int32).toInt = 1 := by decide
  have l31 : (31 : Int32).toInt = 31 := by decide
  rw [mC_Text_same_4_1]
  refine ok_bP (kC_Text_sizeOf I) (fun r_2 z_1 => ?_)
  obtain ⟨p_3, p_4, p_5⟩ := z_1
  refine ok_bP (kC_Text_sizeOf I) (fun r_7 z_6 => ?_)
  obtain ⟨p_8, p_9, p_10⟩ := z_6
  refine ok_eq (fun c_11 c_11' => ?_) (fun c_11 => ?_)
  · refine ok_mono (kC_Text_same_4_1_L20 _ I (by have FUe : FU = 100000 := rfl; have B_12 := IC_b I; omega) (by have FUe : FU = 100000 := rfl; have B_13 := IC_b I; omega) (by have FUe : FU = 100000 := rfl; have B_14 := IC_b I; omega) (by have FUe : FU = 100000 := rfl; have B_15 := IC_b I; omega)) (fun r_17 z_16 => ?_)
    obtain ⟨p_18, p_19⟩ := z_16
    exact ⟨(by omega), (by omega)⟩
  · exact ok_some ⟨(by omega), (by omega)⟩
theorem kC_Catalog_findTable_3_1_L2 : ∀ (n : Nat) {x2 : Int32} {x3 : Int32} {u : St} (I : IC u) (h0 : 0 ≤ x3.toInt) (h1 : x3.toInt ≤ 8) (hm : (8 - x3.toInt).toNat < n), ok (mC_Catalog_findTable_3_1_L2 n x2 x3 u) (fun r => -1 ≤ r.toInt ∧ r.toInt ≤ 8) := by
  intro n
  induction n with
  | zero => intro x2 x3 u I h0 h1 hm; exact absurd hm (Nat.not_lt_zero _)
  | succ n ih =>
    intro x2 x3 u I h0 h1 hm
    have lm1 : (-1 : Int32).toInt = -1 := by decide
    have l0 : (0 : Int32).toInt = 0 := by decide
    have l1 : (1 : Int32).toInt = 1 := by decide
    have l2 : (2 : Int32).toInt = 2 := by decide
    have l8 : (8 : Int32).toInt = 8 := by decide
    rw [mC_Catalog_findTable_3_1_L2]
    refine ok_le (fun c_1 => ?_) (fun c_1 => ?_)
    · exact ok_some ⟨(by omega), (by omega)⟩
    · refine ok_gd (inb_of (by have B_2 := IC_b I; omega) (by have B_3 := IC_b I; omega)) ?_
      refine ok_bP (kC_Text_same_4_1 I) (fun r_5 z_4 => ?_)
      obtain ⟨p_6, p_7⟩ := z_4
      refine ok_eq (fun c_8 c_8' => ?_) (fun c_8 => ?_)
      · try have e_11 : (x3 + 1 : Int32).toInt = (x3 : Int32).toInt + (1 : Int32).toInt := by exact add_i (by omega) (by omega)
        refine ok_seq (fun y_10 h_9 => ?_)
        have h_9' : y_10.toInt = (x3 + 1 : Int32).toInt := by rw [h_9]
        refine ok_mono (ih I (by have B_12 := IC_b I; omega) (by have B_13 := IC_b I; omega) (by have B_14 := IC_b I; omega)) (fun r_16 z_15 => ?_)
        obtain ⟨p_17, p_18⟩ := z_15
        exact ⟨(by omega), (by omega)⟩
      · exact ok_some ⟨(by omega), (by omega)⟩
theorem kC_Catalog_findTable_3_1 {x2 : Int32} {u : St} (I : IC u) : ok (mC_Catalog_findTable_3_1 x2 u) (fun r => -1 ≤ r.toInt ∧ r.toInt ≤ 8) := by
  have l0 : (0 : Int32).toInt = 0 := by decide
  have l1 : (1 : Int32).toInt = 1 := by decide
  have l8 : (8 : Int32).toInt = 8 := by decide
  rw [mC_Catalog_findTable_3_1]
  refine ok_mono (kC_Catalog_findTable_3_1_L2 _ I (by have FUe : FU = 100000 := rfl; have B_1 := IC_b I; omega) (by have FUe : FU = 100000 := rfl; have B_2 := IC_b I; omega) (by have FUe : FU = 100000 := rfl; have B_3 := IC_b I; omega)) (fun r_5 z_4 => ?_)
  obtain ⟨p_6, p_7⟩ := z_4
  exact ⟨(by omega), (by omega)⟩
theorem kC_Text_keep_L7 : ∀ (n : Nat) {x2 : Int32} {x3 : Int32} {u : St} (I : IC u) (h0 : 0 ≤ x3.toInt) (h1 : x3.toInt ≤ 2000) (hm : (2000 - x3.toInt).toNat < n), okM (mC_Text_keep_L7 n x2 x3 u) (fun r v => IC v) := by
  intro n
  induction n with
  | zero => intro x2 x3 u I h0 h1 hm; exact absurd hm (Nat.not_lt_zero _)
  | succ n ih =>
    intro x2 x3 u I h0 h1 hm
    have l0 : (0 : Int32).toInt = 0 := by decide
    have l1 : (1 : Int32).toInt = 1 := by decide
    have l2 : (2 : Int32).toInt = 2 := by decide
    have l2000 : (2000 : Int32).toInt = 2000 := by decide
    rw [mC_Text_keep_L7]
    refine okM_le (fun c_1 => ?_) (fun c_1 => ?_)
    · try have e_2 : ((u.1 2) - x2 : Int32).toInt = ((u.1 2) : Int32).toInt - (x2 : Int32).toInt := by have B_3 := IC_b I; exact sub_i (by omega) (by omega)
      refine okM_bP (kC_Text_span I) (fun r_5 z_4 => ?_)
      have p_6 := z_4
      exact okM_some I
    · refine okM_le (fun c_7 => ?_) (fun c_7 => ?_)
      · try have e_8 : ((u.1 2) - x2 : Int32).toInt = ((u.1 2) : Int32).toInt - (x2 : Int32).toInt := by have B_9 := IC_b I; exact sub_i (by omega) (by omega)
        refine okM_bP (kC_Text_span I) (fun r_11 z_10 => ?_)
        have p_12 := z_10
        exact okM_some I
      · refine okM_gd (inb_of (by have B_13 := IC_b I; omega) (by have B_14 := IC_b I; omega)) ?_
        refine okM_gd (inb_of (by have B_15 := IC_b I; omega) (by have B_16 := IC_b I; omega)) ?_
        refine okM_seq (fun u_18 h_17 => ?_)
        have I_u_18 : IC u_18 := by rw [h_17]; exact I
        have g_19 : (u_18.1 0).toInt = (u.1 0).toInt := by rw [h_17]; rfl
        have g_20 : (u_18.1 2).toInt = (u.1 2).toInt := by rw [h_17]; rfl
        refine okM_seq (fun u_22 h_21 => ?_)
        try have e_23 : ((u_18.1 2) + 1 : Int32).toInt = ((u_18.1 2) : Int32).toInt + (1 : Int32).toInt := by have B_24 := IC_b I_u_18; exact add_i (by omega) (by omega)
        have I_u_22 : IC u_22 := by rw [h_21]; exact IC_s2 I_u_18 (by have B_25 := IC_b I_u_18; omega) (by have B_26 := IC_b I_u_18; omega)
        try have e_27 : ((u_18.1 2) + 1 : Int32).toInt = ((u_18.1 2) : Int32).toInt + (1 : Int32).toInt := by have B_28 := IC_b I_u_18; exact add_i (by omega) (by omega)
        have g_29 : (u_22.1 2).toInt = (((u_18.1 2) + 1) : Int32).toInt := by rw [h_21]; rfl
        have g_30 : (u_22.1 0).toInt = (u_18.1 0).toInt := by rw [h_21]; rfl
        try have e_33 : (x3 + 1 : Int32).toInt = (x3 : Int32).toInt + (1 : Int32).toInt := by exact add_i (by omega) (by omega)
        refine okM_seq (fun y_32 h_31 => ?_)
        have h_31' : y_32.toInt = (x3 + 1 : Int32).toInt := by rw [h_31]
        refine okM_mono (ih I_u_22 (by have B_34 := IC_b I_u_22; omega) (by have B_35 := IC_b I_u_22; omega) (by have B_36 := IC_b I_u_22; omega)) (fun r_38 u_39 z_37 => ?_)
        have I_u_39 := z_37
        exact I_u_39
theorem kC_Text_keep {u : St} (I : IC u) : okM (mC_Text_keep u) (fun r v => IC v) := by
  have l0 : (0 : Int32).toInt = 0 := by decide
  have l2 : (2 : Int32).toInt = 2 := by decide
  have l2000 : (2000 : Int32).toInt = 2000 := by decide
  rw [mC_Text_keep]
  refine okM_seq (fun y_2 h_1 => ?_)
  have h_1' : y_2.toInt = ((u.1 2) : Int32).toInt := by rw [h_1]
  refine okM_mono (kC_Text_keep_L7 _ I (by have FUe : FU = 100000 := rfl; have B_3 := IC_b I; omega) (by have FUe : FU = 100000 := rfl; have B_4 := IC_b I; omega) (by have FUe : FU = 100000 := rfl; have B_5 := IC_b I; omega)) (fun r_7 u_8 z_6 => ?_)
  have I_u_8 := z_6
  exact I_u_8
theorem kC_Catalog_addTable {u : St} (I : IC u) : okM (mC_Catalog_addTable u) (fun r v => IC v) := by
  have lm2 : (-2 : Int32).toInt = -2 := by decide
  have lm1 : (-1 : Int32).toInt = -1 := by decide
  have l0 : (0 : Int32).toInt = 0 := by decide
  have l1 : (1 : Int32).toInt = 1 := by decide
  have l8 : (8 : Int32).toInt = 8 := by decide
  rw [mC_Catalog_addTable]
  refine okM_bP (kC_Text_isName I) (fun r_2 z_1 => ?_)
  obtain ⟨p_3, p_4⟩ := z_1
  refine okM_eq (fun c_5 c_5' => ?_) (fun c_5 => ?_)
  · exact okM_some I
  · refine okM_lt (fun c_6 => ?_) (fun c_6 => ?_)
    · refine okM_bP (kC_Text_size_1 I) (fun r_8 z_7 => ?_)
      have p_9 := z_7
      refine okM_bP (kC_Text_span I) (fun r_11 z_10 => ?_)
      have p_12 := z_10
      refine okM_bP (kC_Catalog_findTable_3_1 I) (fun r_14 z_13 => ?_)
      obtain ⟨p_15, p_16⟩ := z_13
      refine okM_lt (fun c_17 => ?_) (fun c_17 => ?_)
      · refine okM_bM (kC_Text_keep I) (fun r_19 u_20 z_18 => ?_)
        have I_u_20 := z_18
        refine okM_gd (inb_of (by have B_21 := IC_b I; have B_22 := IC_b I_u_20; omega) (by have B_23 := IC_b I; have B_24 := IC_b I_u_20; omega)) ?_
        refine okM_seq (fun u_26 h_25 => ?_)
        have I_u_26 : IC u_26 := by rw [h_25]; exact I_u_20
        refine okM_seq (fun u_28 h_27 => ?_)
        try have e_29 : ((u_26.1 1) + 1 : Int32).toInt = ((u_26.1 1) : Int32).toInt + (1 : Int32).toInt := by have B_30 := IC_b I_u_26; exact add_i (by omega) (by omega)
        have I_u_28 : IC u_28 := by rw [h_27]; exact IC_s1 I_u_26 (by have B_31 := IC_b I_u_26; omega) (by have B_32 := IC_b I_u_26; omega)
        try have e_33 : ((u_26.1 1) + 1 : Int32).toInt = ((u_26.1 1) : Int32).toInt + (1 : Int32).toInt := by have B_34 := IC_b I_u_26; exact add_i (by omega) (by omega)
        have g_35 : (u_28.1 1).toInt = (((u_26.1 1) + 1) : Int32).toInt := by rw [h_27]; rfl
        try have e_36 : ((u_28.1 1) - 1 : Int32).toInt = ((u_28.1 1) : Int32).toInt - (1 : Int32).toInt := by have B_37 := IC_b I_u_28; exact sub_i (by omega) (by omega)
        exact okM_some I_u_28
      · exact okM_some I
    · exact okM_some I
theorem kC_Text_clear {u : St} (I : IC u) : ok (mC_Text_clear u) (fun v => IC v ∧ (v.1 0).toInt = 0) := by
  have l0 : (0 : Int32).toInt = 0 := by decide
  rw [mC_Text_clear]
  refine ok_seq (fun u_2 h_1 => ?_)
  have I_u_2 : IC u_2 := by rw [h_1]; exact IC_s0 I (by have B_3 := IC_b I; omega) (by have B_4 := IC_b I; omega)
  have g_5 : (u_2.1 0).toInt = (0 : Int32).toInt := by rw [h_1]; rfl
  exact ok_some ⟨I_u_2, (by have B_6 := IC_b I_u_2; omega)⟩
theorem kC_SqlReader_table {u : St} (I : IC u) : okM (mC_SqlReader_table u) (fun r v => IC v ∧ (v.1 0).toInt = 0) := by
  have l0 : (0 : Int32).toInt = 0 := by decide
  rw [mC_SqlReader_table]
  refine okM_bM (kC_Catalog_addTable I) (fun r_2 u_3 z_1 => ?_)
  have I_u_3 := z_1
  refine okM_bP (kC_Text_clear I_u_3) (fun u_5 z_4 => ?_)
  obtain ⟨I_u_5, p_6⟩ := z_4
  exact okM_some ⟨I_u_5, (by have B_7 := IC_b I_u_5; omega)⟩
theorem kC_Catalog_has {x1 : Int32} {u : St} (I : IC u) : ok (mC_Catalog_has x1 u) (fun r => 0 ≤ r.toInt ∧ r.toInt ≤ 1 ∧ r.toInt = 0 ∨ (0 ≤ x1.toInt ∧ x1.toInt < (u.1 1).toInt)) := by
  have l0 : (0 : Int32).toInt = 0 := by decide
  have l1 : (1 : Int32).toInt = 1 := by decide
  rw [mC_Catalog_has]
  refine ok_lt (fun c_1 => ?_) (fun c_1 => ?_)
  · exact ok_some ⟨(by omega), (by omega), (by have B_2 := IC_b I; omega)⟩
  · refine ok_le (fun c_3 => ?_) (fun c_3 => ?_)
    · exact ok_some ⟨(by omega), (by omega), (by have B_4 := IC_b I; omega)⟩
    · exact ok_some ⟨(by omega), (by omega), (by have B_5 := IC_b I; omega)⟩
theorem kC_Catalog_columnsOf {x1 : Int32} {u : St} (I : IC u) : ok (mC_Catalog_columnsOf x1 u) (fun r => 0 ≤ r.toInt ∧ r.toInt ≤ 8 ∧ r.toInt = 0 ∨ (0 ≤ x1.toInt ∧ x1.toInt < 8)) := by
  have l0 : (0 : Int32).toInt = 0 := by decide
  have l3 : (3 : Int32).toInt = 3 := by decide
  have l8 : (8 : Int32).toInt = 8 := by decide
  rw [mC_Catalog_columnsOf]
  have F := IC_col I x1
  refine ok_bP (kC_Catalog_has I) (fun r_2 z_1 => ?_)
  obtain ⟨p_3, p_4, p_5⟩ := z_1
  refine ok_eq (fun c_6 c_6' => ?_) (fun c_6 => ?_)
  · exact ok_some ⟨(by omega), (by omega), (by omega)⟩
  · refine ok_gd (inb_of (by have B_7 := IC_b I; omega) (by have B_8 := IC_b I; omega)) ?_
    exact ok_some ⟨(by have B_9 := IC_b I; omega), (by have B_10 := IC_b I; omega), (by have B_11 := IC_b I; omega)⟩
theorem kC_Catalog_findColumn_3_1_L3 : ∀ (n : Nat) {x1 : Int32} {x3 : Int32} {x4 : Int32} {u : St} (I : IC u) (h0 : 0 ≤ x4.toInt) (h1 : x4.toInt ≤ 8) (hm : (8 - x4.toInt).toNat < n), ok (mC_Catalog_findColumn_3_1_L3 n x1 x3 x4 u) (fun r => -1 ≤ r.toInt ∧ r.toInt ≤ 8) := by
  intro n
  induction n with
  | zero => intro x1 x3 x4 u I h0 h1 hm; exact absurd hm (Nat.not_lt_zero _)
  | succ n ih =>
    intro x1 x3 x4 u I h0 h1 hm
    have lm1 : (-1 : Int32).toInt = -1 := by decide
    have l0 : (0 : Int32).toInt = 0 := by decide
    have l1 : (1 : Int32).toInt = 1 := by decide
    have l4 : (4 : Int32).toInt = 4 := by decide
    have l8 : (8 : Int32).toInt = 8 := by decide
    rw [mC_Catalog_findColumn_3_1_L3]
    refine ok_bP (kC_Catalog_columnsOf I) (fun r_2 z_1 => ?_)
    obtain ⟨p_3, p_4, p_5⟩ := z_1
    refine ok_le (fun c_6 => ?_) (fun c_6 => ?_)
    · exact ok_some ⟨(by omega), (by omega)⟩
    · try have e_7 : (x1 * 8 : Int32).toInt = (x1 : Int32).toInt * 8 := by exact muc_i l8 (by omega) (by omega)
      try have e_8 : ((x1 * 8) + x4 : Int32).toInt = ((x1 * 8) : Int32).toInt + (x4 : Int32).toInt := by exact add_i (by omega) (by omega)
      refine ok_gd (inb_of (by have B_9 := IC_b I; omega) (by have B_10 := IC_b I; omega)) ?_
      refine ok_bP (kC_Text_same_4_1 I) (fun r_12 z_11 => ?_)
      obtain ⟨p_13, p_14⟩ := z_11
      refine ok_eq (fun c_15 c_15' => ?_) (fun c_15 => ?_)
      · try have e_18 : (x4 + 1 : Int32).toInt = (x4 : Int32).toInt + (1 : Int32).toInt := by exact add_i (by omega) (by omega)
        refine ok_seq (fun y_17 h_16 => ?_)
        have h_16' : y_17.toInt = (x4 + 1 : Int32).toInt := by rw [h_16]
        refine ok_mono (ih I (by have B_19 := IC_b I; omega) (by have B_20 := IC_b I; omega) (by have B_21 := IC_b I; omega)) (fun r_23 z_22 => ?_)
        obtain ⟨p_24, p_25⟩ := z_22
        exact ⟨(by omega), (by omega)⟩
      · exact ok_some ⟨(by omega), (by omega)⟩
theorem kC_Catalog_findColumn_3_1 {x1 : Int32} {x3 : Int32} {u : St} (I : IC u) : ok (mC_Catalog_findColumn_3_1 x1 x3 u) (fun r => -1 ≤ r.toInt ∧ r.toInt ≤ 8) := by
  have l0 : (0 : Int32).toInt = 0 := by decide
  have l1 : (1 : Int32).toInt = 1 := by decide
  have l8 : (8 : Int32).toInt = 8 := by decide
  rw [mC_Catalog_findColumn_3_1]
  refine ok_mono (kC_Catalog_findColumn_3_1_L3 _ I (by have FUe : FU = 100000 := rfl; have B_1 := IC_b I; omega) (by have FUe : FU = 100000 := rfl; have B_2 := IC_b I; omega) (by have FUe : FU = 100000 := rfl; have B_3 := IC_b I; omega)) (fun r_5 z_4 => ?_)
  obtain ⟨p_6, p_7⟩ := z_4
  exact ⟨(by omega), (by omega)⟩
theorem kC_Catalog_addColumn {x1 : Int32} {x2 : Int32} {u : St} (I : IC u) : okM (mC_Catalog_addColumn x1 x2 u) (fun r v => IC v) := by
  have lm2 : (-2 : Int32).toInt = -2 := by decide
  have lm1 : (-1 : Int32).toInt = -1 := by decide
  have l0 : (0 : Int32).toInt = 0 := by decide
  have l1 : (1 : Int32).toInt = 1 := by decide
  have l3 : (3 : Int32).toInt = 3 := by decide
  have l8 : (8 : Int32).toInt = 8 := by decide
  rw [mC_Catalog_addColumn]
  have F := IC_col I x1
  refine okM_bP (kC_Text_isName I) (fun r_2 z_1 => ?_)
  obtain ⟨p_3, p_4⟩ := z_1
  refine okM_eq (fun c_5 c_5' => ?_) (fun c_5 => ?_)
  · exact okM_some I
  · refine okM_bP (kC_Catalog_has I) (fun r_7 z_6 => ?_)
    obtain ⟨p_8, p_9, p_10⟩ := z_6
    refine okM_eq (fun c_11 c_11' => ?_) (fun c_11 => ?_)
    · exact okM_some I
    · refine okM_lt (fun c_12 => ?_) (fun c_12 => ?_)
      · exact okM_some I
      · refine okM_le (fun c_13 => ?_) (fun c_13 => ?_)
        · refine okM_gd (inb_of (by have B_14 := IC_b I; omega) (by have B_15 := IC_b I; omega)) ?_
          refine okM_seq (fun y_17 h_16 => ?_)
          have h_16' : y_17.toInt = ((ga u 3 x1) : Int32).toInt := by rw [h_16]
          refine okM_lt (fun c_18 => ?_) (fun c_18 => ?_)
          · refine okM_bP (kC_Text_size_1 I) (fun r_20 z_19 => ?_)
            have p_21 := z_19
            refine okM_bP (kC_Text_span I) (fun r_23 z_22 => ?_)
            have p_24 := z_22
            refine okM_bP (kC_Catalog_findColumn_3_1 I) (fun r_26 z_25 => ?_)
            obtain ⟨p_27, p_28⟩ := z_25
            refine okM_lt (fun c_29 => ?_) (fun c_29 => ?_)
            · refine okM_bM (kC_Text_keep I) (fun r_31 u_32 z_30 => ?_)
              have I_u_32 := z_30
              try have e_33 : (x1 * 8 : Int32).toInt = (x1 : Int32).toInt * 8 := by exact muc_i l8 (by omega) (by omega)
              try have e_34 : ((x1 * 8) + y_17 : Int32).toInt = ((x1 * 8) : Int32).toInt + (y_17 : Int32).toInt := by exact add_i (by omega) (by omega)
              refine okM_gd (inb_of (by have B_35 := IC_b I_u_32; omega) (by have B_36 := IC_b I_u_32; omega)) ?_
              refine okM_seq (fun u_38 h_37 => ?_)
              have I_u_38 : IC u_38 := by rw [h_37]; exact I_u_32
              try have e_39 : (x1 * 8 : Int32).toInt = (x1 : Int32).toInt * 8 := by exact muc_i l8 (by omega) (by omega)
              try have e_40 : ((x1 * 8) + y_17 : Int32).toInt = ((x1 * 8) : Int32).toInt + (y_17 : Int32).toInt := by exact add_i (by omega) (by omega)
              refine okM_gd (inb_of (by have B_41 := IC_b I_u_38; omega) (by have B_42 := IC_b I_u_38; omega)) ?_
              refine okM_seq (fun u_44 h_43 => ?_)
              have I_u_44 : IC u_44 := by rw [h_43]; exact I_u_38
              refine okM_gd (inb_of (by have B_45 := IC_b I_u_44; omega) (by have B_46 := IC_b I_u_44; omega)) ?_
              refine okM_seq (fun u_48 h_47 => ?_)
              try have e_49 : (y_17 + 1 : Int32).toInt = (y_17 : Int32).toInt + (1 : Int32).toInt := by exact add_i (by omega) (by omega)
              have I_u_48 : IC u_48 := by rw [h_47]; exact IC_a3 I_u_44 (by have F := IC_col I x1; omega) (by omega)
              exact okM_some I_u_48
            · exact okM_some I
          · exact okM_some I
        · exact okM_some I
theorem kC_SqlReader_column {x1 : Int32} {x2 : Int32} {u : St} (I : IC u) : okM (mC_SqlReader_column x1 x2 u) (fun r v => IC v ∧ (v.1 0).toInt = 0) := by
  have l0 : (0 : Int32).toInt = 0 := by decide
  rw [mC_SqlReader_column]
  refine okM_bM (kC_Catalog_addColumn I) (fun r_2 u_3 z_1 => ?_)
  have I_u_3 := z_1
  refine okM_bP (kC_Text_clear I_u_3) (fun u_5 z_4 => ?_)
  obtain ⟨I_u_5, p_6⟩ := z_4
  exact okM_some ⟨I_u_5, (by have B_7 := IC_b I_u_5; omega)⟩
theorem kC_Nodes_clear {u : St} (I : IC u) : ok (mC_Nodes_clear u) (fun v => IC v) := by
  have l0 : (0 : Int32).toInt = 0 := by decide
  rw [mC_Nodes_clear]
  refine ok_seq (fun u_2 h_1 => ?_)
  have I_u_2 : IC u_2 := by rw [h_1]; exact IC_s6 I (by have B_3 := IC_b I; omega) (by have B_4 := IC_b I; omega)
  have g_5 : (u_2.1 6).toInt = (0 : Int32).toInt := by rw [h_1]; rfl
  refine ok_seq (fun u_7 h_6 => ?_)
  have I_u_7 : IC u_7 := by rw [h_6]; exact IC_s7 I_u_2 (by have B_8 := IC_b I_u_2; omega) (by have B_9 := IC_b I_u_2; omega)
  have g_10 : (u_7.1 7).toInt = (0 : Int32).toInt := by rw [h_6]; rfl
  exact ok_some I_u_7
theorem kC_Arrays_fill_L5 : ∀ (n : Nat) {x1 : Int32} {x2 : Int32} {x3 : Int32} {u : St} (I : IC u) (h0 : x1.toInt = 0) (h1 : 0 ≤ x2.toInt) (h2 : x2.toInt ≤ 14) (h3 : x3.toInt = 14) (hm : (14 - x2.toInt).toNat < n), ok (mC_Arrays_fill_L5 n x1 x2 x3 u) (fun v => IC v) := by
  intro n
  induction n with
  | zero => intro x1 x2 x3 u I h0 h1 h2 h3 hm; exact absurd hm (Nat.not_lt_zero _)
  | succ n ih =>
    intro x1 x2 x3 u I h0 h1 h2 h3 hm
    have l0 : (0 : Int32).toInt = 0 := by decide
    have l1 : (1 : Int32).toInt = 1 := by decide
    have l14 : (14 : Int32).toInt = 14 := by decide
    rw [mC_Arrays_fill_L5]
    refine ok_le (fun c_1 => ?_) (fun c_1 => ?_)
    · exact ok_some I
    · refine ok_gd (inb_of (by have B_2 := IC_b I; omega) (by have B_3 := IC_b I; omega)) ?_
      refine ok_seq (fun u_5 h_4 => ?_)
      have I_u_5 : IC u_5 := by rw [h_4]; exact IC_a17 I (by omega) (by omega) (by have F := gst_f (i := x2) (by omega) (by omega); omega)
      try have e_8 : (x2 + 1 : Int32).toInt = (x2 : Int32).toInt + (1 : Int32).toInt := by exact add_i (by omega) (by omega)
      refine ok_seq (fun y_7 h_6 => ?_)
      have h_6' : y_7.toInt = (x2 + 1 : Int32).toInt := by rw [h_6]
      refine ok_mono (ih I_u_5 (by have B_9 := IC_b I_u_5; omega) (by have B_10 := IC_b I_u_5; omega) (by have B_11 := IC_b I_u_5; omega) (by have B_12 := IC_b I_u_5; omega) (by have B_13 := IC_b I_u_5; omega)) (fun u_15 z_14 => ?_)
      have I_u_15 := z_14
      exact I_u_15
theorem kC_Arrays_fill {x1 : Int32} {u : St} (I : IC u) (h0 : x1.toInt = 0) : ok (mC_Arrays_fill x1 u) (fun v => IC v) := by
  have l0 : (0 : Int32).toInt = 0 := by decide
  have l14 : (14 : Int32).toInt = 14 := by decide
  rw [mC_Arrays_fill]
  refine ok_mono (kC_Arrays_fill_L5 _ I (by have FUe : FU = 100000 := rfl; have B_1 := IC_b I; omega) (by have FUe : FU = 100000 := rfl; have B_2 := IC_b I; omega) (by have FUe : FU = 100000 := rfl; have B_3 := IC_b I; omega) (by have FUe : FU = 100000 := rfl; have B_4 := IC_b I; omega) (by have FUe : FU = 100000 := rfl; have B_5 := IC_b I; omega)) (fun u_7 z_6 => ?_)
  have I_u_7 := z_6
  exact I_u_7
theorem kC_Lists_clear {u : St} (I : IC u) : ok (mC_Lists_clear u) (fun v => IC v) := by
  have l0 : (0 : Int32).toInt = 0 := by decide
  rw [mC_Lists_clear]
  refine ok_bP (kC_Arrays_fill I (by have FUe : FU = 100000 := rfl; have B_2 := IC_b I; omega)) (fun u_3 z_1 => ?_)
  have I_u_3 := z_1
  refine ok_seq (fun u_5 h_4 => ?_)
  have I_u_5 : IC u_5 := by rw [h_4]; exact IC_s8 I_u_3 (by have B_6 := IC_b I_u_3; omega) (by have B_7 := IC_b I_u_3; omega)
  have g_8 : (u_5.1 8).toInt = (0 : Int32).toInt := by rw [h_4]; rfl
  exact ok_some I_u_5
theorem kC_Statement_clear {u : St} (I : IC u) : ok (mC_Statement_clear u) (fun v => IC v) := by
  rw [mC_Statement_clear]
  refine ok_seq (fun u_2 h_1 => ?_)
  have I_u_2 : IC u_2 := by rw [h_1]; exact I
  refine ok_seq (fun u_4 h_3 => ?_)
  have I_u_4 : IC u_4 := by rw [h_3]; exact I_u_2
  refine ok_seq (fun u_6 h_5 => ?_)
  have I_u_6 : IC u_6 := by rw [h_5]; exact I_u_4
  refine ok_seq (fun u_8 h_7 => ?_)
  have I_u_8 : IC u_8 := by rw [h_7]; exact I_u_6
  refine ok_seq (fun u_10 h_9 => ?_)
  have I_u_10 : IC u_10 := by rw [h_9]; exact I_u_8
  refine ok_seq (fun u_12 h_11 => ?_)
  have I_u_12 : IC u_12 := by rw [h_11]; exact I_u_10
  refine ok_seq (fun u_14 h_13 => ?_)
  have I_u_14 : IC u_14 := by rw [h_13]; exact I_u_12
  refine ok_seq (fun u_16 h_15 => ?_)
  have I_u_16 : IC u_16 := by rw [h_15]; exact I_u_14
  refine ok_seq (fun u_18 h_17 => ?_)
  have I_u_18 : IC u_18 := by rw [h_17]; exact I_u_16
  refine ok_seq (fun u_20 h_19 => ?_)
  have I_u_20 : IC u_20 := by rw [h_19]; exact I_u_18
  refine ok_seq (fun u_22 h_21 => ?_)
  have I_u_22 : IC u_22 := by rw [h_21]; exact I_u_20
  refine ok_seq (fun u_24 h_23 => ?_)
  have I_u_24 : IC u_24 := by rw [h_23]; exact I_u_22
  refine ok_seq (fun u_26 h_25 => ?_)
  have I_u_26 : IC u_26 := by rw [h_25]; exact I_u_24
  exact ok_some I_u_26
theorem kC_SqlReader_forget {u : St} (I : IC u) : ok (mC_SqlReader_forget u) (fun v => IC v) := by
  rw [mC_SqlReader_forget]
  refine ok_bP (kC_Nodes_clear I) (fun u_2 z_1 => ?_)
  have I_u_2 := z_1
  refine ok_bP (kC_Lists_clear I_u_2) (fun u_4 z_3 => ?_)
  have I_u_4 := z_3
  refine ok_bP (kC_Statement_clear I_u_4) (fun u_6 z_5 => ?_)
  have I_u_6 := z_5
  exact ok_some I_u_6
theorem kC_Text_copy {u : St} (I : IC u) : ok (mC_Text_copy u) (fun v => IC v) := by
  have B := IC_b I
  have z0 : (0 : Int32).toInt = 0 := by decide
  rw [mC_Text_copy]
  refine ok_gd (decide_eq_true ⟨by omega, by omega, by omega, by omega, by omega⟩) ?_
  refine ok_gd (List.all_eq_true.mpr (fun i _ => I.2.1 _)) ?_
  refine ok_seq (fun u1 h => ok_seq (fun u2 h2 => ok_some ?_))
  have I1 : IC u1 := by rw [h]; exact I
  have g : (u1.1 0).toInt = (u.1 0).toInt := by rw [h]; rfl
  rw [h2]
  exact IC_s5 I1 (by omega) (by omega)
theorem kC_Text_size_11 {u : St} (I : IC u) : ok (mC_Text_size_11 u) (fun r => r.toInt = (u.1 5).toInt) := by
  have l5 : (5 : Int32).toInt = 5 := by decide
  rw [mC_Text_size_11]
  exact ok_some (by have B_1 := IC_b I; omega)
theorem kC_Text_at_11 {x1 : Int32} {u : St} (I : IC u) : ok (mC_Text_at_11 x1 u) (fun r => -1 ≤ r.toInt ∧ r.toInt ≤ 255 ∧ r.toInt = -1 ∨ (0 ≤ x1.toInt ∧ x1.toInt < (u.1 5).toInt)) := by
  have B := IC_b I
  have m1 : ((-1 : Int32)).toInt = -1 := by decide
  have z0 : ((0 : Int32)).toInt = 0 := by decide
  rw [mC_Text_at_11]
  refine ok_lt (fun h => ok_some ⟨by omega, by omega, by omega⟩) (fun h => ?_)
  refine ok_lt (fun h => ?_) (fun h => ok_some ⟨by omega, by omega, by omega⟩)
  refine ok_gd (inb_of (by omega) (by omega)) (ok_some ?_)
  obtain ⟨j, hj, e⟩ := pk_andE (ga u 6 x1) (m := 255) 8 (by decide)
  rw [e, nI_toInt (by omega)]
  exact ⟨by omega, by omega, by omega⟩
theorem kC_Tokens_isCapital {x0 : Int32} {u : St} (I : IC u) : ok (mC_Tokens_isCapital x0 u) (fun r => 0 ≤ r.toInt ∧ r.toInt ≤ 1 ∧ r.toInt = 0 ∨ 1 ≤ x0.toInt) := by
  have l0 : (0 : Int32).toInt = 0 := by decide
  have l1 : (1 : Int32).toInt = 1 := by decide
  have l65 : (65 : Int32).toInt = 65 := by decide
  have l90 : (90 : Int32).toInt = 90 := by decide
  rw [mC_Tokens_isCapital]
  refine ok_lt (fun c_1 => ?_) (fun c_1 => ?_)
  · exact ok_some ⟨(by omega), (by omega), (by omega)⟩
  · refine ok_lt (fun c_2 => ?_) (fun c_2 => ?_)
    · exact ok_some ⟨(by omega), (by omega), (by omega)⟩
    · exact ok_some ⟨(by omega), (by omega), (by omega)⟩
theorem kC_Tokens_endOfCapitals_L4 : ∀ (n : Nat) {x2 : Int32} {x3 : Int32} {u : St} (I : IC u) (h0 : 0 ≤ x3.toInt) (h1 : x3.toInt ≤ 2000) (h2 : 0 ≤ x2.toInt) (h3 : x2.toInt ≤ 2000) (hm : (2000 - x3.toInt).toNat < n), ok (mC_Tokens_endOfCapitals_L4 n x2 x3 u) (fun r => x2.toInt ≤ r.toInt ∧ r.toInt ≤ 2000) := by
  intro n
  induction n with
  | zero => intro x2 x3 u I h0 h1 h2 h3 hm; exact absurd hm (Nat.not_lt_zero _)
  | succ n ih =>
    intro x2 x3 u I h0 h1 h2 h3 hm
    have l0 : (0 : Int32).toInt = 0 := by decide
    have l1 : (1 : Int32).toInt = 1 := by decide
    have l2000 : (2000 : Int32).toInt = 2000 := by decide
    rw [mC_Tokens_endOfCapitals_L4]
    refine ok_le (fun c_1 => ?_) (fun c_1 => ?_)
    · exact ok_some ⟨(by omega), (by omega)⟩
    · refine ok_bP (kC_Text_at_11 I) (fun r_3 z_2 => ?_)
      obtain ⟨p_4, p_5, p_6⟩ := z_2
      refine ok_bP (kC_Tokens_isCapital I) (fun r_8 z_7 => ?_)
      obtain ⟨p_9, p_10, p_11⟩ := z_7
      refine ok_eq (fun c_12 c_12' => ?_) (fun c_12 => ?_)
      · exact ok_some ⟨(by omega), (by omega)⟩
      · try have e_15 : (x2 + 1 : Int32).toInt = (x2 : Int32).toInt + (1 : Int32).toInt := by exact add_i (by omega) (by omega)
        refine ok_seq (fun y_14 h_13 => ?_)
        have h_13' : y_14.toInt = (x2 + 1 : Int32).toInt := by rw [h_13]
        try have e_18 : (x3 + 1 : Int32).toInt = (x3 : Int32).toInt + (1 : Int32).toInt := by exact add_i (by omega) (by omega)
        refine ok_seq (fun y_17 h_16 => ?_)
        have h_16' : y_17.toInt = (x3 + 1 : Int32).toInt := by rw [h_16]
        refine ok_mono (ih I (by have B_19 := IC_b I; omega) (by have B_20 := IC_b I; omega) (by have B_21 := IC_b I; omega) (by have B_22 := IC_b I; omega) (by have B_23 := IC_b I; omega)) (fun r_25 z_24 => ?_)
        obtain ⟨p_26, p_27⟩ := z_24
        exact ⟨(by omega), (by omega)⟩
theorem kC_Tokens_endOfCapitals {x1 : Int32} {u : St} (I : IC u) (h0 : 0 ≤ x1.toInt) (h1 : x1.toInt ≤ 2000) : ok (mC_Tokens_endOfCapitals x1 u) (fun r => x1.toInt ≤ r.toInt ∧ r.toInt ≤ 2000) := by
  have l0 : (0 : Int32).toInt = 0 := by decide
  have l2000 : (2000 : Int32).toInt = 2000 := by decide
  rw [mC_Tokens_endOfCapitals]
  refine ok_mono (kC_Tokens_endOfCapitals_L4 _ I (by have FUe : FU = 100000 := rfl; have B_1 := IC_b I; omega) (by have FUe : FU = 100000 := rfl; have B_2 := IC_b I; omega) (by have FUe : FU = 100000 := rfl; have B_3 := IC_b I; omega) (by have FUe : FU = 100000 := rfl; have B_4 := IC_b I; omega) (by have FUe : FU = 100000 := rfl; have B_5 := IC_b I; omega)) (fun r_7 z_6 => ?_)
  obtain ⟨p_8, p_9⟩ := z_6
  exact ⟨(by omega), (by omega)⟩
theorem kC_Tokens_keep {x1 : Int32} {x2 : Int32} {x3 : Int32} {x4 : Int32} {u : St} (I : IC u) (h0 : 0 ≤ x1.toInt) (h1 : x1.toInt ≤ 4) (h2 : 0 ≤ x2.toInt) (h3 : x2.toInt ≤ 2010) (h4 : x2.toInt ≤ x3.toInt) (h5 : x4.toInt ≤ 31) (h6 : x3.toInt ≤ 10000) (h7 : x1.toInt ≠ 4 ∨ x3.toInt = x2.toInt + 1) : okM (mC_Tokens_keep x1 x2 x3 x4 u) (fun r v => IC v) := by
  have B := IC_b I
  have l2000 : (2000 : Int32).toInt = 2000 := by decide
  have l1 : (1 : Int32).toInt = 1 := by decide
  have e := sub_i (a := x3) (b := x2) (by omega) (by omega)
  rw [mC_Tokens_keep]
  refine okM_lt (fun c => okM_some I) (fun c => ?_)
  refine okM_lt (fun c2 => ?_) (fun c2 => okM_some I)
  refine okM_bP (kC_Text_span I) (fun r hr => ?_)
  have T : tkq ((x1 <<< (16 &&& 31)) ||| r) := by
    obtain ⟨k, hk, ek⟩ := nI_of (nn_of h0).1
    obtain ⟨a, ha, ea⟩ := nI_of (nn_of h2).1
    obtain ⟨z, hz, ez⟩ := nI_of (x := x3 - x2) (nn_of (by omega)).1
    have ek' : x1.toInt = k := by rw [ek, nI_toInt hk]
    have ea' : x2.toInt = a := by rw [ea, nI_toInt ha]
    have ez' : (x3 - x2).toInt = z := by rw [ez, nI_toInt hz]
    rw [hr, ez, ea, ek]
    exact tkq_of (by omega) (by omega) (by omega) (by omega)
  refine okM_gd (inb_of (by omega) (by omega)) ?_
  refine okM_seq (fun u2 h => ?_)
  have I2 : IC u2 := by rw [h]; exact IC_a7 I T
  have g : (u2.1 3).toInt = (u.1 3).toInt := by rw [h]; rfl
  refine okM_seq (fun u3 h' => ?_)
  have e3 : (u2.1 3 + 1 : Int32).toInt = (u2.1 3).toInt + (1 : Int32).toInt := add_i (by omega) (by omega)
  exact okM_some (by rw [h']; exact IC_s3 I2 (by omega) (by omega))
theorem kC_Tokens_endOfName_L4 : ∀ (n : Nat) {x2 : Int32} {x3 : Int32} {u : St} (I : IC u) (h0 : 0 ≤ x3.toInt) (h1 : x3.toInt ≤ 2000) (h2 : 0 ≤ x2.toInt) (h3 : x2.toInt ≤ 2000) (hm : (2000 - x3.toInt).toNat < n), ok (mC_Tokens_endOfName_L4 n x2 x3 u) (fun r => x2.toInt ≤ r.toInt ∧ r.toInt ≤ 2000) := by
  intro n
  induction n with
  | zero => intro x2 x3 u I h0 h1 h2 h3 hm; exact absurd hm (Nat.not_lt_zero _)
  | succ n ih =>
    intro x2 x3 u I h0 h1 h2 h3 hm
    have l0 : (0 : Int32).toInt = 0 := by decide
    have l1 : (1 : Int32).toInt = 1 := by decide
    have l2000 : (2000 : Int32).toInt = 2000 := by decide
    rw [mC_Tokens_endOfName_L4]
    refine ok_le (fun c_1 => ?_) (fun c_1 => ?_)
    · exact ok_some ⟨(by omega), (by omega)⟩
    · refine ok_bP (kC_Text_at_11 I) (fun r_3 z_2 => ?_)
      obtain ⟨p_4, p_5, p_6⟩ := z_2
      refine ok_bP (kC_Text_isOfName I) (fun r_8 z_7 => ?_)
      obtain ⟨p_9, p_10, p_11⟩ := z_7
      refine ok_eq (fun c_12 c_12' => ?_) (fun c_12 => ?_)
      · exact ok_some ⟨(by omega), (by omega)⟩
      · try have e_15 : (x2 + 1 : Int32).toInt = (x2 : Int32).toInt + (1 : Int32).toInt := by exact add_i (by omega) (by omega)
        refine ok_seq (fun y_14 h_13 => ?_)
        have h_13' : y_14.toInt = (x2 + 1 : Int32).toInt := by rw [h_13]
        try have e_18 : (x3 + 1 : Int32).toInt = (x3 : Int32).toInt + (1 : Int32).toInt := by exact add_i (by omega) (by omega)
        refine ok_seq (fun y_17 h_16 => ?_)
        have h_16' : y_17.toInt = (x3 + 1 : Int32).toInt := by rw [h_16]
        refine ok_mono (ih I (by have B_19 := IC_b I; omega) (by have B_20 := IC_b I; omega) (by have B_21 := IC_b I; omega) (by have B_22 := IC_b I; omega) (by have B_23 := IC_b I; omega)) (fun r_25 z_24 => ?_)
        obtain ⟨p_26, p_27⟩ := z_24
        exact ⟨(by omega), (by omega)⟩
theorem kC_Tokens_endOfName {x1 : Int32} {u : St} (I : IC u) (h0 : 0 ≤ x1.toInt) (h1 : x1.toInt ≤ 2000) : ok (mC_Tokens_endOfName x1 u) (fun r => x1.toInt ≤ r.toInt ∧ r.toInt ≤ 2000) := by
  have l0 : (0 : Int32).toInt = 0 := by decide
  have l2000 : (2000 : Int32).toInt = 2000 := by decide
  rw [mC_Tokens_endOfName]
  refine ok_mono (kC_Tokens_endOfName_L4 _ I (by have FUe : FU = 100000 := rfl; have B_1 := IC_b I; omega) (by have FUe : FU = 100000 := rfl; have B_2 := IC_b I; omega) (by have FUe : FU = 100000 := rfl; have B_3 := IC_b I; omega) (by have FUe : FU = 100000 := rfl; have B_4 := IC_b I; omega) (by have FUe : FU = 100000 := rfl; have B_5 := IC_b I; omega)) (fun r_7 z_6 => ?_)
  obtain ⟨p_8, p_9⟩ := z_6
  exact ⟨(by omega), (by omega)⟩
theorem kC_Tokens_endOfDigits_L4 : ∀ (n : Nat) {x2 : Int32} {x3 : Int32} {u : St} (I : IC u) (h0 : 0 ≤ x3.toInt) (h1 : x3.toInt ≤ 2000) (h2 : 0 ≤ x2.toInt) (h3 : x2.toInt ≤ 2000) (hm : (2000 - x3.toInt).toNat < n), ok (mC_Tokens_endOfDigits_L4 n x2 x3 u) (fun r => x2.toInt ≤ r.toInt ∧ r.toInt ≤ 2000) := by
  intro n
  induction n with
  | zero => intro x2 x3 u I h0 h1 h2 h3 hm; exact absurd hm (Nat.not_lt_zero _)
  | succ n ih =>
    intro x2 x3 u I h0 h1 h2 h3 hm
    have l0 : (0 : Int32).toInt = 0 := by decide
    have l1 : (1 : Int32).toInt = 1 := by decide
    have l2000 : (2000 : Int32).toInt = 2000 := by decide
    rw [mC_Tokens_endOfDigits_L4]
    refine ok_le (fun c_1 => ?_) (fun c_1 => ?_)
    · exact ok_some ⟨(by omega), (by omega)⟩
    · refine ok_bP (kC_Text_at_11 I) (fun r_3 z_2 => ?_)
      obtain ⟨p_4, p_5, p_6⟩ := z_2
      refine ok_bP (kC_Text_isDigit I) (fun r_8 z_7 => ?_)
      obtain ⟨p_9, p_10, p_11⟩ := z_7
      refine ok_eq (fun c_12 c_12' => ?_) (fun c_12 => ?_)
      · exact ok_some ⟨(by omega), (by omega)⟩
      · try have e_15 : (x2 + 1 : Int32).toInt = (x2 : Int32).toInt + (1 : Int32).toInt := by exact add_i (by omega) (by omega)
        refine ok_seq (fun y_14 h_13 => ?_)
        have h_13' : y_14.toInt = (x2 + 1 : Int32).toInt := by rw [h_13]
        try have e_18 : (x3 + 1 : Int32).toInt = (x3 : Int32).toInt + (1 : Int32).toInt := by exact add_i (by omega) (by omega)
        refine ok_seq (fun y_17 h_16 => ?_)
        have h_16' : y_17.toInt = (x3 + 1 : Int32).toInt := by rw [h_16]
        refine ok_mono (ih I (by have B_19 := IC_b I; omega) (by have B_20 := IC_b I; omega) (by have B_21 := IC_b I; omega) (by have B_22 := IC_b I; omega) (by have B_23 := IC_b I; omega)) (fun r_25 z_24 => ?_)
        obtain ⟨p_26, p_27⟩ := z_24
        exact ⟨(by omega), (by omega)⟩
theorem kC_Tokens_endOfDigits {x1 : Int32} {u : St} (I : IC u) (h0 : 0 ≤ x1.toInt) (h1 : x1.toInt ≤ 2000) : ok (mC_Tokens_endOfDigits x1 u) (fun r => x1.toInt ≤ r.toInt ∧ r.toInt ≤ 2000) := by
  have l0 : (0 : Int32).toInt = 0 := by decide
  have l2000 : (2000 : Int32).toInt = 2000 := by decide
  rw [mC_Tokens_endOfDigits]
  refine ok_mono (kC_Tokens_endOfDigits_L4 _ I (by have FUe : FU = 100000 := rfl; have B_1 := IC_b I; omega) (by have FUe : FU = 100000 := rfl; have B_2 := IC_b I; omega) (by have FUe : FU = 100000 := rfl; have B_3 := IC_b I; omega) (by have FUe : FU = 100000 := rfl; have B_4 := IC_b I; omega) (by have FUe : FU = 100000 := rfl; have B_5 := IC_b I; omega)) (fun r_7 z_6 => ?_)
  obtain ⟨p_8, p_9⟩ := z_6
  exact ⟨(by omega), (by omega)⟩
theorem kC_Text_put {x1 : Int32} {x2 : Int32} {u : St} (I : IC u) : ok (mC_Text_put x1 x2 u) (fun v => IC v) := by
  have l0 : (0 : Int32).toInt = 0 := by decide
  have l5 : (5 : Int32).toInt = 5 := by decide
  rw [mC_Text_put]
  refine ok_lt (fun c_1 => ?_) (fun c_1 => ?_)
  · exact ok_some I
  · refine ok_le (fun c_2 => ?_) (fun c_2 => ?_)
    · exact ok_some I
    · refine ok_gd (inb_of (by have B_3 := IC_b I; omega) (by have B_4 := IC_b I; omega)) ?_
      refine ok_seq (fun u_6 h_5 => ?_)
      have I_u_6 : IC u_6 := by rw [h_5]; exact I
      exact ok_some I_u_6
theorem kC_Tokens_cutText_L7 : ∀ (n : Nat) {x1 : Int32} {x2 : Int32} {x3 : Int32} {x4 : Int32} {u : St} (I : IC u) (h0 : 0 ≤ x1.toInt) (h1 : x1.toInt ≤ 2001) (h2 : 0 ≤ x4.toInt) (h3 : x4.toInt ≤ 2000) (h4 : x2.toInt = x1.toInt + x4.toInt) (hm : (2000 - x4.toInt).toNat < n), okM (mC_Tokens_cutText_L7 n x1 x2 x3 x4 u) (fun r v => IC v) := by
  intro n
  induction n with
  | zero => intro x1 x2 x3 x4 u I h0 h1 h2 h3 h4 hm; exact absurd hm (Nat.not_lt_zero _)
  | succ n ih =>
    intro x1 x2 x3 x4 u I h0 h1 h2 h3 h4 hm
    have lm1 : (-1 : Int32).toInt = -1 := by decide
    have l0 : (0 : Int32).toInt = 0 := by decide
    have l1 : (1 : Int32).toInt = 1 := by decide
    have l3 : (3 : Int32).toInt = 3 := by decide
    have l4 : (4 : Int32).toInt = 4 := by decide
    have l31 : (31 : Int32).toInt = 31 := by decide
    have l32 : (32 : Int32).toInt = 32 := by decide
    have l39 : (39 : Int32).toInt = 39 := by decide
    have l126 : (126 : Int32).toInt = 126 := by decide
    have l2000 : (2000 : Int32).toInt = 2000 := by decide
    have l2001 : (2001 : Int32).toInt = 2001 := by decide
    have l2010 : (2010 : Int32).toInt = 2010 := by decide
    have l10000 : (10000 : Int32).toInt = 10000 := by decide
    rw [mC_Tokens_cutText_L7]
    refine okM_le (fun c_1 => ?_) (fun c_1 => ?_)
    · exact okM_some I
    · refine okM_bP (kC_Text_at_11 I) (fun r_3 z_2 => ?_)
      obtain ⟨p_4, p_5, p_6⟩ := z_2
      refine okM_lt (fun c_7 => ?_) (fun c_7 => ?_)
      · exact okM_some I
      · refine okM_le (fun c_8 => ?_) (fun c_8 => ?_)
        · refine okM_eq (fun c_9 c_9' => ?_) (fun c_9 => ?_)
          · try have e_12 : (x3 + 1 : Int32).toInt = (x3 : Int32).toInt + (1 : Int32).toInt := by exact add_i (by omega) (by omega)
            refine okM_seq (fun y_11 h_10 => ?_)
            have h_10' : y_11.toInt = (x3 + 1 : Int32).toInt := by rw [h_10]
            refine okM_bP (kC_Text_at_11 I) (fun r_14 z_13 => ?_)
            obtain ⟨p_15, p_16, p_17⟩ := z_13
            refine okM_eq (fun c_18 c_18' => ?_) (fun c_18 => ?_)
            · rw [mC_Tokens_cutText_J82]
              refine okM_bP (kC_Text_put I) (fun u_20 z_19 => ?_)
              have I_u_20 := z_19
              try have e_23 : (x2 + 1 : Int32).toInt = (x2 : Int32).toInt + (1 : Int32).toInt := by exact add_i (by omega) (by omega)
              refine okM_seq (fun y_22 h_21 => ?_)
              have h_21' : y_22.toInt = (x2 + 1 : Int32).toInt := by rw [h_21]
              try have e_26 : (y_11 + 1 : Int32).toInt = (y_11 : Int32).toInt + (1 : Int32).toInt := by exact add_i (by omega) (by omega)
              refine okM_seq (fun y_25 h_24 => ?_)
              have h_24' : y_25.toInt = (y_11 + 1 : Int32).toInt := by rw [h_24]
              try have e_29 : (x4 + 1 : Int32).toInt = (x4 : Int32).toInt + (1 : Int32).toInt := by exact add_i (by omega) (by omega)
              refine okM_seq (fun y_28 h_27 => ?_)
              have h_27' : y_28.toInt = (x4 + 1 : Int32).toInt := by rw [h_27]
              refine okM_mono (ih I_u_20 (by have B_30 := IC_b I_u_20; omega) (by have B_31 := IC_b I_u_20; omega) (by have B_32 := IC_b I_u_20; omega) (by have B_33 := IC_b I_u_20; omega) (by have B_34 := IC_b I_u_20; omega) (by have B_35 := IC_b I_u_20; omega)) (fun r_37 u_38 z_36 => ?_)
              have I_u_38 := z_36
              exact I_u_38
            · refine okM_bM (kC_Tokens_keep I (by have FUe : FU = 100000 := rfl; have B_40 := IC_b I; omega) (by have FUe : FU = 100000 := rfl; have B_41 := IC_b I; omega) (by have FUe : FU = 100000 := rfl; have B_42 := IC_b I; omega) (by have FUe : FU = 100000 := rfl; have B_43 := IC_b I; omega) (by have FUe : FU = 100000 := rfl; have B_44 := IC_b I; omega) (by have FUe : FU = 100000 := rfl; have B_45 := IC_b I; omega) (by have FUe : FU = 100000 := rfl; have B_46 := IC_b I; omega) (by have FUe : FU = 100000 := rfl; have B_47 := IC_b I; omega)) (fun r_48 u_49 z_39 => ?_)
              have I_u_49 := z_39
              refine okM_le (fun c_50 => ?_) (fun c_50 => ?_)
              · exact okM_some I_u_49
              · exact okM_some I_u_49
          · rw [mC_Tokens_cutText_J82]
            refine okM_bP (kC_Text_put I) (fun u_52 z_51 => ?_)
            have I_u_52 := z_51
            try have e_55 : (x2 + 1 : Int32).toInt = (x2 : Int32).toInt + (1 : Int32).toInt := by exact add_i (by omega) (by omega)
            refine okM_seq (fun y_54 h_53 => ?_)
            have h_53' : y_54.toInt = (x2 + 1 : Int32).toInt := by rw [h_53]
            try have e_58 : (x3 + 1 : Int32).toInt = (x3 : Int32).toInt + (1 : Int32).toInt := by exact add_i (by omega) (by omega)
            refine okM_seq (fun y_57 h_56 => ?_)
            have h_56' : y_57.toInt = (x3 + 1 : Int32).toInt := by rw [h_56]
            try have e_61 : (x4 + 1 : Int32).toInt = (x4 : Int32).toInt + (1 : Int32).toInt := by exact add_i (by omega) (by omega)
            refine okM_seq (fun y_60 h_59 => ?_)
            have h_59' : y_60.toInt = (x4 + 1 : Int32).toInt := by rw [h_59]
            refine okM_mono (ih I_u_52 (by have B_62 := IC_b I_u_52; omega) (by have B_63 := IC_b I_u_52; omega) (by have B_64 := IC_b I_u_52; omega) (by have B_65 := IC_b I_u_52; omega) (by have B_66 := IC_b I_u_52; omega) (by have B_67 := IC_b I_u_52; omega)) (fun r_69 u_70 z_68 => ?_)
            have I_u_70 := z_68
            exact I_u_70
        · exact okM_some I
theorem kC_Tokens_cutText {x1 : Int32} {u : St} (I : IC u) (h0 : 0 ≤ x1.toInt) (h1 : x1.toInt ≤ 2001) : okM (mC_Tokens_cutText x1 u) (fun r v => IC v) := by
  have l0 : (0 : Int32).toInt = 0 := by decide
  have l2000 : (2000 : Int32).toInt = 2000 := by decide
  have l2001 : (2001 : Int32).toInt = 2001 := by decide
  rw [mC_Tokens_cutText]
  refine okM_mono (kC_Tokens_cutText_L7 _ I (by have FUe : FU = 100000 := rfl; have B_1 := IC_b I; omega) (by have FUe : FU = 100000 := rfl; have B_2 := IC_b I; omega) (by have FUe : FU = 100000 := rfl; have B_3 := IC_b I; omega) (by have FUe : FU = 100000 := rfl; have B_4 := IC_b I; omega) (by have FUe : FU = 100000 := rfl; have B_5 := IC_b I; omega) (by have FUe : FU = 100000 := rfl; have B_6 := IC_b I; omega)) (fun r_8 u_9 z_7 => ?_)
  have I_u_9 := z_7
  exact I_u_9
theorem kC_String_isLatin1 {k0 : Nat} {u : St} (I : IC u) (h0 : stok k0 = true) : ok (mC_String_isLatin1 k0 u) (fun r => r = 1) := by
  rw [mC_String_isLatin1]
  exact ok_gd h0 (ok_some rfl)
theorem kC_String_coder {k0 : Nat} {u : St} (I : IC u) (h0 : stok k0 = true) : ok (mC_String_coder k0 u) (fun r => r = 0) := by
  rw [mC_String_coder]
  exact ok_gd h0 (ok_some rfl)
theorem kC_String_length {k0 : Nat} {u : St} (I : IC u) (h0 : stok k0 = true) : ok (mC_String_length k0 u) (fun r => r.toInt = (lnK k0 : Int) ∧ r.toInt ≤ 50 ∧ r = nI (lnK k0)) := by
  have b : lnK k0 ≤ 50 := lnK_le (of_decide_eq_true h0)
  rw [mC_String_length]
  refine ok_gd h0 (ok_gd h0 (ok_gd h0 (ok_bP (kC_String_coder I h0) (fun r hr => ok_some ?_))))
  subst hr
  rw [pk_shrN (by omega) _ 0 (by decide), Nat.pow_zero, Nat.div_one, nI_toInt (by omega)]
  exact ⟨rfl, by omega, rfl⟩
theorem kC_StringLatin1_canEncode {x0 : Int32} {u : St} (I : IC u) : ok (mC_StringLatin1_canEncode x0 u) (fun r => 0 ≤ r.toInt ∧ r.toInt ≤ 1) := by
  have l0 : (0 : Int32).toInt = 0 := by decide
  have l1 : (1 : Int32).toInt = 1 := by decide
  have l255 : (255 : Int32).toInt = 255 := by decide
  rw [mC_StringLatin1_canEncode]
  refine ok_lt (fun c_1 => ?_) (fun c_1 => ?_)
  · exact ok_some ⟨(by omega), (by omega)⟩
  · refine ok_lt (fun c_2 => ?_) (fun c_2 => ?_)
    · exact ok_some ⟨(by omega), (by omega)⟩
    · exact ok_some ⟨(by omega), (by omega)⟩
theorem kC_StringLatin1_indexOfChar_L7 : ∀ (n : Nat) {k0 : Nat} {x3 : Int32} {x4 : Int32} {x5 : Int32} {u : St} (I : IC u) (h0 : stok k0 = true) (h1 : 0 ≤ x5.toInt) (h2 : x5.toInt ≤ 50) (h3 : x3.toInt ≤ (lnK k0 : Int)) (h4 : (lnK k0 : Int) ≤ 50) (hm : (50 - x5.toInt).toNat < n), ok (mC_StringLatin1_indexOfChar_L7 n k0 x3 x4 x5 u) (fun r => True) := by
  intro n
  induction n with
  | zero => intro k0 x3 x4 x5 u I h0 h1 h2 h3 h4 hm; exact absurd hm (Nat.not_lt_zero _)
  | succ n ih =>
    intro k0 x3 x4 x5 u I h0 h1 h2 h3 h4 hm
    have lm1 : (-1 : Int32).toInt = -1 := by decide
    have l0 : (0 : Int32).toInt = 0 := by decide
    have l1 : (1 : Int32).toInt = 1 := by decide
    have l50 : (50 : Int32).toInt = 50 := by decide
    rw [mC_StringLatin1_indexOfChar_L7]
    refine ok_le (fun c_1 => ?_) (fun c_1 => ?_)
    · exact ok_some trivial
    · refine ok_gd h0 ?_
      refine ok_gd (inb_of (by have B_2 := IC_b I; omega) (by have B_3 := IC_b I; omega)) ?_
      refine ok_eq (fun c_4 c_4' => ?_) (fun c_4 => ?_)
      · exact ok_some trivial
      · try have e_7 : (x5 + 1 : Int32).toInt = (x5 : Int32).toInt + (1 : Int32).toInt := by exact add_i (by omega) (by omega)
        refine ok_seq (fun y_6 h_5 => ?_)
        have h_5' : y_6.toInt = (x5 + 1 : Int32).toInt := by rw [h_5]
        refine ok_mono (ih I h0 (by have B_8 := IC_b I; omega) (by have B_9 := IC_b I; omega) (by have B_10 := IC_b I; omega) (by have B_11 := IC_b I; omega) (by have B_12 := IC_b I; omega)) (fun r_14 z_13 => ?_)
        exact trivial
theorem kC_StringLatin1_indexOfChar {k0 : Nat} {x1 : Int32} {x2 : Int32} {x3 : Int32} {u : St} (I : IC u) (h0 : stok k0 = true) (h1 : 0 ≤ x2.toInt) (h2 : x2.toInt ≤ 50) (h3 : x3.toInt ≤ (lnK k0 : Int)) (h4 : (lnK k0 : Int) ≤ 50) : ok (mC_StringLatin1_indexOfChar k0 x1 x2 x3 u) (fun r => True) := by
  have l0 : (0 : Int32).toInt = 0 := by decide
  have l50 : (50 : Int32).toInt = 50 := by decide
  rw [mC_StringLatin1_indexOfChar]
  refine ok_seq (fun y_2 h_1 => ?_)
  have h_1' : y_2.toInt = ((i2b x1) : Int32).toInt := by rw [h_1]
  refine ok_mono (kC_StringLatin1_indexOfChar_L7 _ I h0 (by have FUe : FU = 100000 := rfl; have B_3 := IC_b I; omega) (by have FUe : FU = 100000 := rfl; have B_4 := IC_b I; omega) (by have FUe : FU = 100000 := rfl; have B_5 := IC_b I; omega) (by have FUe : FU = 100000 := rfl; have B_6 := IC_b I; omega) (by have FUe : FU = 100000 := rfl; have B_7 := IC_b I; omega)) (fun r_9 z_8 => ?_)
  exact trivial
theorem kC_StringLatin1_indexOf {k0 : Nat} {x1 : Int32} {x2 : Int32} {x3 : Int32} {u : St} (I : IC u) (h0 : stok k0 = true) (h1 : x2 = 0) (h2 : x3 = nI (lnK k0)) : ok (mC_StringLatin1_indexOf k0 x1 x2 x3 u) (fun r => True) := by
  have b : lnK k0 ≤ 50 := lnK_le (of_decide_eq_true h0)
  have z0 : ((0 : Int32)).toInt = 0 := by decide
  have l3 : x3.toInt = lnK k0 := by rw [h2, nI_toInt (by omega)]
  subst h1
  rw [mC_StringLatin1_indexOf]
  refine ok_bP (kC_StringLatin1_canEncode I) (fun r hr => ?_)
  refine ok_eq (fun c c' => ok_some trivial) (fun c => ?_)
  rw [if_neg (by decide), if_neg (by rw [h2]; exact Int32.lt_irrefl _)]
  refine ok_seq (fun y2 hy => ok_gd h0 (ok_seq (fun y3 hy3 => ?_)))
  subst hy
  subst hy3
  refine ok_lt (fun c => ?_) (fun c => ok_some trivial)
  exact ok_bP (kC_StringLatin1_indexOfChar I h0 (by omega) (by omega) (by omega) (by omega)) (fun r hr => ok_some trivial)
theorem kC_String_indexOf_s_II {k0 : Nat} {x1 : Int32} {x2 : Int32} {u : St} (I : IC u) (h0 : stok k0 = true) (h1 : x2 = 0) : ok (mC_String_indexOf_s_II k0 x1 x2 u) (fun r => True) := by
  rw [mC_String_indexOf_s_II]
  refine ok_gd h0 (ok_bP (kC_String_isLatin1 I h0) (fun r hr => ?_))
  subst hr
  refine ok_neg (by decide) (ok_gd h0 (ok_gd h0 (ok_bP (kC_String_length I h0) (fun r hr => ?_))))
  exact ok_bP (kC_StringLatin1_indexOf I h0 h1 hr.2.2) (fun r hr => ok_some trivial)
theorem kC_String_indexOf_s_I {k0 : Nat} {x1 : Int32} {u : St} (I : IC u) (h0 : stok k0 = true) : ok (mC_String_indexOf_s_I k0 x1 u) (fun r => True) := by
  rw [mC_String_indexOf_s_I]
  exact ok_gd h0 (ok_bP (kC_String_indexOf_s_II I h0 rfl) (fun r hr => ok_some trivial))
theorem kC_Tokens_signSize {x1 : Int32} {u : St} (I : IC u) : ok (mC_Tokens_signSize x1 u) (fun r => 0 ≤ r.toInt ∧ r.toInt ≤ 2) := by
  have l0 : (0 : Int32).toInt = 0 := by decide
  have l1 : (1 : Int32).toInt = 1 := by decide
  have l2 : (2 : Int32).toInt = 2 := by decide
  have l60 : (60 : Int32).toInt = 60 := by decide
  have l61 : (61 : Int32).toInt = 61 := by decide
  have l62 : (62 : Int32).toInt = 62 := by decide
  have l124 : (124 : Int32).toInt = 124 := by decide
  rw [mC_Tokens_signSize]
  refine ok_bP (kC_Text_at_11 I) (fun r_2 z_1 => ?_)
  obtain ⟨p_3, p_4, p_5⟩ := z_1
  try have e_6 : (x1 + 1 : Int32).toInt = (x1 : Int32).toInt + (1 : Int32).toInt := by exact add_i (by omega) (by omega)
  refine ok_bP (kC_Text_at_11 I) (fun r_8 z_7 => ?_)
  obtain ⟨p_9, p_10, p_11⟩ := z_7
  refine ok_eq (fun c_12 c_12' => ?_) (fun c_12 => ?_)
  · refine ok_eq (fun c_13 c_13' => ?_) (fun c_13 => ?_)
    · rw [mC_Tokens_signSize_J67]
      refine ok_neg (by decide) ?_
      exact ok_some ⟨(by omega), (by omega)⟩
    · refine ok_eq (fun c_14 c_14' => ?_) (fun c_14 => ?_)
      · rw [mC_Tokens_signSize_J67]
        refine ok_neg (by decide) ?_
        exact ok_some ⟨(by omega), (by omega)⟩
      · rw [mC_Tokens_signSize_J38]
        refine ok_eq (fun c_15 c_15' => ?_) (fun c_15 => ?_)
        · refine ok_eq (fun c_16 c_16' => ?_) (fun c_16 => ?_)
          · rw [mC_Tokens_signSize_J67]
            refine ok_neg (by decide) ?_
            exact ok_some ⟨(by omega), (by omega)⟩
          · rw [mC_Tokens_signSize_J50]
            refine ok_eq (fun c_17 c_17' => ?_) (fun c_17 => ?_)
            · refine ok_eq (fun c_18 c_18' => ?_) (fun c_18 => ?_)
              · rw [mC_Tokens_signSize_J67]
                refine ok_neg (by decide) ?_
                exact ok_some ⟨(by omega), (by omega)⟩
              · rw [mC_Tokens_signSize_J67]
                refine ok_pos (by decide) ?_
                refine ok_gd (by decide) ?_
                refine ok_bP (kC_String_indexOf_s_I I (by decide)) (fun r_20 z_19 => ?_)
                refine ok_lt (fun c_21 => ?_) (fun c_21 => ?_)
                · exact ok_some ⟨(by omega), (by omega)⟩
                · exact ok_some ⟨(by omega), (by omega)⟩
            · rw [mC_Tokens_signSize_J67]
              refine ok_pos (by decide) ?_
              refine ok_gd (by decide) ?_
              refine ok_bP (kC_String_indexOf_s_I I (by decide)) (fun r_23 z_22 => ?_)
              refine ok_lt (fun c_24 => ?_) (fun c_24 => ?_)
              · exact ok_some ⟨(by omega), (by omega)⟩
              · exact ok_some ⟨(by omega), (by omega)⟩
        · rw [mC_Tokens_signSize_J50]
          refine ok_eq (fun c_25 c_25' => ?_) (fun c_25 => ?_)
          · refine ok_eq (fun c_26 c_26' => ?_) (fun c_26 => ?_)
            · rw [mC_Tokens_signSize_J67]
              refine ok_neg (by decide) ?_
              exact ok_some ⟨(by omega), (by omega)⟩
            · rw [mC_Tokens_signSize_J67]
              refine ok_pos (by decide) ?_
              refine ok_gd (by decide) ?_
              refine ok_bP (kC_String_indexOf_s_I I (by decide)) (fun r_28 z_27 => ?_)
              refine ok_lt (fun c_29 => ?_) (fun c_29 => ?_)
              · exact ok_some ⟨(by omega), (by omega)⟩
              · exact ok_some ⟨(by omega), (by omega)⟩
          · rw [mC_Tokens_signSize_J67]
            refine ok_pos (by decide) ?_
            refine ok_gd (by decide) ?_
            refine ok_bP (kC_String_indexOf_s_I I (by decide)) (fun r_31 z_30 => ?_)
            refine ok_lt (fun c_32 => ?_) (fun c_32 => ?_)
            · exact ok_some ⟨(by omega), (by omega)⟩
            · exact ok_some ⟨(by omega), (by omega)⟩
  · rw [mC_Tokens_signSize_J38]
    refine ok_eq (fun c_33 c_33' => ?_) (fun c_33 => ?_)
    · refine ok_eq (fun c_34 c_34' => ?_) (fun c_34 => ?_)
      · rw [mC_Tokens_signSize_J67]
        refine ok_neg (by decide) ?_
        exact ok_some ⟨(by omega), (by omega)⟩
      · rw [mC_Tokens_signSize_J50]
        refine ok_eq (fun c_35 c_35' => ?_) (fun c_35 => ?_)
        · refine ok_eq (fun c_36 c_36' => ?_) (fun c_36 => ?_)
          · rw [mC_Tokens_signSize_J67]
            refine ok_neg (by decide) ?_
            exact ok_some ⟨(by omega), (by omega)⟩
          · rw [mC_Tokens_signSize_J67]
            refine ok_pos (by decide) ?_
            refine ok_gd (by decide) ?_
            refine ok_bP (kC_String_indexOf_s_I I (by decide)) (fun r_38 z_37 => ?_)
            refine ok_lt (fun c_39 => ?_) (fun c_39 => ?_)
            · exact ok_some ⟨(by omega), (by omega)⟩
            · exact ok_some ⟨(by omega), (by omega)⟩
        · rw [mC_Tokens_signSize_J67]
          refine ok_pos (by decide) ?_
          refine ok_gd (by decide) ?_
          refine ok_bP (kC_String_indexOf_s_I I (by decide)) (fun r_41 z_40 => ?_)
          refine ok_lt (fun c_42 => ?_) (fun c_42 => ?_)
          · exact ok_some ⟨(by omega), (by omega)⟩
          · exact ok_some ⟨(by omega), (by omega)⟩
    · rw [mC_Tokens_signSize_J50]
      refine ok_eq (fun c_43 c_43' => ?_) (fun c_43 => ?_)
      · refine ok_eq (fun c_44 c_44' => ?_) (fun c_44 => ?_)
        · rw [mC_Tokens_signSize_J67]
          refine ok_neg (by decide) ?_
          exact ok_some ⟨(by omega), (by omega)⟩
        · rw [mC_Tokens_signSize_J67]
          refine ok_pos (by decide) ?_
          refine ok_gd (by decide) ?_
          refine ok_bP (kC_String_indexOf_s_I I (by decide)) (fun r_46 z_45 => ?_)
          refine ok_lt (fun c_47 => ?_) (fun c_47 => ?_)
          · exact ok_some ⟨(by omega), (by omega)⟩
          · exact ok_some ⟨(by omega), (by omega)⟩
      · rw [mC_Tokens_signSize_J67]
        refine ok_pos (by decide) ?_
        refine ok_gd (by decide) ?_
        refine ok_bP (kC_String_indexOf_s_I I (by decide)) (fun r_49 z_48 => ?_)
        refine ok_lt (fun c_50 => ?_) (fun c_50 => ?_)
        · exact ok_some ⟨(by omega), (by omega)⟩
        · exact ok_some ⟨(by omega), (by omega)⟩
theorem kC_Tokens_cutToken {x1 : Int32} {u : St} (I : IC u) (h0 : 0 ≤ x1.toInt) (h1 : x1.toInt ≤ 2000) : okM (mC_Tokens_cutToken x1 u) (fun r v => IC v) := by
  have lm1 : (-1 : Int32).toInt = -1 := by decide
  have l0 : (0 : Int32).toInt = 0 := by decide
  have l1 : (1 : Int32).toInt = 1 := by decide
  have l2 : (2 : Int32).toInt = 2 := by decide
  have l4 : (4 : Int32).toInt = 4 := by decide
  have l16 : (16 : Int32).toInt = 16 := by decide
  have l18 : (18 : Int32).toInt = 18 := by decide
  have l31 : (31 : Int32).toInt = 31 := by decide
  have l36 : (36 : Int32).toInt = 36 := by decide
  have l39 : (39 : Int32).toInt = 39 := by decide
  have l49 : (49 : Int32).toInt = 49 := by decide
  have l57 : (57 : Int32).toInt = 57 := by decide
  have l2000 : (2000 : Int32).toInt = 2000 := by decide
  have l2001 : (2001 : Int32).toInt = 2001 := by decide
  have l2010 : (2010 : Int32).toInt = 2010 := by decide
  have l10000 : (10000 : Int32).toInt = 10000 := by decide
  rw [mC_Tokens_cutToken]
  refine okM_bP (kC_Text_at_11 I) (fun r_2 z_1 => ?_)
  obtain ⟨p_3, p_4, p_5⟩ := z_1
  refine okM_bP (kC_Tokens_isCapital I) (fun r_7 z_6 => ?_)
  obtain ⟨p_8, p_9, p_10⟩ := z_6
  refine okM_eq (fun c_11 c_11' => ?_) (fun c_11 => ?_)
  · refine okM_bP (kC_Text_isSmall I) (fun r_13 z_12 => ?_)
    obtain ⟨p_14, p_15, p_16⟩ := z_12
    refine okM_eq (fun c_17 c_17' => ?_) (fun c_17 => ?_)
    · refine okM_bP (kC_Text_isDigit I) (fun r_19 z_18 => ?_)
      obtain ⟨p_20, p_21, p_22⟩ := z_18
      refine okM_eq (fun c_23 c_23' => ?_) (fun c_23 => ?_)
      · refine okM_eq (fun c_24 c_24' => ?_) (fun c_24 => ?_)
        · try have e_25 : (x1 + 1 : Int32).toInt = (x1 : Int32).toInt + (1 : Int32).toInt := by exact add_i (by omega) (by omega)
          refine okM_bM (kC_Tokens_cutText I (by have FUe : FU = 100000 := rfl; have B_27 := IC_b I; omega) (by have FUe : FU = 100000 := rfl; have B_28 := IC_b I; omega)) (fun r_29 u_30 z_26 => ?_)
          have I_u_30 := z_26
          exact okM_some I_u_30
        · refine okM_eq (fun c_31 c_31' => ?_) (fun c_31 => ?_)
          · try have e_32 : (x1 + 1 : Int32).toInt = (x1 : Int32).toInt + (1 : Int32).toInt := by exact add_i (by omega) (by omega)
            refine okM_bP (kC_Text_at_11 I) (fun r_34 z_33 => ?_)
            obtain ⟨p_35, p_36, p_37⟩ := z_33
            refine okM_lt (fun c_38 => ?_) (fun c_38 => ?_)
            · exact okM_some I
            · refine okM_le (fun c_39 => ?_) (fun c_39 => ?_)
              · try have e_40 : (x1 + 1 : Int32).toInt = (x1 : Int32).toInt + (1 : Int32).toInt := by exact add_i (by omega) (by omega)
                try have e_41 : (x1 + 2 : Int32).toInt = (x1 : Int32).toInt + (2 : Int32).toInt := by exact add_i (by omega) (by omega)
                refine okM_bM (kC_Tokens_keep I (by have FUe : FU = 100000 := rfl; have B_43 := IC_b I; omega) (by have FUe : FU = 100000 := rfl; have B_44 := IC_b I; omega) (by have FUe : FU = 100000 := rfl; have B_45 := IC_b I; omega) (by have FUe : FU = 100000 := rfl; have B_46 := IC_b I; omega) (by have FUe : FU = 100000 := rfl; have B_47 := IC_b I; omega) (by have FUe : FU = 100000 := rfl; have B_48 := IC_b I; omega) (by have FUe : FU = 100000 := rfl; have B_49 := IC_b I; omega) (by have FUe : FU = 100000 := rfl; have B_50 := IC_b I; omega)) (fun r_51 u_52 z_42 => ?_)
                have I_u_52 := z_42
                exact okM_some I_u_52
              · exact okM_some I
          · refine okM_bP (kC_Tokens_signSize I) (fun r_54 z_53 => ?_)
            obtain ⟨p_55, p_56⟩ := z_53
            refine okM_eq (fun c_57 c_57' => ?_) (fun c_57 => ?_)
            · exact okM_some I
            · try have e_58 : (x1 + r_54 : Int32).toInt = (x1 : Int32).toInt + (r_54 : Int32).toInt := by exact add_i (by omega) (by omega)
              refine okM_bM (kC_Tokens_keep I (by have FUe : FU = 100000 := rfl; have B_60 := IC_b I; omega) (by have FUe : FU = 100000 := rfl; have B_61 := IC_b I; omega) (by have FUe : FU = 100000 := rfl; have B_62 := IC_b I; omega) (by have FUe : FU = 100000 := rfl; have B_63 := IC_b I; omega) (by have FUe : FU = 100000 := rfl; have B_64 := IC_b I; omega) (by have FUe : FU = 100000 := rfl; have B_65 := IC_b I; omega) (by have FUe : FU = 100000 := rfl; have B_66 := IC_b I; omega) (by have FUe : FU = 100000 := rfl; have B_67 := IC_b I; omega)) (fun r_68 u_69 z_59 => ?_)
              have I_u_69 := z_59
              exact okM_some I_u_69
      · refine okM_bP (kC_Tokens_endOfDigits I (by have FUe : FU = 100000 := rfl; have B_71 := IC_b I; omega) (by have FUe : FU = 100000 := rfl; have B_72 := IC_b I; omega)) (fun r_73 z_70 => ?_)
        obtain ⟨p_74, p_75⟩ := z_70
        refine okM_bM (kC_Tokens_keep I (by have FUe : FU = 100000 := rfl; have B_77 := IC_b I; omega) (by have FUe : FU = 100000 := rfl; have B_78 := IC_b I; omega) (by have FUe : FU = 100000 := rfl; have B_79 := IC_b I; omega) (by have FUe : FU = 100000 := rfl; have B_80 := IC_b I; omega) (by have FUe : FU = 100000 := rfl; have B_81 := IC_b I; omega) (by have FUe : FU = 100000 := rfl; have B_82 := IC_b I; omega) (by have FUe : FU = 100000 := rfl; have B_83 := IC_b I; omega) (by have FUe : FU = 100000 := rfl; have B_84 := IC_b I; omega)) (fun r_85 u_86 z_76 => ?_)
        have I_u_86 := z_76
        exact okM_some I_u_86
    · refine okM_bP (kC_Tokens_endOfName I (by have FUe : FU = 100000 := rfl; have B_88 := IC_b I; omega) (by have FUe : FU = 100000 := rfl; have B_89 := IC_b I; omega)) (fun r_90 z_87 => ?_)
      obtain ⟨p_91, p_92⟩ := z_87
      refine okM_bM (kC_Tokens_keep I (by have FUe : FU = 100000 := rfl; have B_94 := IC_b I; omega) (by have FUe : FU = 100000 := rfl; have B_95 := IC_b I; omega) (by have FUe : FU = 100000 := rfl; have B_96 := IC_b I; omega) (by have FUe : FU = 100000 := rfl; have B_97 := IC_b I; omega) (by have FUe : FU = 100000 := rfl; have B_98 := IC_b I; omega) (by have FUe : FU = 100000 := rfl; have B_99 := IC_b I; omega) (by have FUe : FU = 100000 := rfl; have B_100 := IC_b I; omega) (by have FUe : FU = 100000 := rfl; have B_101 := IC_b I; omega)) (fun r_102 u_103 z_93 => ?_)
      have I_u_103 := z_93
      exact okM_some I_u_103
  · refine okM_bP (kC_Tokens_endOfCapitals I (by have FUe : FU = 100000 := rfl; have B_105 := IC_b I; omega) (by have FUe : FU = 100000 := rfl; have B_106 := IC_b I; omega)) (fun r_107 z_104 => ?_)
    obtain ⟨p_108, p_109⟩ := z_104
    refine okM_bM (kC_Tokens_keep I (by have FUe : FU = 100000 := rfl; have B_111 := IC_b I; omega) (by have FUe : FU = 100000 := rfl; have B_112 := IC_b I; omega) (by have FUe : FU = 100000 := rfl; have B_113 := IC_b I; omega) (by have FUe : FU = 100000 := rfl; have B_114 := IC_b I; omega) (by have FUe : FU = 100000 := rfl; have B_115 := IC_b I; omega) (by have FUe : FU = 100000 := rfl; have B_116 := IC_b I; omega) (by have FUe : FU = 100000 := rfl; have B_117 := IC_b I; omega) (by have FUe : FU = 100000 := rfl; have B_118 := IC_b I; omega)) (fun r_119 u_120 z_110 => ?_)
    have I_u_120 := z_110
    exact okM_some I_u_120
theorem kC_Tokens_cut_L22 : ∀ (n : Nat) {x2 : Int32} {x3 : Int32} {u : St} (I : IC u) (h0 : 0 ≤ x3.toInt) (h1 : x3.toInt ≤ 2000) (hm : (2000 - x3.toInt).toNat < n), okM (mC_Tokens_cut_L22 n x2 x3 u) (fun r v => IC v ∧ 0 ≤ r.toInt ∧ r.toInt ≤ 1) := by
  intro n
  induction n with
  | zero => intro x2 x3 u I h0 h1 hm; exact absurd hm (Nat.not_lt_zero _)
  | succ n ih =>
    intro x2 x3 u I h0 h1 hm
    have l0 : (0 : Int32).toInt = 0 := by decide
    have l1 : (1 : Int32).toInt = 1 := by decide
    have l32 : (32 : Int32).toInt = 32 := by decide
    have l2000 : (2000 : Int32).toInt = 2000 := by decide
    rw [mC_Tokens_cut_L22]
    refine okM_le (fun c_1 => ?_) (fun c_1 => ?_)
    · refine okM_lt (fun c_2 => ?_) (fun c_2 => ?_)
      · exact okM_some ⟨I, (by omega), (by omega)⟩
      · exact okM_some ⟨I, (by omega), (by omega)⟩
    · refine okM_lt (fun c_3 => ?_) (fun c_3 => ?_)
      · refine okM_lt (fun c_4 => ?_) (fun c_4 => ?_)
        · exact okM_some ⟨I, (by omega), (by omega)⟩
        · exact okM_some ⟨I, (by omega), (by omega)⟩
      · refine okM_bP (kC_Text_size_11 I) (fun r_6 z_5 => ?_)
        have p_7 := z_5
        refine okM_le (fun c_8 => ?_) (fun c_8 => ?_)
        · refine okM_lt (fun c_9 => ?_) (fun c_9 => ?_)
          · exact okM_some ⟨I, (by omega), (by omega)⟩
          · exact okM_some ⟨I, (by omega), (by omega)⟩
        · refine okM_bP (kC_Text_at_11 I) (fun r_11 z_10 => ?_)
          obtain ⟨p_12, p_13, p_14⟩ := z_10
          refine okM_eq (fun c_15 c_15' => ?_) (fun c_15 => ?_)
          · try have e_18 : (x2 + 1 : Int32).toInt = (x2 : Int32).toInt + (1 : Int32).toInt := by exact add_i (by omega) (by omega)
            refine okM_seq (fun y_17 h_16 => ?_)
            have h_16' : y_17.toInt = ((x2 + 1) : Int32).toInt := by rw [h_16]
            try have e_21 : (x3 + 1 : Int32).toInt = (x3 : Int32).toInt + (1 : Int32).toInt := by exact add_i (by omega) (by omega)
            refine okM_seq (fun y_20 h_19 => ?_)
            have h_19' : y_20.toInt = (x3 + 1 : Int32).toInt := by rw [h_19]
            refine okM_mono (ih I (by have B_22 := IC_b I; omega) (by have B_23 := IC_b I; omega) (by have B_24 := IC_b I; omega)) (fun r_26 u_27 z_25 => ?_)
            obtain ⟨I_u_27, p_28, p_29⟩ := z_25
            exact ⟨I_u_27, (by omega), (by omega)⟩
          · refine okM_bM (kC_Tokens_cutToken I (by have FUe : FU = 100000 := rfl; have B_31 := IC_b I; omega) (by have FUe : FU = 100000 := rfl; have B_32 := IC_b I; omega)) (fun r_33 u_34 z_30 => ?_)
            have I_u_34 := z_30
            try have e_37 : (x3 + 1 : Int32).toInt = (x3 : Int32).toInt + (1 : Int32).toInt := by exact add_i (by omega) (by omega)
            refine okM_seq (fun y_36 h_35 => ?_)
            have h_35' : y_36.toInt = (x3 + 1 : Int32).toInt := by rw [h_35]
            refine okM_mono (ih I_u_34 (by have B_38 := IC_b I_u_34; omega) (by have B_39 := IC_b I_u_34; omega) (by have B_40 := IC_b I_u_34; omega)) (fun r_42 u_43 z_41 => ?_)
            obtain ⟨I_u_43, p_44, p_45⟩ := z_41
            exact ⟨I_u_43, (by omega), (by omega)⟩
theorem kC_Tokens_cut {u : St} (I : IC u) : okM (mC_Tokens_cut u) (fun r v => IC v ∧ 0 ≤ r.toInt ∧ r.toInt ≤ 1) := by
  have l0 : (0 : Int32).toInt = 0 := by decide
  have l1 : (1 : Int32).toInt = 1 := by decide
  have l2000 : (2000 : Int32).toInt = 2000 := by decide
  rw [mC_Tokens_cut]
  refine okM_bP (kC_Text_copy I) (fun u_2 z_1 => ?_)
  have I_u_2 := z_1
  refine okM_seq (fun u_4 h_3 => ?_)
  have I_u_4 : IC u_4 := by rw [h_3]; exact IC_s3 I_u_2 (by have B_5 := IC_b I_u_2; omega) (by have B_6 := IC_b I_u_2; omega)
  have g_7 : (u_4.1 3).toInt = (0 : Int32).toInt := by rw [h_3]; rfl
  refine okM_seq (fun u_9 h_8 => ?_)
  have I_u_9 : IC u_9 := by rw [h_8]; exact IC_s4 I_u_4 (by have B_10 := IC_b I_u_4; omega) (by have B_11 := IC_b I_u_4; omega)
  have g_12 : (u_9.1 4).toInt = (0 : Int32).toInt := by rw [h_8]; rfl
  refine okM_mono (kC_Tokens_cut_L22 _ I_u_9 (by have FUe : FU = 100000 := rfl; have B_13 := IC_b I_u_9; omega) (by have FUe : FU = 100000 := rfl; have B_14 := IC_b I_u_9; omega) (by have FUe : FU = 100000 := rfl; have B_15 := IC_b I_u_9; omega)) (fun r_17 u_18 z_16 => ?_)
  obtain ⟨I_u_18, p_19, p_20⟩ := z_16
  exact ⟨I_u_18, (by omega), (by omega)⟩
theorem kC_Preconditions_checkIndex {x0 : Int32} {x1 : Int32} {u : St} (I : IC u) (h0 : 0 ≤ x0.toInt) (h1 : x0.toInt < x1.toInt) : ok (mC_Preconditions_checkIndex x0 x1 u) (fun r => True) := by
  have l0 : (0 : Int32).toInt = 0 := by decide
  rw [mC_Preconditions_checkIndex]
  refine ok_lt (fun c_1 => ?_) (fun c_1 => ?_)
  · exfalso; omega
  · refine ok_lt (fun c_2 => ?_) (fun c_2 => ?_)
    · exact ok_some trivial
    · exfalso; omega
theorem kC_String_checkIndex {x0 : Int32} {x1 : Int32} {u : St} (I : IC u) (h0 : 0 ≤ x0.toInt) (h1 : x0.toInt < x1.toInt) : ok (mC_String_checkIndex x0 x1 u) (fun _ => True) := by
  have l0 : (0 : Int32).toInt = 0 := by decide
  rw [mC_String_checkIndex]
  refine ok_bP (kC_Preconditions_checkIndex I (by have FUe : FU = 100000 := rfl; have B_2 := IC_b I; omega) (by have FUe : FU = 100000 := rfl; have B_3 := IC_b I; omega)) (fun r_4 z_1 => ?_)
  exact ok_some trivial
theorem kC_StringLatin1_charAt {k0 : Nat} {x1 : Int32} {u : St} (I : IC u) (h0 : stok k0 = true) (h1 : 0 ≤ x1.toInt) (h2 : x1.toInt < (lnK k0 : Int)) : ok (mC_StringLatin1_charAt k0 x1 u) (fun r => cb r = true) := by
  have b : lnK k0 ≤ 50 := lnK_le (of_decide_eq_true h0)
  have e : (nI (lnK k0)).toInt = lnK k0 := nI_toInt (by omega)
  rw [mC_StringLatin1_charAt]
  refine ok_gd h0 (ok_bP (kC_String_checkIndex I (by omega) (by omega)) (fun _ _ => ok_gd h0 (ok_gd (inb_of (by omega) (by omega)) (ok_some ?_))))
  exact decide_eq_true (i2c_i2c _)
theorem kC_String_charAt {k0 : Nat} {x1 : Int32} {u : St} (I : IC u) (h0 : stok k0 = true) (h1 : 0 ≤ x1.toInt) (h2 : x1.toInt < (lnK k0 : Int)) : ok (mC_String_charAt k0 x1 u) (fun r => True) := by
  rw [mC_String_charAt]
  refine ok_gd h0 (ok_bP (kC_String_isLatin1 I h0) (fun r hr => ?_))
  subst hr
  exact ok_neg (by decide) (ok_gd h0 (ok_bP (kC_StringLatin1_charAt I h0 h1 h2) (fun r hr => ok_gd hr (ok_some trivial))))
theorem kC_Tokens_takes_L53 : ∀ (n : Nat) {k1 : Nat} {x3 : Int32} {x4 : Int32} {u : St} (I : IC u) (h0 : stok k1 = true) (h1 : 0 ≤ x4.toInt) (h2 : x4.toInt ≤ 50) (h3 : (u.1 4).toInt < 2000) (hm : (50 - x4.toInt).toNat < n), okM (mC_Tokens_takes_L53 n k1 x3 x4 u) (fun r v => IC v ∧ 0 ≤ r.toInt ∧ r.toInt ≤ 1) := by
  intro n
  induction n with
  | zero => intro k1 x3 x4 u I h0 h1 h2 h3 hm; exact absurd hm (Nat.not_lt_zero _)
  | succ n ih =>
    intro k1 x3 x4 u I h0 h1 h2 h3 hm
    have l0 : (0 : Int32).toInt = 0 := by decide
    have l1 : (1 : Int32).toInt = 1 := by decide
    have l4 : (4 : Int32).toInt = 4 := by decide
    have l50 : (50 : Int32).toInt = 50 := by decide
    have l2000 : (2000 : Int32).toInt = 2000 := by decide
    rw [mC_Tokens_takes_L53]
    refine okM_gd h0 ?_
    refine okM_bP (kC_String_length I h0) (fun r_2 z_1 => ?_)
    obtain ⟨p_3, p_4, p_5⟩ := z_1
    refine okM_le (fun c_6 => ?_) (fun c_6 => ?_)
    · refine okM_seq (fun u_8 h_7 => ?_)
      try have e_9 : ((u.1 4) + 1 : Int32).toInt = ((u.1 4) : Int32).toInt + (1 : Int32).toInt := by have B_10 := IC_b I; exact add_i (by omega) (by omega)
      have I_u_8 : IC u_8 := by rw [h_7]; exact IC_s4 I (by have B_11 := IC_b I; omega) (by have B_12 := IC_b I; omega)
      try have e_13 : ((u.1 4) + 1 : Int32).toInt = ((u.1 4) : Int32).toInt + (1 : Int32).toInt := by have B_14 := IC_b I; exact add_i (by omega) (by omega)
      have g_15 : (u_8.1 4).toInt = (((u.1 4) + 1) : Int32).toInt := by rw [h_7]; rfl
      exact okM_some ⟨I_u_8, (by omega), (by omega)⟩
    · try have e_16 : (x3 + x4 : Int32).toInt = (x3 : Int32).toInt + (x4 : Int32).toInt := by exact add_i (by omega) (by omega)
      refine okM_bP (kC_Text_at_11 I) (fun r_18 z_17 => ?_)
      obtain ⟨p_19, p_20, p_21⟩ := z_17
      refine okM_gd h0 ?_
      refine okM_bP (kC_String_charAt I h0 (by have FUe : FU = 100000 := rfl; have B_23 := IC_b I; omega) (by have FUe : FU = 100000 := rfl; have B_24 := IC_b I; omega)) (fun r_25 z_22 => ?_)
      refine okM_eq (fun c_26 c_26' => ?_) (fun c_26 => ?_)
      · try have e_29 : (x4 + 1 : Int32).toInt = (x4 : Int32).toInt + (1 : Int32).toInt := by exact add_i (by omega) (by omega)
        refine okM_seq (fun y_28 h_27 => ?_)
        have h_27' : y_28.toInt = (x4 + 1 : Int32).toInt := by rw [h_27]
        refine okM_mono (ih I h0 (by have B_30 := IC_b I; omega) (by have B_31 := IC_b I; omega) (by have B_32 := IC_b I; omega) (by have B_33 := IC_b I; omega)) (fun r_35 u_36 z_34 => ?_)
        obtain ⟨I_u_36, p_37, p_38⟩ := z_34
        exact ⟨I_u_36, (by omega), (by omega)⟩
      · exact okM_some ⟨I, (by omega), (by omega)⟩
theorem kC_Tokens_takes {k1 : Nat} {u : St} (I : IC u) (h0 : stok k1 = true) : okM (mC_Tokens_takes k1 u) (fun r v => IC v ∧ 0 ≤ r.toInt ∧ r.toInt ≤ 1) := by
  have lm1 : (-1 : Int32).toInt = -1 := by decide
  have l0 : (0 : Int32).toInt = 0 := by decide
  have l1 : (1 : Int32).toInt = 1 := by decide
  have l3 : (3 : Int32).toInt = 3 := by decide
  have l4 : (4 : Int32).toInt = 4 := by decide
  have l7 : (7 : Int32).toInt = 7 := by decide
  have l16 : (16 : Int32).toInt = 16 := by decide
  have l31 : (31 : Int32).toInt = 31 := by decide
  have l50 : (50 : Int32).toInt = 50 := by decide
  have l2000 : (2000 : Int32).toInt = 2000 := by decide
  rw [mC_Tokens_takes]
  refine okM_le (fun c_1 => ?_) (fun c_1 => ?_)
  · rw [mC_Tokens_takes_J24]
    refine okM_eq (fun c_2 c_2' => ?_) (fun c_2 => ?_)
    · refine okM_bP (kC_Text_sizeOf I) (fun r_4 z_3 => ?_)
      obtain ⟨p_5, p_6, p_7⟩ := z_3
      refine okM_gd h0 ?_
      refine okM_bP (kC_String_length I h0) (fun r_9 z_8 => ?_)
      obtain ⟨p_10, p_11, p_12⟩ := z_8
      refine okM_eq (fun c_13 c_13' => ?_) (fun c_13 => ?_)
      · refine okM_bP (kC_Text_startOf I) (fun r_15 z_14 => ?_)
        refine okM_mono (kC_Tokens_takes_L53 _ I h0 (by have FUe : FU = 100000 := rfl; have B_16 := IC_b I; omega) (by have FUe : FU = 100000 := rfl; have B_17 := IC_b I; omega) (by have FUe : FU = 100000 := rfl; have B_18 := IC_b I; omega) (by have FUe : FU = 100000 := rfl; have B_19 := IC_b I; omega)) (fun r_21 u_22 z_20 => ?_)
        obtain ⟨I_u_22, p_23, p_24⟩ := z_20
        exact ⟨I_u_22, (by omega), (by omega)⟩
      · exact okM_some ⟨I, (by omega), (by omega)⟩
    · exact okM_some ⟨I, (by omega), (by omega)⟩
  · refine okM_gd (inb_of (by have B_25 := IC_b I; omega) (by have B_26 := IC_b I; omega)) ?_
    rw [mC_Tokens_takes_J24]
    refine okM_eq (fun c_27 c_27' => ?_) (fun c_27 => ?_)
    · refine okM_bP (kC_Text_sizeOf I) (fun r_29 z_28 => ?_)
      obtain ⟨p_30, p_31, p_32⟩ := z_28
      refine okM_gd h0 ?_
      refine okM_bP (kC_String_length I h0) (fun r_34 z_33 => ?_)
      obtain ⟨p_35, p_36, p_37⟩ := z_33
      refine okM_eq (fun c_38 c_38' => ?_) (fun c_38 => ?_)
      · refine okM_bP (kC_Text_startOf I) (fun r_40 z_39 => ?_)
        refine okM_mono (kC_Tokens_takes_L53 _ I h0 (by have FUe : FU = 100000 := rfl; have B_41 := IC_b I; omega) (by have FUe : FU = 100000 := rfl; have B_42 := IC_b I; omega) (by have FUe : FU = 100000 := rfl; have B_43 := IC_b I; omega) (by have FUe : FU = 100000 := rfl; have B_44 := IC_b I; omega)) (fun r_46 u_47 z_45 => ?_)
        obtain ⟨I_u_47, p_48, p_49⟩ := z_45
        exact ⟨I_u_47, (by omega), (by omega)⟩
      · exact okM_some ⟨I, (by omega), (by omega)⟩
    · exact okM_some ⟨I, (by omega), (by omega)⟩
theorem kC_Tokens_take {x1 : Int32} {u : St} (I : IC u) : okM (mC_Tokens_take x1 u) (fun r v => IC v ∧ -1 ≤ r.toInt ∧ r.toInt ≤ 65535 ∧ r.toInt = -1 ∨ x1.toInt ≠ 4 ∨ (r &&& 31).toInt = 1) := by
  have B := IC_b I
  have l1 : (1 : Int32).toInt = 1 := by decide
  have m1 : ((-1 : Int32)).toInt = -1 := by decide
  have l4 : (4 : Int32).toInt = 4 := by decide
  have T := IC_tok I (u.1 4)
  rw [mC_Tokens_take]
  refine okM_le (fun c => okM_some ⟨I, by omega, by omega, by omega⟩) (fun c => ?_)
  refine okM_gd (inb_of (by omega) (by omega)) ?_
  refine okM_eq (fun c2 c2' => ?_) (fun c2 => okM_some ⟨I, by omega, by omega, by omega⟩)
  have e : (u.1 4 + 1 : Int32).toInt = (u.1 4).toInt + (1 : Int32).toInt := add_i (by omega) (by omega)
  refine okM_seq (fun u1 h => ?_)
  have I1 : IC u1 := by rw [h]; exact IC_s4 I (by omega) (by omega)
  have g : u1.1 4 = u.1 4 + 1 := by rw [h]; rfl
  have g2 : u1.1 4 - 1 = u.1 4 := by rw [g]; exact Int32.add_sub_cancel _ _
  have g3 : ga u1 7 (u.1 4) = ga u 7 (u.1 4) := by rw [h]; rfl
  rw [g2, g3]
  refine okM_gd (inb_of (by omega) (by omega)) (okM_some ?_)
  obtain ⟨j, hj, e2⟩ := pk_andE (ga u 7 (u.1 4)) (m := 65535) 16 (by decide)
  have e3 : (ga u 7 (u.1 4) &&& 65535).toInt = j := by rw [e2, nI_toInt (by omega)]
  refine ⟨I1, by omega, by omega, ?_⟩
  by_cases h4 : x1.toInt = 4
  · exact Or.inr (Or.inr (T (by rw [c2']; exact Int32.toInt_inj.mp (by rw [h4, l4]))))
  · exact Or.inr (Or.inl h4)
theorem kC_Parser_title {u : St} (I : IC u) : okM (mC_Parser_title u) (fun r v => IC v ∧ 0 ≤ r.toInt ∧ r.toInt ≤ 1) := by
  have l0 : (0 : Int32).toInt = 0 := by decide
  have l1 : (1 : Int32).toInt = 1 := by decide
  have l11 : (11 : Int32).toInt = 11 := by decide
  rw [mC_Parser_title]
  refine okM_bM (kC_Tokens_take I) (fun r_2 u_3 z_1 => ?_)
  obtain ⟨I_u_3, p_4, p_5, p_6⟩ := z_1
  refine okM_seq (fun u_8 h_7 => ?_)
  have I_u_8 : IC u_8 := by rw [h_7]; exact I_u_3
  refine okM_lt (fun c_9 => ?_) (fun c_9 => ?_)
  · exact okM_some ⟨I_u_8, (by omega), (by omega)⟩
  · exact okM_some ⟨I_u_8, (by omega), (by omega)⟩
theorem kC_Parser_begins {u : St} (I : IC u) : okM (mC_Parser_begins u) (fun r v => IC v ∧ 0 ≤ r.toInt ∧ r.toInt ≤ 1) := by
  have l0 : (0 : Int32).toInt = 0 := by decide
  have l1 : (1 : Int32).toInt = 1 := by decide
  have l2 : (2 : Int32).toInt = 2 := by decide
  have l22 : (22 : Int32).toInt = 22 := by decide
  rw [mC_Parser_begins]
  refine okM_bM (kC_Tokens_takes I (by decide)) (fun r_2 u_3 z_1 => ?_)
  obtain ⟨I_u_3, p_4, p_5⟩ := z_1
  refine okM_gd (zb_of (by omega) (by omega)) ?_
  refine okM_seq (fun u_7 h_6 => ?_)
  have I_u_7 : IC u_7 := by rw [h_6]; exact I_u_3
  refine okM_eq (fun c_8 c_8' => ?_) (fun c_8 => ?_)
  · exact okM_some ⟨I_u_7, (by omega), (by omega)⟩
  · refine okM_bM (kC_Parser_title I_u_7) (fun r_10 u_11 z_9 => ?_)
    obtain ⟨I_u_11, p_12, p_13⟩ := z_9
    refine okM_eq (fun c_14 c_14' => ?_) (fun c_14 => ?_)
    · exact okM_some ⟨I_u_11, (by omega), (by omega)⟩
    · refine okM_bM (kC_Tokens_takes I_u_11 (by decide)) (fun r_16 u_17 z_15 => ?_)
      obtain ⟨I_u_17, p_18, p_19⟩ := z_15
      refine okM_eq (fun c_20 c_20' => ?_) (fun c_20 => ?_)
      · exact okM_some ⟨I_u_17, (by omega), (by omega)⟩
      · exact okM_some ⟨I_u_17, (by omega), (by omega)⟩
theorem kC_Nodes_size {u : St} (I : IC u) : ok (mC_Nodes_size u) (fun r => r.toInt = (u.1 6).toInt) := by
  have l6 : (6 : Int32).toInt = 6 := by decide
  rw [mC_Nodes_size]
  exact ok_some (by have B_1 := IC_b I; omega)
theorem kC_Nodes_leaf {x1 : Int32} {x2 : Int32} {x3 : Int32} {x4 : Int32} {u : St} (I : IC u) (h0 : x1.toInt ≠ 28 ∨ x2.toInt ≤ 300) : okM (mC_Nodes_leaf x1 x2 x3 x4 u) (fun r v => IC v ∧ 0 ≤ r.toInt ∧ r.toInt < 200) := by
  have B := IC_b I
  have l200 : (200 : Int32).toInt = 200 := by decide
  have z0 : (0 : Int32).toInt = 0 := by decide
  have l1 : (1 : Int32).toInt = 1 := by decide
  rw [mC_Nodes_leaf]
  refine okM_lt (fun c => ?_) (fun c => ?_)
  · refine okM_seq (fun y hy => ?_)
    have hy' : y.toInt = (u.1 6).toInt := by rw [hy]
    have gy : inb y 200 = true := inb_of (by omega) (by omega)
    refine okM_gd gy (okM_seq (fun u2 h2 => okM_gd gy (okM_seq (fun u3 h3 => ?_))))
    have I3 : IC u3 := by rw [h3, h2]; exact IC_a89 I h0
    have g3 : (u3.1 6).toInt = (u.1 6).toInt := by rw [h3, h2]; rfl
    refine okM_gd gy (okM_seq (fun u4 h4 => ?_))
    have I4 : IC u4 := by rw [h4]; exact I3
    have g4 : (u4.1 6).toInt = (u.1 6).toInt := by rw [h4]; exact g3
    refine okM_gd gy (okM_seq (fun u5 h5 => ?_))
    have I5 : IC u5 := by rw [h5]; exact I4
    have g5 : (u5.1 6).toInt = (u.1 6).toInt := by rw [h5]; exact g4
    refine okM_gd gy (okM_seq (fun u6 h6 => ?_))
    have I6 : IC u6 := by rw [h6]; exact I5
    have g6 : (u6.1 6).toInt = (u.1 6).toInt := by rw [h6]; exact g5
    refine okM_gd gy (okM_seq (fun u7 h7 => ?_))
    have I7 : IC u7 := by rw [h7]; exact I6
    have g7 : (u7.1 6).toInt = (u.1 6).toInt := by rw [h7]; exact g6
    refine okM_gd gy (okM_seq (fun u8 h8 => ?_))
    have I8 : IC u8 := by rw [h8]; exact I7
    have g8 : (u8.1 6).toInt = (u.1 6).toInt := by rw [h8]; exact g7
    refine okM_gd gy (okM_seq (fun u9 h9 => ?_))
    have I9 : IC u9 := by rw [h9]; exact I8
    have g9 : (u9.1 6).toInt = (u.1 6).toInt := by rw [h9]; exact g8
    refine okM_gd gy (okM_seq (fun u10 h10 => ?_))
    have I10 : IC u10 := by rw [h10]; exact I9
    have g10 : (u10.1 6).toInt = (u.1 6).toInt := by rw [h10]; exact g9
    refine okM_seq (fun u11 h11 => ?_)
    have e : (u10.1 6 + 1 : Int32).toInt = (u10.1 6).toInt + (1 : Int32).toInt := add_i (by omega) (by omega)
    exact okM_some ⟨by rw [h11]; exact IC_s6 I10 (by omega) (by omega), by omega, by omega⟩
  · refine okM_seq (fun u12 h12 => okM_some ⟨by rw [h12]; exact IC_s7 I (by omega) (by omega), by omega, by omega⟩)
theorem kC_Nodes_adopt {x1 : Int32} {x2 : Int32} {u : St} (I : IC u) : ok (mC_Nodes_adopt x1 x2 u) (fun v => IC v) := by
  have l0 : (0 : Int32).toInt = 0 := by decide
  have l6 : (6 : Int32).toInt = 6 := by decide
  rw [mC_Nodes_adopt]
  refine ok_lt (fun c_1 => ?_) (fun c_1 => ?_)
  · exact ok_some I
  · refine ok_le (fun c_2 => ?_) (fun c_2 => ?_)
    · exact ok_some I
    · refine ok_gd (inb_of (by have B_3 := IC_b I; omega) (by have B_4 := IC_b I; omega)) ?_
      refine ok_seq (fun u_6 h_5 => ?_)
      have I_u_6 : IC u_6 := by rw [h_5]; exact I
      exact ok_some I_u_6
theorem kC_Nodes_top {x1 : Int32} {x2 : Int32} {u : St} (I : IC u) (h0 : x1.toInt ≠ 28) : okM (mC_Nodes_top x1 x2 u) (fun r v => IC v ∧ -1 ≤ r.toInt ∧ r.toInt < 200) := by
  have lm1 : (-1 : Int32).toInt = -1 := by decide
  have l0 : (0 : Int32).toInt = 0 := by decide
  have l1 : (1 : Int32).toInt = 1 := by decide
  have l7 : (7 : Int32).toInt = 7 := by decide
  have l28 : (28 : Int32).toInt = 28 := by decide
  have l200 : (200 : Int32).toInt = 200 := by decide
  have l300 : (300 : Int32).toInt = 300 := by decide
  rw [mC_Nodes_top]
  refine okM_le (fun c_1 => ?_) (fun c_1 => ?_)
  · refine okM_bM (kC_Nodes_leaf I (by have FUe : FU = 100000 := rfl; have B_3 := IC_b I; omega)) (fun r_4 u_5 z_2 => ?_)
    obtain ⟨I_u_5, p_6, p_7⟩ := z_2
    refine okM_eq (fun c_8 c_8' => ?_) (fun c_8 => ?_)
    · refine okM_bP (kC_Nodes_adopt I_u_5) (fun u_10 z_9 => ?_)
      have I_u_10 := z_9
      exact okM_some ⟨I_u_10, (by omega), (by omega)⟩
    · exact okM_some ⟨I_u_5, (by omega), (by omega)⟩
  · exact okM_some ⟨I, (by omega), (by omega)⟩
theorem kC_Tokens_mark {u : St} (I : IC u) : ok (mC_Tokens_mark u) (fun r => True) := by
  have l4 : (4 : Int32).toInt = 4 := by decide
  rw [mC_Tokens_mark]
  exact ok_some trivial
theorem kC_Parser_wordBehind {u : St} (I : IC u) : okM (mC_Parser_wordBehind u) (fun r v => IC v ∧ -1 ≤ r.toInt ∧ r.toInt ≤ 31 ∧ r.toInt ≠ 28) := by
  have lm1 : (-1 : Int32).toInt = -1 := by decide
  have l0 : (0 : Int32).toInt = 0 := by decide
  have l1 : (1 : Int32).toInt = 1 := by decide
  have l6 : (6 : Int32).toInt = 6 := by decide
  have l18 : (18 : Int32).toInt = 18 := by decide
  have l19 : (19 : Int32).toInt = 19 := by decide
  have l20 : (20 : Int32).toInt = 20 := by decide
  have l21 : (21 : Int32).toInt = 21 := by decide
  have l22 : (22 : Int32).toInt = 22 := by decide
  have l23 : (23 : Int32).toInt = 23 := by decide
  have l26 : (26 : Int32).toInt = 26 := by decide
  have l27 : (27 : Int32).toInt = 27 := by decide
  have l28 : (28 : Int32).toInt = 28 := by decide
  have l29 : (29 : Int32).toInt = 29 := by decide
  have l30 : (30 : Int32).toInt = 30 := by decide
  have l31 : (31 : Int32).toInt = 31 := by decide
  rw [mC_Parser_wordBehind]
  refine okM_bM (kC_Tokens_takes I (by decide)) (fun r_2 u_3 z_1 => ?_)
  obtain ⟨I_u_3, p_4, p_5⟩ := z_1
  refine okM_eq (fun c_6 c_6' => ?_) (fun c_6 => ?_)
  · refine okM_bM (kC_Tokens_takes I_u_3 (by decide)) (fun r_8 u_9 z_7 => ?_)
    obtain ⟨I_u_9, p_10, p_11⟩ := z_7
    refine okM_eq (fun c_12 c_12' => ?_) (fun c_12 => ?_)
    · refine okM_bM (kC_Tokens_takes I_u_9 (by decide)) (fun r_14 u_15 z_13 => ?_)
      obtain ⟨I_u_15, p_16, p_17⟩ := z_13
      refine okM_eq (fun c_18 c_18' => ?_) (fun c_18 => ?_)
      · refine okM_bM (kC_Tokens_takes I_u_15 (by decide)) (fun r_20 u_21 z_19 => ?_)
        obtain ⟨I_u_21, p_22, p_23⟩ := z_19
        refine okM_eq (fun c_24 c_24' => ?_) (fun c_24 => ?_)
        · refine okM_bM (kC_Tokens_takes I_u_21 (by decide)) (fun r_26 u_27 z_25 => ?_)
          obtain ⟨I_u_27, p_28, p_29⟩ := z_25
          refine okM_eq (fun c_30 c_30' => ?_) (fun c_30 => ?_)
          · refine okM_bM (kC_Tokens_takes I_u_27 (by decide)) (fun r_32 u_33 z_31 => ?_)
            obtain ⟨I_u_33, p_34, p_35⟩ := z_31
            refine okM_eq (fun c_36 c_36' => ?_) (fun c_36 => ?_)
            · exact okM_some ⟨I_u_33, (by omega), (by omega), (by omega)⟩
            · exact okM_some ⟨I_u_33, (by omega), (by omega), (by omega)⟩
          · exact okM_some ⟨I_u_27, (by omega), (by omega), (by omega)⟩
        · exact okM_some ⟨I_u_21, (by omega), (by omega), (by omega)⟩
      · exact okM_some ⟨I_u_15, (by omega), (by omega), (by omega)⟩
    · exact okM_some ⟨I_u_9, (by omega), (by omega), (by omega)⟩
  · exact okM_some ⟨I_u_3, (by omega), (by omega), (by omega)⟩
theorem kC_Parser_signBehind {u : St} (I : IC u) : okM (mC_Parser_signBehind u) (fun r v => IC v ∧ -1 ≤ r.toInt ∧ r.toInt ≤ 22) := by
  have lm1 : (-1 : Int32).toInt = -1 := by decide
  have l0 : (0 : Int32).toInt = 0 := by decide
  have l1 : (1 : Int32).toInt = 1 := by decide
  have l5 : (5 : Int32).toInt = 5 := by decide
  have l7 : (7 : Int32).toInt = 7 := by decide
  have l11 : (11 : Int32).toInt = 11 := by decide
  have l12 : (12 : Int32).toInt = 12 := by decide
  have l13 : (13 : Int32).toInt = 13 := by decide
  have l14 : (14 : Int32).toInt = 14 := by decide
  have l15 : (15 : Int32).toInt = 15 := by decide
  have l16 : (16 : Int32).toInt = 16 := by decide
  have l17 : (17 : Int32).toInt = 17 := by decide
  have l18 : (18 : Int32).toInt = 18 := by decide
  have l19 : (19 : Int32).toInt = 19 := by decide
  have l20 : (20 : Int32).toInt = 20 := by decide
  have l21 : (21 : Int32).toInt = 21 := by decide
  have l22 : (22 : Int32).toInt = 22 := by decide
  have l23 : (23 : Int32).toInt = 23 := by decide
  have l24 : (24 : Int32).toInt = 24 := by decide
  have l25 : (25 : Int32).toInt = 25 := by decide
  have l26 : (26 : Int32).toInt = 26 := by decide
  have l27 : (27 : Int32).toInt = 27 := by decide
  have l28 : (28 : Int32).toInt = 28 := by decide
  have l29 : (29 : Int32).toInt = 29 := by decide
  have l30 : (30 : Int32).toInt = 30 := by decide
  have l31 : (31 : Int32).toInt = 31 := by decide
  have l32 : (32 : Int32).toInt = 32 := by decide
  rw [mC_Parser_signBehind]
  refine okM_bM (kC_Tokens_takes I (by decide)) (fun r_2 u_3 z_1 => ?_)
  obtain ⟨I_u_3, p_4, p_5⟩ := z_1
  refine okM_eq (fun c_6 c_6' => ?_) (fun c_6 => ?_)
  · refine okM_bM (kC_Tokens_takes I_u_3 (by decide)) (fun r_8 u_9 z_7 => ?_)
    obtain ⟨I_u_9, p_10, p_11⟩ := z_7
    refine okM_eq (fun c_12 c_12' => ?_) (fun c_12 => ?_)
    · refine okM_bM (kC_Tokens_takes I_u_9 (by decide)) (fun r_14 u_15 z_13 => ?_)
      obtain ⟨I_u_15, p_16, p_17⟩ := z_13
      refine okM_eq (fun c_18 c_18' => ?_) (fun c_18 => ?_)
      · refine okM_bM (kC_Tokens_takes I_u_15 (by decide)) (fun r_20 u_21 z_19 => ?_)
        obtain ⟨I_u_21, p_22, p_23⟩ := z_19
        refine okM_eq (fun c_24 c_24' => ?_) (fun c_24 => ?_)
        · refine okM_bM (kC_Tokens_takes I_u_21 (by decide)) (fun r_26 u_27 z_25 => ?_)
          obtain ⟨I_u_27, p_28, p_29⟩ := z_25
          refine okM_eq (fun c_30 c_30' => ?_) (fun c_30 => ?_)
          · refine okM_bM (kC_Tokens_takes I_u_27 (by decide)) (fun r_32 u_33 z_31 => ?_)
            obtain ⟨I_u_33, p_34, p_35⟩ := z_31
            refine okM_eq (fun c_36 c_36' => ?_) (fun c_36 => ?_)
            · refine okM_bM (kC_Tokens_takes I_u_33 (by decide)) (fun r_38 u_39 z_37 => ?_)
              obtain ⟨I_u_39, p_40, p_41⟩ := z_37
              refine okM_eq (fun c_42 c_42' => ?_) (fun c_42 => ?_)
              · refine okM_bM (kC_Tokens_takes I_u_39 (by decide)) (fun r_44 u_45 z_43 => ?_)
                obtain ⟨I_u_45, p_46, p_47⟩ := z_43
                refine okM_eq (fun c_48 c_48' => ?_) (fun c_48 => ?_)
                · refine okM_bM (kC_Tokens_takes I_u_45 (by decide)) (fun r_50 u_51 z_49 => ?_)
                  obtain ⟨I_u_51, p_52, p_53⟩ := z_49
                  refine okM_eq (fun c_54 c_54' => ?_) (fun c_54 => ?_)
                  · refine okM_bM (kC_Tokens_takes I_u_51 (by decide)) (fun r_56 u_57 z_55 => ?_)
                    obtain ⟨I_u_57, p_58, p_59⟩ := z_55
                    refine okM_eq (fun c_60 c_60' => ?_) (fun c_60 => ?_)
                    · refine okM_bM (kC_Tokens_takes I_u_57 (by decide)) (fun r_62 u_63 z_61 => ?_)
                      obtain ⟨I_u_63, p_64, p_65⟩ := z_61
                      refine okM_eq (fun c_66 c_66' => ?_) (fun c_66 => ?_)
                      · refine okM_bM (kC_Tokens_takes I_u_63 (by decide)) (fun r_68 u_69 z_67 => ?_)
                        obtain ⟨I_u_69, p_70, p_71⟩ := z_67
                        refine okM_eq (fun c_72 c_72' => ?_) (fun c_72 => ?_)
                        · exact okM_some ⟨I_u_69, (by omega), (by omega)⟩
                        · exact okM_some ⟨I_u_69, (by omega), (by omega)⟩
                      · exact okM_some ⟨I_u_63, (by omega), (by omega)⟩
                    · exact okM_some ⟨I_u_57, (by omega), (by omega)⟩
                  · exact okM_some ⟨I_u_51, (by omega), (by omega)⟩
                · exact okM_some ⟨I_u_45, (by omega), (by omega)⟩
              · exact okM_some ⟨I_u_39, (by omega), (by omega)⟩
            · exact okM_some ⟨I_u_33, (by omega), (by omega)⟩
          · exact okM_some ⟨I_u_27, (by omega), (by omega)⟩
        · exact okM_some ⟨I_u_21, (by omega), (by omega)⟩
      · exact okM_some ⟨I_u_15, (by omega), (by omega)⟩
    · exact okM_some ⟨I_u_9, (by omega), (by omega)⟩
  · exact okM_some ⟨I_u_3, (by omega), (by omega)⟩
theorem kC_Parser_levelOf {x0 : Int32} {u : St} (I : IC u) : ok (mC_Parser_levelOf x0 u) (fun r => 0 ≤ r.toInt ∧ r.toInt ≤ 7) := by
  have lm1 : (-1 : Int32).toInt = -1 := by decide
  have l0 : (0 : Int32).toInt = 0 := by decide
  have l1 : (1 : Int32).toInt = 1 := by decide
  have l2 : (2 : Int32).toInt = 2 := by decide
  have l3 : (3 : Int32).toInt = 3 := by decide
  have l4 : (4 : Int32).toInt = 4 := by decide
  have l5 : (5 : Int32).toInt = 5 := by decide
  have l6 : (6 : Int32).toInt = 6 := by decide
  have l7 : (7 : Int32).toInt = 7 := by decide
  have l8 : (8 : Int32).toInt = 8 := by decide
  have l9 : (9 : Int32).toInt = 9 := by decide
  have l10 : (10 : Int32).toInt = 10 := by decide
  have l11 : (11 : Int32).toInt = 11 := by decide
  have l12 : (12 : Int32).toInt = 12 := by decide
  have l13 : (13 : Int32).toInt = 13 := by decide
  have l14 : (14 : Int32).toInt = 14 := by decide
  have l15 : (15 : Int32).toInt = 15 := by decide
  have l16 : (16 : Int32).toInt = 16 := by decide
  have l17 : (17 : Int32).toInt = 17 := by decide
  have l18 : (18 : Int32).toInt = 18 := by decide
  have l19 : (19 : Int32).toInt = 19 := by decide
  have l20 : (20 : Int32).toInt = 20 := by decide
  have l21 : (21 : Int32).toInt = 21 := by decide
  have l22 : (22 : Int32).toInt = 22 := by decide
  have l23 : (23 : Int32).toInt = 23 := by decide
  have l24 : (24 : Int32).toInt = 24 := by decide
  have l25 : (25 : Int32).toInt = 25 := by decide
  have l26 : (26 : Int32).toInt = 26 := by decide
  have l27 : (27 : Int32).toInt = 27 := by decide
  rw [mC_Parser_levelOf]
  refine ok_eq (fun c_1 c_1' => ?_) (fun c_1 => ?_)
  · exact ok_some ⟨(by omega), (by omega)⟩
  · refine ok_eq (fun c_2 c_2' => ?_) (fun c_2 => ?_)
    · exact ok_some ⟨(by omega), (by omega)⟩
    · refine ok_eq (fun c_3 c_3' => ?_) (fun c_3 => ?_)
      · exact ok_some ⟨(by omega), (by omega)⟩
      · refine ok_eq (fun c_4 c_4' => ?_) (fun c_4 => ?_)
        · exact ok_some ⟨(by omega), (by omega)⟩
        · refine ok_eq (fun c_5 c_5' => ?_) (fun c_5 => ?_)
          · exact ok_some ⟨(by omega), (by omega)⟩
          · refine ok_eq (fun c_6 c_6' => ?_) (fun c_6 => ?_)
            · exact ok_some ⟨(by omega), (by omega)⟩
            · refine ok_eq (fun c_7 c_7' => ?_) (fun c_7 => ?_)
              · exact ok_some ⟨(by omega), (by omega)⟩
              · refine ok_eq (fun c_8 c_8' => ?_) (fun c_8 => ?_)
                · exact ok_some ⟨(by omega), (by omega)⟩
                · refine ok_eq (fun c_9 c_9' => ?_) (fun c_9 => ?_)
                  · exact ok_some ⟨(by omega), (by omega)⟩
                  · refine ok_eq (fun c_10 c_10' => ?_) (fun c_10 => ?_)
                    · exact ok_some ⟨(by omega), (by omega)⟩
                    · refine ok_eq (fun c_11 c_11' => ?_) (fun c_11 => ?_)
                      · exact ok_some ⟨(by omega), (by omega)⟩
                      · refine ok_eq (fun c_12 c_12' => ?_) (fun c_12 => ?_)
                        · exact ok_some ⟨(by omega), (by omega)⟩
                        · refine ok_eq (fun c_13 c_13' => ?_) (fun c_13 => ?_)
                          · exact ok_some ⟨(by omega), (by omega)⟩
                          · refine ok_eq (fun c_14 c_14' => ?_) (fun c_14 => ?_)
                            · exact ok_some ⟨(by omega), (by omega)⟩
                            · refine ok_eq (fun c_15 c_15' => ?_) (fun c_15 => ?_)
                              · exact ok_some ⟨(by omega), (by omega)⟩
                              · refine ok_eq (fun c_16 c_16' => ?_) (fun c_16 => ?_)
                                · exact ok_some ⟨(by omega), (by omega)⟩
                                · refine ok_eq (fun c_17 c_17' => ?_) (fun c_17 => ?_)
                                  · exact ok_some ⟨(by omega), (by omega)⟩
                                  · refine ok_eq (fun c_18 c_18' => ?_) (fun c_18 => ?_)
                                    · exact ok_some ⟨(by omega), (by omega)⟩
                                    · refine ok_eq (fun c_19 c_19' => ?_) (fun c_19 => ?_)
                                      · exact ok_some ⟨(by omega), (by omega)⟩
                                      · refine ok_eq (fun c_20 c_20' => ?_) (fun c_20 => ?_)
                                        · exact ok_some ⟨(by omega), (by omega)⟩
                                        · refine ok_eq (fun c_21 c_21' => ?_) (fun c_21 => ?_)
                                          · exact ok_some ⟨(by omega), (by omega)⟩
                                          · refine ok_eq (fun c_22 c_22' => ?_) (fun c_22 => ?_)
                                            · exact ok_some ⟨(by omega), (by omega)⟩
                                            · refine ok_eq (fun c_23 c_23' => ?_) (fun c_23 => ?_)
                                              · exact ok_some ⟨(by omega), (by omega)⟩
                                              · refine ok_eq (fun c_24 c_24' => ?_) (fun c_24 => ?_)
                                                · exact ok_some ⟨(by omega), (by omega)⟩
                                                · refine ok_eq (fun c_25 c_25' => ?_) (fun c_25 => ?_)
                                                  · exact ok_some ⟨(by omega), (by omega)⟩
                                                  · refine ok_eq (fun c_26 c_26' => ?_) (fun c_26 => ?_)
                                                    · exact ok_some ⟨(by omega), (by omega)⟩
                                                    · refine ok_eq (fun c_27 c_27' => ?_) (fun c_27 => ?_)
                                                      · exact ok_some ⟨(by omega), (by omega)⟩
                                                      · refine ok_eq (fun c_28 c_28' => ?_) (fun c_28 => ?_)
                                                        · exact ok_some ⟨(by omega), (by omega)⟩
                                                        · refine ok_eq (fun c_29 c_29' => ?_) (fun c_29 => ?_)
                                                          · exact ok_some ⟨(by omega), (by omega)⟩
                                                          · exact ok_some ⟨(by omega), (by omega)⟩
theorem kC_Tokens_backTo {x1 : Int32} {u : St} (I : IC u) : ok (mC_Tokens_backTo x1 u) (fun v => IC v) := by
  have l0 : (0 : Int32).toInt = 0 := by decide
  have l4 : (4 : Int32).toInt = 4 := by decide
  rw [mC_Tokens_backTo]
  refine ok_lt (fun c_1 => ?_) (fun c_1 => ?_)
  · exact ok_some I
  · refine ok_le (fun c_2 => ?_) (fun c_2 => ?_)
    · exact ok_some I
    · refine ok_seq (fun u_4 h_3 => ?_)
      have I_u_4 : IC u_4 := by rw [h_3]; exact IC_s4 I (by have B_5 := IC_b I; omega) (by have B_6 := IC_b I; omega)
      have g_7 : (u_4.1 4).toInt = (x1 : Int32).toInt := by rw [h_3]; rfl
      exact ok_some I_u_4
theorem kC_Nodes_join {x1 : Int32} {x2 : Int32} {x3 : Int32} {u : St} (I : IC u) (h0 : x1.toInt ≠ 28) : okM (mC_Nodes_join x1 x2 x3 u) (fun r v => IC v ∧ -1 ≤ r.toInt ∧ r.toInt < 200) := by
  have lm1 : (-1 : Int32).toInt = -1 := by decide
  have l0 : (0 : Int32).toInt = 0 := by decide
  have l1 : (1 : Int32).toInt = 1 := by decide
  have l7 : (7 : Int32).toInt = 7 := by decide
  have l28 : (28 : Int32).toInt = 28 := by decide
  have l200 : (200 : Int32).toInt = 200 := by decide
  have l300 : (300 : Int32).toInt = 300 := by decide
  rw [mC_Nodes_join]
  refine okM_lt (fun c_1 => ?_) (fun c_1 => ?_)
  · exact okM_some ⟨I, (by omega), (by omega)⟩
  · refine okM_le (fun c_2 => ?_) (fun c_2 => ?_)
    · refine okM_bM (kC_Nodes_leaf I (by have FUe : FU = 100000 := rfl; have B_4 := IC_b I; omega)) (fun r_5 u_6 z_3 => ?_)
      obtain ⟨I_u_6, p_7, p_8⟩ := z_3
      refine okM_eq (fun c_9 c_9' => ?_) (fun c_9 => ?_)
      · refine okM_gd (inb_of (by have B_10 := IC_b I_u_6; omega) (by have B_11 := IC_b I_u_6; omega)) ?_
        refine okM_seq (fun u_13 h_12 => ?_)
        have I_u_13 : IC u_13 := by rw [h_12]; exact I_u_6
        refine okM_bP (kC_Nodes_adopt I_u_13) (fun u_15 z_14 => ?_)
        have I_u_15 := z_14
        refine okM_bP (kC_Nodes_adopt I_u_15) (fun u_17 z_16 => ?_)
        have I_u_17 := z_16
        exact okM_some ⟨I_u_17, (by omega), (by omega)⟩
      · exact okM_some ⟨I_u_6, (by omega), (by omega)⟩
    · exact okM_some ⟨I, (by omega), (by omega)⟩
theorem kC_Nodes_works {x0 : Int32} {u : St} (I : IC u) : ok (mC_Nodes_works x0 u) (fun r => 0 ≤ r.toInt ∧ r.toInt ≤ 1 ∧ r.toInt = 0 ∨ (6 ≤ x0.toInt ∧ x0.toInt ≤ 27)) := by
  have l0 : (0 : Int32).toInt = 0 := by decide
  have l1 : (1 : Int32).toInt = 1 := by decide
  have l6 : (6 : Int32).toInt = 6 := by decide
  have l27 : (27 : Int32).toInt = 27 := by decide
  rw [mC_Nodes_works]
  refine ok_lt (fun c_1 => ?_) (fun c_1 => ?_)
  · exact ok_some ⟨(by omega), (by omega), (by omega)⟩
  · refine ok_lt (fun c_2 => ?_) (fun c_2 => ?_)
    · exact ok_some ⟨(by omega), (by omega), (by omega)⟩
    · exact ok_some ⟨(by omega), (by omega), (by omega)⟩
theorem kC_Nodes_again_L17 : ∀ (n : Nat) {x2 : Int32} {x3 : Int32} {x4 : Int32} {x5 : Int32} {u : St} (I : IC u) (h0 : 0 ≤ x5.toInt) (h1 : x5.toInt ≤ 200) (h2 : -1 ≤ x4.toInt) (h3 : x4.toInt < 200) (hm : (200 - x5.toInt).toNat < n), okM (mC_Nodes_again_L17 n x2 x3 x4 x5 u) (fun r v => IC v ∧ -1 ≤ r.toInt ∧ r.toInt < 200) := by
  intro n
  induction n with
  | zero => intro x2 x3 x4 x5 u I h0 h1 h2 h3 hm; exact absurd hm (Nat.not_lt_zero _)
  | succ n ih =>
    intro x2 x3 x4 x5 u I h0 h1 h2 h3 hm
    have l0 : (0 : Int32).toInt = 0 := by decide
    have l1 : (1 : Int32).toInt = 1 := by decide
    have l7 : (7 : Int32).toInt = 7 := by decide
    have l8 : (8 : Int32).toInt = 8 := by decide
    have l9 : (9 : Int32).toInt = 9 := by decide
    have l10 : (10 : Int32).toInt = 10 := by decide
    have l15 : (15 : Int32).toInt = 15 := by decide
    have l16 : (16 : Int32).toInt = 16 := by decide
    have l28 : (28 : Int32).toInt = 28 := by decide
    have l200 : (200 : Int32).toInt = 200 := by decide
    have l300 : (300 : Int32).toInt = 300 := by decide
    rw [mC_Nodes_again_L17]
    have F := IC_par I x5
    refine okM_lt (fun c_1 => ?_) (fun c_1 => ?_)
    · exact okM_some ⟨I, (by omega), (by omega)⟩
    · refine okM_le (fun c_2 => ?_) (fun c_2 => ?_)
      · exact okM_some ⟨I, (by omega), (by omega)⟩
      · refine okM_eq (fun c_3 c_3' => ?_) (fun c_3 => ?_)
        · refine okM_gd (inb_of (by have B_4 := IC_b I; omega) (by have B_5 := IC_b I; omega)) ?_
          refine okM_bP (kC_Nodes_works I) (fun r_7 z_6 => ?_)
          obtain ⟨p_8, p_9, p_10⟩ := z_6
          refine okM_eq (fun c_11 c_11' => ?_) (fun c_11 => ?_)
          · refine okM_gd (inb_of (by have B_12 := IC_b I; omega) (by have B_13 := IC_b I; omega)) ?_
            refine okM_gd (inb_of (by have B_14 := IC_b I; omega) (by have B_15 := IC_b I; omega)) ?_
            refine okM_gd (inb_of (by have B_16 := IC_b I; omega) (by have B_17 := IC_b I; omega)) ?_
            refine okM_gd (inb_of (by have B_18 := IC_b I; omega) (by have B_19 := IC_b I; omega)) ?_
            refine okM_bM (kC_Nodes_leaf I (by have FUe : FU = 100000 := rfl; have B_21 := IC_b I; omega)) (fun r_22 u_23 z_20 => ?_)
            obtain ⟨I_u_23, p_24, p_25⟩ := z_20
            try have e_28 : (x5 + 1 : Int32).toInt = (x5 : Int32).toInt + (1 : Int32).toInt := by exact add_i (by omega) (by omega)
            refine okM_seq (fun y_27 h_26 => ?_)
            have h_26' : y_27.toInt = (x5 + 1 : Int32).toInt := by rw [h_26]
            refine okM_mono (ih I_u_23 (by have B_29 := IC_b I_u_23; omega) (by have B_30 := IC_b I_u_23; omega) (by have B_31 := IC_b I_u_23; omega) (by have B_32 := IC_b I_u_23; omega) (by have B_33 := IC_b I_u_23; omega)) (fun r_35 u_36 z_34 => ?_)
            obtain ⟨I_u_36, p_37, p_38⟩ := z_34
            exact ⟨I_u_36, (by omega), (by omega)⟩
          · refine okM_gd (inb_of (by have B_39 := IC_b I; omega) (by have B_40 := IC_b I; omega)) ?_
            refine okM_le (fun c_41 => ?_) (fun c_41 => ?_)
            · refine okM_gd (inb_of (by have B_42 := IC_b I; omega) (by have B_43 := IC_b I; omega)) ?_
              refine okM_gd (inb_of (by have B_44 := IC_b I; omega) (by have B_45 := IC_b I; omega)) ?_
              refine okM_gd (inb_of (by have B_46 := IC_b I; omega) (by have B_47 := IC_b I; omega)) ?_
              try have e_48 : ((ga u 9 x5) + x3 : Int32).toInt = ((ga u 9 x5) : Int32).toInt + (x3 : Int32).toInt := by have B_49 := IC_b I; exact add_i (by omega) (by omega)
              try have e_50 : ((ga u 10 x5) + x3 : Int32).toInt = ((ga u 10 x5) : Int32).toInt + (x3 : Int32).toInt := by have B_51 := IC_b I; exact add_i (by omega) (by omega)
              refine okM_bM (kC_Nodes_join I (by have FUe : FU = 100000 := rfl; have B_53 := IC_b I; omega)) (fun r_54 u_55 z_52 => ?_)
              obtain ⟨I_u_55, p_56, p_57⟩ := z_52
              try have e_60 : (x5 + 1 : Int32).toInt = (x5 : Int32).toInt + (1 : Int32).toInt := by exact add_i (by omega) (by omega)
              refine okM_seq (fun y_59 h_58 => ?_)
              have h_58' : y_59.toInt = (x5 + 1 : Int32).toInt := by rw [h_58]
              refine okM_mono (ih I_u_55 (by have B_61 := IC_b I_u_55; omega) (by have B_62 := IC_b I_u_55; omega) (by have B_63 := IC_b I_u_55; omega) (by have B_64 := IC_b I_u_55; omega) (by have B_65 := IC_b I_u_55; omega)) (fun r_67 u_68 z_66 => ?_)
              obtain ⟨I_u_68, p_69, p_70⟩ := z_66
              exact ⟨I_u_68, (by omega), (by omega)⟩
            · refine okM_gd (inb_of (by have B_71 := IC_b I; omega) (by have B_72 := IC_b I; omega)) ?_
              refine okM_gd (inb_of (by have B_73 := IC_b I; omega) (by have B_74 := IC_b I; omega)) ?_
              try have e_75 : ((ga u 9 x5) + x3 : Int32).toInt = ((ga u 9 x5) : Int32).toInt + (x3 : Int32).toInt := by have B_76 := IC_b I; exact add_i (by omega) (by omega)
              refine okM_bM (kC_Nodes_top I (by have FUe : FU = 100000 := rfl; have B_78 := IC_b I; omega)) (fun r_79 u_80 z_77 => ?_)
              obtain ⟨I_u_80, p_81, p_82⟩ := z_77
              try have e_85 : (x5 + 1 : Int32).toInt = (x5 : Int32).toInt + (1 : Int32).toInt := by exact add_i (by omega) (by omega)
              refine okM_seq (fun y_84 h_83 => ?_)
              have h_83' : y_84.toInt = (x5 + 1 : Int32).toInt := by rw [h_83]
              refine okM_mono (ih I_u_80 (by have B_86 := IC_b I_u_80; omega) (by have B_87 := IC_b I_u_80; omega) (by have B_88 := IC_b I_u_80; omega) (by have B_89 := IC_b I_u_80; omega) (by have B_90 := IC_b I_u_80; omega)) (fun r_92 u_93 z_91 => ?_)
              obtain ⟨I_u_93, p_94, p_95⟩ := z_91
              exact ⟨I_u_93, (by omega), (by omega)⟩
        · exact okM_some ⟨I, (by omega), (by omega)⟩
