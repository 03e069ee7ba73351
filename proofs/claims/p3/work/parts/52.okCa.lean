theorem lnK_le {k : Nat} (h : k < nS) : lnK k ≤ 50 := by
  have t : ∀ j : Fin nS, lnK j.val ≤ 50 := by decide +kernel
  exact t ⟨k, h⟩
theorem i2c_i2c (x : Int32) : i2c (i2c x) = i2c x := by
  have e : i2c x = nI (x.toBitVec.toNat % 65536) := pk_char x
  have e2 : i2c (nI (x.toBitVec.toNat % 65536)) = nI ((nI (x.toBitVec.toNat % 65536)).toBitVec.toNat % 65536) := pk_char _
  rw [e, e2, pk_tn (by omega), Nat.mod_mod]
theorem kC_Text_append_L30 : ∀ (n : Nat) {x1 : Int64} {x4 : Int32} {u : St} (I : IC u) (h0 : -1 ≤ x4.toInt) (h1 : x4.toInt ≤ 7) (h2 : (u.1 0).toInt + x4.toInt + 1 ≤ 2000) (hm : (x4.toInt + 1).toNat < n), okM (mC_Text_append_L30 n x1 x4 u) (fun r v => IC v ∧ Fq [0] [0] u v ∧ r.toInt = 1 ∧ (v.1 0).toInt = (u.1 0).toInt + x4.toInt + 1) := by
  intro n
  induction n with
  | zero => intro x1 x4 u I h0 h1 h2 hm; exact absurd hm (Nat.not_lt_zero _)
  | succ n ih =>
    intro x1 x4 u I h0 h1 h2 hm
    have l0 : (0 : Int32).toInt = 0 := by decide
    have l1 : (1 : Int32).toInt = 1 := by decide
    have l7 : (7 : Int32).toInt = 7 := by decide
    have l8 : (8 : Int32).toInt = 8 := by decide
    have l2000 : (2000 : Int32).toInt = 2000 := by decide
    rw [mC_Text_append_L30]
    refine okM_lt (fun c_1 => ?_) (fun c_1 => ?_)
    · exact okM_some ⟨I, (Fq_rfl u), (by omega), (by have B_2 := IC_b I; omega)⟩
    · refine okM_gd (inb_of (by have B_3 := IC_b I; omega) (by have B_4 := IC_b I; omega)) ?_
      refine okM_seq (fun u_6 h_5 => ?_)
      have I_u_6 : IC u_6 := by rw [h_5]; exact IC_a0 I (pk_fb _)
      have F_u_6 : Fq [0] [0] u u_6 := by rw [h_5]; exact Fq_sa (Fq_rfl u) rfl
      have g_7 : (u_6.1 0).toInt = (u.1 0).toInt := by rw [h_5]; rfl
      refine okM_seq (fun u_9 h_8 => ?_)
      try have e_10 : ((u_6.1 0) + 1 : Int32).toInt = ((u_6.1 0) : Int32).toInt + (1 : Int32).toInt := by have B_11 := IC_b I_u_6; exact add_i (by omega) (by omega)
      have I_u_9 : IC u_9 := by rw [h_8]; exact IC_s0 I_u_6 (by have B_12 := IC_b I_u_6; omega) (by have B_13 := IC_b I_u_6; omega)
      have F_u_9 : Fq [0] [0] u u_9 := by rw [h_8]; exact Fq_ss F_u_6 rfl
      try have e_14 : ((u_6.1 0) + 1 : Int32).toInt = ((u_6.1 0) : Int32).toInt + (1 : Int32).toInt := by have B_15 := IC_b I_u_6; exact add_i (by omega) (by omega)
      have g_16 : (u_9.1 0).toInt = (((u_6.1 0) + 1) : Int32).toInt := by rw [h_8]; rfl
      refine okM_seq (fun y_18 h_17 => ?_)
      have h_17' : y_18.toInt = x4.toInt - 1 := by rw [h_17]; exact dec_i (by omega)
      refine okM_mono (ih I_u_9 (by have B_19 := IC_b I_u_9; omega) (by have B_20 := IC_b I_u_9; omega) (by have B_21 := IC_b I_u_9; omega) (by have B_22 := IC_b I_u_9; omega)) (fun r_24 u_25 z_23 => ?_)
      obtain ⟨I_u_25, G_u_25, p_26, p_27⟩ := z_23
      have F_u_25 : Fq [0] [0] u u_25 := Fq_tr F_u_9 G_u_25 rfl rfl
      exact ⟨I_u_25, F_u_25, (by omega), (by have B_28 := IC_b I_u_25; have B_29 := IC_b I; omega)⟩
theorem kC_Text_append {x1 : Int64} {x3 : Int32} {u : St} (I : IC u) : okM (mC_Text_append x1 x3 u) (fun r v => IC v ∧ Fq [0] [0] u v ∧ ((r.toInt = 1 ∧ 1 ≤ x3.toInt ∧ x3.toInt ≤ 8 ∧ (u.1 0).toInt + x3.toInt ≤ 2000 ∧ (v.1 0).toInt = (u.1 0).toInt + x3.toInt) ∨ (r.toInt = 0 ∧ (x3.toInt < 1 ∨ 8 < x3.toInt ∨ 2000 < (u.1 0).toInt + x3.toInt) ∧ (v.1 0).toInt = (u.1 0).toInt))) := by
  have l0 : (0 : Int32).toInt = 0 := by decide
  have l1 : (1 : Int32).toInt = 1 := by decide
  have l7 : (7 : Int32).toInt = 7 := by decide
  have l8 : (8 : Int32).toInt = 8 := by decide
  have l2000 : (2000 : Int32).toInt = 2000 := by decide
  rw [mC_Text_append]
  refine okM_lt (fun c_1 => ?_) (fun c_1 => ?_)
  · exact okM_some ⟨I, (Fq_rfl u), (by have B_2 := IC_b I; omega)⟩
  · refine okM_lt (fun c_3 => ?_) (fun c_3 => ?_)
    · exact okM_some ⟨I, (Fq_rfl u), (by have B_4 := IC_b I; omega)⟩
    · try have e_5 : (2000 - x3 : Int32).toInt = (2000 : Int32).toInt - (x3 : Int32).toInt := by exact sub_i (by omega) (by omega)
      refine okM_le (fun c_6 => ?_) (fun c_6 => ?_)
      · try have e_9 : (x3 - 1 : Int32).toInt = (x3 : Int32).toInt - (1 : Int32).toInt := by exact sub_i (by omega) (by omega)
        refine okM_seq (fun y_8 h_7 => ?_)
        have h_7' : y_8.toInt = ((x3 - 1) : Int32).toInt := by rw [h_7]
        refine okM_mono (kC_Text_append_L30 _ I (by have FUe : FU = 100000 := rfl; have B_10 := IC_b I; omega) (by have FUe : FU = 100000 := rfl; have B_11 := IC_b I; omega) (by have FUe : FU = 100000 := rfl; have B_12 := IC_b I; omega) (by have FUe : FU = 100000 := rfl; have B_13 := IC_b I; omega)) (fun r_15 u_16 z_14 => ?_)
        obtain ⟨I_u_16, G_u_16, p_17, p_18⟩ := z_14
        have F_u_16 : Fq [0] [0] u u_16 := Fq_tr (Fq_rfl u) G_u_16 rfl rfl
        exact ⟨I_u_16, F_u_16, (by have B_19 := IC_b I; have B_20 := IC_b I_u_16; omega)⟩
      · exact okM_some ⟨I, (Fq_rfl u), (by have B_21 := IC_b I; omega)⟩
theorem kC_SqlReader_type {x1 : Int64} {x3 : Int32} {u : St} (I : IC u) : okM (mC_SqlReader_type x1 x3 u) (fun r v => IC v ∧ Fq [0] [0] u v ∧ ((r.toInt = 1 ∧ 1 ≤ x3.toInt ∧ x3.toInt ≤ 8 ∧ (u.1 0).toInt + x3.toInt ≤ 2000 ∧ (v.1 0).toInt = (u.1 0).toInt + x3.toInt) ∨ (r.toInt = 0 ∧ (x3.toInt < 1 ∨ 8 < x3.toInt ∨ 2000 < (u.1 0).toInt + x3.toInt) ∧ (v.1 0).toInt = (u.1 0).toInt))) := by
  have l0 : (0 : Int32).toInt = 0 := by decide
  have l1 : (1 : Int32).toInt = 1 := by decide
  have l8 : (8 : Int32).toInt = 8 := by decide
  have l2000 : (2000 : Int32).toInt = 2000 := by decide
  rw [mC_SqlReader_type]
  refine okM_bM (kC_Text_append I) (fun r_2 u_3 z_1 => ?_)
  obtain ⟨I_u_3, G_u_3, p_4⟩ := z_1
  have F_u_3 : Fq [0] [0] u u_3 := Fq_tr (Fq_rfl u) G_u_3 rfl rfl
  refine okM_gd (zb_of (by omega) (by omega)) ?_
  exact okM_some ⟨I_u_3, F_u_3, (by have B_5 := IC_b I; have B_6 := IC_b I_u_3; omega)⟩
theorem kC_Text_at_1 {x1 : Int32} {u : St} (I : IC u) : ok (mC_Text_at_1 x1 u) (fun r => -1 ≤ r.toInt ∧ r.toInt ≤ 255 ∧ (r.toInt = -1 ∨ (0 ≤ x1.toInt ∧ x1.toInt < (u.1 0).toInt))) := by
  have B := IC_b I
  have m1 : ((-1 : Int32)).toInt = -1 := by decide
  have z0 : ((0 : Int32)).toInt = 0 := by decide
  rw [mC_Text_at_1]
  refine ok_lt (fun h => ok_some ⟨by omega, by omega, by omega⟩) (fun h => ?_)
  refine ok_lt (fun h => ?_) (fun h => ok_some ⟨by omega, by omega, by omega⟩)
  refine ok_gd (inb_of (by omega) (by omega)) (ok_some ?_)
  obtain ⟨j, hj, e⟩ := pk_andE (ga u 0 x1) (m := 255) 8 (by decide)
  rw [e, nI_toInt (by omega)]
  exact ⟨by omega, by omega, by omega⟩
theorem kC_Text_isSmall {x0 : Int32} {u : St} (I : IC u) : ok (mC_Text_isSmall x0 u) (fun r => 0 ≤ r.toInt ∧ r.toInt ≤ 1 ∧ (r.toInt = 0 ∨ 1 ≤ x0.toInt)) := by
  have l0 : (0 : Int32).toInt = 0 := by decide
  have l1 : (1 : Int32).toInt = 1 := by decide
  have l97 : (97 : Int32).toInt = 97 := by decide
  have l122 : (122 : Int32).toInt = 122 := by decide
  rw [mC_Text_isSmall]
  refine ok_lt (fun c_1 => ?_) (fun c_1 => ?_)
  · exact ok_some ⟨(by omega), (by omega), (by omega)⟩
  · refine ok_lt (fun c_2 => ?_) (fun c_2 => ?_)
    · exact ok_some ⟨(by omega), (by omega), (by omega)⟩
    · exact ok_some ⟨(by omega), (by omega), (by omega)⟩
theorem kC_Text_isDigit {x0 : Int32} {u : St} (I : IC u) : ok (mC_Text_isDigit x0 u) (fun r => 0 ≤ r.toInt ∧ r.toInt ≤ 1 ∧ (r.toInt = 0 ∨ 1 ≤ x0.toInt)) := by
  have l0 : (0 : Int32).toInt = 0 := by decide
  have l1 : (1 : Int32).toInt = 1 := by decide
  have l48 : (48 : Int32).toInt = 48 := by decide
  have l57 : (57 : Int32).toInt = 57 := by decide
  rw [mC_Text_isDigit]
  refine ok_lt (fun c_1 => ?_) (fun c_1 => ?_)
  · exact ok_some ⟨(by omega), (by omega), (by omega)⟩
  · refine ok_lt (fun c_2 => ?_) (fun c_2 => ?_)
    · exact ok_some ⟨(by omega), (by omega), (by omega)⟩
    · exact ok_some ⟨(by omega), (by omega), (by omega)⟩
theorem kC_Text_isOfName {x0 : Int32} {u : St} (I : IC u) : ok (mC_Text_isOfName x0 u) (fun r => 0 ≤ r.toInt ∧ r.toInt ≤ 1 ∧ (r.toInt = 0 ∨ 1 ≤ x0.toInt)) := by
  have l0 : (0 : Int32).toInt = 0 := by decide
  have l1 : (1 : Int32).toInt = 1 := by decide
  have l95 : (95 : Int32).toInt = 95 := by decide
  rw [mC_Text_isOfName]
  refine ok_bP (kC_Text_isSmall I) (fun r_2 z_1 => ?_)
  obtain ⟨p_3, p_4, p_5⟩ := z_1
  refine ok_eq (fun c_6 c_6' => ?_) (fun c_6 => ?_)
  · refine ok_bP (kC_Text_isDigit I) (fun r_8 z_7 => ?_)
    obtain ⟨p_9, p_10, p_11⟩ := z_7
    refine ok_eq (fun c_12 c_12' => ?_) (fun c_12 => ?_)
    · refine ok_eq (fun c_13 c_13' => ?_) (fun c_13 => ?_)
      · exact ok_some ⟨(by omega), (by omega), (by omega)⟩
      · exact ok_some ⟨(by omega), (by omega), (by omega)⟩
    · exact ok_some ⟨(by omega), (by omega), (by omega)⟩
  · exact ok_some ⟨(by omega), (by omega), (by omega)⟩
theorem kC_Text_isName_L24 : ∀ (n : Nat) {x1 : Int32} {u : St} (I : IC u) (h0 : 0 ≤ x1.toInt) (h1 : x1.toInt ≤ 2000) (hm : (2000 - x1.toInt).toNat < n), ok (mC_Text_isName_L24 n x1 u) (fun r => 0 ≤ r.toInt ∧ r.toInt ≤ 1) := by
  intro n
  induction n with
  | zero => intro x1 u I h0 h1 hm; exact absurd hm (Nat.not_lt_zero _)
  | succ n ih =>
    intro x1 u I h0 h1 hm
    have l0 : (0 : Int32).toInt = 0 := by decide
    have l1 : (1 : Int32).toInt = 1 := by decide
    have l2000 : (2000 : Int32).toInt = 2000 := by decide
    rw [mC_Text_isName_L24]
    refine ok_le (fun c_1 => ?_) (fun c_1 => ?_)
    · exact ok_some ⟨(by omega), (by omega)⟩
    · refine ok_bP (kC_Text_at_1 I) (fun r_3 z_2 => ?_)
      obtain ⟨p_4, p_5, p_6⟩ := z_2
      refine ok_bP (kC_Text_isOfName I) (fun r_8 z_7 => ?_)
      obtain ⟨p_9, p_10, p_11⟩ := z_7
      refine ok_eq (fun c_12 c_12' => ?_) (fun c_12 => ?_)
      · exact ok_some ⟨(by omega), (by omega)⟩
      · try have e_15 : (x1 + 1 : Int32).toInt = (x1 : Int32).toInt + (1 : Int32).toInt := by exact add_i (by omega) (by omega)
        refine ok_seq (fun y_14 h_13 => ?_)
        have h_13' : y_14.toInt = (x1 + 1 : Int32).toInt := by rw [h_13]
        refine ok_mono (ih I (by have B_16 := IC_b I; omega) (by have B_17 := IC_b I; omega) (by have B_18 := IC_b I; omega)) (fun r_20 z_19 => ?_)
        obtain ⟨p_21, p_22⟩ := z_19
        exact ⟨(by omega), (by omega)⟩
theorem kC_Text_isName {u : St} (I : IC u) : ok (mC_Text_isName u) (fun r => 0 ≤ r.toInt ∧ r.toInt ≤ 1) := by
  have l0 : (0 : Int32).toInt = 0 := by decide
  have l1 : (1 : Int32).toInt = 1 := by decide
  have l16 : (16 : Int32).toInt = 16 := by decide
  have l2000 : (2000 : Int32).toInt = 2000 := by decide
  rw [mC_Text_isName]
  refine ok_lt (fun c_1 => ?_) (fun c_1 => ?_)
  · exact ok_some ⟨(by omega), (by omega)⟩
  · refine ok_bP (kC_Text_at_1 I) (fun r_3 z_2 => ?_)
    obtain ⟨p_4, p_5, p_6⟩ := z_2
    refine ok_bP (kC_Text_isSmall I) (fun r_8 z_7 => ?_)
    obtain ⟨p_9, p_10, p_11⟩ := z_7
    refine ok_eq (fun c_12 c_12' => ?_) (fun c_12 => ?_)
    · exact ok_some ⟨(by omega), (by omega)⟩
    · refine ok_mono (kC_Text_isName_L24 _ I (by have FUe : FU = 100000 := rfl; have B_13 := IC_b I; omega) (by have FUe : FU = 100000 := rfl; have B_14 := IC_b I; omega) (by have FUe : FU = 100000 := rfl; have B_15 := IC_b I; omega)) (fun r_17 z_16 => ?_)
      obtain ⟨p_18, p_19⟩ := z_16
      exact ⟨(by omega), (by omega)⟩
theorem kC_Text_size_1 {u : St} (I : IC u) : ok (mC_Text_size_1 u) (fun r => r.toInt = (u.1 0).toInt) := by
  have l0 : (0 : Int32).toInt = 0 := by decide
  rw [mC_Text_size_1]
  exact ok_some (by have B_1 := IC_b I; omega)
theorem kC_Text_span {x0 : Int32} {x1 : Int32} {u : St} (I : IC u) : ok (mC_Text_span x0 x1 u) (fun r => r = ((x0 <<< (5 &&& 31)) ||| x1)) := by
  exact ok_some rfl
theorem kC_Text_sizeOf {x0 : Int32} {u : St} (I : IC u) : ok (mC_Text_sizeOf x0 u) (fun r => 0 ≤ r.toInt ∧ r.toInt ≤ 31 ∧ (x0.toInt < 0 ∨ r.toInt = (x0 &&& 31).toInt)) := by
  have z0 : ((0 : Int32)).toInt = 0 := by decide
  rw [mC_Text_sizeOf]
  refine ok_le (fun h => ok_some ?_) (fun h => ok_some ⟨by omega, by omega, by omega⟩)
  obtain ⟨j, hj, e⟩ := pk_andE x0 (m := 31) 5 (by decide)
  rw [e, nI_toInt (by omega)]
  exact ⟨by omega, by omega, by omega⟩
theorem kC_Text_startOf {x0 : Int32} {u : St} (I : IC u) : ok (mC_Text_startOf x0 u) (fun r => True) := by
  have l5 : (5 : Int32).toInt = 5 := by decide
  have l31 : (31 : Int32).toInt = 31 := by decide
  rw [mC_Text_startOf]
  exact ok_some trivial
theorem kC_Text_at_4 {x1 : Int32} {u : St} (I : IC u) : ok (mC_Text_at_4 x1 u) (fun r => -1 ≤ r.toInt ∧ r.toInt ≤ 255 ∧ (r.toInt = -1 ∨ (0 ≤ x1.toInt ∧ x1.toInt < (u.1 2).toInt))) := by
  have B := IC_b I
  have m1 : ((-1 : Int32)).toInt = -1 := by decide
  have z0 : ((0 : Int32)).toInt = 0 := by decide
  rw [mC_Text_at_4]
  refine ok_lt (fun h => ok_some ⟨by omega, by omega, by omega⟩) (fun h => ?_)
  refine ok_lt (fun h => ?_) (fun h => ok_some ⟨by omega, by omega, by omega⟩)
  refine ok_gd (inb_of (by omega) (by omega)) (ok_some ?_)
  obtain ⟨j, hj, e⟩ := pk_andE (ga u 1 x1) (m := 255) 8 (by decide)
  rw [e, nI_toInt (by omega)]
  exact ⟨by omega, by omega, by omega⟩
theorem kC_Text_same_4_1_L20 : ∀ (n : Nat) {x1 : Int32} {x3 : Int32} {x4 : Int32} {x5 : Int32} {u : St} (I : IC u) (h0 : 0 ≤ x5.toInt) (h1 : x5.toInt ≤ 31) (h2 : x4.toInt ≤ 31) (hm : (31 - x5.toInt).toNat < n), ok (mC_Text_same_4_1_L20 n x1 x3 x4 x5 u) (fun r => 0 ≤ r.toInt ∧ r.toInt ≤ 1) := by
  intro n
  induction n with
  | zero => intro x1 x3 x4 x5 u I h0 h1 h2 hm; exact absurd hm (Nat.not_lt_zero _)
  | succ n ih =>
    intro x1 x3 x4 x5 u I h0 h1 h2 hm
    have l0 : (0 : Int32).toInt = 0 := by decide
    have l1 : (1 : Int32).toInt = 1 := by decide
    have l31 : (31 : Int32).toInt = 31 := by decide
    rw [mC_Text_same_4_1_L20]
    refine ok_le (fun c_1 => ?_) (fun c_1 => ?_)
    · exact ok_some ⟨(by omega), (by omega)⟩
    · refine ok_bP (kC_Text_startOf I) (fun r_3 z_2 => ?_)
      try have e_4 : (r_3 + x5 : Int32).toInt = (r_3 : Int32).toInt + (x5 : Int32).toInt := by exact add_i (by omega) (by omega)
      refine ok_bP (kC_Text_at_4 I) (fun r_6 z_5 => ?_)
      obtain ⟨p_7, p_8, p_9⟩ := z_5
      refine ok_bP (kC_Text_startOf I) (fun r_11 z_10 => ?_)
      try have e_12 : (r_11 + x5 : Int32).toInt = (r_11 : Int32).toInt + (x5 : Int32).toInt := by exact add_i (by omega) (by omega)
      refine ok_bP (kC_Text_at_1 I) (fun r_14 z_13 => ?_)
      obtain ⟨p_15, p_16, p_17⟩ := z_13
      refine ok_eq (fun c_18 c_18' => ?_) (fun c_18 => ?_)
      · try have e_21 : (x5 + 1 : Int32).toInt = (x5 : Int32).toInt + (1 : Int32).toInt := by exact add_i (by omega) (by omega)
        refine ok_seq (fun y_20 h_19 => ?_)
        have h_19' : y_20.toInt = (x5 + 1 : Int32).toInt := by rw [h_19]
        refine ok_mono (ih I (by have B_22 := IC_b I; omega) (by have B_23 := IC_b I; omega) (by have B_24 := IC_b I; omega) (by have B_25 := IC_b I; omega)) (fun r_27 z_26 => ?_)
        obtain ⟨p_28, p_29⟩ := z_26
        exact ⟨(by omega), (by omega)⟩
      · exact ok_some ⟨(by omega), (by omega)⟩
theorem kC_Text_same_4_1 {x1 : Int32} {x3 : Int32} {u : St} (I : IC u) : ok (mC_Text_same_4_1 x1 x3 u) (fun r => 0 ≤ r.toInt ∧ r.toInt ≤ 1) := by
  have l0 : (0 : Int32).toInt = 0 := by decide
  have l1 : (1 : Int32).toInt = 1 := by decide
  have l31 : (31 : Int32).toInt = 31 := by decide
  rw [mC_Text_same_4_1]
  refine ok_bP (kC_Text_sizeOf I) (fun r_2 z_1 => ?_)
  obtain ⟨p_3, p_4, p_5⟩ := z_1
  refine ok_bP (kC_Text_sizeOf I) (fun r_7 z_6 => ?_)
  obtain ⟨p_8, p_9, p_10⟩ := z_6
  refine ok_eq (fun c_11 c_11' => ?_) (fun c_11 => ?_)
  · refine ok_mono (kC_Text_same_4_1_L20 _ I (by have FUe : FU = 100000 := rfl; have B_12 := IC_b I; omega) (by have FUe : FU = 100000 := rfl; have B_13 := IC_b I; omega) (by have FUe : FU = 100000 := rfl; have B_14 := IC_b I; omega) (by have FUe : FU = 100000 := rfl; have B_15 := IC_b I; omega)) (fun r_17 z_16 => ?_)
    obtain ⟨p_18, p_19⟩ := z_16
    exact ⟨(by omega), (by omega)⟩
  · exact ok_some ⟨(by omega), (by omega)⟩
theorem kC_Catalog_findTable_3_1_L2 : ∀ (n : Nat) {x2 : Int32} {x3 : Int32} {u : St} (I : IC u) (h0 : 0 ≤ x3.toInt) (h1 : x3.toInt ≤ 8) (hm : (8 - x3.toInt).toNat < n), ok (mC_Catalog_findTable_3_1_L2 n x2 x3 u) (fun r => -1 ≤ r.toInt ∧ r.toInt ≤ 8) := by
  intro n
  induction n with
  | zero => intro x2 x3 u I h0 h1 hm; exact absurd hm (Nat.not_lt_zero _)
  | succ n ih =>
    intro x2 x3 u I h0 h1 hm
    have lm1 : (-1 : Int32).toInt = -1 := by decide
    have l0 : (0 : Int32).toInt = 0 := by decide
    have l1 : (1 : Int32).toInt = 1 := by decide
    have l2 : (2 : Int32).toInt = 2 := by decide
    have l8 : (8 : Int32).toInt = 8 := by decide
    rw [mC_Catalog_findTable_3_1_L2]
    refine ok_le (fun c_1 => ?_) (fun c_1 => ?_)
    · exact ok_some ⟨(by omega), (by omega)⟩
    · refine ok_gd (inb_of (by have B_2 := IC_b I; omega) (by have B_3 := IC_b I; omega)) ?_
      refine ok_bP (kC_Text_same_4_1 I) (fun r_5 z_4 => ?_)
      obtain ⟨p_6, p_7⟩ := z_4
      refine ok_eq (fun c_8 c_8' => ?_) (fun c_8 => ?_)
      · try have e_11 : (x3 + 1 : Int32).toInt = (x3 : Int32).toInt + (1 : Int32).toInt := by exact add_i (by omega) (by omega)
        refine ok_seq (fun y_10 h_9 => ?_)
        have h_9' : y_10.toInt = (x3 + 1 : Int32).toInt := by rw [h_9]
        refine ok_mono (ih I (by have B_12 := IC_b I; omega) (by have B_13 := IC_b I; omega) (by have B_14 := IC_b I; omega)) (fun r_16 z_15 => ?_)
        obtain ⟨p_17, p_18⟩ := z_15
        exact ⟨(by omega), (by omega)⟩
      · exact ok_some ⟨(by omega), (by omega)⟩
theorem kC_Catalog_findTable_3_1 {x2 : Int32} {u : St} (I : IC u) : ok (mC_Catalog_findTable_3_1 x2 u) (fun r => -1 ≤ r.toInt ∧ r.toInt ≤ 8) := by
  have l0 : (0 : Int32).toInt = 0 := by decide
  have l1 : (1 : Int32).toInt = 1 := by decide
  have l8 : (8 : Int32).toInt = 8 := by decide
  rw [mC_Catalog_findTable_3_1]
  refine ok_mono (kC_Catalog_findTable_3_1_L2 _ I (by have FUe : FU = 100000 := rfl; have B_1 := IC_b I; omega) (by have FUe : FU = 100000 := rfl; have B_2 := IC_b I; omega) (by have FUe : FU = 100000 := rfl; have B_3 := IC_b I; omega)) (fun r_5 z_4 => ?_)
  obtain ⟨p_6, p_7⟩ := z_4
  exact ⟨(by omega), (by omega)⟩
theorem kC_Text_keep_L7 : ∀ (n : Nat) {x2 : Int32} {x3 : Int32} {u : St} (I : IC u) (h0 : 0 ≤ x3.toInt) (h1 : x3.toInt ≤ 2000) (hm : (2000 - x3.toInt).toNat < n), okM (mC_Text_keep_L7 n x2 x3 u) (fun r v => IC v ∧ Fq [2] [1] u v ∧ (v.1 1).toInt = (u.1 1).toInt) := by
  intro n
  induction n with
  | zero => intro x2 x3 u I h0 h1 hm; exact absurd hm (Nat.not_lt_zero _)
  | succ n ih =>
    intro x2 x3 u I h0 h1 hm
    have l0 : (0 : Int32).toInt = 0 := by decide
    have l1 : (1 : Int32).toInt = 1 := by decide
    have l2 : (2 : Int32).toInt = 2 := by decide
    have l2000 : (2000 : Int32).toInt = 2000 := by decide
    rw [mC_Text_keep_L7]
    refine okM_le (fun c_1 => ?_) (fun c_1 => ?_)
    · try have e_2 : ((u.1 2) - x2 : Int32).toInt = ((u.1 2) : Int32).toInt - (x2 : Int32).toInt := by have B_3 := IC_b I; exact sub_i (by omega) (by omega)
      refine okM_bP (kC_Text_span I) (fun r_5 z_4 => ?_)
      have p_6 := z_4
      exact okM_some ⟨I, (Fq_rfl u), (by have B_7 := IC_b I; omega)⟩
    · refine okM_le (fun c_8 => ?_) (fun c_8 => ?_)
      · try have e_9 : ((u.1 2) - x2 : Int32).toInt = ((u.1 2) : Int32).toInt - (x2 : Int32).toInt := by have B_10 := IC_b I; exact sub_i (by omega) (by omega)
        refine okM_bP (kC_Text_span I) (fun r_12 z_11 => ?_)
        have p_13 := z_11
        exact okM_some ⟨I, (Fq_rfl u), (by have B_14 := IC_b I; omega)⟩
      · refine okM_gd (inb_of (by have B_15 := IC_b I; omega) (by have B_16 := IC_b I; omega)) ?_
        refine okM_gd (inb_of (by have B_17 := IC_b I; omega) (by have B_18 := IC_b I; omega)) ?_
        refine okM_seq (fun u_20 h_19 => ?_)
        have I_u_20 : IC u_20 := by rw [h_19]; exact I
        have F_u_20 : Fq [2] [1] u u_20 := by rw [h_19]; exact Fq_sa (Fq_rfl u) rfl
        have g_21 : (u_20.1 0).toInt = (u.1 0).toInt := by rw [h_19]; rfl
        have g_22 : (u_20.1 1).toInt = (u.1 1).toInt := by rw [h_19]; rfl
        have g_23 : (u_20.1 2).toInt = (u.1 2).toInt := by rw [h_19]; rfl
        refine okM_seq (fun u_25 h_24 => ?_)
        try have e_26 : ((u_20.1 2) + 1 : Int32).toInt = ((u_20.1 2) : Int32).toInt + (1 : Int32).toInt := by have B_27 := IC_b I_u_20; exact add_i (by omega) (by omega)
        have I_u_25 : IC u_25 := by rw [h_24]; exact IC_s2 I_u_20 (by have B_28 := IC_b I_u_20; omega) (by have B_29 := IC_b I_u_20; omega)
        have F_u_25 : Fq [2] [1] u u_25 := by rw [h_24]; exact Fq_ss F_u_20 rfl
        try have e_30 : ((u_20.1 2) + 1 : Int32).toInt = ((u_20.1 2) : Int32).toInt + (1 : Int32).toInt := by have B_31 := IC_b I_u_20; exact add_i (by omega) (by omega)
        have g_32 : (u_25.1 2).toInt = (((u_20.1 2) + 1) : Int32).toInt := by rw [h_24]; rfl
        have g_33 : (u_25.1 0).toInt = (u_20.1 0).toInt := by rw [h_24]; rfl
        have g_34 : (u_25.1 1).toInt = (u_20.1 1).toInt := by rw [h_24]; rfl
        try have e_37 : (x3 + 1 : Int32).toInt = (x3 : Int32).toInt + (1 : Int32).toInt := by exact add_i (by omega) (by omega)
        refine okM_seq (fun y_36 h_35 => ?_)
        have h_35' : y_36.toInt = (x3 + 1 : Int32).toInt := by rw [h_35]
        refine okM_mono (ih I_u_25 (by have B_38 := IC_b I_u_25; omega) (by have B_39 := IC_b I_u_25; omega) (by have B_40 := IC_b I_u_25; omega)) (fun r_42 u_43 z_41 => ?_)
        obtain ⟨I_u_43, G_u_43, p_44⟩ := z_41
        have F_u_43 : Fq [2] [1] u u_43 := Fq_tr F_u_25 G_u_43 rfl rfl
        have g_45 : (u_43.1 0).toInt = (u_25.1 0).toInt := by rw [G_u_43.1 0 rfl]
        have g_46 : (u_43.1 1).toInt = (u_25.1 1).toInt := by rw [G_u_43.1 1 rfl]
        exact ⟨I_u_43, F_u_43, (by have B_47 := IC_b I_u_43; have B_48 := IC_b I; omega)⟩
theorem kC_Text_keep {u : St} (I : IC u) : okM (mC_Text_keep u) (fun r v => IC v ∧ Fq [2] [1] u v ∧ (v.1 1).toInt = (u.1 1).toInt) := by
  have l0 : (0 : Int32).toInt = 0 := by decide
  have l1 : (1 : Int32).toInt = 1 := by decide
  have l2 : (2 : Int32).toInt = 2 := by decide
  have l2000 : (2000 : Int32).toInt = 2000 := by decide
  rw [mC_Text_keep]
  refine okM_seq (fun y_2 h_1 => ?_)
  have h_1' : y_2.toInt = ((u.1 2) : Int32).toInt := by rw [h_1]
  refine okM_mono (kC_Text_keep_L7 _ I (by have FUe : FU = 100000 := rfl; have B_3 := IC_b I; omega) (by have FUe : FU = 100000 := rfl; have B_4 := IC_b I; omega) (by have FUe : FU = 100000 := rfl; have B_5 := IC_b I; omega)) (fun r_7 u_8 z_6 => ?_)
  obtain ⟨I_u_8, G_u_8, p_9⟩ := z_6
  have F_u_8 : Fq [2] [1] u u_8 := Fq_tr (Fq_rfl u) G_u_8 rfl rfl
  exact ⟨I_u_8, F_u_8, (by have B_10 := IC_b I_u_8; have B_11 := IC_b I; omega)⟩
theorem kC_Catalog_addTable {u : St} (I : IC u) : okM (mC_Catalog_addTable u) (fun r v => IC v ∧ Fq [1, 2] [1, 2] u v) := by
  have lm2 : (-2 : Int32).toInt = -2 := by decide
  have lm1 : (-1 : Int32).toInt = -1 := by decide
  have l0 : (0 : Int32).toInt = 0 := by decide
  have l1 : (1 : Int32).toInt = 1 := by decide
  have l8 : (8 : Int32).toInt = 8 := by decide
  rw [mC_Catalog_addTable]
  refine okM_bP (kC_Text_isName I) (fun r_2 z_1 => ?_)
  obtain ⟨p_3, p_4⟩ := z_1
  refine okM_eq (fun c_5 c_5' => ?_) (fun c_5 => ?_)
  · exact okM_some ⟨I, (Fq_rfl u)⟩
  · refine okM_lt (fun c_6 => ?_) (fun c_6 => ?_)
    · refine okM_bP (kC_Text_size_1 I) (fun r_8 z_7 => ?_)
      have p_9 := z_7
      refine okM_bP (kC_Text_span I) (fun r_11 z_10 => ?_)
      have p_12 := z_10
      refine okM_bP (kC_Catalog_findTable_3_1 I) (fun r_14 z_13 => ?_)
      obtain ⟨p_15, p_16⟩ := z_13
      refine okM_lt (fun c_17 => ?_) (fun c_17 => ?_)
      · refine okM_bM (kC_Text_keep I) (fun r_19 u_20 z_18 => ?_)
        obtain ⟨I_u_20, G_u_20, p_21⟩ := z_18
        have F_u_20 : Fq [1, 2] [1, 2] u u_20 := Fq_tr (Fq_rfl u) G_u_20 rfl rfl
        have g_22 : (u_20.1 1).toInt = (u.1 1).toInt := by rw [G_u_20.1 1 rfl]
        refine okM_gd (inb_of (by have B_23 := IC_b I; have B_24 := IC_b I_u_20; omega) (by have B_25 := IC_b I; have B_26 := IC_b I_u_20; omega)) ?_
        refine okM_seq (fun u_28 h_27 => ?_)
        have I_u_28 : IC u_28 := by rw [h_27]; exact I_u_20
        have F_u_28 : Fq [1, 2] [1, 2] u u_28 := by rw [h_27]; exact Fq_sa F_u_20 rfl
        have g_29 : (u_28.1 1).toInt = (u_20.1 1).toInt := by rw [h_27]; rfl
        refine okM_seq (fun u_31 h_30 => ?_)
        try have e_32 : ((u_28.1 1) + 1 : Int32).toInt = ((u_28.1 1) : Int32).toInt + (1 : Int32).toInt := by have B_33 := IC_b I_u_28; exact add_i (by omega) (by omega)
        have I_u_31 : IC u_31 := by rw [h_30]; exact IC_s1 I_u_28 (by have B_34 := IC_b I_u_28; omega) (by have B_35 := IC_b I_u_28; omega)
        have F_u_31 : Fq [1, 2] [1, 2] u u_31 := by rw [h_30]; exact Fq_ss F_u_28 rfl
        try have e_36 : ((u_28.1 1) + 1 : Int32).toInt = ((u_28.1 1) : Int32).toInt + (1 : Int32).toInt := by have B_37 := IC_b I_u_28; exact add_i (by omega) (by omega)
        have g_38 : (u_31.1 1).toInt = (((u_28.1 1) + 1) : Int32).toInt := by rw [h_30]; rfl
        try have e_39 : ((u_31.1 1) - 1 : Int32).toInt = ((u_31.1 1) : Int32).toInt - (1 : Int32).toInt := by have B_40 := IC_b I_u_31; exact sub_i (by omega) (by omega)
        exact okM_some ⟨I_u_31, F_u_31⟩
      · exact okM_some ⟨I, (Fq_rfl u)⟩
    · exact okM_some ⟨I, (Fq_rfl u)⟩
theorem kC_Text_clear {u : St} (I : IC u) : ok (mC_Text_clear u) (fun v => IC v ∧ Fq [0] [] u v ∧ (v.1 0).toInt = 0) := by
  have l0 : (0 : Int32).toInt = 0 := by decide
  rw [mC_Text_clear]
  refine ok_seq (fun u_2 h_1 => ?_)
  have I_u_2 : IC u_2 := by rw [h_1]; exact IC_s0 I (by have B_3 := IC_b I; omega) (by have B_4 := IC_b I; omega)
  have F_u_2 : Fq [0] [] u u_2 := by rw [h_1]; exact Fq_ss (Fq_rfl u) rfl
  have g_5 : (u_2.1 0).toInt = (0 : Int32).toInt := by rw [h_1]; rfl
  exact ok_some ⟨I_u_2, F_u_2, (by have B_6 := IC_b I_u_2; omega)⟩
theorem kC_SqlReader_table {u : St} (I : IC u) : okM (mC_SqlReader_table u) (fun r v => IC v ∧ Fq [0, 1, 2] [1, 2] u v ∧ (v.1 0).toInt = 0) := by
  have l0 : (0 : Int32).toInt = 0 := by decide
  rw [mC_SqlReader_table]
  refine okM_bM (kC_Catalog_addTable I) (fun r_2 u_3 z_1 => ?_)
  obtain ⟨I_u_3, G_u_3⟩ := z_1
  have F_u_3 : Fq [0, 1, 2] [1, 2] u u_3 := Fq_tr (Fq_rfl u) G_u_3 rfl rfl
  refine okM_bP (kC_Text_clear I_u_3) (fun u_5 z_4 => ?_)
  obtain ⟨I_u_5, G_u_5, p_6⟩ := z_4
  have F_u_5 : Fq [0, 1, 2] [1, 2] u u_5 := Fq_tr F_u_3 G_u_5 rfl rfl
  exact okM_some ⟨I_u_5, F_u_5, (by have B_7 := IC_b I_u_5; omega)⟩
theorem kC_Catalog_has {x1 : Int32} {u : St} (I : IC u) : ok (mC_Catalog_has x1 u) (fun r => 0 ≤ r.toInt ∧ r.toInt ≤ 1 ∧ (r.toInt = 0 ∨ (0 ≤ x1.toInt ∧ x1.toInt < (u.1 1).toInt))) := by
  have l0 : (0 : Int32).toInt = 0 := by decide
  have l1 : (1 : Int32).toInt = 1 := by decide
  rw [mC_Catalog_has]
  refine ok_lt (fun c_1 => ?_) (fun c_1 => ?_)
  · exact ok_some ⟨(by omega), (by omega), (by have B_2 := IC_b I; omega)⟩
  · refine ok_le (fun c_3 => ?_) (fun c_3 => ?_)
    · exact ok_some ⟨(by omega), (by omega), (by have B_4 := IC_b I; omega)⟩
    · exact ok_some ⟨(by omega), (by omega), (by have B_5 := IC_b I; omega)⟩
theorem kC_Catalog_columnsOf {x1 : Int32} {u : St} (I : IC u) : ok (mC_Catalog_columnsOf x1 u) (fun r => 0 ≤ r.toInt ∧ r.toInt ≤ 8 ∧ (r.toInt = 0 ∨ (0 ≤ x1.toInt ∧ x1.toInt < 8))) := by
  have l0 : (0 : Int32).toInt = 0 := by decide
  have l3 : (3 : Int32).toInt = 3 := by decide
  have l8 : (8 : Int32).toInt = 8 := by decide
  rw [mC_Catalog_columnsOf]
  have F := IC_col I x1
  refine ok_bP (kC_Catalog_has I) (fun r_2 z_1 => ?_)
  obtain ⟨p_3, p_4, p_5⟩ := z_1
  refine ok_eq (fun c_6 c_6' => ?_) (fun c_6 => ?_)
  · exact ok_some ⟨(by omega), (by omega), (by omega)⟩
  · refine ok_gd (inb_of (by have B_7 := IC_b I; omega) (by have B_8 := IC_b I; omega)) ?_
    exact ok_some ⟨(by have B_9 := IC_b I; omega), (by have B_10 := IC_b I; omega), (by have B_11 := IC_b I; omega)⟩
theorem kC_Catalog_findColumn_3_1_L3 : ∀ (n : Nat) {x1 : Int32} {x3 : Int32} {x4 : Int32} {u : St} (I : IC u) (h0 : 0 ≤ x4.toInt) (h1 : x4.toInt ≤ 8) (hm : (8 - x4.toInt).toNat < n), ok (mC_Catalog_findColumn_3_1_L3 n x1 x3 x4 u) (fun r => -1 ≤ r.toInt ∧ r.toInt ≤ 8) := by
  intro n
  induction n with
  | zero => intro x1 x3 x4 u I h0 h1 hm; exact absurd hm (Nat.not_lt_zero _)
  | succ n ih =>
    intro x1 x3 x4 u I h0 h1 hm
    have lm1 : (-1 : Int32).toInt = -1 := by decide
    have l0 : (0 : Int32).toInt = 0 := by decide
    have l1 : (1 : Int32).toInt = 1 := by decide
    have l4 : (4 : Int32).toInt = 4 := by decide
    have l8 : (8 : Int32).toInt = 8 := by decide
    rw [mC_Catalog_findColumn_3_1_L3]
    refine ok_bP (kC_Catalog_columnsOf I) (fun r_2 z_1 => ?_)
    obtain ⟨p_3, p_4, p_5⟩ := z_1
    refine ok_le (fun c_6 => ?_) (fun c_6 => ?_)
    · exact ok_some ⟨(by omega), (by omega)⟩
    · try have e_7 : (x1 * 8 : Int32).toInt = (x1 : Int32).toInt * 8 := by exact muc_i l8 (by omega) (by omega)
      try have e_8 : ((x1 * 8) + x4 : Int32).toInt = ((x1 * 8) : Int32).toInt + (x4 : Int32).toInt := by exact add_i (by omega) (by omega)
      refine ok_gd (inb_of (by have B_9 := IC_b I; omega) (by have B_10 := IC_b I; omega)) ?_
      refine ok_bP (kC_Text_same_4_1 I) (fun r_12 z_11 => ?_)
      obtain ⟨p_13, p_14⟩ := z_11
      refine ok_eq (fun c_15 c_15' => ?_) (fun c_15 => ?_)
      · try have e_18 : (x4 + 1 : Int32).toInt = (x4 : Int32).toInt + (1 : Int32).toInt := by exact add_i (by omega) (by omega)
        refine ok_seq (fun y_17 h_16 => ?_)
        have h_16' : y_17.toInt = (x4 + 1 : Int32).toInt := by rw [h_16]
        refine ok_mono (ih I (by have B_19 := IC_b I; omega) (by have B_20 := IC_b I; omega) (by have B_21 := IC_b I; omega)) (fun r_23 z_22 => ?_)
        obtain ⟨p_24, p_25⟩ := z_22
        exact ⟨(by omega), (by omega)⟩
      · exact ok_some ⟨(by omega), (by omega)⟩
theorem kC_Catalog_findColumn_3_1 {x1 : Int32} {x3 : Int32} {u : St} (I : IC u) : ok (mC_Catalog_findColumn_3_1 x1 x3 u) (fun r => -1 ≤ r.toInt ∧ r.toInt ≤ 8) := by
  have l0 : (0 : Int32).toInt = 0 := by decide
  have l1 : (1 : Int32).toInt = 1 := by decide
  have l8 : (8 : Int32).toInt = 8 := by decide
  rw [mC_Catalog_findColumn_3_1]
  refine ok_mono (kC_Catalog_findColumn_3_1_L3 _ I (by have FUe : FU = 100000 := rfl; have B_1 := IC_b I; omega) (by have FUe : FU = 100000 := rfl; have B_2 := IC_b I; omega) (by have FUe : FU = 100000 := rfl; have B_3 := IC_b I; omega)) (fun r_5 z_4 => ?_)
  obtain ⟨p_6, p_7⟩ := z_4
  exact ⟨(by omega), (by omega)⟩
theorem kC_Catalog_addColumn {x1 : Int32} {x2 : Int32} {u : St} (I : IC u) : okM (mC_Catalog_addColumn x1 x2 u) (fun r v => IC v ∧ Fq [2] [1, 3, 4, 5] u v) := by
  have lm2 : (-2 : Int32).toInt = -2 := by decide
  have lm1 : (-1 : Int32).toInt = -1 := by decide
  have l0 : (0 : Int32).toInt = 0 := by decide
  have l1 : (1 : Int32).toInt = 1 := by decide
  have l3 : (3 : Int32).toInt = 3 := by decide
  have l8 : (8 : Int32).toInt = 8 := by decide
  rw [mC_Catalog_addColumn]
  have F := IC_col I x1
  have B0 := IC_b I
  refine okM_bP (kC_Text_isName I) (fun r_2 z_1 => ?_)
  obtain ⟨p_3, p_4⟩ := z_1
  refine okM_eq (fun c_5 c_5' => ?_) (fun c_5 => ?_)
  · exact okM_some ⟨I, (Fq_rfl u)⟩
  · refine okM_bP (kC_Catalog_has I) (fun r_7 z_6 => ?_)
    obtain ⟨p_8, p_9, p_10⟩ := z_6
    refine okM_eq (fun c_11 c_11' => ?_) (fun c_11 => ?_)
    · exact okM_some ⟨I, (Fq_rfl u)⟩
    · refine okM_lt (fun c_12 => ?_) (fun c_12 => ?_)
      · exact okM_some ⟨I, (Fq_rfl u)⟩
      · refine okM_le (fun c_13 => ?_) (fun c_13 => ?_)
        · refine okM_gd (inb_of (by have B_14 := IC_b I; omega) (by have B_15 := IC_b I; omega)) ?_
          refine okM_seq (fun y_17 h_16 => ?_)
          have h_16' : y_17.toInt = ((ga u 3 x1) : Int32).toInt := by rw [h_16]
          refine okM_lt (fun c_18 => ?_) (fun c_18 => ?_)
          · refine okM_bP (kC_Text_size_1 I) (fun r_20 z_19 => ?_)
            have p_21 := z_19
            refine okM_bP (kC_Text_span I) (fun r_23 z_22 => ?_)
            have p_24 := z_22
            refine okM_bP (kC_Catalog_findColumn_3_1 I) (fun r_26 z_25 => ?_)
            obtain ⟨p_27, p_28⟩ := z_25
            refine okM_lt (fun c_29 => ?_) (fun c_29 => ?_)
            · refine okM_bM (kC_Text_keep I) (fun r_31 u_32 z_30 => ?_)
              obtain ⟨I_u_32, G_u_32, p_33⟩ := z_30
              have F_u_32 : Fq [2] [1, 3, 4, 5] u u_32 := Fq_tr (Fq_rfl u) G_u_32 rfl rfl
              try have e_34 : (x1 * 8 : Int32).toInt = (x1 : Int32).toInt * 8 := by exact muc_i l8 (by omega) (by omega)
              try have e_35 : ((x1 * 8) + y_17 : Int32).toInt = ((x1 * 8) : Int32).toInt + (y_17 : Int32).toInt := by exact add_i (by omega) (by omega)
              refine okM_gd (inb_of (by have B_36 := IC_b I_u_32; omega) (by have B_37 := IC_b I_u_32; omega)) ?_
              refine okM_seq (fun u_39 h_38 => ?_)
              have I_u_39 : IC u_39 := by rw [h_38]; exact I_u_32
              have F_u_39 : Fq [2] [1, 3, 4, 5] u u_39 := by rw [h_38]; exact Fq_sa F_u_32 rfl
              try have e_40 : (x1 * 8 : Int32).toInt = (x1 : Int32).toInt * 8 := by exact muc_i l8 (by omega) (by omega)
              try have e_41 : ((x1 * 8) + y_17 : Int32).toInt = ((x1 * 8) : Int32).toInt + (y_17 : Int32).toInt := by exact add_i (by omega) (by omega)
              refine okM_gd (inb_of (by have B_42 := IC_b I_u_39; omega) (by have B_43 := IC_b I_u_39; omega)) ?_
              refine okM_seq (fun u_45 h_44 => ?_)
              have I_u_45 : IC u_45 := by rw [h_44]; exact I_u_39
              have F_u_45 : Fq [2] [1, 3, 4, 5] u u_45 := by rw [h_44]; exact Fq_sa F_u_39 rfl
              refine okM_gd (inb_of (by have B_46 := IC_b I_u_45; omega) (by have B_47 := IC_b I_u_45; omega)) ?_
              refine okM_seq (fun u_49 h_48 => ?_)
              try have e_50 : (y_17 + 1 : Int32).toInt = (y_17 : Int32).toInt + (1 : Int32).toInt := by exact add_i (by omega) (by omega)
              have I_u_49 : IC u_49 := by rw [h_48]; exact IC_a3 I_u_45 (by have F := IC_col I x1; omega) (by omega)
              have F_u_49 : Fq [2] [1, 3, 4, 5] u u_49 := by rw [h_48]; exact Fq_sa F_u_45 rfl
              exact okM_some ⟨I_u_49, F_u_49⟩
            · exact okM_some ⟨I, (Fq_rfl u)⟩
          · exact okM_some ⟨I, (Fq_rfl u)⟩
        · exact okM_some ⟨I, (Fq_rfl u)⟩
theorem kC_SqlReader_column {x1 : Int32} {x2 : Int32} {u : St} (I : IC u) : okM (mC_SqlReader_column x1 x2 u) (fun r v => IC v ∧ Fq [0, 2] [1, 3, 4, 5] u v ∧ (v.1 0).toInt = 0) := by
  have l0 : (0 : Int32).toInt = 0 := by decide
  rw [mC_SqlReader_column]
  refine okM_bM (kC_Catalog_addColumn I) (fun r_2 u_3 z_1 => ?_)
  obtain ⟨I_u_3, G_u_3⟩ := z_1
  have F_u_3 : Fq [0, 2] [1, 3, 4, 5] u u_3 := Fq_tr (Fq_rfl u) G_u_3 rfl rfl
  refine okM_bP (kC_Text_clear I_u_3) (fun u_5 z_4 => ?_)
  obtain ⟨I_u_5, G_u_5, p_6⟩ := z_4
  have F_u_5 : Fq [0, 2] [1, 3, 4, 5] u u_5 := Fq_tr F_u_3 G_u_5 rfl rfl
  exact okM_some ⟨I_u_5, F_u_5, (by have B_7 := IC_b I_u_5; omega)⟩
theorem kC_Nodes_clear {u : St} (I : IC u) : ok (mC_Nodes_clear u) (fun v => IC v ∧ Fq [6, 7] [] u v) := by
  have l0 : (0 : Int32).toInt = 0 := by decide
  rw [mC_Nodes_clear]
  refine ok_seq (fun u_2 h_1 => ?_)
  have I_u_2 : IC u_2 := by rw [h_1]; exact IC_s6 I (by have B_3 := IC_b I; omega) (by have B_4 := IC_b I; omega)
  have F_u_2 : Fq [6, 7] [] u u_2 := by rw [h_1]; exact Fq_ss (Fq_rfl u) rfl
  have g_5 : (u_2.1 6).toInt = (0 : Int32).toInt := by rw [h_1]; rfl
  refine ok_seq (fun u_7 h_6 => ?_)
  have I_u_7 : IC u_7 := by rw [h_6]; exact IC_s7 I_u_2 (by have B_8 := IC_b I_u_2; omega) (by have B_9 := IC_b I_u_2; omega)
  have F_u_7 : Fq [6, 7] [] u u_7 := by rw [h_6]; exact Fq_ss F_u_2 rfl
  have g_10 : (u_7.1 7).toInt = (0 : Int32).toInt := by rw [h_6]; rfl
  exact ok_some ⟨I_u_7, F_u_7⟩
theorem kC_Arrays_fill_L5 : ∀ (n : Nat) {x1 : Int32} {x2 : Int32} {x3 : Int32} {u : St} (I : IC u) (h0 : x1.toInt = 0) (h1 : 0 ≤ x2.toInt) (h2 : x2.toInt ≤ 14) (h3 : x3.toInt = 14) (hm : (14 - x2.toInt).toNat < n), ok (mC_Arrays_fill_L5 n x1 x2 x3 u) (fun v => IC v ∧ Fq [] [17] u v) := by
  intro n
  induction n with
  | zero => intro x1 x2 x3 u I h0 h1 h2 h3 hm; exact absurd hm (Nat.not_lt_zero _)
  | succ n ih =>
    intro x1 x2 x3 u I h0 h1 h2 h3 hm
    have l0 : (0 : Int32).toInt = 0 := by decide
    have l1 : (1 : Int32).toInt = 1 := by decide
    have l14 : (14 : Int32).toInt = 14 := by decide
    rw [mC_Arrays_fill_L5]
    refine ok_le (fun c_1 => ?_) (fun c_1 => ?_)
    · exact ok_some ⟨I, (Fq_rfl u)⟩
    · refine ok_gd (inb_of (by have B_2 := IC_b I; omega) (by have B_3 := IC_b I; omega)) ?_
      refine ok_seq (fun u_5 h_4 => ?_)
      have I_u_5 : IC u_5 := by rw [h_4]; exact IC_a17 I (by omega) (by omega) (by have F := gst_f (i := x2) (by omega) (by omega); omega)
      have F_u_5 : Fq [] [17] u u_5 := by rw [h_4]; exact Fq_sa (Fq_rfl u) rfl
      try have e_8 : (x2 + 1 : Int32).toInt = (x2 : Int32).toInt + (1 : Int32).toInt := by exact add_i (by omega) (by omega)
      refine ok_seq (fun y_7 h_6 => ?_)
      have h_6' : y_7.toInt = (x2 + 1 : Int32).toInt := by rw [h_6]
      refine ok_mono (ih I_u_5 (by have B_9 := IC_b I_u_5; omega) (by have B_10 := IC_b I_u_5; omega) (by have B_11 := IC_b I_u_5; omega) (by have B_12 := IC_b I_u_5; omega) (by have B_13 := IC_b I_u_5; omega)) (fun u_15 z_14 => ?_)
      obtain ⟨I_u_15, G_u_15⟩ := z_14
      have F_u_15 : Fq [] [17] u u_15 := Fq_tr F_u_5 G_u_15 rfl rfl
      exact ⟨I_u_15, F_u_15⟩
theorem kC_Arrays_fill {x1 : Int32} {u : St} (I : IC u) (h0 : x1.toInt = 0) : ok (mC_Arrays_fill x1 u) (fun v => IC v ∧ Fq [] [17] u v) := by
  have l0 : (0 : Int32).toInt = 0 := by decide
  have l14 : (14 : Int32).toInt = 14 := by decide
  rw [mC_Arrays_fill]
  refine ok_mono (kC_Arrays_fill_L5 _ I (by have FUe : FU = 100000 := rfl; have B_1 := IC_b I; omega) (by have FUe : FU = 100000 := rfl; have B_2 := IC_b I; omega) (by have FUe : FU = 100000 := rfl; have B_3 := IC_b I; omega) (by have FUe : FU = 100000 := rfl; have B_4 := IC_b I; omega) (by have FUe : FU = 100000 := rfl; have B_5 := IC_b I; omega)) (fun u_7 z_6 => ?_)
  obtain ⟨I_u_7, G_u_7⟩ := z_6
  have F_u_7 : Fq [] [17] u u_7 := Fq_tr (Fq_rfl u) G_u_7 rfl rfl
  exact ⟨I_u_7, F_u_7⟩
theorem kC_Lists_clear {u : St} (I : IC u) : ok (mC_Lists_clear u) (fun v => IC v ∧ Fq [8] [17] u v) := by
  have l0 : (0 : Int32).toInt = 0 := by decide
  rw [mC_Lists_clear]
  refine ok_bP (kC_Arrays_fill I (by have FUe : FU = 100000 := rfl; have B_2 := IC_b I; omega)) (fun u_3 z_1 => ?_)
  obtain ⟨I_u_3, G_u_3⟩ := z_1
  have F_u_3 : Fq [8] [17] u u_3 := Fq_tr (Fq_rfl u) G_u_3 rfl rfl
  refine ok_seq (fun u_5 h_4 => ?_)
  have I_u_5 : IC u_5 := by rw [h_4]; exact IC_s8 I_u_3 (by have B_6 := IC_b I_u_3; omega) (by have B_7 := IC_b I_u_3; omega)
  have F_u_5 : Fq [8] [17] u u_5 := by rw [h_4]; exact Fq_ss F_u_3 rfl
  have g_8 : (u_5.1 8).toInt = (0 : Int32).toInt := by rw [h_4]; rfl
  exact ok_some ⟨I_u_5, F_u_5⟩
theorem kC_Statement_clear {u : St} (I : IC u) : ok (mC_Statement_clear u) (fun v => IC v ∧ Fq [9, 10, 11, 12, 13, 14, 15, 16, 17, 18, 19, 20, 21] [] u v) := by
  rw [mC_Statement_clear]
  refine ok_seq (fun u_2 h_1 => ?_)
  have I_u_2 : IC u_2 := by rw [h_1]; exact I
  have F_u_2 : Fq [9, 10, 11, 12, 13, 14, 15, 16, 17, 18, 19, 20, 21] [] u u_2 := by rw [h_1]; exact Fq_ss (Fq_rfl u) rfl
  refine ok_seq (fun u_4 h_3 => ?_)
  have I_u_4 : IC u_4 := by rw [h_3]; exact I_u_2
  have F_u_4 : Fq [9, 10, 11, 12, 13, 14, 15, 16, 17, 18, 19, 20, 21] [] u u_4 := by rw [h_3]; exact Fq_ss F_u_2 rfl
  refine ok_seq (fun u_6 h_5 => ?_)
  have I_u_6 : IC u_6 := by rw [h_5]; exact I_u_4
  have F_u_6 : Fq [9, 10, 11, 12, 13, 14, 15, 16, 17, 18, 19, 20, 21] [] u u_6 := by rw [h_5]; exact Fq_ss F_u_4 rfl
  refine ok_seq (fun u_8 h_7 => ?_)
  have I_u_8 : IC u_8 := by rw [h_7]; exact I_u_6
  have F_u_8 : Fq [9, 10, 11, 12, 13, 14, 15, 16, 17, 18, 19, 20, 21] [] u u_8 := by rw [h_7]; exact Fq_ss F_u_6 rfl
  refine ok_seq (fun u_10 h_9 => ?_)
  have I_u_10 : IC u_10 := by rw [h_9]; exact I_u_8
  have F_u_10 : Fq [9, 10, 11, 12, 13, 14, 15, 16, 17, 18, 19, 20, 21] [] u u_10 := by rw [h_9]; exact Fq_ss F_u_8 rfl
  refine ok_seq (fun u_12 h_11 => ?_)
  have I_u_12 : IC u_12 := by rw [h_11]; exact I_u_10
  have F_u_12 : Fq [9, 10, 11, 12, 13, 14, 15, 16, 17, 18, 19, 20, 21] [] u u_12 := by rw [h_11]; exact Fq_ss F_u_10 rfl
  refine ok_seq (fun u_14 h_13 => ?_)
  have I_u_14 : IC u_14 := by rw [h_13]; exact I_u_12
  have F_u_14 : Fq [9, 10, 11, 12, 13, 14, 15, 16, 17, 18, 19, 20, 21] [] u u_14 := by rw [h_13]; exact Fq_ss F_u_12 rfl
  refine ok_seq (fun u_16 h_15 => ?_)
  have I_u_16 : IC u_16 := by rw [h_15]; exact I_u_14
  have F_u_16 : Fq [9, 10, 11, 12, 13, 14, 15, 16, 17, 18, 19, 20, 21] [] u u_16 := by rw [h_15]; exact Fq_ss F_u_14 rfl
  refine ok_seq (fun u_18 h_17 => ?_)
  have I_u_18 : IC u_18 := by rw [h_17]; exact I_u_16
  have F_u_18 : Fq [9, 10, 11, 12, 13, 14, 15, 16, 17, 18, 19, 20, 21] [] u u_18 := by rw [h_17]; exact Fq_ss F_u_16 rfl
  refine ok_seq (fun u_20 h_19 => ?_)
  have I_u_20 : IC u_20 := by rw [h_19]; exact I_u_18
  have F_u_20 : Fq [9, 10, 11, 12, 13, 14, 15, 16, 17, 18, 19, 20, 21] [] u u_20 := by rw [h_19]; exact Fq_ss F_u_18 rfl
  refine ok_seq (fun u_22 h_21 => ?_)
  have I_u_22 : IC u_22 := by rw [h_21]; exact I_u_20
  have F_u_22 : Fq [9, 10, 11, 12, 13, 14, 15, 16, 17, 18, 19, 20, 21] [] u u_22 := by rw [h_21]; exact Fq_ss F_u_20 rfl
  refine ok_seq (fun u_24 h_23 => ?_)
  have I_u_24 : IC u_24 := by rw [h_23]; exact I_u_22
  have F_u_24 : Fq [9, 10, 11, 12, 13, 14, 15, 16, 17, 18, 19, 20, 21] [] u u_24 := by rw [h_23]; exact Fq_ss F_u_22 rfl
  refine ok_seq (fun u_26 h_25 => ?_)
  have I_u_26 : IC u_26 := by rw [h_25]; exact I_u_24
  have F_u_26 : Fq [9, 10, 11, 12, 13, 14, 15, 16, 17, 18, 19, 20, 21] [] u u_26 := by rw [h_25]; exact Fq_ss F_u_24 rfl
  exact ok_some ⟨I_u_26, F_u_26⟩
theorem kC_SqlReader_forget {u : St} (I : IC u) : ok (mC_SqlReader_forget u) (fun v => IC v ∧ Fq [6, 7, 8, 9, 10, 11, 12, 13, 14, 15, 16, 17, 18, 19, 20, 21] [17] u v) := by
  rw [mC_SqlReader_forget]
  refine ok_bP (kC_Nodes_clear I) (fun u_2 z_1 => ?_)
  obtain ⟨I_u_2, G_u_2⟩ := z_1
  have F_u_2 : Fq [6, 7, 8, 9, 10, 11, 12, 13, 14, 15, 16, 17, 18, 19, 20, 21] [17] u u_2 := Fq_tr (Fq_rfl u) G_u_2 rfl rfl
  refine ok_bP (kC_Lists_clear I_u_2) (fun u_4 z_3 => ?_)
  obtain ⟨I_u_4, G_u_4⟩ := z_3
  have F_u_4 : Fq [6, 7, 8, 9, 10, 11, 12, 13, 14, 15, 16, 17, 18, 19, 20, 21] [17] u u_4 := Fq_tr F_u_2 G_u_4 rfl rfl
  refine ok_bP (kC_Statement_clear I_u_4) (fun u_6 z_5 => ?_)
  obtain ⟨I_u_6, G_u_6⟩ := z_5
  have F_u_6 : Fq [6, 7, 8, 9, 10, 11, 12, 13, 14, 15, 16, 17, 18, 19, 20, 21] [17] u u_6 := Fq_tr F_u_4 G_u_6 rfl rfl
  exact ok_some ⟨I_u_6, F_u_6⟩
theorem kC_Text_copy {u : St} (I : IC u) : ok (mC_Text_copy u) (fun v => IC v ∧ Fq [5] [6] u v) := by
  have B := IC_b I
  have z0 : (0 : Int32).toInt = 0 := by decide
  rw [mC_Text_copy]
  refine ok_gd (decide_eq_true ⟨by omega, by omega, by omega, by omega, by omega⟩) ?_
  refine ok_gd (List.all_eq_true.mpr (fun i _ => I.2.1 _)) ?_
  refine ok_seq (fun u1 h => ok_seq (fun u2 h2 => ok_some ?_))
  have I1 : IC u1 := by rw [h]; exact I
  have g : (u1.1 0).toInt = (u.1 0).toInt := by rw [h]; rfl
  have F1 : Fq [5] [6] u u1 := by rw [h]; exact Fq_sA (Fq_rfl u) rfl
  rw [h2]
  exact ⟨IC_s5 I1 (by omega) (by omega), Fq_ss F1 rfl⟩
theorem kC_Text_size_11 {u : St} (I : IC u) : ok (mC_Text_size_11 u) (fun r => r.toInt = (u.1 5).toInt) := by
  have l5 : (5 : Int32).toInt = 5 := by decide
  rw [mC_Text_size_11]
  exact ok_some (by have B_1 := IC_b I; omega)
theorem kC_Text_at_11 {x1 : Int32} {u : St} (I : IC u) : ok (mC_Text_at_11 x1 u) (fun r => -1 ≤ r.toInt ∧ r.toInt ≤ 255 ∧ (r.toInt = -1 ∨ (0 ≤ x1.toInt ∧ x1.toInt < (u.1 5).toInt))) := by
  have B := IC_b I
  have m1 : ((-1 : Int32)).toInt = -1 := by decide
  have z0 : ((0 : Int32)).toInt = 0 := by decide
  rw [mC_Text_at_11]
  refine ok_lt (fun h => ok_some ⟨by omega, by omega, by omega⟩) (fun h => ?_)
  refine ok_lt (fun h => ?_) (fun h => ok_some ⟨by omega, by omega, by omega⟩)
  refine ok_gd (inb_of (by omega) (by omega)) (ok_some ?_)
  obtain ⟨j, hj, e⟩ := pk_andE (ga u 6 x1) (m := 255) 8 (by decide)
  rw [e, nI_toInt (by omega)]
  exact ⟨by omega, by omega, by omega⟩
theorem kC_Tokens_isCapital {x0 : Int32} {u : St} (I : IC u) : ok (mC_Tokens_isCapital x0 u) (fun r => 0 ≤ r.toInt ∧ r.toInt ≤ 1 ∧ (r.toInt = 0 ∨ 1 ≤ x0.toInt)) := by
  have l0 : (0 : Int32).toInt = 0 := by decide
  have l1 : (1 : Int32).toInt = 1 := by decide
  have l65 : (65 : Int32).toInt = 65 := by decide
  have l90 : (90 : Int32).toInt = 90 := by decide
  rw [mC_Tokens_isCapital]
  refine ok_lt (fun c_1 => ?_) (fun c_1 => ?_)
  · exact ok_some ⟨(by omega), (by omega), (by omega)⟩
  · refine ok_lt (fun c_2 => ?_) (fun c_2 => ?_)
    · exact ok_some ⟨(by omega), (by omega), (by omega)⟩
    · exact ok_some ⟨(by omega), (by omega), (by omega)⟩
theorem kC_Tokens_endOfCapitals_L4 : ∀ (n : Nat) {x2 : Int32} {x3 : Int32} {u : St} (I : IC u) (h0 : 0 ≤ x3.toInt) (h1 : x3.toInt ≤ 2000) (h2 : 0 ≤ x2.toInt) (h3 : x2.toInt ≤ 2000) (hm : (2000 - x3.toInt).toNat < n), ok (mC_Tokens_endOfCapitals_L4 n x2 x3 u) (fun r => x2.toInt ≤ r.toInt ∧ r.toInt ≤ 2000) := by
  intro n
  induction n with
  | zero => intro x2 x3 u I h0 h1 h2 h3 hm; exact absurd hm (Nat.not_lt_zero _)
  | succ n ih =>
    intro x2 x3 u I h0 h1 h2 h3 hm
    have l0 : (0 : Int32).toInt = 0 := by decide
    have l1 : (1 : Int32).toInt = 1 := by decide
    have l2000 : (2000 : Int32).toInt = 2000 := by decide
    rw [mC_Tokens_endOfCapitals_L4]
    refine ok_le (fun c_1 => ?_) (fun c_1 => ?_)
    · exact ok_some ⟨(by omega), (by omega)⟩
    · refine ok_bP (kC_Text_at_11 I) (fun r_3 z_2 => ?_)
      obtain ⟨p_4, p_5, p_6⟩ := z_2
      refine ok_bP (kC_Tokens_isCapital I) (fun r_8 z_7 => ?_)
      obtain ⟨p_9, p_10, p_11⟩ := z_7
      refine ok_eq (fun c_12 c_12' => ?_) (fun c_12 => ?_)
      · exact ok_some ⟨(by omega), (by omega)⟩
      · try have e_15 : (x2 + 1 : Int32).toInt = (x2 : Int32).toInt + (1 : Int32).toInt := by exact add_i (by omega) (by omega)
        refine ok_seq (fun y_14 h_13 => ?_)
        have h_13' : y_14.toInt = (x2 + 1 : Int32).toInt := by rw [h_13]
        try have e_18 : (x3 + 1 : Int32).toInt = (x3 : Int32).toInt + (1 : Int32).toInt := by exact add_i (by omega) (by omega)
        refine ok_seq (fun y_17 h_16 => ?_)
        have h_16' : y_17.toInt = (x3 + 1 : Int32).toInt := by rw [h_16]
        refine ok_mono (ih I (by have B_19 := IC_b I; omega) (by have B_20 := IC_b I; omega) (by have B_21 := IC_b I; omega) (by have B_22 := IC_b I; omega) (by have B_23 := IC_b I; omega)) (fun r_25 z_24 => ?_)
        obtain ⟨p_26, p_27⟩ := z_24
        exact ⟨(by omega), (by omega)⟩
theorem kC_Tokens_endOfCapitals {x1 : Int32} {u : St} (I : IC u) (h0 : 0 ≤ x1.toInt) (h1 : x1.toInt ≤ 2000) : ok (mC_Tokens_endOfCapitals x1 u) (fun r => x1.toInt ≤ r.toInt ∧ r.toInt ≤ 2000) := by
  have l0 : (0 : Int32).toInt = 0 := by decide
  have l2000 : (2000 : Int32).toInt = 2000 := by decide
  rw [mC_Tokens_endOfCapitals]
  refine ok_mono (kC_Tokens_endOfCapitals_L4 _ I (by have FUe : FU = 100000 := rfl; have B_1 := IC_b I; omega) (by have FUe : FU = 100000 := rfl; have B_2 := IC_b I; omega) (by have FUe : FU = 100000 := rfl; have B_3 := IC_b I; omega) (by have FUe : FU = 100000 := rfl; have B_4 := IC_b I; omega) (by have FUe : FU = 100000 := rfl; have B_5 := IC_b I; omega)) (fun r_7 z_6 => ?_)
  obtain ⟨p_8, p_9⟩ := z_6
  exact ⟨(by omega), (by omega)⟩
theorem kC_Tokens_keep {x1 : Int32} {x2 : Int32} {x3 : Int32} {x4 : Int32} {u : St} (I : IC u) (h0 : 0 ≤ x1.toInt) (h1 : x1.toInt ≤ 4) (h2 : 0 ≤ x2.toInt) (h3 : x2.toInt ≤ 2010) (h4 : x2.toInt ≤ x3.toInt) (h5 : x4.toInt ≤ 31) (h6 : x3.toInt ≤ 10000) (h7 : x1.toInt ≠ 4 ∨ x3.toInt = x2.toInt + 1) : okM (mC_Tokens_keep x1 x2 x3 x4 u) (fun r v => IC v ∧ Fq [3] [7] u v) := by
  have B := IC_b I
  have l2000 : (2000 : Int32).toInt = 2000 := by decide
  have l1 : (1 : Int32).toInt = 1 := by decide
  have e := sub_i (a := x3) (b := x2) (by omega) (by omega)
  rw [mC_Tokens_keep]
  refine okM_lt (fun c => okM_some ⟨I, Fq_rfl u⟩) (fun c => ?_)
  refine okM_lt (fun c2 => ?_) (fun c2 => okM_some ⟨I, Fq_rfl u⟩)
  refine okM_bP (kC_Text_span I) (fun r hr => ?_)
  have T : tkq ((x1 <<< (16 &&& 31)) ||| r) := by
    obtain ⟨k, hk, ek⟩ := nI_of (nn_of h0).1
    obtain ⟨a, ha, ea⟩ := nI_of (nn_of h2).1
    obtain ⟨z, hz, ez⟩ := nI_of (x := x3 - x2) (nn_of (by omega)).1
    have ek' : x1.toInt = k := by rw [ek, nI_toInt hk]
    have ea' : x2.toInt = a := by rw [ea, nI_toInt ha]
    have ez' : (x3 - x2).toInt = z := by rw [ez, nI_toInt hz]
    rw [hr, ez, ea, ek]
    exact tkq_of (by omega) (by omega) (by omega) (by omega)
  refine okM_gd (inb_of (by omega) (by omega)) ?_
  refine okM_seq (fun u2 h => ?_)
  have I2 : IC u2 := by rw [h]; exact IC_a7 I T
  have g : (u2.1 3).toInt = (u.1 3).toInt := by rw [h]; rfl
  refine okM_seq (fun u3 h' => ?_)
  have e3 : (u2.1 3 + 1 : Int32).toInt = (u2.1 3).toInt + (1 : Int32).toInt := add_i (by omega) (by omega)
  exact okM_some ⟨by rw [h']; exact IC_s3 I2 (by omega) (by omega), by rw [h', h]; exact Fq_ss (Fq_sa (Fq_rfl u) rfl) rfl⟩
theorem kC_Tokens_endOfName_L4 : ∀ (n : Nat) {x2 : Int32} {x3 : Int32} {u : St} (I : IC u) (h0 : 0 ≤ x3.toInt) (h1 : x3.toInt ≤ 2000) (h2 : 0 ≤ x2.toInt) (h3 : x2.toInt ≤ 2000) (hm : (2000 - x3.toInt).toNat < n), ok (mC_Tokens_endOfName_L4 n x2 x3 u) (fun r => x2.toInt ≤ r.toInt ∧ r.toInt ≤ 2000) := by
  intro n
  induction n with
  | zero => intro x2 x3 u I h0 h1 h2 h3 hm; exact absurd hm (Nat.not_lt_zero _)
  | succ n ih =>
    intro x2 x3 u I h0 h1 h2 h3 hm
    have l0 : (0 : Int32).toInt = 0 := by decide
    have l1 : (1 : Int32).toInt = 1 := by decide
    have l2000 : (2000 : Int32).toInt = 2000 := by decide
    rw [mC_Tokens_endOfName_L4]
    refine ok_le (fun c_1 => ?_) (fun c_1 => ?_)
    · exact ok_some ⟨(by omega), (by omega)⟩
    · refine ok_bP (kC_Text_at_11 I) (fun r_3 z_2 => ?_)
      obtain ⟨p_4, p_5, p_6⟩ := z_2
      refine ok_bP (kC_Text_isOfName I) (fun r_8 z_7 => ?_)
      obtain ⟨p_9, p_10, p_11⟩ := z_7
      refine ok_eq (fun c_12 c_12' => ?_) (fun c_12 => ?_)
      · exact ok_some ⟨(by omega), (by omega)⟩
      · try have e_15 : (x2 + 1 : Int32).toInt = (x2 : Int32).toInt + (1 : Int32).toInt := by exact add_i (by omega) (by omega)
        refine ok_seq (fun y_14 h_13 => ?_)
        have h_13' : y_14.toInt = (x2 + 1 : Int32).toInt := by rw [h_13]
        try have e_18 : (x3 + 1 : Int32).toInt = (x3 : Int32).toInt + (1 : Int32).toInt := by exact add_i (by omega) (by omega)
        refine ok_seq (fun y_17 h_16 => ?_)
        have h_16' : y_17.toInt = (x3 + 1 : Int32).toInt := by rw [h_16]
        refine ok_mono (ih I (by have B_19 := IC_b I; omega) (by have B_20 := IC_b I; omega) (by have B_21 := IC_b I; omega) (by have B_22 := IC_b I; omega) (by have B_23 := IC_b I; omega)) (fun r_25 z_24 => ?_)
        obtain ⟨p_26, p_27⟩ := z_24
        exact ⟨(by omega), (by omega)⟩
theorem kC_Tokens_endOfName {x1 : Int32} {u : St} (I : IC u) (h0 : 0 ≤ x1.toInt) (h1 : x1.toInt ≤ 2000) : ok (mC_Tokens_endOfName x1 u) (fun r => x1.toInt ≤ r.toInt ∧ r.toInt ≤ 2000) := by
  have l0 : (0 : Int32).toInt = 0 := by decide
  have l2000 : (2000 : Int32).toInt = 2000 := by decide
  rw [mC_Tokens_endOfName]
  refine ok_mono (kC_Tokens_endOfName_L4 _ I (by have FUe : FU = 100000 := rfl; have B_1 := IC_b I; omega) (by have FUe : FU = 100000 := rfl; have B_2 := IC_b I; omega) (by have FUe : FU = 100000 := rfl; have B_3 := IC_b I; omega) (by have FUe : FU = 100000 := rfl; have B_4 := IC_b I; omega) (by have FUe : FU = 100000 := rfl; have B_5 := IC_b I; omega)) (fun r_7 z_6 => ?_)
  obtain ⟨p_8, p_9⟩ := z_6
  exact ⟨(by omega), (by omega)⟩
theorem kC_Tokens_endOfDigits_L4 : ∀ (n : Nat) {x2 : Int32} {x3 : Int32} {u : St} (I : IC u) (h0 : 0 ≤ x3.toInt) (h1 : x3.toInt ≤ 2000) (h2 : 0 ≤ x2.toInt) (h3 : x2.toInt ≤ 2000) (hm : (2000 - x3.toInt).toNat < n), ok (mC_Tokens_endOfDigits_L4 n x2 x3 u) (fun r => x2.toInt ≤ r.toInt ∧ r.toInt ≤ 2000) := by
  intro n
  induction n with
  | zero => intro x2 x3 u I h0 h1 h2 h3 hm; exact absurd hm (Nat.not_lt_zero _)
  | succ n ih =>
    intro x2 x3 u I h0 h1 h2 h3 hm
    have l0 : (0 : Int32).toInt = 0 := by decide
    have l1 : (1 : Int32).toInt = 1 := by decide
    have l2000 : (2000 : Int32).toInt = 2000 := by decide
    rw [mC_Tokens_endOfDigits_L4]
    refine ok_le (fun c_1 => ?_) (fun c_1 => ?_)
    · exact ok_some ⟨(by omega), (by omega)⟩
    · refine ok_bP (kC_Text_at_11 I) (fun r_3 z_2 => ?_)
      obtain ⟨p_4, p_5, p_6⟩ := z_2
      refine ok_bP (kC_Text_isDigit I) (fun r_8 z_7 => ?_)
      obtain ⟨p_9, p_10, p_11⟩ := z_7
      refine ok_eq (fun c_12 c_12' => ?_) (fun c_12 => ?_)
      · exact ok_some ⟨(by omega), (by omega)⟩
      · try have e_15 : (x2 + 1 : Int32).toInt = (x2 : Int32).toInt + (1 : Int32).toInt := by exact add_i (by omega) (by omega)
        refine ok_seq (fun y_14 h_13 => ?_)
        have h_13' : y_14.toInt = (x2 + 1 : Int32).toInt := by rw [h_13]
        try have e_18 : (x3 + 1 : Int32).toInt = (x3 : Int32).toInt + (1 : Int32).toInt := by exact add_i (by omega) (by omega)
        refine ok_seq (fun y_17 h_16 => ?_)
        have h_16' : y_17.toInt = (x3 + 1 : Int32).toInt := by rw [h_16]
        refine ok_mono (ih I (by have B_19 := IC_b I; omega) (by have B_20 := IC_b I; omega) (by have B_21 := IC_b I; omega) (by have B_22 := IC_b I; omega) (by have B_23 := IC_b I; omega)) (fun r_25 z_24 => ?_)
        obtain ⟨p_26, p_27⟩ := z_24
        exact ⟨(by omega), (by omega)⟩
theorem kC_Tokens_endOfDigits {x1 : Int32} {u : St} (I : IC u) (h0 : 0 ≤ x1.toInt) (h1 : x1.toInt ≤ 2000) : ok (mC_Tokens_endOfDigits x1 u) (fun r => x1.toInt ≤ r.toInt ∧ r.toInt ≤ 2000) := by
  have l0 : (0 : Int32).toInt = 0 := by decide
  have l2000 : (2000 : Int32).toInt = 2000 := by decide
  rw [mC_Tokens_endOfDigits]
  refine ok_mono (kC_Tokens_endOfDigits_L4 _ I (by have FUe : FU = 100000 := rfl; have B_1 := IC_b I; omega) (by have FUe : FU = 100000 := rfl; have B_2 := IC_b I; omega) (by have FUe : FU = 100000 := rfl; have B_3 := IC_b I; omega) (by have FUe : FU = 100000 := rfl; have B_4 := IC_b I; omega) (by have FUe : FU = 100000 := rfl; have B_5 := IC_b I; omega)) (fun r_7 z_6 => ?_)
  obtain ⟨p_8, p_9⟩ := z_6
  exact ⟨(by omega), (by omega)⟩
theorem kC_Text_put {x1 : Int32} {x2 : Int32} {u : St} (I : IC u) : ok (mC_Text_put x1 x2 u) (fun v => IC v ∧ Fq [] [6] u v) := by
  have l0 : (0 : Int32).toInt = 0 := by decide
  have l5 : (5 : Int32).toInt = 5 := by decide
  rw [mC_Text_put]
  refine ok_lt (fun c_1 => ?_) (fun c_1 => ?_)
  · exact ok_some ⟨I, (Fq_rfl u)⟩
  · refine ok_le (fun c_2 => ?_) (fun c_2 => ?_)
    · exact ok_some ⟨I, (Fq_rfl u)⟩
    · refine ok_gd (inb_of (by have B_3 := IC_b I; omega) (by have B_4 := IC_b I; omega)) ?_
      refine ok_seq (fun u_6 h_5 => ?_)
      have I_u_6 : IC u_6 := by rw [h_5]; exact I
      have F_u_6 : Fq [] [6] u u_6 := by rw [h_5]; exact Fq_sa (Fq_rfl u) rfl
      exact ok_some ⟨I_u_6, F_u_6⟩
theorem kC_Tokens_cutText_L7 : ∀ (n : Nat) {x1 : Int32} {x2 : Int32} {x3 : Int32} {x4 : Int32} {u : St} (I : IC u) (h0 : 0 ≤ x1.toInt) (h1 : x1.toInt ≤ 2001) (h2 : 0 ≤ x4.toInt) (h3 : x4.toInt ≤ 2000) (h4 : x2.toInt = x1.toInt + x4.toInt) (hm : (2000 - x4.toInt).toNat < n), okM (mC_Tokens_cutText_L7 n x1 x2 x3 x4 u) (fun r v => IC v ∧ Fq [3] [6, 7] u v) := by
  intro n
  induction n with
  | zero => intro x1 x2 x3 x4 u I h0 h1 h2 h3 h4 hm; exact absurd hm (Nat.not_lt_zero _)
  | succ n ih =>
    intro x1 x2 x3 x4 u I h0 h1 h2 h3 h4 hm
    have lm1 : (-1 : Int32).toInt = -1 := by decide
    have l0 : (0 : Int32).toInt = 0 := by decide
    have l1 : (1 : Int32).toInt = 1 := by decide
    have l3 : (3 : Int32).toInt = 3 := by decide
    have l4 : (4 : Int32).toInt = 4 := by decide
    have l31 : (31 : Int32).toInt = 31 := by decide
    have l32 : (32 : Int32).toInt = 32 := by decide
    have l39 : (39 : Int32).toInt = 39 := by decide
    have l126 : (126 : Int32).toInt = 126 := by decide
    have l2000 : (2000 : Int32).toInt = 2000 := by decide
    have l2001 : (2001 : Int32).toInt = 2001 := by decide
    have l2010 : (2010 : Int32).toInt = 2010 := by decide
    have l10000 : (10000 : Int32).toInt = 10000 := by decide
    rw [mC_Tokens_cutText_L7]
    refine okM_le (fun c_1 => ?_) (fun c_1 => ?_)
    · exact okM_some ⟨I, (Fq_rfl u)⟩
    · refine okM_bP (kC_Text_at_11 I) (fun r_3 z_2 => ?_)
      obtain ⟨p_4, p_5, p_6⟩ := z_2
      refine okM_lt (fun c_7 => ?_) (fun c_7 => ?_)
      · exact okM_some ⟨I, (Fq_rfl u)⟩
      · refine okM_le (fun c_8 => ?_) (fun c_8 => ?_)
        · refine okM_eq (fun c_9 c_9' => ?_) (fun c_9 => ?_)
          · try have e_12 : (x3 + 1 : Int32).toInt = (x3 : Int32).toInt + (1 : Int32).toInt := by exact add_i (by omega) (by omega)
            refine okM_seq (fun y_11 h_10 => ?_)
            have h_10' : y_11.toInt = (x3 + 1 : Int32).toInt := by rw [h_10]
            refine okM_bP (kC_Text_at_11 I) (fun r_14 z_13 => ?_)
            obtain ⟨p_15, p_16, p_17⟩ := z_13
            refine okM_eq (fun c_18 c_18' => ?_) (fun c_18 => ?_)
            · rw [mC_Tokens_cutText_J82]
              refine okM_bP (kC_Text_put I) (fun u_20 z_19 => ?_)
              obtain ⟨I_u_20, G_u_20⟩ := z_19
              have F_u_20 : Fq [3] [6, 7] u u_20 := Fq_tr (Fq_rfl u) G_u_20 rfl rfl
              try have e_23 : (x2 + 1 : Int32).toInt = (x2 : Int32).toInt + (1 : Int32).toInt := by exact add_i (by omega) (by omega)
              refine okM_seq (fun y_22 h_21 => ?_)
              have h_21' : y_22.toInt = (x2 + 1 : Int32).toInt := by rw [h_21]
              try have e_26 : (y_11 + 1 : Int32).toInt = (y_11 : Int32).toInt + (1 : Int32).toInt := by exact add_i (by omega) (by omega)
              refine okM_seq (fun y_25 h_24 => ?_)
              have h_24' : y_25.toInt = (y_11 + 1 : Int32).toInt := by rw [h_24]
              try have e_29 : (x4 + 1 : Int32).toInt = (x4 : Int32).toInt + (1 : Int32).toInt := by exact add_i (by omega) (by omega)
              refine okM_seq (fun y_28 h_27 => ?_)
              have h_27' : y_28.toInt = (x4 + 1 : Int32).toInt := by rw [h_27]
              refine okM_mono (ih I_u_20 (by have B_30 := IC_b I_u_20; omega) (by have B_31 := IC_b I_u_20; omega) (by have B_32 := IC_b I_u_20; omega) (by have B_33 := IC_b I_u_20; omega) (by have B_34 := IC_b I_u_20; omega) (by have B_35 := IC_b I_u_20; omega)) (fun r_37 u_38 z_36 => ?_)
              obtain ⟨I_u_38, G_u_38⟩ := z_36
              have F_u_38 : Fq [3] [6, 7] u u_38 := Fq_tr F_u_20 G_u_38 rfl rfl
              exact ⟨I_u_38, F_u_38⟩
            · refine okM_bM (kC_Tokens_keep I (by have FUe : FU = 100000 := rfl; have B_40 := IC_b I; omega) (by have FUe : FU = 100000 := rfl; have B_41 := IC_b I; omega) (by have FUe : FU = 100000 := rfl; have B_42 := IC_b I; omega) (by have FUe : FU = 100000 := rfl; have B_43 := IC_b I; omega) (by have FUe : FU = 100000 := rfl; have B_44 := IC_b I; omega) (by have FUe : FU = 100000 := rfl; have B_45 := IC_b I; omega) (by have FUe : FU = 100000 := rfl; have B_46 := IC_b I; omega) (by have FUe : FU = 100000 := rfl; have B_47 := IC_b I; omega)) (fun r_48 u_49 z_39 => ?_)
              obtain ⟨I_u_49, G_u_49⟩ := z_39
              have F_u_49 : Fq [3] [6, 7] u u_49 := Fq_tr (Fq_rfl u) G_u_49 rfl rfl
              refine okM_le (fun c_50 => ?_) (fun c_50 => ?_)
              · exact okM_some ⟨I_u_49, F_u_49⟩
              · exact okM_some ⟨I_u_49, F_u_49⟩
          · rw [mC_Tokens_cutText_J82]
            refine okM_bP (kC_Text_put I) (fun u_52 z_51 => ?_)
            obtain ⟨I_u_52, G_u_52⟩ := z_51
            have F_u_52 : Fq [3] [6, 7] u u_52 := Fq_tr (Fq_rfl u) G_u_52 rfl rfl
            try have e_55 : (x2 + 1 : Int32).toInt = (x2 : Int32).toInt + (1 : Int32).toInt := by exact add_i (by omega) (by omega)
            refine okM_seq (fun y_54 h_53 => ?_)
            have h_53' : y_54.toInt = (x2 + 1 : Int32).toInt := by rw [h_53]
            try have e_58 : (x3 + 1 : Int32).toInt = (x3 : Int32).toInt + (1 : Int32).toInt := by exact add_i (by omega) (by omega)
            refine okM_seq (fun y_57 h_56 => ?_)
            have h_56' : y_57.toInt = (x3 + 1 : Int32).toInt := by rw [h_56]
            try have e_61 : (x4 + 1 : Int32).toInt = (x4 : Int32).toInt + (1 : Int32).toInt := by exact add_i (by omega) (by omega)
            refine okM_seq (fun y_60 h_59 => ?_)
            have h_59' : y_60.toInt = (x4 + 1 : Int32).toInt := by rw [h_59]
            refine okM_mono (ih I_u_52 (by have B_62 := IC_b I_u_52; omega) (by have B_63 := IC_b I_u_52; omega) (by have B_64 := IC_b I_u_52; omega) (by have B_65 := IC_b I_u_52; omega) (by have B_66 := IC_b I_u_52; omega) (by have B_67 := IC_b I_u_52; omega)) (fun r_69 u_70 z_68 => ?_)
            obtain ⟨I_u_70, G_u_70⟩ := z_68
            have F_u_70 : Fq [3] [6, 7] u u_70 := Fq_tr F_u_52 G_u_70 rfl rfl
            exact ⟨I_u_70, F_u_70⟩
        · exact okM_some ⟨I, (Fq_rfl u)⟩
