theorem kC_Tokens_cutText {x1 : Int32} {u : St} (I : IC u) (h0 : 0 ≤ x1.toInt) (h1 : x1.toInt ≤ 2001) : okM (mC_Tokens_cutText x1 u) (fun r v => IC v ∧ Fq [3] [6, 7] u v) := by
  have l0 : (0 : Int32).toInt = 0 := by decide
  have l2000 : (2000 : Int32).toInt = 2000 := by decide
  have l2001 : (2001 : Int32).toInt = 2001 := by decide
  rw [mC_Tokens_cutText]
  refine okM_mono (kC_Tokens_cutText_L7 _ I (by have FUe : FU = 100000 := rfl; have B_1 := IC_b I; omega) (by have FUe : FU = 100000 := rfl; have B_2 := IC_b I; omega) (by have FUe : FU = 100000 := rfl; have B_3 := IC_b I; omega) (by have FUe : FU = 100000 := rfl; have B_4 := IC_b I; omega) (by have FUe : FU = 100000 := rfl; have B_5 := IC_b I; omega) (by have FUe : FU = 100000 := rfl; have B_6 := IC_b I; omega)) (fun r_8 u_9 z_7 => ?_)
  obtain ⟨I_u_9, G_u_9⟩ := z_7
  have F_u_9 : Fq [3] [6, 7] u u_9 := Fq_tr (Fq_rfl u) G_u_9 rfl rfl
  exact ⟨I_u_9, F_u_9⟩
theorem kC_String_isLatin1 {k0 : Nat} {u : St} (I : IC u) (h0 : stok k0 = true) : ok (mC_String_isLatin1 k0 u) (fun r => r = 1) := by
  rw [mC_String_isLatin1]
  exact ok_gd h0 (ok_some rfl)
theorem kC_String_coder {k0 : Nat} {u : St} (I : IC u) (h0 : stok k0 = true) : ok (mC_String_coder k0 u) (fun r => r = 0) := by
  rw [mC_String_coder]
  exact ok_gd h0 (ok_some rfl)
theorem kC_String_length {k0 : Nat} {u : St} (I : IC u) (h0 : stok k0 = true) : ok (mC_String_length k0 u) (fun r => r.toInt = (lnK k0 : Int) ∧ r.toInt ≤ 50 ∧ r = nI (lnK k0)) := by
  have b : lnK k0 ≤ 50 := lnK_le (of_decide_eq_true h0)
  rw [mC_String_length]
  refine ok_gd h0 (ok_gd h0 (ok_gd h0 (ok_bP (kC_String_coder I h0) (fun r hr => ok_some ?_))))
  subst hr
  rw [pk_shrN (by omega) _ 0 (by decide), Nat.pow_zero, Nat.div_one, nI_toInt (by omega)]
  exact ⟨rfl, by omega, rfl⟩
theorem kC_StringLatin1_canEncode {x0 : Int32} {u : St} (I : IC u) : ok (mC_StringLatin1_canEncode x0 u) (fun r => 0 ≤ r.toInt ∧ r.toInt ≤ 1) := by
  have l0 : (0 : Int32).toInt = 0 := by decide
  have l1 : (1 : Int32).toInt = 1 := by decide
  have l255 : (255 : Int32).toInt = 255 := by decide
  rw [mC_StringLatin1_canEncode]
  refine ok_lt (fun c_1 => ?_) (fun c_1 => ?_)
  · exact ok_some ⟨(by omega), (by omega)⟩
  · refine ok_lt (fun c_2 => ?_) (fun c_2 => ?_)
    · exact ok_some ⟨(by omega), (by omega)⟩
    · exact ok_some ⟨(by omega), (by omega)⟩
theorem kC_StringLatin1_indexOfChar_L7 : ∀ (n : Nat) {k0 : Nat} {x3 : Int32} {x4 : Int32} {x5 : Int32} {u : St} (I : IC u) (h0 : stok k0 = true) (h1 : 0 ≤ x5.toInt) (h2 : x5.toInt ≤ 50) (h3 : x3.toInt ≤ (lnK k0 : Int)) (h4 : (lnK k0 : Int) ≤ 50) (hm : (50 - x5.toInt).toNat < n), ok (mC_StringLatin1_indexOfChar_L7 n k0 x3 x4 x5 u) (fun r => True) := by
  intro n
  induction n with
  | zero => intro k0 x3 x4 x5 u I h0 h1 h2 h3 h4 hm; exact absurd hm (Nat.not_lt_zero _)
  | succ n ih =>
    intro k0 x3 x4 x5 u I h0 h1 h2 h3 h4 hm
    have lm1 : (-1 : Int32).toInt = -1 := by decide
    have l0 : (0 : Int32).toInt = 0 := by decide
    have l1 : (1 : Int32).toInt = 1 := by decide
    have l50 : (50 : Int32).toInt = 50 := by decide
    rw [mC_StringLatin1_indexOfChar_L7]
    refine ok_le (fun c_1 => ?_) (fun c_1 => ?_)
    · exact ok_some trivial
    · refine ok_gd h0 ?_
      refine ok_gd (inb_of (by have B_2 := IC_b I; omega) (by have B_3 := IC_b I; omega)) ?_
      refine ok_eq (fun c_4 c_4' => ?_) (fun c_4 => ?_)
      · exact ok_some trivial
      · try have e_7 : (x5 + 1 : Int32).toInt = (x5 : Int32).toInt + (1 : Int32).toInt := by exact add_i (by omega) (by omega)
        refine ok_seq (fun y_6 h_5 => ?_)
        have h_5' : y_6.toInt = (x5 + 1 : Int32).toInt := by rw [h_5]
        refine ok_mono (ih I h0 (by have B_8 := IC_b I; omega) (by have B_9 := IC_b I; omega) (by have B_10 := IC_b I; omega) (by have B_11 := IC_b I; omega) (by have B_12 := IC_b I; omega)) (fun r_14 z_13 => ?_)
        exact trivial
theorem kC_StringLatin1_indexOfChar {k0 : Nat} {x1 : Int32} {x2 : Int32} {x3 : Int32} {u : St} (I : IC u) (h0 : stok k0 = true) (h1 : 0 ≤ x2.toInt) (h2 : x2.toInt ≤ 50) (h3 : x3.toInt ≤ (lnK k0 : Int)) (h4 : (lnK k0 : Int) ≤ 50) : ok (mC_StringLatin1_indexOfChar k0 x1 x2 x3 u) (fun r => True) := by
  have l0 : (0 : Int32).toInt = 0 := by decide
  have l50 : (50 : Int32).toInt = 50 := by decide
  rw [mC_StringLatin1_indexOfChar]
  refine ok_seq (fun y_2 h_1 => ?_)
  have h_1' : y_2.toInt = ((i2b x1) : Int32).toInt := by rw [h_1]
  refine ok_mono (kC_StringLatin1_indexOfChar_L7 _ I h0 (by have FUe : FU = 100000 := rfl; have B_3 := IC_b I; omega) (by have FUe : FU = 100000 := rfl; have B_4 := IC_b I; omega) (by have FUe : FU = 100000 := rfl; have B_5 := IC_b I; omega) (by have FUe : FU = 100000 := rfl; have B_6 := IC_b I; omega) (by have FUe : FU = 100000 := rfl; have B_7 := IC_b I; omega)) (fun r_9 z_8 => ?_)
  exact trivial
theorem kC_StringLatin1_indexOf {k0 : Nat} {x1 : Int32} {x2 : Int32} {x3 : Int32} {u : St} (I : IC u) (h0 : stok k0 = true) (h1 : x2 = 0) (h2 : x3 = nI (lnK k0)) : ok (mC_StringLatin1_indexOf k0 x1 x2 x3 u) (fun r => True) := by
  have b : lnK k0 ≤ 50 := lnK_le (of_decide_eq_true h0)
  have z0 : ((0 : Int32)).toInt = 0 := by decide
  have l3 : x3.toInt = lnK k0 := by rw [h2, nI_toInt (by omega)]
  subst h1
  rw [mC_StringLatin1_indexOf]
  refine ok_bP (kC_StringLatin1_canEncode I) (fun r hr => ?_)
  refine ok_eq (fun c c' => ok_some trivial) (fun c => ?_)
  rw [if_neg (by decide), if_neg (by rw [h2]; exact fun q => Int32.lt_irrefl q)]
  refine ok_seq (fun y2 hy => ok_gd h0 (ok_seq (fun y3 hy3 => ?_)))
  subst hy
  subst hy3
  refine ok_lt (fun c => ?_) (fun c => ok_some trivial)
  exact ok_bP (kC_StringLatin1_indexOfChar I h0 (by omega) (by omega) (by omega) (by omega)) (fun r hr => ok_some trivial)
theorem kC_String_indexOf_s_II {k0 : Nat} {x1 : Int32} {x2 : Int32} {u : St} (I : IC u) (h0 : stok k0 = true) (h1 : x2 = 0) : ok (mC_String_indexOf_s_II k0 x1 x2 u) (fun r => True) := by
  rw [mC_String_indexOf_s_II]
  refine ok_gd h0 (ok_bP (kC_String_isLatin1 I h0) (fun r hr => ?_))
  subst hr
  refine ok_neg (by decide) (ok_gd h0 (ok_gd h0 (ok_bP (kC_String_length I h0) (fun r hr => ?_))))
  exact ok_bP (kC_StringLatin1_indexOf I h0 h1 hr.2.2) (fun r hr => ok_some trivial)
theorem kC_String_indexOf_s_I {k0 : Nat} {x1 : Int32} {u : St} (I : IC u) (h0 : stok k0 = true) : ok (mC_String_indexOf_s_I k0 x1 u) (fun r => True) := by
  rw [mC_String_indexOf_s_I]
  exact ok_gd h0 (ok_bP (kC_String_indexOf_s_II I h0 rfl) (fun r hr => ok_some trivial))
theorem kC_Tokens_signSize {x1 : Int32} {u : St} (I : IC u) : ok (mC_Tokens_signSize x1 u) (fun r => 0 ≤ r.toInt ∧ r.toInt ≤ 2) := by
  have l0 : (0 : Int32).toInt = 0 := by decide
  have l1 : (1 : Int32).toInt = 1 := by decide
  have l2 : (2 : Int32).toInt = 2 := by decide
  have l60 : (60 : Int32).toInt = 60 := by decide
  have l61 : (61 : Int32).toInt = 61 := by decide
  have l62 : (62 : Int32).toInt = 62 := by decide
  have l124 : (124 : Int32).toInt = 124 := by decide
  rw [mC_Tokens_signSize]
  refine ok_bP (kC_Text_at_11 I) (fun r_2 z_1 => ?_)
  obtain ⟨p_3, p_4, p_5⟩ := z_1
  try have e_6 : (x1 + 1 : Int32).toInt = (x1 : Int32).toInt + (1 : Int32).toInt := by exact add_i (by omega) (by omega)
  refine ok_bP (kC_Text_at_11 I) (fun r_8 z_7 => ?_)
  obtain ⟨p_9, p_10, p_11⟩ := z_7
  refine ok_eq (fun c_12 c_12' => ?_) (fun c_12 => ?_)
  · refine ok_eq (fun c_13 c_13' => ?_) (fun c_13 => ?_)
    · rw [mC_Tokens_signSize_J67]
      refine ok_neg (by decide) ?_
      exact ok_some ⟨(by omega), (by omega)⟩
    · refine ok_eq (fun c_14 c_14' => ?_) (fun c_14 => ?_)
      · rw [mC_Tokens_signSize_J67]
        refine ok_neg (by decide) ?_
        exact ok_some ⟨(by omega), (by omega)⟩
      · rw [mC_Tokens_signSize_J38]
        refine ok_eq (fun c_15 c_15' => ?_) (fun c_15 => ?_)
        · refine ok_eq (fun c_16 c_16' => ?_) (fun c_16 => ?_)
          · rw [mC_Tokens_signSize_J67]
            refine ok_neg (by decide) ?_
            exact ok_some ⟨(by omega), (by omega)⟩
          · rw [mC_Tokens_signSize_J50]
            refine ok_eq (fun c_17 c_17' => ?_) (fun c_17 => ?_)
            · refine ok_eq (fun c_18 c_18' => ?_) (fun c_18 => ?_)
              · rw [mC_Tokens_signSize_J67]
                refine ok_neg (by decide) ?_
                exact ok_some ⟨(by omega), (by omega)⟩
              · rw [mC_Tokens_signSize_J67]
                refine ok_pos (by decide) ?_
                refine ok_gd (by decide) ?_
                refine ok_bP (kC_String_indexOf_s_I I (by decide)) (fun r_20 z_19 => ?_)
                refine ok_lt (fun c_21 => ?_) (fun c_21 => ?_)
                · exact ok_some ⟨(by omega), (by omega)⟩
                · exact ok_some ⟨(by omega), (by omega)⟩
            · rw [mC_Tokens_signSize_J67]
              refine ok_pos (by decide) ?_
              refine ok_gd (by decide) ?_
              refine ok_bP (kC_String_indexOf_s_I I (by decide)) (fun r_23 z_22 => ?_)
              refine ok_lt (fun c_24 => ?_) (fun c_24 => ?_)
              · exact ok_some ⟨(by omega), (by omega)⟩
              · exact ok_some ⟨(by omega), (by omega)⟩
        · rw [mC_Tokens_signSize_J50]
          refine ok_eq (fun c_25 c_25' => ?_) (fun c_25 => ?_)
          · refine ok_eq (fun c_26 c_26' => ?_) (fun c_26 => ?_)
            · rw [mC_Tokens_signSize_J67]
              refine ok_neg (by decide) ?_
              exact ok_some ⟨(by omega), (by omega)⟩
            · rw [mC_Tokens_signSize_J67]
              refine ok_pos (by decide) ?_
              refine ok_gd (by decide) ?_
              refine ok_bP (kC_String_indexOf_s_I I (by decide)) (fun r_28 z_27 => ?_)
              refine ok_lt (fun c_29 => ?_) (fun c_29 => ?_)
              · exact ok_some ⟨(by omega), (by omega)⟩
              · exact ok_some ⟨(by omega), (by omega)⟩
          · rw [mC_Tokens_signSize_J67]
            refine ok_pos (by decide) ?_
            refine ok_gd (by decide) ?_
            refine ok_bP (kC_String_indexOf_s_I I (by decide)) (fun r_31 z_30 => ?_)
            refine ok_lt (fun c_32 => ?_) (fun c_32 => ?_)
            · exact ok_some ⟨(by omega), (by omega)⟩
            · exact ok_some ⟨(by omega), (by omega)⟩
  · rw [mC_Tokens_signSize_J38]
    refine ok_eq (fun c_33 c_33' => ?_) (fun c_33 => ?_)
    · refine ok_eq (fun c_34 c_34' => ?_) (fun c_34 => ?_)
      · rw [mC_Tokens_signSize_J67]
        refine ok_neg (by decide) ?_
        exact ok_some ⟨(by omega), (by omega)⟩
      · rw [mC_Tokens_signSize_J50]
        refine ok_eq (fun c_35 c_35' => ?_) (fun c_35 => ?_)
        · refine ok_eq (fun c_36 c_36' => ?_) (fun c_36 => ?_)
          · rw [mC_Tokens_signSize_J67]
            refine ok_neg (by decide) ?_
            exact ok_some ⟨(by omega), (by omega)⟩
          · rw [mC_Tokens_signSize_J67]
            refine ok_pos (by decide) ?_
            refine ok_gd (by decide) ?_
            refine ok_bP (kC_String_indexOf_s_I I (by decide)) (fun r_38 z_37 => ?_)
            refine ok_lt (fun c_39 => ?_) (fun c_39 => ?_)
            · exact ok_some ⟨(by omega), (by omega)⟩
            · exact ok_some ⟨(by omega), (by omega)⟩
        · rw [mC_Tokens_signSize_J67]
          refine ok_pos (by decide) ?_
          refine ok_gd (by decide) ?_
          refine ok_bP (kC_String_indexOf_s_I I (by decide)) (fun r_41 z_40 => ?_)
          refine ok_lt (fun c_42 => ?_) (fun c_42 => ?_)
          · exact ok_some ⟨(by omega), (by omega)⟩
          · exact ok_some ⟨(by omega), (by omega)⟩
    · rw [mC_Tokens_signSize_J50]
      refine ok_eq (fun c_43 c_43' => ?_) (fun c_43 => ?_)
      · refine ok_eq (fun c_44 c_44' => ?_) (fun c_44 => ?_)
        · rw [mC_Tokens_signSize_J67]
          refine ok_neg (by decide) ?_
          exact ok_some ⟨(by omega), (by omega)⟩
        · rw [mC_Tokens_signSize_J67]
          refine ok_pos (by decide) ?_
          refine ok_gd (by decide) ?_
          refine ok_bP (kC_String_indexOf_s_I I (by decide)) (fun r_46 z_45 => ?_)
          refine ok_lt (fun c_47 => ?_) (fun c_47 => ?_)
          · exact ok_some ⟨(by omega), (by omega)⟩
          · exact ok_some ⟨(by omega), (by omega)⟩
      · rw [mC_Tokens_signSize_J67]
        refine ok_pos (by decide) ?_
        refine ok_gd (by decide) ?_
        refine ok_bP (kC_String_indexOf_s_I I (by decide)) (fun r_49 z_48 => ?_)
        refine ok_lt (fun c_50 => ?_) (fun c_50 => ?_)
        · exact ok_some ⟨(by omega), (by omega)⟩
        · exact ok_some ⟨(by omega), (by omega)⟩
theorem kC_Tokens_cutToken {x1 : Int32} {u : St} (I : IC u) (h0 : 0 ≤ x1.toInt) (h1 : x1.toInt ≤ 2000) : okM (mC_Tokens_cutToken x1 u) (fun r v => IC v ∧ Fq [3] [6, 7] u v) := by
  have lm1 : (-1 : Int32).toInt = -1 := by decide
  have l0 : (0 : Int32).toInt = 0 := by decide
  have l1 : (1 : Int32).toInt = 1 := by decide
  have l2 : (2 : Int32).toInt = 2 := by decide
  have l4 : (4 : Int32).toInt = 4 := by decide
  have l16 : (16 : Int32).toInt = 16 := by decide
  have l18 : (18 : Int32).toInt = 18 := by decide
  have l31 : (31 : Int32).toInt = 31 := by decide
  have l36 : (36 : Int32).toInt = 36 := by decide
  have l39 : (39 : Int32).toInt = 39 := by decide
  have l49 : (49 : Int32).toInt = 49 := by decide
  have l57 : (57 : Int32).toInt = 57 := by decide
  have l2000 : (2000 : Int32).toInt = 2000 := by decide
  have l2001 : (2001 : Int32).toInt = 2001 := by decide
  have l2010 : (2010 : Int32).toInt = 2010 := by decide
  have l10000 : (10000 : Int32).toInt = 10000 := by decide
  rw [mC_Tokens_cutToken]
  refine okM_bP (kC_Text_at_11 I) (fun r_2 z_1 => ?_)
  obtain ⟨p_3, p_4, p_5⟩ := z_1
  refine okM_bP (kC_Tokens_isCapital I) (fun r_7 z_6 => ?_)
  obtain ⟨p_8, p_9, p_10⟩ := z_6
  refine okM_eq (fun c_11 c_11' => ?_) (fun c_11 => ?_)
  · refine okM_bP (kC_Text_isSmall I) (fun r_13 z_12 => ?_)
    obtain ⟨p_14, p_15, p_16⟩ := z_12
    refine okM_eq (fun c_17 c_17' => ?_) (fun c_17 => ?_)
    · refine okM_bP (kC_Text_isDigit I) (fun r_19 z_18 => ?_)
      obtain ⟨p_20, p_21, p_22⟩ := z_18
      refine okM_eq (fun c_23 c_23' => ?_) (fun c_23 => ?_)
      · refine okM_eq (fun c_24 c_24' => ?_) (fun c_24 => ?_)
        · try have e_25 : (x1 + 1 : Int32).toInt = (x1 : Int32).toInt + (1 : Int32).toInt := by exact add_i (by omega) (by omega)
          refine okM_bM (kC_Tokens_cutText I (by have FUe : FU = 100000 := rfl; have B_27 := IC_b I; omega) (by have FUe : FU = 100000 := rfl; have B_28 := IC_b I; omega)) (fun r_29 u_30 z_26 => ?_)
          obtain ⟨I_u_30, G_u_30⟩ := z_26
          have F_u_30 : Fq [3] [6, 7] u u_30 := Fq_tr (Fq_rfl u) G_u_30 rfl rfl
          exact okM_some ⟨I_u_30, F_u_30⟩
        · refine okM_eq (fun c_31 c_31' => ?_) (fun c_31 => ?_)
          · try have e_32 : (x1 + 1 : Int32).toInt = (x1 : Int32).toInt + (1 : Int32).toInt := by exact add_i (by omega) (by omega)
            refine okM_bP (kC_Text_at_11 I) (fun r_34 z_33 => ?_)
            obtain ⟨p_35, p_36, p_37⟩ := z_33
            refine okM_lt (fun c_38 => ?_) (fun c_38 => ?_)
            · exact okM_some ⟨I, (Fq_rfl u)⟩
            · refine okM_le (fun c_39 => ?_) (fun c_39 => ?_)
              · try have e_40 : (x1 + 1 : Int32).toInt = (x1 : Int32).toInt + (1 : Int32).toInt := by exact add_i (by omega) (by omega)
                try have e_41 : (x1 + 2 : Int32).toInt = (x1 : Int32).toInt + (2 : Int32).toInt := by exact add_i (by omega) (by omega)
                refine okM_bM (kC_Tokens_keep I (by have FUe : FU = 100000 := rfl; have B_43 := IC_b I; omega) (by have FUe : FU = 100000 := rfl; have B_44 := IC_b I; omega) (by have FUe : FU = 100000 := rfl; have B_45 := IC_b I; omega) (by have FUe : FU = 100000 := rfl; have B_46 := IC_b I; omega) (by have FUe : FU = 100000 := rfl; have B_47 := IC_b I; omega) (by have FUe : FU = 100000 := rfl; have B_48 := IC_b I; omega) (by have FUe : FU = 100000 := rfl; have B_49 := IC_b I; omega) (by have FUe : FU = 100000 := rfl; have B_50 := IC_b I; omega)) (fun r_51 u_52 z_42 => ?_)
                obtain ⟨I_u_52, G_u_52⟩ := z_42
                have F_u_52 : Fq [3] [6, 7] u u_52 := Fq_tr (Fq_rfl u) G_u_52 rfl rfl
                exact okM_some ⟨I_u_52, F_u_52⟩
              · exact okM_some ⟨I, (Fq_rfl u)⟩
          · refine okM_bP (kC_Tokens_signSize I) (fun r_54 z_53 => ?_)
            obtain ⟨p_55, p_56⟩ := z_53
            refine okM_eq (fun c_57 c_57' => ?_) (fun c_57 => ?_)
            · exact okM_some ⟨I, (Fq_rfl u)⟩
            · try have e_58 : (x1 + r_54 : Int32).toInt = (x1 : Int32).toInt + (r_54 : Int32).toInt := by exact add_i (by omega) (by omega)
              refine okM_bM (kC_Tokens_keep I (by have FUe : FU = 100000 := rfl; have B_60 := IC_b I; omega) (by have FUe : FU = 100000 := rfl; have B_61 := IC_b I; omega) (by have FUe : FU = 100000 := rfl; have B_62 := IC_b I; omega) (by have FUe : FU = 100000 := rfl; have B_63 := IC_b I; omega) (by have FUe : FU = 100000 := rfl; have B_64 := IC_b I; omega) (by have FUe : FU = 100000 := rfl; have B_65 := IC_b I; omega) (by have FUe : FU = 100000 := rfl; have B_66 := IC_b I; omega) (by have FUe : FU = 100000 := rfl; have B_67 := IC_b I; omega)) (fun r_68 u_69 z_59 => ?_)
              obtain ⟨I_u_69, G_u_69⟩ := z_59
              have F_u_69 : Fq [3] [6, 7] u u_69 := Fq_tr (Fq_rfl u) G_u_69 rfl rfl
              exact okM_some ⟨I_u_69, F_u_69⟩
      · refine okM_bP (kC_Tokens_endOfDigits I (by have FUe : FU = 100000 := rfl; have B_71 := IC_b I; omega) (by have FUe : FU = 100000 := rfl; have B_72 := IC_b I; omega)) (fun r_73 z_70 => ?_)
        obtain ⟨p_74, p_75⟩ := z_70
        refine okM_bM (kC_Tokens_keep I (by have FUe : FU = 100000 := rfl; have B_77 := IC_b I; omega) (by have FUe : FU = 100000 := rfl; have B_78 := IC_b I; omega) (by have FUe : FU = 100000 := rfl; have B_79 := IC_b I; omega) (by have FUe : FU = 100000 := rfl; have B_80 := IC_b I; omega) (by have FUe : FU = 100000 := rfl; have B_81 := IC_b I; omega) (by have FUe : FU = 100000 := rfl; have B_82 := IC_b I; omega) (by have FUe : FU = 100000 := rfl; have B_83 := IC_b I; omega) (by have FUe : FU = 100000 := rfl; have B_84 := IC_b I; omega)) (fun r_85 u_86 z_76 => ?_)
        obtain ⟨I_u_86, G_u_86⟩ := z_76
        have F_u_86 : Fq [3] [6, 7] u u_86 := Fq_tr (Fq_rfl u) G_u_86 rfl rfl
        exact okM_some ⟨I_u_86, F_u_86⟩
    · refine okM_bP (kC_Tokens_endOfName I (by have FUe : FU = 100000 := rfl; have B_88 := IC_b I; omega) (by have FUe : FU = 100000 := rfl; have B_89 := IC_b I; omega)) (fun r_90 z_87 => ?_)
      obtain ⟨p_91, p_92⟩ := z_87
      refine okM_bM (kC_Tokens_keep I (by have FUe : FU = 100000 := rfl; have B_94 := IC_b I; omega) (by have FUe : FU = 100000 := rfl; have B_95 := IC_b I; omega) (by have FUe : FU = 100000 := rfl; have B_96 := IC_b I; omega) (by have FUe : FU = 100000 := rfl; have B_97 := IC_b I; omega) (by have FUe : FU = 100000 := rfl; have B_98 := IC_b I; omega) (by have FUe : FU = 100000 := rfl; have B_99 := IC_b I; omega) (by have FUe : FU = 100000 := rfl; have B_100 := IC_b I; omega) (by have FUe : FU = 100000 := rfl; have B_101 := IC_b I; omega)) (fun r_102 u_103 z_93 => ?_)
      obtain ⟨I_u_103, G_u_103⟩ := z_93
      have F_u_103 : Fq [3] [6, 7] u u_103 := Fq_tr (Fq_rfl u) G_u_103 rfl rfl
      exact okM_some ⟨I_u_103, F_u_103⟩
  · refine okM_bP (kC_Tokens_endOfCapitals I (by have FUe : FU = 100000 := rfl; have B_105 := IC_b I; omega) (by have FUe : FU = 100000 := rfl; have B_106 := IC_b I; omega)) (fun r_107 z_104 => ?_)
    obtain ⟨p_108, p_109⟩ := z_104
    refine okM_bM (kC_Tokens_keep I (by have FUe : FU = 100000 := rfl; have B_111 := IC_b I; omega) (by have FUe : FU = 100000 := rfl; have B_112 := IC_b I; omega) (by have FUe : FU = 100000 := rfl; have B_113 := IC_b I; omega) (by have FUe : FU = 100000 := rfl; have B_114 := IC_b I; omega) (by have FUe : FU = 100000 := rfl; have B_115 := IC_b I; omega) (by have FUe : FU = 100000 := rfl; have B_116 := IC_b I; omega) (by have FUe : FU = 100000 := rfl; have B_117 := IC_b I; omega) (by have FUe : FU = 100000 := rfl; have B_118 := IC_b I; omega)) (fun r_119 u_120 z_110 => ?_)
    obtain ⟨I_u_120, G_u_120⟩ := z_110
    have F_u_120 : Fq [3] [6, 7] u u_120 := Fq_tr (Fq_rfl u) G_u_120 rfl rfl
    exact okM_some ⟨I_u_120, F_u_120⟩
theorem kC_Tokens_cut_L22 : ∀ (n : Nat) {x2 : Int32} {x3 : Int32} {u : St} (I : IC u) (h0 : 0 ≤ x3.toInt) (h1 : x3.toInt ≤ 2000) (hm : (2000 - x3.toInt).toNat < n), okM (mC_Tokens_cut_L22 n x2 x3 u) (fun r v => IC v ∧ Fq [3] [6, 7] u v ∧ 0 ≤ r.toInt ∧ r.toInt ≤ 1) := by
  intro n
  induction n with
  | zero => intro x2 x3 u I h0 h1 hm; exact absurd hm (Nat.not_lt_zero _)
  | succ n ih =>
    intro x2 x3 u I h0 h1 hm
    have l0 : (0 : Int32).toInt = 0 := by decide
    have l1 : (1 : Int32).toInt = 1 := by decide
    have l32 : (32 : Int32).toInt = 32 := by decide
    have l2000 : (2000 : Int32).toInt = 2000 := by decide
    rw [mC_Tokens_cut_L22]
    refine okM_le (fun c_1 => ?_) (fun c_1 => ?_)
    · refine okM_lt (fun c_2 => ?_) (fun c_2 => ?_)
      · exact okM_some ⟨I, (Fq_rfl u), (by omega), (by omega)⟩
      · exact okM_some ⟨I, (Fq_rfl u), (by omega), (by omega)⟩
    · refine okM_lt (fun c_3 => ?_) (fun c_3 => ?_)
      · refine okM_lt (fun c_4 => ?_) (fun c_4 => ?_)
        · exact okM_some ⟨I, (Fq_rfl u), (by omega), (by omega)⟩
        · exact okM_some ⟨I, (Fq_rfl u), (by omega), (by omega)⟩
      · refine okM_bP (kC_Text_size_11 I) (fun r_6 z_5 => ?_)
        have p_7 := z_5
        refine okM_le (fun c_8 => ?_) (fun c_8 => ?_)
        · refine okM_lt (fun c_9 => ?_) (fun c_9 => ?_)
          · exact okM_some ⟨I, (Fq_rfl u), (by omega), (by omega)⟩
          · exact okM_some ⟨I, (Fq_rfl u), (by omega), (by omega)⟩
        · refine okM_bP (kC_Text_at_11 I) (fun r_11 z_10 => ?_)
          obtain ⟨p_12, p_13, p_14⟩ := z_10
          refine okM_eq (fun c_15 c_15' => ?_) (fun c_15 => ?_)
          · try have e_18 : (x2 + 1 : Int32).toInt = (x2 : Int32).toInt + (1 : Int32).toInt := by exact add_i (by omega) (by omega)
            refine okM_seq (fun y_17 h_16 => ?_)
            have h_16' : y_17.toInt = ((x2 + 1) : Int32).toInt := by rw [h_16]
            try have e_21 : (x3 + 1 : Int32).toInt = (x3 : Int32).toInt + (1 : Int32).toInt := by exact add_i (by omega) (by omega)
            refine okM_seq (fun y_20 h_19 => ?_)
            have h_19' : y_20.toInt = (x3 + 1 : Int32).toInt := by rw [h_19]
            refine okM_mono (ih I (by have B_22 := IC_b I; omega) (by have B_23 := IC_b I; omega) (by have B_24 := IC_b I; omega)) (fun r_26 u_27 z_25 => ?_)
            obtain ⟨I_u_27, G_u_27, p_28, p_29⟩ := z_25
            have F_u_27 : Fq [3] [6, 7] u u_27 := Fq_tr (Fq_rfl u) G_u_27 rfl rfl
            exact ⟨I_u_27, F_u_27, (by omega), (by omega)⟩
          · refine okM_bM (kC_Tokens_cutToken I (by have FUe : FU = 100000 := rfl; have B_31 := IC_b I; omega) (by have FUe : FU = 100000 := rfl; have B_32 := IC_b I; omega)) (fun r_33 u_34 z_30 => ?_)
            obtain ⟨I_u_34, G_u_34⟩ := z_30
            have F_u_34 : Fq [3] [6, 7] u u_34 := Fq_tr (Fq_rfl u) G_u_34 rfl rfl
            try have e_37 : (x3 + 1 : Int32).toInt = (x3 : Int32).toInt + (1 : Int32).toInt := by exact add_i (by omega) (by omega)
            refine okM_seq (fun y_36 h_35 => ?_)
            have h_35' : y_36.toInt = (x3 + 1 : Int32).toInt := by rw [h_35]
            refine okM_mono (ih I_u_34 (by have B_38 := IC_b I_u_34; omega) (by have B_39 := IC_b I_u_34; omega) (by have B_40 := IC_b I_u_34; omega)) (fun r_42 u_43 z_41 => ?_)
            obtain ⟨I_u_43, G_u_43, p_44, p_45⟩ := z_41
            have F_u_43 : Fq [3] [6, 7] u u_43 := Fq_tr F_u_34 G_u_43 rfl rfl
            exact ⟨I_u_43, F_u_43, (by omega), (by omega)⟩
theorem kC_Tokens_cut {u : St} (I : IC u) : okM (mC_Tokens_cut u) (fun r v => IC v ∧ Fq [3, 4, 5] [6, 7] u v ∧ 0 ≤ r.toInt ∧ r.toInt ≤ 1) := by
  have l0 : (0 : Int32).toInt = 0 := by decide
  have l1 : (1 : Int32).toInt = 1 := by decide
  have l2000 : (2000 : Int32).toInt = 2000 := by decide
  rw [mC_Tokens_cut]
  refine okM_bP (kC_Text_copy I) (fun u_2 z_1 => ?_)
  obtain ⟨I_u_2, G_u_2⟩ := z_1
  have F_u_2 : Fq [3, 4, 5] [6, 7] u u_2 := Fq_tr (Fq_rfl u) G_u_2 rfl rfl
  refine okM_seq (fun u_4 h_3 => ?_)
  have I_u_4 : IC u_4 := by rw [h_3]; exact IC_s3 I_u_2 (by have B_5 := IC_b I_u_2; omega) (by have B_6 := IC_b I_u_2; omega)
  have F_u_4 : Fq [3, 4, 5] [6, 7] u u_4 := by rw [h_3]; exact Fq_ss F_u_2 rfl
  have g_7 : (u_4.1 3).toInt = (0 : Int32).toInt := by rw [h_3]; rfl
  refine okM_seq (fun u_9 h_8 => ?_)
  have I_u_9 : IC u_9 := by rw [h_8]; exact IC_s4 I_u_4 (by have B_10 := IC_b I_u_4; omega) (by have B_11 := IC_b I_u_4; omega)
  have F_u_9 : Fq [3, 4, 5] [6, 7] u u_9 := by rw [h_8]; exact Fq_ss F_u_4 rfl
  have g_12 : (u_9.1 4).toInt = (0 : Int32).toInt := by rw [h_8]; rfl
  refine okM_mono (kC_Tokens_cut_L22 _ I_u_9 (by have FUe : FU = 100000 := rfl; have B_13 := IC_b I_u_9; omega) (by have FUe : FU = 100000 := rfl; have B_14 := IC_b I_u_9; omega) (by have FUe : FU = 100000 := rfl; have B_15 := IC_b I_u_9; omega)) (fun r_17 u_18 z_16 => ?_)
  obtain ⟨I_u_18, G_u_18, p_19, p_20⟩ := z_16
  have F_u_18 : Fq [3, 4, 5] [6, 7] u u_18 := Fq_tr F_u_9 G_u_18 rfl rfl
  exact ⟨I_u_18, F_u_18, (by omega), (by omega)⟩
theorem kC_Preconditions_checkIndex {x0 : Int32} {x1 : Int32} {u : St} (I : IC u) (h0 : 0 ≤ x0.toInt) (h1 : x0.toInt < x1.toInt) : ok (mC_Preconditions_checkIndex x0 x1 u) (fun r => True) := by
  have l0 : (0 : Int32).toInt = 0 := by decide
  rw [mC_Preconditions_checkIndex]
  refine ok_lt (fun c_1 => ?_) (fun c_1 => ?_)
  · exfalso; omega
  · refine ok_lt (fun c_2 => ?_) (fun c_2 => ?_)
    · exact ok_some trivial
    · exfalso; omega
theorem kC_String_checkIndex {x0 : Int32} {x1 : Int32} {u : St} (I : IC u) (h0 : 0 ≤ x0.toInt) (h1 : x0.toInt < x1.toInt) : ok (mC_String_checkIndex x0 x1 u) (fun _ => True) := by
  have l0 : (0 : Int32).toInt = 0 := by decide
  rw [mC_String_checkIndex]
  refine ok_bP (kC_Preconditions_checkIndex I (by have FUe : FU = 100000 := rfl; have B_2 := IC_b I; omega) (by have FUe : FU = 100000 := rfl; have B_3 := IC_b I; omega)) (fun r_4 z_1 => ?_)
  exact ok_some trivial
theorem kC_StringLatin1_charAt {k0 : Nat} {x1 : Int32} {u : St} (I : IC u) (h0 : stok k0 = true) (h1 : 0 ≤ x1.toInt) (h2 : x1.toInt < (lnK k0 : Int)) : ok (mC_StringLatin1_charAt k0 x1 u) (fun r => cb r = true) := by
  have b : lnK k0 ≤ 50 := lnK_le (of_decide_eq_true h0)
  have e : (nI (lnK k0)).toInt = lnK k0 := nI_toInt (by omega)
  rw [mC_StringLatin1_charAt]
  refine ok_gd h0 (ok_bP (kC_String_checkIndex I (by omega) (by omega)) (fun _ _ => ok_gd h0 (ok_gd (inb_of (by omega) (by omega)) (ok_some ?_))))
  exact decide_eq_true (i2c_i2c _)
theorem kC_String_charAt {k0 : Nat} {x1 : Int32} {u : St} (I : IC u) (h0 : stok k0 = true) (h1 : 0 ≤ x1.toInt) (h2 : x1.toInt < (lnK k0 : Int)) : ok (mC_String_charAt k0 x1 u) (fun r => True) := by
  rw [mC_String_charAt]
  refine ok_gd h0 (ok_bP (kC_String_isLatin1 I h0) (fun r hr => ?_))
  subst hr
  exact ok_neg (by decide) (ok_gd h0 (ok_bP (kC_StringLatin1_charAt I h0 h1 h2) (fun r hr => ok_gd hr (ok_some trivial))))
theorem kC_Tokens_takes_L53 : ∀ (n : Nat) {k1 : Nat} {x3 : Int32} {x4 : Int32} {u : St} (I : IC u) (h0 : stok k1 = true) (h1 : 0 ≤ x4.toInt) (h2 : x4.toInt ≤ 50) (h3 : (u.1 4).toInt < 2000) (hm : (50 - x4.toInt).toNat < n), okM (mC_Tokens_takes_L53 n k1 x3 x4 u) (fun r v => IC v ∧ Fq [4] [] u v ∧ 0 ≤ r.toInt ∧ r.toInt ≤ 1) := by
  intro n
  induction n with
  | zero => intro k1 x3 x4 u I h0 h1 h2 h3 hm; exact absurd hm (Nat.not_lt_zero _)
  | succ n ih =>
    intro k1 x3 x4 u I h0 h1 h2 h3 hm
    have l0 : (0 : Int32).toInt = 0 := by decide
    have l1 : (1 : Int32).toInt = 1 := by decide
    have l4 : (4 : Int32).toInt = 4 := by decide
    have l50 : (50 : Int32).toInt = 50 := by decide
    have l2000 : (2000 : Int32).toInt = 2000 := by decide
    rw [mC_Tokens_takes_L53]
    refine okM_gd h0 ?_
    refine okM_bP (kC_String_length I h0) (fun r_2 z_1 => ?_)
    obtain ⟨p_3, p_4, p_5⟩ := z_1
    refine okM_le (fun c_6 => ?_) (fun c_6 => ?_)
    · refine okM_seq (fun u_8 h_7 => ?_)
      try have e_9 : ((u.1 4) + 1 : Int32).toInt = ((u.1 4) : Int32).toInt + (1 : Int32).toInt := by have B_10 := IC_b I; exact add_i (by omega) (by omega)
      have I_u_8 : IC u_8 := by rw [h_7]; exact IC_s4 I (by have B_11 := IC_b I; omega) (by have B_12 := IC_b I; omega)
      have F_u_8 : Fq [4] [] u u_8 := by rw [h_7]; exact Fq_ss (Fq_rfl u) rfl
      try have e_13 : ((u.1 4) + 1 : Int32).toInt = ((u.1 4) : Int32).toInt + (1 : Int32).toInt := by have B_14 := IC_b I; exact add_i (by omega) (by omega)
      have g_15 : (u_8.1 4).toInt = (((u.1 4) + 1) : Int32).toInt := by rw [h_7]; rfl
      exact okM_some ⟨I_u_8, F_u_8, (by omega), (by omega)⟩
    · try have e_16 : (x3 + x4 : Int32).toInt = (x3 : Int32).toInt + (x4 : Int32).toInt := by exact add_i (by omega) (by omega)
      refine okM_bP (kC_Text_at_11 I) (fun r_18 z_17 => ?_)
      obtain ⟨p_19, p_20, p_21⟩ := z_17
      refine okM_gd h0 ?_
      refine okM_bP (kC_String_charAt I h0 (by have FUe : FU = 100000 := rfl; have B_23 := IC_b I; omega) (by have FUe : FU = 100000 := rfl; have B_24 := IC_b I; omega)) (fun r_25 z_22 => ?_)
      refine okM_eq (fun c_26 c_26' => ?_) (fun c_26 => ?_)
      · try have e_29 : (x4 + 1 : Int32).toInt = (x4 : Int32).toInt + (1 : Int32).toInt := by exact add_i (by omega) (by omega)
        refine okM_seq (fun y_28 h_27 => ?_)
        have h_27' : y_28.toInt = (x4 + 1 : Int32).toInt := by rw [h_27]
        refine okM_mono (ih I h0 (by have B_30 := IC_b I; omega) (by have B_31 := IC_b I; omega) (by have B_32 := IC_b I; omega) (by have B_33 := IC_b I; omega)) (fun r_35 u_36 z_34 => ?_)
        obtain ⟨I_u_36, G_u_36, p_37, p_38⟩ := z_34
        have F_u_36 : Fq [4] [] u u_36 := Fq_tr (Fq_rfl u) G_u_36 rfl rfl
        exact ⟨I_u_36, F_u_36, (by omega), (by omega)⟩
      · exact okM_some ⟨I, (Fq_rfl u), (by omega), (by omega)⟩
theorem kC_Tokens_takes {k1 : Nat} {u : St} (I : IC u) (h0 : stok k1 = true) : okM (mC_Tokens_takes k1 u) (fun r v => IC v ∧ Fq [4] [] u v ∧ 0 ≤ r.toInt ∧ r.toInt ≤ 1) := by
  have lm1 : (-1 : Int32).toInt = -1 := by decide
  have l0 : (0 : Int32).toInt = 0 := by decide
  have l1 : (1 : Int32).toInt = 1 := by decide
  have l3 : (3 : Int32).toInt = 3 := by decide
  have l4 : (4 : Int32).toInt = 4 := by decide
  have l7 : (7 : Int32).toInt = 7 := by decide
  have l16 : (16 : Int32).toInt = 16 := by decide
  have l31 : (31 : Int32).toInt = 31 := by decide
  have l50 : (50 : Int32).toInt = 50 := by decide
  have l2000 : (2000 : Int32).toInt = 2000 := by decide
  rw [mC_Tokens_takes]
  have N : ((-1 : Int32) >>> (16 &&& 31)).toInt = -1 := by decide
  refine okM_le (fun c_1 => ?_) (fun c_1 => ?_)
  · rw [mC_Tokens_takes_J24]
    refine okM_eq (fun c_2 c_2' => ?_) (fun c_2 => ?_)
    · refine okM_bP (kC_Text_sizeOf I) (fun r_4 z_3 => ?_)
      obtain ⟨p_5, p_6, p_7⟩ := z_3
      refine okM_gd h0 ?_
      refine okM_bP (kC_String_length I h0) (fun r_9 z_8 => ?_)
      obtain ⟨p_10, p_11, p_12⟩ := z_8
      refine okM_eq (fun c_13 c_13' => ?_) (fun c_13 => ?_)
      · refine okM_bP (kC_Text_startOf I) (fun r_15 z_14 => ?_)
        refine okM_mono (kC_Tokens_takes_L53 _ I h0 (by have FUe : FU = 100000 := rfl; have B_16 := IC_b I; omega) (by have FUe : FU = 100000 := rfl; have B_17 := IC_b I; omega) (by have FUe : FU = 100000 := rfl; have B_18 := IC_b I; omega) (by have FUe : FU = 100000 := rfl; have B_19 := IC_b I; omega)) (fun r_21 u_22 z_20 => ?_)
        obtain ⟨I_u_22, G_u_22, p_23, p_24⟩ := z_20
        have F_u_22 : Fq [4] [] u u_22 := Fq_tr (Fq_rfl u) G_u_22 rfl rfl
        exact ⟨I_u_22, F_u_22, (by omega), (by omega)⟩
      · exact okM_some ⟨I, (Fq_rfl u), (by omega), (by omega)⟩
    · exact okM_some ⟨I, (Fq_rfl u), (by omega), (by omega)⟩
  · refine okM_gd (inb_of (by have B_25 := IC_b I; omega) (by have B_26 := IC_b I; omega)) ?_
    rw [mC_Tokens_takes_J24]
    refine okM_eq (fun c_27 c_27' => ?_) (fun c_27 => ?_)
    · refine okM_bP (kC_Text_sizeOf I) (fun r_29 z_28 => ?_)
      obtain ⟨p_30, p_31, p_32⟩ := z_28
      refine okM_gd h0 ?_
      refine okM_bP (kC_String_length I h0) (fun r_34 z_33 => ?_)
      obtain ⟨p_35, p_36, p_37⟩ := z_33
      refine okM_eq (fun c_38 c_38' => ?_) (fun c_38 => ?_)
      · refine okM_bP (kC_Text_startOf I) (fun r_40 z_39 => ?_)
        refine okM_mono (kC_Tokens_takes_L53 _ I h0 (by have FUe : FU = 100000 := rfl; have B_41 := IC_b I; omega) (by have FUe : FU = 100000 := rfl; have B_42 := IC_b I; omega) (by have FUe : FU = 100000 := rfl; have B_43 := IC_b I; omega) (by have FUe : FU = 100000 := rfl; have B_44 := IC_b I; omega)) (fun r_46 u_47 z_45 => ?_)
        obtain ⟨I_u_47, G_u_47, p_48, p_49⟩ := z_45
        have F_u_47 : Fq [4] [] u u_47 := Fq_tr (Fq_rfl u) G_u_47 rfl rfl
        exact ⟨I_u_47, F_u_47, (by omega), (by omega)⟩
      · exact okM_some ⟨I, (Fq_rfl u), (by omega), (by omega)⟩
    · exact okM_some ⟨I, (Fq_rfl u), (by omega), (by omega)⟩
theorem kC_Tokens_take {x1 : Int32} {u : St} (I : IC u) : okM (mC_Tokens_take x1 u) (fun r v => IC v ∧ Fq [4] [] u v ∧ -1 ≤ r.toInt ∧ r.toInt ≤ 65535 ∧ (r.toInt = -1 ∨ x1.toInt ≠ 4 ∨ (r &&& 31).toInt = 1)) := by
  have B := IC_b I
  have l1 : (1 : Int32).toInt = 1 := by decide
  have m1 : ((-1 : Int32)).toInt = -1 := by decide
  have l4 : (4 : Int32).toInt = 4 := by decide
  have T := IC_tok I (u.1 4)
  rw [mC_Tokens_take]
  refine okM_le (fun c => okM_some ⟨I, Fq_rfl u, by omega, by omega, by omega⟩) (fun c => ?_)
  refine okM_gd (inb_of (by omega) (by omega)) ?_
  refine okM_eq (fun c2 c2' => ?_) (fun c2 => okM_some ⟨I, Fq_rfl u, by omega, by omega, by omega⟩)
  have e : (u.1 4 + 1 : Int32).toInt = (u.1 4).toInt + (1 : Int32).toInt := add_i (by omega) (by omega)
  refine okM_seq (fun u1 h => ?_)
  have I1 : IC u1 := by rw [h]; exact IC_s4 I (by omega) (by omega)
  have g : u1.1 4 = u.1 4 + 1 := by rw [h]; rfl
  have g2 : u1.1 4 - 1 = u.1 4 := by rw [g]; exact Int32.add_sub_cancel _ _
  have g3 : ga u1 7 (u.1 4) = ga u 7 (u.1 4) := by rw [h]; rfl
  rw [g2, g3]
  refine okM_gd (inb_of (by omega) (by omega)) (okM_some ?_)
  obtain ⟨j, hj, e2⟩ := pk_andE (ga u 7 (u.1 4)) (m := 65535) 16 (by decide)
  have e3 : (ga u 7 (u.1 4) &&& 65535).toInt = j := by rw [e2, nI_toInt (by omega)]
  refine ⟨I1, by rw [h]; exact Fq_ss (Fq_rfl u) rfl, by omega, by omega, ?_⟩
  by_cases h4 : x1.toInt = 4
  · exact Or.inr (Or.inr (T (by rw [c2']; exact Int32.toInt_inj.mp (by rw [h4, l4]))))
  · exact Or.inr (Or.inl h4)
theorem kC_Parser_title {u : St} (I : IC u) : okM (mC_Parser_title u) (fun r v => IC v ∧ Fq [4, 11] [] u v ∧ 0 ≤ r.toInt ∧ r.toInt ≤ 1) := by
  have l0 : (0 : Int32).toInt = 0 := by decide
  have l1 : (1 : Int32).toInt = 1 := by decide
  have l11 : (11 : Int32).toInt = 11 := by decide
  rw [mC_Parser_title]
  refine okM_bM (kC_Tokens_take I) (fun r_2 u_3 z_1 => ?_)
  obtain ⟨I_u_3, G_u_3, p_4, p_5, p_6⟩ := z_1
  have F_u_3 : Fq [4, 11] [] u u_3 := Fq_tr (Fq_rfl u) G_u_3 rfl rfl
  refine okM_seq (fun u_8 h_7 => ?_)
  have I_u_8 : IC u_8 := by rw [h_7]; exact I_u_3
  have F_u_8 : Fq [4, 11] [] u u_8 := by rw [h_7]; exact Fq_ss F_u_3 rfl
  refine okM_lt (fun c_9 => ?_) (fun c_9 => ?_)
  · exact okM_some ⟨I_u_8, F_u_8, (by omega), (by omega)⟩
  · exact okM_some ⟨I_u_8, F_u_8, (by omega), (by omega)⟩
theorem kC_Parser_begins {u : St} (I : IC u) : okM (mC_Parser_begins u) (fun r v => IC v ∧ Fq [4, 11, 22] [] u v ∧ 0 ≤ r.toInt ∧ r.toInt ≤ 1) := by
  have l0 : (0 : Int32).toInt = 0 := by decide
  have l1 : (1 : Int32).toInt = 1 := by decide
  have l2 : (2 : Int32).toInt = 2 := by decide
  have l22 : (22 : Int32).toInt = 22 := by decide
  rw [mC_Parser_begins]
  refine okM_bM (kC_Tokens_takes I (by decide)) (fun r_2 u_3 z_1 => ?_)
  obtain ⟨I_u_3, G_u_3, p_4, p_5⟩ := z_1
  have F_u_3 : Fq [4, 11, 22] [] u u_3 := Fq_tr (Fq_rfl u) G_u_3 rfl rfl
  refine okM_gd (zb_of (by omega) (by omega)) ?_
  refine okM_seq (fun u_7 h_6 => ?_)
  have I_u_7 : IC u_7 := by rw [h_6]; exact I_u_3
  have F_u_7 : Fq [4, 11, 22] [] u u_7 := by rw [h_6]; exact Fq_ss F_u_3 rfl
  refine okM_eq (fun c_8 c_8' => ?_) (fun c_8 => ?_)
  · exact okM_some ⟨I_u_7, F_u_7, (by omega), (by omega)⟩
  · refine okM_bM (kC_Parser_title I_u_7) (fun r_10 u_11 z_9 => ?_)
    obtain ⟨I_u_11, G_u_11, p_12, p_13⟩ := z_9
    have F_u_11 : Fq [4, 11, 22] [] u u_11 := Fq_tr F_u_7 G_u_11 rfl rfl
    refine okM_eq (fun c_14 c_14' => ?_) (fun c_14 => ?_)
    · exact okM_some ⟨I_u_11, F_u_11, (by omega), (by omega)⟩
    · refine okM_bM (kC_Tokens_takes I_u_11 (by decide)) (fun r_16 u_17 z_15 => ?_)
      obtain ⟨I_u_17, G_u_17, p_18, p_19⟩ := z_15
      have F_u_17 : Fq [4, 11, 22] [] u u_17 := Fq_tr F_u_11 G_u_17 rfl rfl
      refine okM_eq (fun c_20 c_20' => ?_) (fun c_20 => ?_)
      · exact okM_some ⟨I_u_17, F_u_17, (by omega), (by omega)⟩
      · exact okM_some ⟨I_u_17, F_u_17, (by omega), (by omega)⟩
theorem kC_Nodes_size {u : St} (I : IC u) : ok (mC_Nodes_size u) (fun r => r.toInt = (u.1 6).toInt) := by
  have l6 : (6 : Int32).toInt = 6 := by decide
  rw [mC_Nodes_size]
  exact ok_some (by have B_1 := IC_b I; omega)
theorem kC_Nodes_leaf {x1 : Int32} {x2 : Int32} {x3 : Int32} {x4 : Int32} {u : St} (I : IC u) (h0 : x1.toInt ≠ 28 ∨ x2.toInt ≤ 300) : okM (mC_Nodes_leaf x1 x2 x3 x4 u) (fun r v => IC v ∧ Fq [6, 7] [8, 9, 10, 11, 12, 13, 14, 15, 16] u v ∧ 0 ≤ r.toInt ∧ r.toInt < 200) := by
  have B := IC_b I
  have l200 : (200 : Int32).toInt = 200 := by decide
  have z0 : (0 : Int32).toInt = 0 := by decide
  have l1 : (1 : Int32).toInt = 1 := by decide
  rw [mC_Nodes_leaf]
  refine okM_lt (fun c => ?_) (fun c => ?_)
  · refine okM_seq (fun y hy => ?_)
    have hy' : y.toInt = (u.1 6).toInt := by rw [hy]
    have gy : inb y 200 = true := inb_of (by omega) (by omega)
    refine okM_gd gy (okM_seq (fun u2 h2 => okM_gd gy (okM_seq (fun u3 h3 => ?_))))
    have I3 : IC u3 := by rw [h3, h2]; exact IC_a89 I h0
    have F3 : Fq [6, 7] [8, 9, 10, 11, 12, 13, 14, 15, 16] u u3 := by rw [h3, h2]; exact Fq_sa (Fq_sa (Fq_rfl u) rfl) rfl
    have g3 : (u3.1 6).toInt = (u.1 6).toInt := by rw [h3, h2]; rfl
    refine okM_gd gy (okM_seq (fun u4 h4 => ?_))
    have I4 : IC u4 := by rw [h4]; exact I3
    have F4 : Fq [6, 7] [8, 9, 10, 11, 12, 13, 14, 15, 16] u u4 := by rw [h4]; exact Fq_sa F3 rfl
    have g4 : (u4.1 6).toInt = (u.1 6).toInt := by rw [h4]; exact g3
    refine okM_gd gy (okM_seq (fun u5 h5 => ?_))
    have I5 : IC u5 := by rw [h5]; exact I4
    have F5 : Fq [6, 7] [8, 9, 10, 11, 12, 13, 14, 15, 16] u u5 := by rw [h5]; exact Fq_sa F4 rfl
    have g5 : (u5.1 6).toInt = (u.1 6).toInt := by rw [h5]; exact g4
    refine okM_gd gy (okM_seq (fun u6 h6 => ?_))
    have I6 : IC u6 := by rw [h6]; exact I5
    have F6 : Fq [6, 7] [8, 9, 10, 11, 12, 13, 14, 15, 16] u u6 := by rw [h6]; exact Fq_sa F5 rfl
    have g6 : (u6.1 6).toInt = (u.1 6).toInt := by rw [h6]; exact g5
    refine okM_gd gy (okM_seq (fun u7 h7 => ?_))
    have I7 : IC u7 := by rw [h7]; exact I6
    have F7 : Fq [6, 7] [8, 9, 10, 11, 12, 13, 14, 15, 16] u u7 := by rw [h7]; exact Fq_sa F6 rfl
    have g7 : (u7.1 6).toInt = (u.1 6).toInt := by rw [h7]; exact g6
    refine okM_gd gy (okM_seq (fun u8 h8 => ?_))
    have I8 : IC u8 := by rw [h8]; exact I7
    have F8 : Fq [6, 7] [8, 9, 10, 11, 12, 13, 14, 15, 16] u u8 := by rw [h8]; exact Fq_sa F7 rfl
    have g8 : (u8.1 6).toInt = (u.1 6).toInt := by rw [h8]; exact g7
    refine okM_gd gy (okM_seq (fun u9 h9 => ?_))
    have I9 : IC u9 := by rw [h9]; exact I8
    have F9 : Fq [6, 7] [8, 9, 10, 11, 12, 13, 14, 15, 16] u u9 := by rw [h9]; exact Fq_sa F8 rfl
    have g9 : (u9.1 6).toInt = (u.1 6).toInt := by rw [h9]; exact g8
    refine okM_gd gy (okM_seq (fun u10 h10 => ?_))
    have I10 : IC u10 := by rw [h10]; exact I9
    have F10 : Fq [6, 7] [8, 9, 10, 11, 12, 13, 14, 15, 16] u u10 := by rw [h10]; exact Fq_sa F9 rfl
    have g10 : (u10.1 6).toInt = (u.1 6).toInt := by rw [h10]; exact g9
    refine okM_seq (fun u11 h11 => ?_)
    have e : (u10.1 6 + 1 : Int32).toInt = (u10.1 6).toInt + (1 : Int32).toInt := add_i (by omega) (by omega)
    exact okM_some ⟨by rw [h11]; exact IC_s6 I10 (by omega) (by omega), by rw [h11]; exact Fq_ss F10 rfl, by omega, by omega⟩
  · refine okM_seq (fun u12 h12 => okM_some ⟨by rw [h12]; exact IC_s7 I (by omega) (by omega), by rw [h12]; exact Fq_ss (Fq_rfl u) rfl, by omega, by omega⟩)
theorem kC_Nodes_adopt {x1 : Int32} {x2 : Int32} {u : St} (I : IC u) : ok (mC_Nodes_adopt x1 x2 u) (fun v => IC v ∧ Fq [] [12] u v) := by
  have l0 : (0 : Int32).toInt = 0 := by decide
  have l6 : (6 : Int32).toInt = 6 := by decide
  rw [mC_Nodes_adopt]
  refine ok_lt (fun c_1 => ?_) (fun c_1 => ?_)
  · exact ok_some ⟨I, (Fq_rfl u)⟩
  · refine ok_le (fun c_2 => ?_) (fun c_2 => ?_)
    · exact ok_some ⟨I, (Fq_rfl u)⟩
    · refine ok_gd (inb_of (by have B_3 := IC_b I; omega) (by have B_4 := IC_b I; omega)) ?_
      refine ok_seq (fun u_6 h_5 => ?_)
      have I_u_6 : IC u_6 := by rw [h_5]; exact I
      have F_u_6 : Fq [] [12] u u_6 := by rw [h_5]; exact Fq_sa (Fq_rfl u) rfl
      exact ok_some ⟨I_u_6, F_u_6⟩
theorem kC_Nodes_top {x1 : Int32} {x2 : Int32} {u : St} (I : IC u) (h0 : x1.toInt ≠ 28) : okM (mC_Nodes_top x1 x2 u) (fun r v => IC v ∧ Fq [6, 7] [8, 9, 10, 11, 12, 13, 14, 15, 16] u v ∧ -1 ≤ r.toInt ∧ r.toInt < 200) := by
  have lm1 : (-1 : Int32).toInt = -1 := by decide
  have l0 : (0 : Int32).toInt = 0 := by decide
  have l1 : (1 : Int32).toInt = 1 := by decide
  have l7 : (7 : Int32).toInt = 7 := by decide
  have l28 : (28 : Int32).toInt = 28 := by decide
  have l200 : (200 : Int32).toInt = 200 := by decide
  have l300 : (300 : Int32).toInt = 300 := by decide
  rw [mC_Nodes_top]
  refine okM_le (fun c_1 => ?_) (fun c_1 => ?_)
  · refine okM_bM (kC_Nodes_leaf I (by have FUe : FU = 100000 := rfl; have B_3 := IC_b I; omega)) (fun r_4 u_5 z_2 => ?_)
    obtain ⟨I_u_5, G_u_5, p_6, p_7⟩ := z_2
    have F_u_5 : Fq [6, 7] [8, 9, 10, 11, 12, 13, 14, 15, 16] u u_5 := Fq_tr (Fq_rfl u) G_u_5 rfl rfl
    refine okM_eq (fun c_8 c_8' => ?_) (fun c_8 => ?_)
    · refine okM_bP (kC_Nodes_adopt I_u_5) (fun u_10 z_9 => ?_)
      obtain ⟨I_u_10, G_u_10⟩ := z_9
      have F_u_10 : Fq [6, 7] [8, 9, 10, 11, 12, 13, 14, 15, 16] u u_10 := Fq_tr F_u_5 G_u_10 rfl rfl
      exact okM_some ⟨I_u_10, F_u_10, (by omega), (by omega)⟩
    · exact okM_some ⟨I_u_5, F_u_5, (by omega), (by omega)⟩
  · exact okM_some ⟨I, (Fq_rfl u), (by omega), (by omega)⟩
theorem kC_Tokens_mark {u : St} (I : IC u) : ok (mC_Tokens_mark u) (fun r => True) := by
  have l4 : (4 : Int32).toInt = 4 := by decide
  rw [mC_Tokens_mark]
  exact ok_some trivial
theorem kC_Parser_wordBehind {u : St} (I : IC u) : okM (mC_Parser_wordBehind u) (fun r v => IC v ∧ Fq [4] [] u v ∧ -1 ≤ r.toInt ∧ r.toInt ≤ 31 ∧ r.toInt ≠ 28) := by
  have lm1 : (-1 : Int32).toInt = -1 := by decide
  have l0 : (0 : Int32).toInt = 0 := by decide
  have l1 : (1 : Int32).toInt = 1 := by decide
  have l6 : (6 : Int32).toInt = 6 := by decide
  have l18 : (18 : Int32).toInt = 18 := by decide
  have l19 : (19 : Int32).toInt = 19 := by decide
  have l20 : (20 : Int32).toInt = 20 := by decide
  have l21 : (21 : Int32).toInt = 21 := by decide
  have l22 : (22 : Int32).toInt = 22 := by decide
  have l23 : (23 : Int32).toInt = 23 := by decide
  have l26 : (26 : Int32).toInt = 26 := by decide
  have l27 : (27 : Int32).toInt = 27 := by decide
  have l28 : (28 : Int32).toInt = 28 := by decide
  have l29 : (29 : Int32).toInt = 29 := by decide
  have l30 : (30 : Int32).toInt = 30 := by decide
  have l31 : (31 : Int32).toInt = 31 := by decide
  rw [mC_Parser_wordBehind]
  refine okM_bM (kC_Tokens_takes I (by decide)) (fun r_2 u_3 z_1 => ?_)
  obtain ⟨I_u_3, G_u_3, p_4, p_5⟩ := z_1
  have F_u_3 : Fq [4] [] u u_3 := Fq_tr (Fq_rfl u) G_u_3 rfl rfl
  refine okM_eq (fun c_6 c_6' => ?_) (fun c_6 => ?_)
  · refine okM_bM (kC_Tokens_takes I_u_3 (by decide)) (fun r_8 u_9 z_7 => ?_)
    obtain ⟨I_u_9, G_u_9, p_10, p_11⟩ := z_7
    have F_u_9 : Fq [4] [] u u_9 := Fq_tr F_u_3 G_u_9 rfl rfl
    refine okM_eq (fun c_12 c_12' => ?_) (fun c_12 => ?_)
    · refine okM_bM (kC_Tokens_takes I_u_9 (by decide)) (fun r_14 u_15 z_13 => ?_)
      obtain ⟨I_u_15, G_u_15, p_16, p_17⟩ := z_13
      have F_u_15 : Fq [4] [] u u_15 := Fq_tr F_u_9 G_u_15 rfl rfl
      refine okM_eq (fun c_18 c_18' => ?_) (fun c_18 => ?_)
      · refine okM_bM (kC_Tokens_takes I_u_15 (by decide)) (fun r_20 u_21 z_19 => ?_)
        obtain ⟨I_u_21, G_u_21, p_22, p_23⟩ := z_19
        have F_u_21 : Fq [4] [] u u_21 := Fq_tr F_u_15 G_u_21 rfl rfl
        refine okM_eq (fun c_24 c_24' => ?_) (fun c_24 => ?_)
        · refine okM_bM (kC_Tokens_takes I_u_21 (by decide)) (fun r_26 u_27 z_25 => ?_)
          obtain ⟨I_u_27, G_u_27, p_28, p_29⟩ := z_25
          have F_u_27 : Fq [4] [] u u_27 := Fq_tr F_u_21 G_u_27 rfl rfl
          refine okM_eq (fun c_30 c_30' => ?_) (fun c_30 => ?_)
          · refine okM_bM (kC_Tokens_takes I_u_27 (by decide)) (fun r_32 u_33 z_31 => ?_)
            obtain ⟨I_u_33, G_u_33, p_34, p_35⟩ := z_31
            have F_u_33 : Fq [4] [] u u_33 := Fq_tr F_u_27 G_u_33 rfl rfl
            refine okM_eq (fun c_36 c_36' => ?_) (fun c_36 => ?_)
            · exact okM_some ⟨I_u_33, F_u_33, (by omega), (by omega), (by omega)⟩
            · exact okM_some ⟨I_u_33, F_u_33, (by omega), (by omega), (by omega)⟩
          · exact okM_some ⟨I_u_27, F_u_27, (by omega), (by omega), (by omega)⟩
        · exact okM_some ⟨I_u_21, F_u_21, (by omega), (by omega), (by omega)⟩
      · exact okM_some ⟨I_u_15, F_u_15, (by omega), (by omega), (by omega)⟩
    · exact okM_some ⟨I_u_9, F_u_9, (by omega), (by omega), (by omega)⟩
  · exact okM_some ⟨I_u_3, F_u_3, (by omega), (by omega), (by omega)⟩
theorem kC_Parser_signBehind {u : St} (I : IC u) : okM (mC_Parser_signBehind u) (fun r v => IC v ∧ Fq [4] [] u v ∧ -1 ≤ r.toInt ∧ r.toInt ≤ 22) := by
  have lm1 : (-1 : Int32).toInt = -1 := by decide
  have l0 : (0 : Int32).toInt = 0 := by decide
  have l1 : (1 : Int32).toInt = 1 := by decide
  have l5 : (5 : Int32).toInt = 5 := by decide
  have l7 : (7 : Int32).toInt = 7 := by decide
  have l11 : (11 : Int32).toInt = 11 := by decide
  have l12 : (12 : Int32).toInt = 12 := by decide
  have l13 : (13 : Int32).toInt = 13 := by decide
  have l14 : (14 : Int32).toInt = 14 := by decide
  have l15 : (15 : Int32).toInt = 15 := by decide
  have l16 : (16 : Int32).toInt = 16 := by decide
  have l17 : (17 : Int32).toInt = 17 := by decide
  have l18 : (18 : Int32).toInt = 18 := by decide
  have l19 : (19 : Int32).toInt = 19 := by decide
  have l20 : (20 : Int32).toInt = 20 := by decide
  have l21 : (21 : Int32).toInt = 21 := by decide
  have l22 : (22 : Int32).toInt = 22 := by decide
  have l23 : (23 : Int32).toInt = 23 := by decide
  have l24 : (24 : Int32).toInt = 24 := by decide
  have l25 : (25 : Int32).toInt = 25 := by decide
  have l26 : (26 : Int32).toInt = 26 := by decide
  have l27 : (27 : Int32).toInt = 27 := by decide
  have l28 : (28 : Int32).toInt = 28 := by decide
  have l29 : (29 : Int32).toInt = 29 := by decide
  have l30 : (30 : Int32).toInt = 30 := by decide
  have l31 : (31 : Int32).toInt = 31 := by decide
  have l32 : (32 : Int32).toInt = 32 := by decide
  rw [mC_Parser_signBehind]
  refine okM_bM (kC_Tokens_takes I (by decide)) (fun r_2 u_3 z_1 => ?_)
  obtain ⟨I_u_3, G_u_3, p_4, p_5⟩ := z_1
  have F_u_3 : Fq [4] [] u u_3 := Fq_tr (Fq_rfl u) G_u_3 rfl rfl
  refine okM_eq (fun c_6 c_6' => ?_) (fun c_6 => ?_)
  · refine okM_bM (kC_Tokens_takes I_u_3 (by decide)) (fun r_8 u_9 z_7 => ?_)
    obtain ⟨I_u_9, G_u_9, p_10, p_11⟩ := z_7
    have F_u_9 : Fq [4] [] u u_9 := Fq_tr F_u_3 G_u_9 rfl rfl
    refine okM_eq (fun c_12 c_12' => ?_) (fun c_12 => ?_)
    · refine okM_bM (kC_Tokens_takes I_u_9 (by decide)) (fun r_14 u_15 z_13 => ?_)
      obtain ⟨I_u_15, G_u_15, p_16, p_17⟩ := z_13
      have F_u_15 : Fq [4] [] u u_15 := Fq_tr F_u_9 G_u_15 rfl rfl
      refine okM_eq (fun c_18 c_18' => ?_) (fun c_18 => ?_)
      · refine okM_bM (kC_Tokens_takes I_u_15 (by decide)) (fun r_20 u_21 z_19 => ?_)
        obtain ⟨I_u_21, G_u_21, p_22, p_23⟩ := z_19
        have F_u_21 : Fq [4] [] u u_21 := Fq_tr F_u_15 G_u_21 rfl rfl
        refine okM_eq (fun c_24 c_24' => ?_) (fun c_24 => ?_)
        · refine okM_bM (kC_Tokens_takes I_u_21 (by decide)) (fun r_26 u_27 z_25 => ?_)
          obtain ⟨I_u_27, G_u_27, p_28, p_29⟩ := z_25
          have F_u_27 : Fq [4] [] u u_27 := Fq_tr F_u_21 G_u_27 rfl rfl
          refine okM_eq (fun c_30 c_30' => ?_) (fun c_30 => ?_)
          · refine okM_bM (kC_Tokens_takes I_u_27 (by decide)) (fun r_32 u_33 z_31 => ?_)
            obtain ⟨I_u_33, G_u_33, p_34, p_35⟩ := z_31
            have F_u_33 : Fq [4] [] u u_33 := Fq_tr F_u_27 G_u_33 rfl rfl
            refine okM_eq (fun c_36 c_36' => ?_) (fun c_36 => ?_)
            · refine okM_bM (kC_Tokens_takes I_u_33 (by decide)) (fun r_38 u_39 z_37 => ?_)
              obtain ⟨I_u_39, G_u_39, p_40, p_41⟩ := z_37
              have F_u_39 : Fq [4] [] u u_39 := Fq_tr F_u_33 G_u_39 rfl rfl
              refine okM_eq (fun c_42 c_42' => ?_) (fun c_42 => ?_)
              · refine okM_bM (kC_Tokens_takes I_u_39 (by decide)) (fun r_44 u_45 z_43 => ?_)
                obtain ⟨I_u_45, G_u_45, p_46, p_47⟩ := z_43
                have F_u_45 : Fq [4] [] u u_45 := Fq_tr F_u_39 G_u_45 rfl rfl
                refine okM_eq (fun c_48 c_48' => ?_) (fun c_48 => ?_)
                · refine okM_bM (kC_Tokens_takes I_u_45 (by decide)) (fun r_50 u_51 z_49 => ?_)
                  obtain ⟨I_u_51, G_u_51, p_52, p_53⟩ := z_49
                  have F_u_51 : Fq [4] [] u u_51 := Fq_tr F_u_45 G_u_51 rfl rfl
                  refine okM_eq (fun c_54 c_54' => ?_) (fun c_54 => ?_)
                  · refine okM_bM (kC_Tokens_takes I_u_51 (by decide)) (fun r_56 u_57 z_55 => ?_)
                    obtain ⟨I_u_57, G_u_57, p_58, p_59⟩ := z_55
                    have F_u_57 : Fq [4] [] u u_57 := Fq_tr F_u_51 G_u_57 rfl rfl
                    refine okM_eq (fun c_60 c_60' => ?_) (fun c_60 => ?_)
                    · refine okM_bM (kC_Tokens_takes I_u_57 (by decide)) (fun r_62 u_63 z_61 => ?_)
                      obtain ⟨I_u_63, G_u_63, p_64, p_65⟩ := z_61
                      have F_u_63 : Fq [4] [] u u_63 := Fq_tr F_u_57 G_u_63 rfl rfl
                      refine okM_eq (fun c_66 c_66' => ?_) (fun c_66 => ?_)
                      · refine okM_bM (kC_Tokens_takes I_u_63 (by decide)) (fun r_68 u_69 z_67 => ?_)
                        obtain ⟨I_u_69, G_u_69, p_70, p_71⟩ := z_67
                        have F_u_69 : Fq [4] [] u u_69 := Fq_tr F_u_63 G_u_69 rfl rfl
                        refine okM_eq (fun c_72 c_72' => ?_) (fun c_72 => ?_)
                        · exact okM_some ⟨I_u_69, F_u_69, (by omega), (by omega)⟩
                        · exact okM_some ⟨I_u_69, F_u_69, (by omega), (by omega)⟩
                      · exact okM_some ⟨I_u_63, F_u_63, (by omega), (by omega)⟩
                    · exact okM_some ⟨I_u_57, F_u_57, (by omega), (by omega)⟩
                  · exact okM_some ⟨I_u_51, F_u_51, (by omega), (by omega)⟩
                · exact okM_some ⟨I_u_45, F_u_45, (by omega), (by omega)⟩
              · exact okM_some ⟨I_u_39, F_u_39, (by omega), (by omega)⟩
            · exact okM_some ⟨I_u_33, F_u_33, (by omega), (by omega)⟩
          · exact okM_some ⟨I_u_27, F_u_27, (by omega), (by omega)⟩
        · exact okM_some ⟨I_u_21, F_u_21, (by omega), (by omega)⟩
      · exact okM_some ⟨I_u_15, F_u_15, (by omega), (by omega)⟩
    · exact okM_some ⟨I_u_9, F_u_9, (by omega), (by omega)⟩
  · exact okM_some ⟨I_u_3, F_u_3, (by omega), (by omega)⟩
theorem kC_Parser_levelOf {x0 : Int32} {u : St} (I : IC u) : ok (mC_Parser_levelOf x0 u) (fun r => 0 ≤ r.toInt ∧ r.toInt ≤ 7) := by
  have lm1 : (-1 : Int32).toInt = -1 := by decide
  have l0 : (0 : Int32).toInt = 0 := by decide
  have l1 : (1 : Int32).toInt = 1 := by decide
  have l2 : (2 : Int32).toInt = 2 := by decide
  have l3 : (3 : Int32).toInt = 3 := by decide
  have l4 : (4 : Int32).toInt = 4 := by decide
  have l5 : (5 : Int32).toInt = 5 := by decide
  have l6 : (6 : Int32).toInt = 6 := by decide
  have l7 : (7 : Int32).toInt = 7 := by decide
  have l8 : (8 : Int32).toInt = 8 := by decide
  have l9 : (9 : Int32).toInt = 9 := by decide
  have l10 : (10 : Int32).toInt = 10 := by decide
  have l11 : (11 : Int32).toInt = 11 := by decide
  have l12 : (12 : Int32).toInt = 12 := by decide
  have l13 : (13 : Int32).toInt = 13 := by decide
  have l14 : (14 : Int32).toInt = 14 := by decide
  have l15 : (15 : Int32).toInt = 15 := by decide
  have l16 : (16 : Int32).toInt = 16 := by decide
  have l17 : (17 : Int32).toInt = 17 := by decide
  have l18 : (18 : Int32).toInt = 18 := by decide
  have l19 : (19 : Int32).toInt = 19 := by decide
  have l20 : (20 : Int32).toInt = 20 := by decide
  have l21 : (21 : Int32).toInt = 21 := by decide
  have l22 : (22 : Int32).toInt = 22 := by decide
  have l23 : (23 : Int32).toInt = 23 := by decide
  have l24 : (24 : Int32).toInt = 24 := by decide
  have l25 : (25 : Int32).toInt = 25 := by decide
  have l26 : (26 : Int32).toInt = 26 := by decide
  have l27 : (27 : Int32).toInt = 27 := by decide
  rw [mC_Parser_levelOf]
  refine ok_eq (fun c_1 c_1' => ?_) (fun c_1 => ?_)
  · exact ok_some ⟨(by omega), (by omega)⟩
  · refine ok_eq (fun c_2 c_2' => ?_) (fun c_2 => ?_)
    · exact ok_some ⟨(by omega), (by omega)⟩
    · refine ok_eq (fun c_3 c_3' => ?_) (fun c_3 => ?_)
      · exact ok_some ⟨(by omega), (by omega)⟩
      · refine ok_eq (fun c_4 c_4' => ?_) (fun c_4 => ?_)
        · exact ok_some ⟨(by omega), (by omega)⟩
        · refine ok_eq (fun c_5 c_5' => ?_) (fun c_5 => ?_)
          · exact ok_some ⟨(by omega), (by omega)⟩
          · refine ok_eq (fun c_6 c_6' => ?_) (fun c_6 => ?_)
            · exact ok_some ⟨(by omega), (by omega)⟩
            · refine ok_eq (fun c_7 c_7' => ?_) (fun c_7 => ?_)
              · exact ok_some ⟨(by omega), (by omega)⟩
              · refine ok_eq (fun c_8 c_8' => ?_) (fun c_8 => ?_)
                · exact ok_some ⟨(by omega), (by omega)⟩
                · refine ok_eq (fun c_9 c_9' => ?_) (fun c_9 => ?_)
                  · exact ok_some ⟨(by omega), (by omega)⟩
                  · refine ok_eq (fun c_10 c_10' => ?_) (fun c_10 => ?_)
                    · exact ok_some ⟨(by omega), (by omega)⟩
                    · refine ok_eq (fun c_11 c_11' => ?_) (fun c_11 => ?_)
                      · exact ok_some ⟨(by omega), (by omega)⟩
                      · refine ok_eq (fun c_12 c_12' => ?_) (fun c_12 => ?_)
                        · exact ok_some ⟨(by omega), (by omega)⟩
                        · refine ok_eq (fun c_13 c_13' => ?_) (fun c_13 => ?_)
                          · exact ok_some ⟨(by omega), (by omega)⟩
                          · refine ok_eq (fun c_14 c_14' => ?_) (fun c_14 => ?_)
                            · exact ok_some ⟨(by omega), (by omega)⟩
                            · refine ok_eq (fun c_15 c_15' => ?_) (fun c_15 => ?_)
                              · exact ok_some ⟨(by omega), (by omega)⟩
                              · refine ok_eq (fun c_16 c_16' => ?_) (fun c_16 => ?_)
                                · exact ok_some ⟨(by omega), (by omega)⟩
                                · refine ok_eq (fun c_17 c_17' => ?_) (fun c_17 => ?_)
                                  · exact ok_some ⟨(by omega), (by omega)⟩
                                  · refine ok_eq (fun c_18 c_18' => ?_) (fun c_18 => ?_)
                                    · exact ok_some ⟨(by omega), (by omega)⟩
                                    · refine ok_eq (fun c_19 c_19' => ?_) (fun c_19 => ?_)
                                      · exact ok_some ⟨(by omega), (by omega)⟩
                                      · refine ok_eq (fun c_20 c_20' => ?_) (fun c_20 => ?_)
                                        · exact ok_some ⟨(by omega), (by omega)⟩
                                        · refine ok_eq (fun c_21 c_21' => ?_) (fun c_21 => ?_)
                                          · exact ok_some ⟨(by omega), (by omega)⟩
                                          · refine ok_eq (fun c_22 c_22' => ?_) (fun c_22 => ?_)
                                            · exact ok_some ⟨(by omega), (by omega)⟩
                                            · refine ok_eq (fun c_23 c_23' => ?_) (fun c_23 => ?_)
                                              · exact ok_some ⟨(by omega), (by omega)⟩
                                              · refine ok_eq (fun c_24 c_24' => ?_) (fun c_24 => ?_)
                                                · exact ok_some ⟨(by omega), (by omega)⟩
                                                · refine ok_eq (fun c_25 c_25' => ?_) (fun c_25 => ?_)
                                                  · exact ok_some ⟨(by omega), (by omega)⟩
                                                  · refine ok_eq (fun c_26 c_26' => ?_) (fun c_26 => ?_)
                                                    · exact ok_some ⟨(by omega), (by omega)⟩
                                                    · refine ok_eq (fun c_27 c_27' => ?_) (fun c_27 => ?_)
                                                      · exact ok_some ⟨(by omega), (by omega)⟩
                                                      · refine ok_eq (fun c_28 c_28' => ?_) (fun c_28 => ?_)
                                                        · exact ok_some ⟨(by omega), (by omega)⟩
                                                        · refine ok_eq (fun c_29 c_29' => ?_) (fun c_29 => ?_)
                                                          · exact ok_some ⟨(by omega), (by omega)⟩
                                                          · exact ok_some ⟨(by omega), (by omega)⟩
theorem kC_Tokens_backTo {x1 : Int32} {u : St} (I : IC u) : ok (mC_Tokens_backTo x1 u) (fun v => IC v ∧ Fq [4] [] u v) := by
  have l0 : (0 : Int32).toInt = 0 := by decide
  have l4 : (4 : Int32).toInt = 4 := by decide
  rw [mC_Tokens_backTo]
  refine ok_lt (fun c_1 => ?_) (fun c_1 => ?_)
  · exact ok_some ⟨I, (Fq_rfl u)⟩
  · refine ok_le (fun c_2 => ?_) (fun c_2 => ?_)
    · exact ok_some ⟨I, (Fq_rfl u)⟩
    · refine ok_seq (fun u_4 h_3 => ?_)
      have I_u_4 : IC u_4 := by rw [h_3]; exact IC_s4 I (by have B_5 := IC_b I; omega) (by have B_6 := IC_b I; omega)
      have F_u_4 : Fq [4] [] u u_4 := by rw [h_3]; exact Fq_ss (Fq_rfl u) rfl
      have g_7 : (u_4.1 4).toInt = (x1 : Int32).toInt := by rw [h_3]; rfl
      exact ok_some ⟨I_u_4, F_u_4⟩
theorem kC_Nodes_join {x1 : Int32} {x2 : Int32} {x3 : Int32} {u : St} (I : IC u) (h0 : x1.toInt ≠ 28) : okM (mC_Nodes_join x1 x2 x3 u) (fun r v => IC v ∧ Fq [6, 7] [8, 9, 10, 11, 12, 13, 14, 15, 16] u v ∧ -1 ≤ r.toInt ∧ r.toInt < 200) := by
  have lm1 : (-1 : Int32).toInt = -1 := by decide
  have l0 : (0 : Int32).toInt = 0 := by decide
  have l1 : (1 : Int32).toInt = 1 := by decide
  have l7 : (7 : Int32).toInt = 7 := by decide
  have l28 : (28 : Int32).toInt = 28 := by decide
  have l200 : (200 : Int32).toInt = 200 := by decide
  have l300 : (300 : Int32).toInt = 300 := by decide
  rw [mC_Nodes_join]
  refine okM_lt (fun c_1 => ?_) (fun c_1 => ?_)
  · exact okM_some ⟨I, (Fq_rfl u), (by omega), (by omega)⟩
  · refine okM_le (fun c_2 => ?_) (fun c_2 => ?_)
    · refine okM_bM (kC_Nodes_leaf I (by have FUe : FU = 100000 := rfl; have B_4 := IC_b I; omega)) (fun r_5 u_6 z_3 => ?_)
      obtain ⟨I_u_6, G_u_6, p_7, p_8⟩ := z_3
      have F_u_6 : Fq [6, 7] [8, 9, 10, 11, 12, 13, 14, 15, 16] u u_6 := Fq_tr (Fq_rfl u) G_u_6 rfl rfl
      refine okM_eq (fun c_9 c_9' => ?_) (fun c_9 => ?_)
      · refine okM_gd (inb_of (by have B_10 := IC_b I_u_6; omega) (by have B_11 := IC_b I_u_6; omega)) ?_
        refine okM_seq (fun u_13 h_12 => ?_)
        have I_u_13 : IC u_13 := by rw [h_12]; exact I_u_6
        have F_u_13 : Fq [6, 7] [8, 9, 10, 11, 12, 13, 14, 15, 16] u u_13 := by rw [h_12]; exact Fq_sa F_u_6 rfl
        refine okM_bP (kC_Nodes_adopt I_u_13) (fun u_15 z_14 => ?_)
        obtain ⟨I_u_15, G_u_15⟩ := z_14
        have F_u_15 : Fq [6, 7] [8, 9, 10, 11, 12, 13, 14, 15, 16] u u_15 := Fq_tr F_u_13 G_u_15 rfl rfl
        refine okM_bP (kC_Nodes_adopt I_u_15) (fun u_17 z_16 => ?_)
        obtain ⟨I_u_17, G_u_17⟩ := z_16
        have F_u_17 : Fq [6, 7] [8, 9, 10, 11, 12, 13, 14, 15, 16] u u_17 := Fq_tr F_u_15 G_u_17 rfl rfl
        exact okM_some ⟨I_u_17, F_u_17, (by omega), (by omega)⟩
      · exact okM_some ⟨I_u_6, F_u_6, (by omega), (by omega)⟩
    · exact okM_some ⟨I, (Fq_rfl u), (by omega), (by omega)⟩
