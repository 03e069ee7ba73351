theorem kM_SqlReaderModel_signEnd_J61 {x1 : Int32} {x2 : Int32} {u : St} (I : IB u) (h0 : 0 ≤ x1.toInt) (h1 : x1.toInt < (u.1 0).toInt) : ok (mM_SqlReaderModel_signEnd_J61 x1 x2 u) (fun r => r.toInt = -1 ∨ (x1.toInt < r.toInt ∧ r.toInt ≤ (u.1 0).toInt)) := by
  have lm1 : (-1 : Int32).toInt = -1 := by decide
  have l0 : (0 : Int32).toInt = 0 := by decide
  have l1 : (1 : Int32).toInt = 1 := by decide
  have l37 : (37 : Int32).toInt = 37 := by decide
  have l40 : (40 : Int32).toInt = 40 := by decide
  have l41 : (41 : Int32).toInt = 41 := by decide
  have l42 : (42 : Int32).toInt = 42 := by decide
  have l43 : (43 : Int32).toInt = 43 := by decide
  have l44 : (44 : Int32).toInt = 44 := by decide
  have l45 : (45 : Int32).toInt = 45 := by decide
  have l46 : (46 : Int32).toInt = 46 := by decide
  have l47 : (47 : Int32).toInt = 47 := by decide
  have l59 : (59 : Int32).toInt = 59 := by decide
  have l60 : (60 : Int32).toInt = 60 := by decide
  have l61 : (61 : Int32).toInt = 61 := by decide
  have l62 : (62 : Int32).toInt = 62 := by decide
  rw [mM_SqlReaderModel_signEnd_J61]
  refine ok_eq (fun c_1 c_1' => ?_) (fun c_1 => ?_)
  · rw [mM_SqlReaderModel_signEnd_J139]
    try have e_2 : (x1 + 1 : Int32).toInt = (x1 : Int32).toInt + (1 : Int32).toInt := by have B_3 := IB_b I; exact add_i (by omega) (by omega)
    exact ok_some (by have B_4 := IB_b I; omega)
  · refine ok_eq (fun c_5 c_5' => ?_) (fun c_5 => ?_)
    · rw [mM_SqlReaderModel_signEnd_J139]
      try have e_6 : (x1 + 1 : Int32).toInt = (x1 : Int32).toInt + (1 : Int32).toInt := by have B_7 := IB_b I; exact add_i (by omega) (by omega)
      exact ok_some (by have B_8 := IB_b I; omega)
    · refine ok_eq (fun c_9 c_9' => ?_) (fun c_9 => ?_)
      · rw [mM_SqlReaderModel_signEnd_J139]
        try have e_10 : (x1 + 1 : Int32).toInt = (x1 : Int32).toInt + (1 : Int32).toInt := by have B_11 := IB_b I; exact add_i (by omega) (by omega)
        exact ok_some (by have B_12 := IB_b I; omega)
      · refine ok_eq (fun c_13 c_13' => ?_) (fun c_13 => ?_)
        · rw [mM_SqlReaderModel_signEnd_J139]
          try have e_14 : (x1 + 1 : Int32).toInt = (x1 : Int32).toInt + (1 : Int32).toInt := by have B_15 := IB_b I; exact add_i (by omega) (by omega)
          exact ok_some (by have B_16 := IB_b I; omega)
        · refine ok_eq (fun c_17 c_17' => ?_) (fun c_17 => ?_)
          · rw [mM_SqlReaderModel_signEnd_J139]
            try have e_18 : (x1 + 1 : Int32).toInt = (x1 : Int32).toInt + (1 : Int32).toInt := by have B_19 := IB_b I; exact add_i (by omega) (by omega)
            exact ok_some (by have B_20 := IB_b I; omega)
          · refine ok_eq (fun c_21 c_21' => ?_) (fun c_21 => ?_)
            · rw [mM_SqlReaderModel_signEnd_J139]
              try have e_22 : (x1 + 1 : Int32).toInt = (x1 : Int32).toInt + (1 : Int32).toInt := by have B_23 := IB_b I; exact add_i (by omega) (by omega)
              exact ok_some (by have B_24 := IB_b I; omega)
            · refine ok_eq (fun c_25 c_25' => ?_) (fun c_25 => ?_)
              · rw [mM_SqlReaderModel_signEnd_J139]
                try have e_26 : (x1 + 1 : Int32).toInt = (x1 : Int32).toInt + (1 : Int32).toInt := by have B_27 := IB_b I; exact add_i (by omega) (by omega)
                exact ok_some (by have B_28 := IB_b I; omega)
              · refine ok_eq (fun c_29 c_29' => ?_) (fun c_29 => ?_)
                · rw [mM_SqlReaderModel_signEnd_J139]
                  try have e_30 : (x1 + 1 : Int32).toInt = (x1 : Int32).toInt + (1 : Int32).toInt := by have B_31 := IB_b I; exact add_i (by omega) (by omega)
                  exact ok_some (by have B_32 := IB_b I; omega)
                · refine ok_eq (fun c_33 c_33' => ?_) (fun c_33 => ?_)
                  · rw [mM_SqlReaderModel_signEnd_J139]
                    try have e_34 : (x1 + 1 : Int32).toInt = (x1 : Int32).toInt + (1 : Int32).toInt := by have B_35 := IB_b I; exact add_i (by omega) (by omega)
                    exact ok_some (by have B_36 := IB_b I; omega)
                  · refine ok_eq (fun c_37 c_37' => ?_) (fun c_37 => ?_)
                    · rw [mM_SqlReaderModel_signEnd_J139]
                      try have e_38 : (x1 + 1 : Int32).toInt = (x1 : Int32).toInt + (1 : Int32).toInt := by have B_39 := IB_b I; exact add_i (by omega) (by omega)
                      exact ok_some (by have B_40 := IB_b I; omega)
                    · refine ok_eq (fun c_41 c_41' => ?_) (fun c_41 => ?_)
                      · rw [mM_SqlReaderModel_signEnd_J139]
                        try have e_42 : (x1 + 1 : Int32).toInt = (x1 : Int32).toInt + (1 : Int32).toInt := by have B_43 := IB_b I; exact add_i (by omega) (by omega)
                        exact ok_some (by have B_44 := IB_b I; omega)
                      · refine ok_eq (fun c_45 c_45' => ?_) (fun c_45 => ?_)
                        · rw [mM_SqlReaderModel_signEnd_J139]
                          try have e_46 : (x1 + 1 : Int32).toInt = (x1 : Int32).toInt + (1 : Int32).toInt := by have B_47 := IB_b I; exact add_i (by omega) (by omega)
                          exact ok_some (by have B_48 := IB_b I; omega)
                        · refine ok_eq (fun c_49 c_49' => ?_) (fun c_49 => ?_)
                          · rw [mM_SqlReaderModel_signEnd_J139]
                            try have e_50 : (x1 + 1 : Int32).toInt = (x1 : Int32).toInt + (1 : Int32).toInt := by have B_51 := IB_b I; exact add_i (by omega) (by omega)
                            exact ok_some (by have B_52 := IB_b I; omega)
                          · exact ok_some (by have B_53 := IB_b I; omega)
theorem kM_SqlReaderModel_signEnd {x1 : Int32} {u : St} (I : IB u) (h0 : 0 ≤ x1.toInt) (h1 : x1.toInt < (u.1 0).toInt) : ok (mM_SqlReaderModel_signEnd x1 u) (fun r => r.toInt = -1 ∨ (x1.toInt < r.toInt ∧ r.toInt ≤ (u.1 0).toInt)) := by
  have l0 : (0 : Int32).toInt = 0 := by decide
  have l1 : (1 : Int32).toInt = 1 := by decide
  have l2 : (2 : Int32).toInt = 2 := by decide
  have l60 : (60 : Int32).toInt = 60 := by decide
  have l61 : (61 : Int32).toInt = 61 := by decide
  have l62 : (62 : Int32).toInt = 62 := by decide
  have l124 : (124 : Int32).toInt = 124 := by decide
  rw [mM_SqlReaderModel_signEnd]
  refine ok_gd (inb_of (by have B_1 := IB_b I; omega) (by have B_2 := IB_b I; omega)) ?_
  refine ok_seq (fun y_4 h_3 => ?_)
  have h_3' : y_4.toInt = ((ga u 0 x1) : Int32).toInt := by rw [h_3]
  try have e_5 : (x1 + 1 : Int32).toInt = (x1 : Int32).toInt + (1 : Int32).toInt := by have B_6 := IB_b I; exact add_i (by omega) (by omega)
  refine ok_bP (kM_SqlReaderModel_at I (by have FUe : FU = 100000 := rfl; have B_8 := IB_b I; omega)) (fun r_9 z_7 => ?_)
  have p_10 := z_7
  refine ok_eq (fun c_11 c_11' => ?_) (fun c_11 => ?_)
  · refine ok_eq (fun c_12 c_12' => ?_) (fun c_12 => ?_)
    · try have e_13 : (x1 + 2 : Int32).toInt = (x1 : Int32).toInt + (2 : Int32).toInt := by have B_14 := IB_b I; exact add_i (by omega) (by omega)
      exact ok_some (by have B_15 := IB_b I; omega)
    · refine ok_eq (fun c_16 c_16' => ?_) (fun c_16 => ?_)
      · try have e_17 : (x1 + 2 : Int32).toInt = (x1 : Int32).toInt + (2 : Int32).toInt := by have B_18 := IB_b I; exact add_i (by omega) (by omega)
        exact ok_some (by have B_19 := IB_b I; omega)
      · rw [mM_SqlReaderModel_signEnd_J33]
        refine ok_eq (fun c_20 c_20' => ?_) (fun c_20 => ?_)
        · refine ok_eq (fun c_21 c_21' => ?_) (fun c_21 => ?_)
          · try have e_22 : (x1 + 2 : Int32).toInt = (x1 : Int32).toInt + (2 : Int32).toInt := by have B_23 := IB_b I; exact add_i (by omega) (by omega)
            exact ok_some (by have B_24 := IB_b I; omega)
          · rw [mM_SqlReaderModel_signEnd_J45]
            refine ok_eq (fun c_25 c_25' => ?_) (fun c_25 => ?_)
            · refine ok_eq (fun c_26 c_26' => ?_) (fun c_26 => ?_)
              · try have e_27 : (x1 + 2 : Int32).toInt = (x1 : Int32).toInt + (2 : Int32).toInt := by have B_28 := IB_b I; exact add_i (by omega) (by omega)
                exact ok_some (by have B_29 := IB_b I; omega)
              · refine ok_mono (kM_SqlReaderModel_signEnd_J61 I (by have FUe : FU = 100000 := rfl; have B_30 := IB_b I; omega) (by have FUe : FU = 100000 := rfl; have B_31 := IB_b I; omega)) (fun r_33 z_32 => ?_)
                have p_34 := z_32
                exact (by have B_35 := IB_b I; omega)
            · refine ok_mono (kM_SqlReaderModel_signEnd_J61 I (by have FUe : FU = 100000 := rfl; have B_36 := IB_b I; omega) (by have FUe : FU = 100000 := rfl; have B_37 := IB_b I; omega)) (fun r_39 z_38 => ?_)
              have p_40 := z_38
              exact (by have B_41 := IB_b I; omega)
        · rw [mM_SqlReaderModel_signEnd_J45]
          refine ok_eq (fun c_42 c_42' => ?_) (fun c_42 => ?_)
          · refine ok_eq (fun c_43 c_43' => ?_) (fun c_43 => ?_)
            · try have e_44 : (x1 + 2 : Int32).toInt = (x1 : Int32).toInt + (2 : Int32).toInt := by have B_45 := IB_b I; exact add_i (by omega) (by omega)
              exact ok_some (by have B_46 := IB_b I; omega)
            · refine ok_mono (kM_SqlReaderModel_signEnd_J61 I (by have FUe : FU = 100000 := rfl; have B_47 := IB_b I; omega) (by have FUe : FU = 100000 := rfl; have B_48 := IB_b I; omega)) (fun r_50 z_49 => ?_)
              have p_51 := z_49
              exact (by have B_52 := IB_b I; omega)
          · refine ok_mono (kM_SqlReaderModel_signEnd_J61 I (by have FUe : FU = 100000 := rfl; have B_53 := IB_b I; omega) (by have FUe : FU = 100000 := rfl; have B_54 := IB_b I; omega)) (fun r_56 z_55 => ?_)
            have p_57 := z_55
            exact (by have B_58 := IB_b I; omega)
  · rw [mM_SqlReaderModel_signEnd_J33]
    refine ok_eq (fun c_59 c_59' => ?_) (fun c_59 => ?_)
    · refine ok_eq (fun c_60 c_60' => ?_) (fun c_60 => ?_)
      · try have e_61 : (x1 + 2 : Int32).toInt = (x1 : Int32).toInt + (2 : Int32).toInt := by have B_62 := IB_b I; exact add_i (by omega) (by omega)
        exact ok_some (by have B_63 := IB_b I; omega)
      · rw [mM_SqlReaderModel_signEnd_J45]
        refine ok_eq (fun c_64 c_64' => ?_) (fun c_64 => ?_)
        · refine ok_eq (fun c_65 c_65' => ?_) (fun c_65 => ?_)
          · try have e_66 : (x1 + 2 : Int32).toInt = (x1 : Int32).toInt + (2 : Int32).toInt := by have B_67 := IB_b I; exact add_i (by omega) (by omega)
            exact ok_some (by have B_68 := IB_b I; omega)
          · refine ok_mono (kM_SqlReaderModel_signEnd_J61 I (by have FUe : FU = 100000 := rfl; have B_69 := IB_b I; omega) (by have FUe : FU = 100000 := rfl; have B_70 := IB_b I; omega)) (fun r_72 z_71 => ?_)
            have p_73 := z_71
            exact (by have B_74 := IB_b I; omega)
        · refine ok_mono (kM_SqlReaderModel_signEnd_J61 I (by have FUe : FU = 100000 := rfl; have B_75 := IB_b I; omega) (by have FUe : FU = 100000 := rfl; have B_76 := IB_b I; omega)) (fun r_78 z_77 => ?_)
          have p_79 := z_77
          exact (by have B_80 := IB_b I; omega)
    · rw [mM_SqlReaderModel_signEnd_J45]
      refine ok_eq (fun c_81 c_81' => ?_) (fun c_81 => ?_)
      · refine ok_eq (fun c_82 c_82' => ?_) (fun c_82 => ?_)
        · try have e_83 : (x1 + 2 : Int32).toInt = (x1 : Int32).toInt + (2 : Int32).toInt := by have B_84 := IB_b I; exact add_i (by omega) (by omega)
          exact ok_some (by have B_85 := IB_b I; omega)
        · refine ok_mono (kM_SqlReaderModel_signEnd_J61 I (by have FUe : FU = 100000 := rfl; have B_86 := IB_b I; omega) (by have FUe : FU = 100000 := rfl; have B_87 := IB_b I; omega)) (fun r_89 z_88 => ?_)
          have p_90 := z_88
          exact (by have B_91 := IB_b I; omega)
      · refine ok_mono (kM_SqlReaderModel_signEnd_J61 I (by have FUe : FU = 100000 := rfl; have B_92 := IB_b I; omega) (by have FUe : FU = 100000 := rfl; have B_93 := IB_b I; omega)) (fun r_95 z_94 => ?_)
        have p_96 := z_94
        exact (by have B_97 := IB_b I; omega)
theorem kM_SqlReaderModel_cut_J261 {q12 : Int32 → St → Option (St)} {m : Nat} (hq : ∀ {x1 : Int32} {u : St} (I : IX u) (h0 : (u.1 2).toInt = 1 ∨ (0 ≤ x1.toInt ∧ x1.toInt ≤ 2000 ∧ (u.1 1).toInt ≤ x1.toInt)) (hm : (2003 - x1.toInt - 5000 * (u.1 2).toInt).toNat < m), ok (q12 x1 u) (fun v => IX v ∧ Kf u v)) {x1 : Int32} {x3 : Int32} {x4 : Int32} {s1 : Int32} {u : St} (I : IX u) (h0 : 0 ≤ x1.toInt) (h1 : x1.toInt < (u.1 0).toInt) (h2 : (u.1 1).toInt ≤ x1.toInt) (h3 : (2003 - x1.toInt).toNat < m + 1) (h4 : -1 ≤ x3.toInt) (h5 : (u.1 2).toInt ≤ s1.toInt) (h6 : 0 ≤ s1.toInt) (h7 : s1.toInt ≤ 1) (h8 : (x4.toInt ≠ 1 ∧ x4.toInt ≠ 6) ∨ (-1 ≤ x3.toInt ∧ x3.toInt ≤ 2000)) (h9 : s1.toInt = 1 ∨ (x1.toInt < x3.toInt ∧ x3.toInt ≤ (u.1 0).toInt ∧ x4.toInt ≠ 4 ∧ (x4.toInt ≠ 2 ∨ x3.toInt - x1.toInt ≤ 16) ∧ (x4.toInt ≠ 5 ∨ (x1.toInt + 1 < 2000 ∧ 49 ≤ (ga u 0 (x1 + 1)).toInt ∧ (ga u 0 (x1 + 1)).toInt ≤ 57)))) : ok (mM_SqlReaderModel_cut_J261 q12 x1 x3 x4 s1 u) (fun v => IX v ∧ Kf u v) := by
  have B := IX_b I
  have l1 : (1 : Int32).toInt = 1 := by decide
  rw [mM_SqlReaderModel_cut_J261]
  refine ok_gd (zb_of (by omega) (by omega)) (ok_seq (fun u8 e8 => ?_))
  subst e8
  have I8 := IX_bad (x := s1) I (by omega) (by omega) (by omega)
  refine ok_bP (kM_SqlReaderModel_token (u := ss u 2 s1) (show 0 ≤ (u.1 1).toInt by omega) (show (u.1 1).toInt ≤ 2000 by omega)) (fun v hv => ?_)
  subst hv
  have e3 : (u.1 1 + 1 : Int32).toInt = (u.1 1).toInt + (1 : Int32).toInt := add_i (by omega) (by omega)
  have I9 : IX (tokS (ss u 2 s1) x4 x1 x3) := by
    refine IX_tokS I8 (show (u.1 1).toInt ≤ 1999 by omega) (by omega) (fun q => ?_)
    have q' : s1.toInt = 0 := q
    have c := cl_of (i := x1 + 1) (by have e := add_i (a := x1) (b := 1) (by omega) (by omega); omega)
    have e := add_i (a := x1) (b := 1) (by omega) (by omega)
    have c2 : (x1 + 1 : Int32).toNatClampNeg = x1.toInt.toNat + 1 := by omega
    have g : ga u 0 (x1 + 1) = u.2.1 0 (x1.toInt.toNat + 1) := by
      show u.2.1 0 (x1 + 1 : Int32).toNatClampNeg = _
      rw [c2]
    rw [g] at h9
    refine ⟨by omega, by omega, ?_, by omega⟩
    show x4.toInt ≠ 5 ∨ (x1.toInt + 1 < 2000 ∧ 49 ≤ (u.2.1 0 (x1.toInt.toNat + 1)).toInt ∧ (u.2.1 0 (x1.toInt.toNat + 1)).toInt ≤ 57)
    omega
  refine ok_mono (hq I9 ?_ ?_) (fun w hw => ⟨hw.1, Kf_tr (Kf_tr Kf_bad Kf_tok) hw.2⟩)
  · show s1.toInt = 1 ∨ (0 ≤ x3.toInt ∧ x3.toInt ≤ 2000 ∧ (u.1 1 + 1 : Int32).toInt ≤ x3.toInt)
    omega
  · show (2003 - x3.toInt - 5000 * s1.toInt).toNat < m
    omega
theorem kM_SqlReaderModel_cut_J216 {q12 : Int32 → St → Option (St)} {m : Nat} (hq : ∀ {x1 : Int32} {u : St} (I : IX u) (h0 : (u.1 2).toInt = 1 ∨ (0 ≤ x1.toInt ∧ x1.toInt ≤ 2000 ∧ (u.1 1).toInt ≤ x1.toInt)) (hm : (2003 - x1.toInt - 5000 * (u.1 2).toInt).toNat < m), ok (q12 x1 u) (fun v => IX v ∧ Kf u v)) {x1 : Int32} {x3 : Int32} {x4 : Int32} {u : St} (I : IX u) (h0 : 0 ≤ x1.toInt) (h1 : x1.toInt < (u.1 0).toInt) (h2 : (u.1 1).toInt ≤ x1.toInt) (h3 : (2003 - x1.toInt).toNat < m + 1) (h4 : 1 ≤ x4.toInt) (h5 : x4.toInt ≤ 6) (h6 : x4.toInt ≠ 4) (h7 : x3.toInt ≤ 2002) (h8 : -1 ≤ x3.toInt) (h9 : (x4.toInt ≠ 1 ∧ x4.toInt ≠ 6) ∨ x3.toInt ≤ 2000) (h10 : (u.1 2).toInt = 1 ∨ x3.toInt = -1 ∨ (x1.toInt < x3.toInt ∧ x3.toInt ≤ (u.1 0).toInt ∧ (x4.toInt ≠ 5 ∨ (x1.toInt + 1 < 2000 ∧ 49 ≤ (ga u 0 (x1 + 1)).toInt ∧ (ga u 0 (x1 + 1)).toInt ≤ 57)))) : ok (mM_SqlReaderModel_cut_J216 q12 x1 x3 x4 u) (fun v => IX v ∧ Kf u v) := by
  have l0 : (0 : Int32).toInt = 0 := by decide
  have l1 : (1 : Int32).toInt = 1 := by decide
  have l2 : (2 : Int32).toInt = 2 := by decide
  have l3 : (3 : Int32).toInt = 3 := by decide
  have l4 : (4 : Int32).toInt = 4 := by decide
  have l5 : (5 : Int32).toInt = 5 := by decide
  have l6 : (6 : Int32).toInt = 6 := by decide
  have l16 : (16 : Int32).toInt = 16 := by decide
  have l18 : (18 : Int32).toInt = 18 := by decide
  have l49 : (49 : Int32).toInt = 49 := by decide
  have l57 : (57 : Int32).toInt = 57 := by decide
  have l2000 : (2000 : Int32).toInt = 2000 := by decide
  have l2003 : (2003 : Int32).toInt = 2003 := by decide
  rw [mM_SqlReaderModel_cut_J216]
  refine ok_eq (fun c_1 c_1' => ?_) (fun c_1 => ?_)
  · refine ok_lt (fun c_2 => ?_) (fun c_2 => ?_)
    · refine ok_mono (kM_SqlReaderModel_cut_J261 hq I (by have FUe : FU = 100000 := rfl; have B_3 := IX_b I; omega) (by have FUe : FU = 100000 := rfl; have B_4 := IX_b I; omega) (by have FUe : FU = 100000 := rfl; have B_5 := IX_b I; omega) (by have FUe : FU = 100000 := rfl; have B_6 := IX_b I; omega) (by have FUe : FU = 100000 := rfl; have B_7 := IX_b I; omega) (by have FUe : FU = 100000 := rfl; have B_8 := IX_b I; omega) (by have FUe : FU = 100000 := rfl; have B_9 := IX_b I; omega) (by have FUe : FU = 100000 := rfl; have B_10 := IX_b I; omega) (by have FUe : FU = 100000 := rfl; have B_11 := IX_b I; omega) (by have FUe : FU = 100000 := rfl; have B_12 := IX_b I; omega)) (fun u_14 z_13 => ?_)
      obtain ⟨I_u_14, G_u_14⟩ := z_13
      have F_u_14 := Kf_tr (Kf_rfl u) G_u_14
      have g_15 : (u_14.1 0).toInt = (u.1 0).toInt := by rw [G_u_14.1 0 (by decide) (by decide)]
      exact ⟨I_u_14, F_u_14⟩
    · refine ok_eq (fun c_16 c_16' => ?_) (fun c_16 => ?_)
      · try have e_17 : (x3 - x1 : Int32).toInt = (x3 : Int32).toInt - (x1 : Int32).toInt := by have B_18 := IX_b I; exact sub_i (by omega) (by omega)
        refine ok_lt (fun c_19 => ?_) (fun c_19 => ?_)
        · refine ok_mono (kM_SqlReaderModel_cut_J261 hq I (by have FUe : FU = 100000 := rfl; have B_20 := IX_b I; omega) (by have FUe : FU = 100000 := rfl; have B_21 := IX_b I; omega) (by have FUe : FU = 100000 := rfl; have B_22 := IX_b I; omega) (by have FUe : FU = 100000 := rfl; have B_23 := IX_b I; omega) (by have FUe : FU = 100000 := rfl; have B_24 := IX_b I; omega) (by have FUe : FU = 100000 := rfl; have B_25 := IX_b I; omega) (by have FUe : FU = 100000 := rfl; have B_26 := IX_b I; omega) (by have FUe : FU = 100000 := rfl; have B_27 := IX_b I; omega) (by have FUe : FU = 100000 := rfl; have B_28 := IX_b I; omega) (by have FUe : FU = 100000 := rfl; have B_29 := IX_b I; omega)) (fun u_31 z_30 => ?_)
          obtain ⟨I_u_31, G_u_31⟩ := z_30
          have F_u_31 := Kf_tr (Kf_rfl u) G_u_31
          have g_32 : (u_31.1 0).toInt = (u.1 0).toInt := by rw [G_u_31.1 0 (by decide) (by decide)]
          exact ⟨I_u_31, F_u_31⟩
        · rw [mM_SqlReaderModel_cut_J242]
          refine ok_eq (fun c_33 c_33' => ?_) (fun c_33 => ?_)
          · try have e_34 : (x3 - x1 : Int32).toInt = (x3 : Int32).toInt - (x1 : Int32).toInt := by have B_35 := IX_b I; exact sub_i (by omega) (by omega)
            refine ok_le (fun c_36 => ?_) (fun c_36 => ?_)
            · refine ok_mono (kM_SqlReaderModel_cut_J261 hq I (by have FUe : FU = 100000 := rfl; have B_37 := IX_b I; omega) (by have FUe : FU = 100000 := rfl; have B_38 := IX_b I; omega) (by have FUe : FU = 100000 := rfl; have B_39 := IX_b I; omega) (by have FUe : FU = 100000 := rfl; have B_40 := IX_b I; omega) (by have FUe : FU = 100000 := rfl; have B_41 := IX_b I; omega) (by have FUe : FU = 100000 := rfl; have B_42 := IX_b I; omega) (by have FUe : FU = 100000 := rfl; have B_43 := IX_b I; omega) (by have FUe : FU = 100000 := rfl; have B_44 := IX_b I; omega) (by have FUe : FU = 100000 := rfl; have B_45 := IX_b I; omega) (by have FUe : FU = 100000 := rfl; have B_46 := IX_b I; omega)) (fun u_48 z_47 => ?_)
              obtain ⟨I_u_48, G_u_48⟩ := z_47
              have F_u_48 := Kf_tr (Kf_rfl u) G_u_48
              have g_49 : (u_48.1 0).toInt = (u.1 0).toInt := by rw [G_u_48.1 0 (by decide) (by decide)]
              exact ⟨I_u_48, F_u_48⟩
            · refine ok_mono (kM_SqlReaderModel_cut_J261 hq I (by have FUe : FU = 100000 := rfl; have B_50 := IX_b I; omega) (by have FUe : FU = 100000 := rfl; have B_51 := IX_b I; omega) (by have FUe : FU = 100000 := rfl; have B_52 := IX_b I; omega) (by have FUe : FU = 100000 := rfl; have B_53 := IX_b I; omega) (by have FUe : FU = 100000 := rfl; have B_54 := IX_b I; omega) (by have FUe : FU = 100000 := rfl; have B_55 := IX_b I; omega) (by have FUe : FU = 100000 := rfl; have B_56 := IX_b I; omega) (by have FUe : FU = 100000 := rfl; have B_57 := IX_b I; omega) (by have FUe : FU = 100000 := rfl; have B_58 := IX_b I; omega) (by have FUe : FU = 100000 := rfl; have B_59 := IX_b I; omega)) (fun u_61 z_60 => ?_)
              obtain ⟨I_u_61, G_u_61⟩ := z_60
              have F_u_61 := Kf_tr (Kf_rfl u) G_u_61
              have g_62 : (u_61.1 0).toInt = (u.1 0).toInt := by rw [G_u_61.1 0 (by decide) (by decide)]
              exact ⟨I_u_61, F_u_61⟩
          · refine ok_mono (kM_SqlReaderModel_cut_J261 hq I (by have FUe : FU = 100000 := rfl; have B_63 := IX_b I; omega) (by have FUe : FU = 100000 := rfl; have B_64 := IX_b I; omega) (by have FUe : FU = 100000 := rfl; have B_65 := IX_b I; omega) (by have FUe : FU = 100000 := rfl; have B_66 := IX_b I; omega) (by have FUe : FU = 100000 := rfl; have B_67 := IX_b I; omega) (by have FUe : FU = 100000 := rfl; have B_68 := IX_b I; omega) (by have FUe : FU = 100000 := rfl; have B_69 := IX_b I; omega) (by have FUe : FU = 100000 := rfl; have B_70 := IX_b I; omega) (by have FUe : FU = 100000 := rfl; have B_71 := IX_b I; omega) (by have FUe : FU = 100000 := rfl; have B_72 := IX_b I; omega)) (fun u_74 z_73 => ?_)
            obtain ⟨I_u_74, G_u_74⟩ := z_73
            have F_u_74 := Kf_tr (Kf_rfl u) G_u_74
            have g_75 : (u_74.1 0).toInt = (u.1 0).toInt := by rw [G_u_74.1 0 (by decide) (by decide)]
            exact ⟨I_u_74, F_u_74⟩
      · rw [mM_SqlReaderModel_cut_J242]
        refine ok_eq (fun c_76 c_76' => ?_) (fun c_76 => ?_)
        · try have e_77 : (x3 - x1 : Int32).toInt = (x3 : Int32).toInt - (x1 : Int32).toInt := by have B_78 := IX_b I; exact sub_i (by omega) (by omega)
          refine ok_le (fun c_79 => ?_) (fun c_79 => ?_)
          · refine ok_mono (kM_SqlReaderModel_cut_J261 hq I (by have FUe : FU = 100000 := rfl; have B_80 := IX_b I; omega) (by have FUe : FU = 100000 := rfl; have B_81 := IX_b I; omega) (by have FUe : FU = 100000 := rfl; have B_82 := IX_b I; omega) (by have FUe : FU = 100000 := rfl; have B_83 := IX_b I; omega) (by have FUe : FU = 100000 := rfl; have B_84 := IX_b I; omega) (by have FUe : FU = 100000 := rfl; have B_85 := IX_b I; omega) (by have FUe : FU = 100000 := rfl; have B_86 := IX_b I; omega) (by have FUe : FU = 100000 := rfl; have B_87 := IX_b I; omega) (by have FUe : FU = 100000 := rfl; have B_88 := IX_b I; omega) (by have FUe : FU = 100000 := rfl; have B_89 := IX_b I; omega)) (fun u_91 z_90 => ?_)
            obtain ⟨I_u_91, G_u_91⟩ := z_90
            have F_u_91 := Kf_tr (Kf_rfl u) G_u_91
            have g_92 : (u_91.1 0).toInt = (u.1 0).toInt := by rw [G_u_91.1 0 (by decide) (by decide)]
            exact ⟨I_u_91, F_u_91⟩
          · refine ok_mono (kM_SqlReaderModel_cut_J261 hq I (by have FUe : FU = 100000 := rfl; have B_93 := IX_b I; omega) (by have FUe : FU = 100000 := rfl; have B_94 := IX_b I; omega) (by have FUe : FU = 100000 := rfl; have B_95 := IX_b I; omega) (by have FUe : FU = 100000 := rfl; have B_96 := IX_b I; omega) (by have FUe : FU = 100000 := rfl; have B_97 := IX_b I; omega) (by have FUe : FU = 100000 := rfl; have B_98 := IX_b I; omega) (by have FUe : FU = 100000 := rfl; have B_99 := IX_b I; omega) (by have FUe : FU = 100000 := rfl; have B_100 := IX_b I; omega) (by have FUe : FU = 100000 := rfl; have B_101 := IX_b I; omega) (by have FUe : FU = 100000 := rfl; have B_102 := IX_b I; omega)) (fun u_104 z_103 => ?_)
            obtain ⟨I_u_104, G_u_104⟩ := z_103
            have F_u_104 := Kf_tr (Kf_rfl u) G_u_104
            have g_105 : (u_104.1 0).toInt = (u.1 0).toInt := by rw [G_u_104.1 0 (by decide) (by decide)]
            exact ⟨I_u_104, F_u_104⟩
        · refine ok_mono (kM_SqlReaderModel_cut_J261 hq I (by have FUe : FU = 100000 := rfl; have B_106 := IX_b I; omega) (by have FUe : FU = 100000 := rfl; have B_107 := IX_b I; omega) (by have FUe : FU = 100000 := rfl; have B_108 := IX_b I; omega) (by have FUe : FU = 100000 := rfl; have B_109 := IX_b I; omega) (by have FUe : FU = 100000 := rfl; have B_110 := IX_b I; omega) (by have FUe : FU = 100000 := rfl; have B_111 := IX_b I; omega) (by have FUe : FU = 100000 := rfl; have B_112 := IX_b I; omega) (by have FUe : FU = 100000 := rfl; have B_113 := IX_b I; omega) (by have FUe : FU = 100000 := rfl; have B_114 := IX_b I; omega) (by have FUe : FU = 100000 := rfl; have B_115 := IX_b I; omega)) (fun u_117 z_116 => ?_)
          obtain ⟨I_u_117, G_u_117⟩ := z_116
          have F_u_117 := Kf_tr (Kf_rfl u) G_u_117
          have g_118 : (u_117.1 0).toInt = (u.1 0).toInt := by rw [G_u_117.1 0 (by decide) (by decide)]
          exact ⟨I_u_117, F_u_117⟩
  · refine ok_mono (kM_SqlReaderModel_cut_J261 hq I (by have FUe : FU = 100000 := rfl; have B_119 := IX_b I; omega) (by have FUe : FU = 100000 := rfl; have B_120 := IX_b I; omega) (by have FUe : FU = 100000 := rfl; have B_121 := IX_b I; omega) (by have FUe : FU = 100000 := rfl; have B_122 := IX_b I; omega) (by have FUe : FU = 100000 := rfl; have B_123 := IX_b I; omega) (by have FUe : FU = 100000 := rfl; have B_124 := IX_b I; omega) (by have FUe : FU = 100000 := rfl; have B_125 := IX_b I; omega) (by have FUe : FU = 100000 := rfl; have B_126 := IX_b I; omega) (by have FUe : FU = 100000 := rfl; have B_127 := IX_b I; omega) (by have FUe : FU = 100000 := rfl; have B_128 := IX_b I; omega)) (fun u_130 z_129 => ?_)
    obtain ⟨I_u_130, G_u_130⟩ := z_129
    have F_u_130 := Kf_tr (Kf_rfl u) G_u_130
    have g_131 : (u_130.1 0).toInt = (u.1 0).toInt := by rw [G_u_130.1 0 (by decide) (by decide)]
    exact ⟨I_u_130, F_u_130⟩
theorem kM_SqlReaderModel_cut_J159 {q12 : Int32 → St → Option (St)} {m : Nat} (hq : ∀ {x1 : Int32} {u : St} (I : IX u) (h0 : (u.1 2).toInt = 1 ∨ (0 ≤ x1.toInt ∧ x1.toInt ≤ 2000 ∧ (u.1 1).toInt ≤ x1.toInt)) (hm : (2003 - x1.toInt - 5000 * (u.1 2).toInt).toNat < m), ok (q12 x1 u) (fun v => IX v ∧ Kf u v)) {x1 : Int32} {x2 : Int32} {x3 : Int32} {x4 : Int32} {u : St} (I : IX u) (h0 : 0 ≤ x1.toInt) (h1 : x1.toInt < (u.1 0).toInt) (h2 : (u.1 1).toInt ≤ x1.toInt) (h3 : (2003 - x1.toInt).toNat < m + 1) (h4 : x1.toInt < x3.toInt) (h5 : x3.toInt ≤ (u.1 0).toInt) (h6 : 1 ≤ x4.toInt) (h7 : x4.toInt ≤ 6) (h8 : x4.toInt ≠ 4) (h9 : x4.toInt ≠ 5) (h10 : (u.1 2).toInt = 0) (h11 : x2.toInt = (ga u 0 x1).toInt) (h12 : x4.toInt = 6 ∨ x2.toInt ≠ 36) (h13 : x4.toInt ≠ 6 ∨ x3.toInt = x1.toInt + 1) : ok (mM_SqlReaderModel_cut_J159 q12 x1 x2 x3 x4 u) (fun v => IX v ∧ Kf u v) := by
  have l0 : (0 : Int32).toInt = 0 := by decide
  have l1 : (1 : Int32).toInt = 1 := by decide
  have l2 : (2 : Int32).toInt = 2 := by decide
  have l4 : (4 : Int32).toInt = 4 := by decide
  have l5 : (5 : Int32).toInt = 5 := by decide
  have l6 : (6 : Int32).toInt = 6 := by decide
  have l36 : (36 : Int32).toInt = 36 := by decide
  have l49 : (49 : Int32).toInt = 49 := by decide
  have l57 : (57 : Int32).toInt = 57 := by decide
  have l2000 : (2000 : Int32).toInt = 2000 := by decide
  have l2002 : (2002 : Int32).toInt = 2002 := by decide
  have l2003 : (2003 : Int32).toInt = 2003 := by decide
  rw [mM_SqlReaderModel_cut_J159]
  have Z := ga_nx (u := u) (k := 0) (y := x3) h0 (by have B := IX_b I; omega)
  refine ok_eq (fun c_1 c_1' => ?_) (fun c_1 => ?_)
  · refine ok_bP (kM_SqlReaderModel_at (IX_IB I) (by have FUe : FU = 100000 := rfl; have B_3 := IX_b I; omega)) (fun r_4 z_2 => ?_)
    have p_5 := z_2
    refine ok_lt (fun c_6 => ?_) (fun c_6 => ?_)
    · refine ok_seq (fun u_8 h_7 => ?_)
      have I_u_8 : IX u_8 := by rw [h_7]; exact IX_bad I (by have B_9 := IX_b I; omega) (by have B_10 := IX_b I; omega) (by have B_11 := IX_b I; omega)
      have F_u_8 : Kf u u_8 := by rw [h_7]; exact Kf_tr (Kf_rfl u) Kf_bad
      have g_12 : (ga u_8 0 (x1 + 1)).toInt = (ga u 0 (x1 + 1)).toInt := by rw [h_7]; rfl
      have g_13 : (u_8.1 2).toInt = (1 : Int32).toInt := by rw [h_7]; rfl
      have g_14 : (u_8.1 0).toInt = (u.1 0).toInt := by rw [h_7]; rfl
      have g_15 : (u_8.1 1).toInt = (u.1 1).toInt := by rw [h_7]; rfl
      try have e_18 : (x3 + 1 : Int32).toInt = (x3 : Int32).toInt + (1 : Int32).toInt := by have B_19 := IX_b I; exact add_i (by omega) (by omega)
      refine ok_seq (fun y_17 h_16 => ?_)
      have h_16' : y_17.toInt = (x3 + 1 : Int32).toInt := by rw [h_16]
      refine ok_mono (kM_SqlReaderModel_cut_J216 hq I_u_8 (by have FUe : FU = 100000 := rfl; have B_20 := IX_b I_u_8; omega) (by have FUe : FU = 100000 := rfl; have B_21 := IX_b I_u_8; omega) (by have FUe : FU = 100000 := rfl; have B_22 := IX_b I_u_8; omega) (by have FUe : FU = 100000 := rfl; have B_23 := IX_b I_u_8; omega) (by have FUe : FU = 100000 := rfl; have B_24 := IX_b I_u_8; omega) (by have FUe : FU = 100000 := rfl; have B_25 := IX_b I_u_8; omega) (by have FUe : FU = 100000 := rfl; have B_26 := IX_b I_u_8; omega) (by have FUe : FU = 100000 := rfl; have B_27 := IX_b I_u_8; omega) (by have FUe : FU = 100000 := rfl; have B_28 := IX_b I_u_8; omega) (by have FUe : FU = 100000 := rfl; have B_29 := IX_b I_u_8; omega) (by have FUe : FU = 100000 := rfl; have B_30 := IX_b I_u_8; omega)) (fun u_32 z_31 => ?_)
      obtain ⟨I_u_32, G_u_32⟩ := z_31
      have F_u_32 := Kf_tr F_u_8 G_u_32
      have g_33 : (u_32.1 0).toInt = (u_8.1 0).toInt := by rw [G_u_32.1 0 (by decide) (by decide)]
      exact ⟨I_u_32, F_u_32⟩
    · refine ok_bP (kM_SqlReaderModel_at (IX_IB I) (by have FUe : FU = 100000 := rfl; have B_35 := IX_b I; omega)) (fun r_36 z_34 => ?_)
      have p_37 := z_34
      refine ok_le (fun c_38 => ?_) (fun c_38 => ?_)
      · refine ok_seq (fun u_40 h_39 => ?_)
        have I_u_40 : IX u_40 := by rw [h_39]; exact IX_bad I (by have B_41 := IX_b I; omega) (by have B_42 := IX_b I; omega) (by have B_43 := IX_b I; omega)
        have F_u_40 : Kf u u_40 := by rw [h_39]; exact Kf_tr (Kf_rfl u) Kf_bad
        have g_44 : (ga u_40 0 (x1 + 1)).toInt = (ga u 0 (x1 + 1)).toInt := by rw [h_39]; rfl
        have g_45 : (u_40.1 2).toInt = (0 : Int32).toInt := by rw [h_39]; rfl
        have g_46 : (u_40.1 0).toInt = (u.1 0).toInt := by rw [h_39]; rfl
        have g_47 : (u_40.1 1).toInt = (u.1 1).toInt := by rw [h_39]; rfl
        try have e_50 : (x3 + 1 : Int32).toInt = (x3 : Int32).toInt + (1 : Int32).toInt := by have B_51 := IX_b I; exact add_i (by omega) (by omega)
        refine ok_seq (fun y_49 h_48 => ?_)
        have h_48' : y_49.toInt = (x3 + 1 : Int32).toInt := by rw [h_48]
        refine ok_mono (kM_SqlReaderModel_cut_J216 hq I_u_40 (by have FUe : FU = 100000 := rfl; have B_52 := IX_b I_u_40; omega) (by have FUe : FU = 100000 := rfl; have B_53 := IX_b I_u_40; omega) (by have FUe : FU = 100000 := rfl; have B_54 := IX_b I_u_40; omega) (by have FUe : FU = 100000 := rfl; have B_55 := IX_b I_u_40; omega) (by have FUe : FU = 100000 := rfl; have B_56 := IX_b I_u_40; omega) (by have FUe : FU = 100000 := rfl; have B_57 := IX_b I_u_40; omega) (by have FUe : FU = 100000 := rfl; have B_58 := IX_b I_u_40; omega) (by have FUe : FU = 100000 := rfl; have B_59 := IX_b I_u_40; omega) (by have FUe : FU = 100000 := rfl; have B_60 := IX_b I_u_40; omega) (by have FUe : FU = 100000 := rfl; have B_61 := IX_b I_u_40; omega) (by have FUe : FU = 100000 := rfl; have B_62 := IX_b I_u_40; omega)) (fun u_64 z_63 => ?_)
        obtain ⟨I_u_64, G_u_64⟩ := z_63
        have F_u_64 := Kf_tr F_u_40 G_u_64
        have g_65 : (u_64.1 0).toInt = (u_40.1 0).toInt := by rw [G_u_64.1 0 (by decide) (by decide)]
        exact ⟨I_u_64, F_u_64⟩
      · refine ok_seq (fun u_67 h_66 => ?_)
        have I_u_67 : IX u_67 := by rw [h_66]; exact IX_bad I (by have B_68 := IX_b I; omega) (by have B_69 := IX_b I; omega) (by have B_70 := IX_b I; omega)
        have F_u_67 : Kf u u_67 := by rw [h_66]; exact Kf_tr (Kf_rfl u) Kf_bad
        have g_71 : (ga u_67 0 (x1 + 1)).toInt = (ga u 0 (x1 + 1)).toInt := by rw [h_66]; rfl
        have g_72 : (u_67.1 2).toInt = (1 : Int32).toInt := by rw [h_66]; rfl
        have g_73 : (u_67.1 0).toInt = (u.1 0).toInt := by rw [h_66]; rfl
        have g_74 : (u_67.1 1).toInt = (u.1 1).toInt := by rw [h_66]; rfl
        try have e_77 : (x3 + 1 : Int32).toInt = (x3 : Int32).toInt + (1 : Int32).toInt := by have B_78 := IX_b I; exact add_i (by omega) (by omega)
        refine ok_seq (fun y_76 h_75 => ?_)
        have h_75' : y_76.toInt = (x3 + 1 : Int32).toInt := by rw [h_75]
        refine ok_mono (kM_SqlReaderModel_cut_J216 hq I_u_67 (by have FUe : FU = 100000 := rfl; have B_79 := IX_b I_u_67; omega) (by have FUe : FU = 100000 := rfl; have B_80 := IX_b I_u_67; omega) (by have FUe : FU = 100000 := rfl; have B_81 := IX_b I_u_67; omega) (by have FUe : FU = 100000 := rfl; have B_82 := IX_b I_u_67; omega) (by have FUe : FU = 100000 := rfl; have B_83 := IX_b I_u_67; omega) (by have FUe : FU = 100000 := rfl; have B_84 := IX_b I_u_67; omega) (by have FUe : FU = 100000 := rfl; have B_85 := IX_b I_u_67; omega) (by have FUe : FU = 100000 := rfl; have B_86 := IX_b I_u_67; omega) (by have FUe : FU = 100000 := rfl; have B_87 := IX_b I_u_67; omega) (by have FUe : FU = 100000 := rfl; have B_88 := IX_b I_u_67; omega) (by have FUe : FU = 100000 := rfl; have B_89 := IX_b I_u_67; omega)) (fun u_91 z_90 => ?_)
        obtain ⟨I_u_91, G_u_91⟩ := z_90
        have F_u_91 := Kf_tr F_u_67 G_u_91
        have g_92 : (u_91.1 0).toInt = (u_67.1 0).toInt := by rw [G_u_91.1 0 (by decide) (by decide)]
        exact ⟨I_u_91, F_u_91⟩
  · refine ok_eq (fun c_93 c_93' => ?_) (fun c_93 => ?_)
    · refine ok_bP (kM_SqlReaderModel_signEnd (IX_IB I) (by have FUe : FU = 100000 := rfl; have B_95 := IX_b I; omega) (by have FUe : FU = 100000 := rfl; have B_96 := IX_b I; omega)) (fun r_97 z_94 => ?_)
      have p_98 := z_94
      refine ok_mono (kM_SqlReaderModel_cut_J216 hq I (by have FUe : FU = 100000 := rfl; have B_99 := IX_b I; omega) (by have FUe : FU = 100000 := rfl; have B_100 := IX_b I; omega) (by have FUe : FU = 100000 := rfl; have B_101 := IX_b I; omega) (by have FUe : FU = 100000 := rfl; have B_102 := IX_b I; omega) (by have FUe : FU = 100000 := rfl; have B_103 := IX_b I; omega) (by have FUe : FU = 100000 := rfl; have B_104 := IX_b I; omega) (by have FUe : FU = 100000 := rfl; have B_105 := IX_b I; omega) (by have FUe : FU = 100000 := rfl; have B_106 := IX_b I; omega) (by have FUe : FU = 100000 := rfl; have B_107 := IX_b I; omega) (by have FUe : FU = 100000 := rfl; have B_108 := IX_b I; omega) (by have FUe : FU = 100000 := rfl; have B_109 := IX_b I; omega)) (fun u_111 z_110 => ?_)
      obtain ⟨I_u_111, G_u_111⟩ := z_110
      have F_u_111 := Kf_tr (Kf_rfl u) G_u_111
      have g_112 : (u_111.1 0).toInt = (u.1 0).toInt := by rw [G_u_111.1 0 (by decide) (by decide)]
      exact ⟨I_u_111, F_u_111⟩
    · refine ok_mono (kM_SqlReaderModel_cut_J216 hq I (by have FUe : FU = 100000 := rfl; have B_113 := IX_b I; omega) (by have FUe : FU = 100000 := rfl; have B_114 := IX_b I; omega) (by have FUe : FU = 100000 := rfl; have B_115 := IX_b I; omega) (by have FUe : FU = 100000 := rfl; have B_116 := IX_b I; omega) (by have FUe : FU = 100000 := rfl; have B_117 := IX_b I; omega) (by have FUe : FU = 100000 := rfl; have B_118 := IX_b I; omega) (by have FUe : FU = 100000 := rfl; have B_119 := IX_b I; omega) (by have FUe : FU = 100000 := rfl; have B_120 := IX_b I; omega) (by have FUe : FU = 100000 := rfl; have B_121 := IX_b I; omega) (by have FUe : FU = 100000 := rfl; have B_122 := IX_b I; omega) (by have FUe : FU = 100000 := rfl; have B_123 := IX_b I; omega)) (fun u_125 z_124 => ?_)
      obtain ⟨I_u_125, G_u_125⟩ := z_124
      have F_u_125 := Kf_tr (Kf_rfl u) G_u_125
      have g_126 : (u_125.1 0).toInt = (u.1 0).toInt := by rw [G_u_125.1 0 (by decide) (by decide)]
      exact ⟨I_u_125, F_u_125⟩
theorem kM_SqlReaderModel_cut_L102 {q12 : Int32 → St → Option (St)} {m : Nat} (hq : ∀ {x1 : Int32} {u : St} (I : IX u) (h0 : (u.1 2).toInt = 1 ∨ (0 ≤ x1.toInt ∧ x1.toInt ≤ 2000 ∧ (u.1 1).toInt ≤ x1.toInt)) (hm : (2003 - x1.toInt - 5000 * (u.1 2).toInt).toNat < m), ok (q12 x1 u) (fun v => IX v ∧ Kf u v)) : ∀ (n : Nat) {x1 : Int32} {x2 : Int32} {x3 : Int32} {x4 : Int32} {u : St} (I : IX u) (h0 : 0 ≤ x1.toInt) (h1 : x1.toInt < (u.1 0).toInt) (h2 : (u.1 1).toInt ≤ x1.toInt) (h3 : (2003 - x1.toInt).toNat < m + 1) (h4 : x1.toInt < x3.toInt) (h5 : x3.toInt ≤ (u.1 0).toInt) (h6 : 1 ≤ x4.toInt) (h7 : x4.toInt ≤ 6) (h8 : x4.toInt ≠ 4) (h9 : x4.toInt ≠ 5) (h10 : (u.1 2).toInt = 0) (h11 : x2.toInt = (ga u 0 x1).toInt) (h12 : x4.toInt = 6 ∨ x2.toInt ≠ 36) (h13 : x4.toInt ≠ 6 ∨ x3.toInt = x1.toInt + 1) (hm : (2000 - x3.toInt).toNat < n), ok (mM_SqlReaderModel_cut_L102 q12 n x1 x2 x3 x4 u) (fun v => IX v ∧ Kf u v) := by
  intro n
  induction n with
  | zero => intro x1 x2 x3 x4 u I h0 h1 h2 h3 h4 h5 h6 h7 h8 h9 h10 h11 h12 h13 hm; exact absurd hm (Nat.not_lt_zero _)
  | succ n ih =>
    intro x1 x2 x3 x4 u I h0 h1 h2 h3 h4 h5 h6 h7 h8 h9 h10 h11 h12 h13 hm
    have l0 : (0 : Int32).toInt = 0 := by decide
    have l1 : (1 : Int32).toInt = 1 := by decide
    have l2 : (2 : Int32).toInt = 2 := by decide
    have l3 : (3 : Int32).toInt = 3 := by decide
    have l4 : (4 : Int32).toInt = 4 := by decide
    have l5 : (5 : Int32).toInt = 5 := by decide
    have l6 : (6 : Int32).toInt = 6 := by decide
    have l36 : (36 : Int32).toInt = 36 := by decide
    have l2000 : (2000 : Int32).toInt = 2000 := by decide
    have l2003 : (2003 : Int32).toInt = 2003 := by decide
    rw [mM_SqlReaderModel_cut_L102]
    refine ok_eq (fun c_1 c_1' => ?_) (fun c_1 => ?_)
    · refine ok_bP (kM_SqlReaderModel_at (IX_IB I) (by have FUe : FU = 100000 := rfl; have B_3 := IX_b I; omega)) (fun r_4 z_2 => ?_)
      have p_5 := z_2
      refine ok_bP (kM_SqlReaderModel_isCapital (IX_IB I)) (fun r_7 z_6 => ?_)
      obtain ⟨p_8, p_9, p_10⟩ := z_6
      refine ok_eq (fun c_11 c_11' => ?_) (fun c_11 => ?_)
      · rw [mM_SqlReaderModel_cut_J119]
        refine ok_eq (fun c_12 c_12' => ?_) (fun c_12 => ?_)
        · refine ok_bP (kM_SqlReaderModel_at (IX_IB I) (by have FUe : FU = 100000 := rfl; have B_14 := IX_b I; omega)) (fun r_15 z_13 => ?_)
          have p_16 := z_13
          refine ok_bP (kM_SqlReaderModel_isInName (IX_IB I)) (fun r_18 z_17 => ?_)
          obtain ⟨p_19, p_20, p_21⟩ := z_17
          refine ok_eq (fun c_22 c_22' => ?_) (fun c_22 => ?_)
          · rw [mM_SqlReaderModel_cut_J136]
            refine ok_eq (fun c_23 c_23' => ?_) (fun c_23 => ?_)
            · refine ok_bP (kM_SqlReaderModel_at (IX_IB I) (by have FUe : FU = 100000 := rfl; have B_25 := IX_b I; omega)) (fun r_26 z_24 => ?_)
              have p_27 := z_24
              refine ok_bP (kM_SqlReaderModel_isDigit (IX_IB I)) (fun r_29 z_28 => ?_)
              obtain ⟨p_30, p_31, p_32⟩ := z_28
              refine ok_eq (fun c_33 c_33' => ?_) (fun c_33 => ?_)
              · refine ok_mono (kM_SqlReaderModel_cut_J159 hq I (by have FUe : FU = 100000 := rfl; have B_34 := IX_b I; omega) (by have FUe : FU = 100000 := rfl; have B_35 := IX_b I; omega) (by have FUe : FU = 100000 := rfl; have B_36 := IX_b I; omega) (by have FUe : FU = 100000 := rfl; have B_37 := IX_b I; omega) (by have FUe : FU = 100000 := rfl; have B_38 := IX_b I; omega) (by have FUe : FU = 100000 := rfl; have B_39 := IX_b I; omega) (by have FUe : FU = 100000 := rfl; have B_40 := IX_b I; omega) (by have FUe : FU = 100000 := rfl; have B_41 := IX_b I; omega) (by have FUe : FU = 100000 := rfl; have B_42 := IX_b I; omega) (by have FUe : FU = 100000 := rfl; have B_43 := IX_b I; omega) (by have FUe : FU = 100000 := rfl; have B_44 := IX_b I; omega) (by have FUe : FU = 100000 := rfl; have B_45 := IX_b I; omega) (by have FUe : FU = 100000 := rfl; have B_46 := IX_b I; omega) (by have FUe : FU = 100000 := rfl; have B_47 := IX_b I; omega)) (fun u_49 z_48 => ?_)
                obtain ⟨I_u_49, G_u_49⟩ := z_48
                have F_u_49 := Kf_tr (Kf_rfl u) G_u_49
                have g_50 : (u_49.1 0).toInt = (u.1 0).toInt := by rw [G_u_49.1 0 (by decide) (by decide)]
                exact ⟨I_u_49, F_u_49⟩
              · try have e_53 : (x3 + 1 : Int32).toInt = (x3 : Int32).toInt + (1 : Int32).toInt := by have B_54 := IX_b I; exact add_i (by omega) (by omega)
                refine ok_seq (fun y_52 h_51 => ?_)
                have h_51' : y_52.toInt = (x3 + 1 : Int32).toInt := by rw [h_51]
                refine ok_mono (ih I (by have B_55 := IX_b I; omega) (by have B_56 := IX_b I; omega) (by have B_57 := IX_b I; omega) (by have B_58 := IX_b I; omega) (by have B_59 := IX_b I; omega) (by have B_60 := IX_b I; omega) (by have B_61 := IX_b I; omega) (by have B_62 := IX_b I; omega) (by have B_63 := IX_b I; omega) (by have B_64 := IX_b I; omega) (by have B_65 := IX_b I; omega) (by have B_66 := IX_b I; omega) (by have B_67 := IX_b I; omega) (by have B_68 := IX_b I; omega) (by have B_69 := IX_b I; omega)) (fun u_71 z_70 => ?_)
                obtain ⟨I_u_71, G_u_71⟩ := z_70
                have F_u_71 := Kf_tr (Kf_rfl u) G_u_71
                have g_72 : (u_71.1 0).toInt = (u.1 0).toInt := by rw [G_u_71.1 0 (by decide) (by decide)]
                exact ⟨I_u_71, F_u_71⟩
            · refine ok_mono (kM_SqlReaderModel_cut_J159 hq I (by have FUe : FU = 100000 := rfl; have B_73 := IX_b I; omega) (by have FUe : FU = 100000 := rfl; have B_74 := IX_b I; omega) (by have FUe : FU = 100000 := rfl; have B_75 := IX_b I; omega) (by have FUe : FU = 100000 := rfl; have B_76 := IX_b I; omega) (by have FUe : FU = 100000 := rfl; have B_77 := IX_b I; omega) (by have FUe : FU = 100000 := rfl; have B_78 := IX_b I; omega) (by have FUe : FU = 100000 := rfl; have B_79 := IX_b I; omega) (by have FUe : FU = 100000 := rfl; have B_80 := IX_b I; omega) (by have FUe : FU = 100000 := rfl; have B_81 := IX_b I; omega) (by have FUe : FU = 100000 := rfl; have B_82 := IX_b I; omega) (by have FUe : FU = 100000 := rfl; have B_83 := IX_b I; omega) (by have FUe : FU = 100000 := rfl; have B_84 := IX_b I; omega) (by have FUe : FU = 100000 := rfl; have B_85 := IX_b I; omega) (by have FUe : FU = 100000 := rfl; have B_86 := IX_b I; omega)) (fun u_88 z_87 => ?_)
              obtain ⟨I_u_88, G_u_88⟩ := z_87
              have F_u_88 := Kf_tr (Kf_rfl u) G_u_88
              have g_89 : (u_88.1 0).toInt = (u.1 0).toInt := by rw [G_u_88.1 0 (by decide) (by decide)]
              exact ⟨I_u_88, F_u_88⟩
          · try have e_92 : (x3 + 1 : Int32).toInt = (x3 : Int32).toInt + (1 : Int32).toInt := by have B_93 := IX_b I; exact add_i (by omega) (by omega)
            refine ok_seq (fun y_91 h_90 => ?_)
            have h_90' : y_91.toInt = (x3 + 1 : Int32).toInt := by rw [h_90]
            refine ok_mono (ih I (by have B_94 := IX_b I; omega) (by have B_95 := IX_b I; omega) (by have B_96 := IX_b I; omega) (by have B_97 := IX_b I; omega) (by have B_98 := IX_b I; omega) (by have B_99 := IX_b I; omega) (by have B_100 := IX_b I; omega) (by have B_101 := IX_b I; omega) (by have B_102 := IX_b I; omega) (by have B_103 := IX_b I; omega) (by have B_104 := IX_b I; omega) (by have B_105 := IX_b I; omega) (by have B_106 := IX_b I; omega) (by have B_107 := IX_b I; omega) (by have B_108 := IX_b I; omega)) (fun u_110 z_109 => ?_)
            obtain ⟨I_u_110, G_u_110⟩ := z_109
            have F_u_110 := Kf_tr (Kf_rfl u) G_u_110
            have g_111 : (u_110.1 0).toInt = (u.1 0).toInt := by rw [G_u_110.1 0 (by decide) (by decide)]
            exact ⟨I_u_110, F_u_110⟩
        · rw [mM_SqlReaderModel_cut_J136]
          refine ok_eq (fun c_112 c_112' => ?_) (fun c_112 => ?_)
          · refine ok_bP (kM_SqlReaderModel_at (IX_IB I) (by have FUe : FU = 100000 := rfl; have B_114 := IX_b I; omega)) (fun r_115 z_113 => ?_)
            have p_116 := z_113
            refine ok_bP (kM_SqlReaderModel_isDigit (IX_IB I)) (fun r_118 z_117 => ?_)
            obtain ⟨p_119, p_120, p_121⟩ := z_117
            refine ok_eq (fun c_122 c_122' => ?_) (fun c_122 => ?_)
            · refine ok_mono (kM_SqlReaderModel_cut_J159 hq I (by have FUe : FU = 100000 := rfl; have B_123 := IX_b I; omega) (by have FUe : FU = 100000 := rfl; have B_124 := IX_b I; omega) (by have FUe : FU = 100000 := rfl; have B_125 := IX_b I; omega) (by have FUe : FU = 100000 := rfl; have B_126 := IX_b I; omega) (by have FUe : FU = 100000 := rfl; have B_127 := IX_b I; omega) (by have FUe : FU = 100000 := rfl; have B_128 := IX_b I; omega) (by have FUe : FU = 100000 := rfl; have B_129 := IX_b I; omega) (by have FUe : FU = 100000 := rfl; have B_130 := IX_b I; omega) (by have FUe : FU = 100000 := rfl; have B_131 := IX_b I; omega) (by have FUe : FU = 100000 := rfl; have B_132 := IX_b I; omega) (by have FUe : FU = 100000 := rfl; have B_133 := IX_b I; omega) (by have FUe : FU = 100000 := rfl; have B_134 := IX_b I; omega) (by have FUe : FU = 100000 := rfl; have B_135 := IX_b I; omega) (by have FUe : FU = 100000 := rfl; have B_136 := IX_b I; omega)) (fun u_138 z_137 => ?_)
              obtain ⟨I_u_138, G_u_138⟩ := z_137
              have F_u_138 := Kf_tr (Kf_rfl u) G_u_138
              have g_139 : (u_138.1 0).toInt = (u.1 0).toInt := by rw [G_u_138.1 0 (by decide) (by decide)]
              exact ⟨I_u_138, F_u_138⟩
            · try have e_142 : (x3 + 1 : Int32).toInt = (x3 : Int32).toInt + (1 : Int32).toInt := by have B_143 := IX_b I; exact add_i (by omega) (by omega)
              refine ok_seq (fun y_141 h_140 => ?_)
              have h_140' : y_141.toInt = (x3 + 1 : Int32).toInt := by rw [h_140]
              refine ok_mono (ih I (by have B_144 := IX_b I; omega) (by have B_145 := IX_b I; omega) (by have B_146 := IX_b I; omega) (by have B_147 := IX_b I; omega) (by have B_148 := IX_b I; omega) (by have B_149 := IX_b I; omega) (by have B_150 := IX_b I; omega) (by have B_151 := IX_b I; omega) (by have B_152 := IX_b I; omega) (by have B_153 := IX_b I; omega) (by have B_154 := IX_b I; omega) (by have B_155 := IX_b I; omega) (by have B_156 := IX_b I; omega) (by have B_157 := IX_b I; omega) (by have B_158 := IX_b I; omega)) (fun u_160 z_159 => ?_)
              obtain ⟨I_u_160, G_u_160⟩ := z_159
              have F_u_160 := Kf_tr (Kf_rfl u) G_u_160
              have g_161 : (u_160.1 0).toInt = (u.1 0).toInt := by rw [G_u_160.1 0 (by decide) (by decide)]
              exact ⟨I_u_160, F_u_160⟩
          · refine ok_mono (kM_SqlReaderModel_cut_J159 hq I (by have FUe : FU = 100000 := rfl; have B_162 := IX_b I; omega) (by have FUe : FU = 100000 := rfl; have B_163 := IX_b I; omega) (by have FUe : FU = 100000 := rfl; have B_164 := IX_b I; omega) (by have FUe : FU = 100000 := rfl; have B_165 := IX_b I; omega) (by have FUe : FU = 100000 := rfl; have B_166 := IX_b I; omega) (by have FUe : FU = 100000 := rfl; have B_167 := IX_b I; omega) (by have FUe : FU = 100000 := rfl; have B_168 := IX_b I; omega) (by have FUe : FU = 100000 := rfl; have B_169 := IX_b I; omega) (by have FUe : FU = 100000 := rfl; have B_170 := IX_b I; omega) (by have FUe : FU = 100000 := rfl; have B_171 := IX_b I; omega) (by have FUe : FU = 100000 := rfl; have B_172 := IX_b I; omega) (by have FUe : FU = 100000 := rfl; have B_173 := IX_b I; omega) (by have FUe : FU = 100000 := rfl; have B_174 := IX_b I; omega) (by have FUe : FU = 100000 := rfl; have B_175 := IX_b I; omega)) (fun u_177 z_176 => ?_)
            obtain ⟨I_u_177, G_u_177⟩ := z_176
            have F_u_177 := Kf_tr (Kf_rfl u) G_u_177
            have g_178 : (u_177.1 0).toInt = (u.1 0).toInt := by rw [G_u_177.1 0 (by decide) (by decide)]
            exact ⟨I_u_177, F_u_177⟩
      · try have e_181 : (x3 + 1 : Int32).toInt = (x3 : Int32).toInt + (1 : Int32).toInt := by have B_182 := IX_b I; exact add_i (by omega) (by omega)
        refine ok_seq (fun y_180 h_179 => ?_)
        have h_179' : y_180.toInt = (x3 + 1 : Int32).toInt := by rw [h_179]
        refine ok_mono (ih I (by have B_183 := IX_b I; omega) (by have B_184 := IX_b I; omega) (by have B_185 := IX_b I; omega) (by have B_186 := IX_b I; omega) (by have B_187 := IX_b I; omega) (by have B_188 := IX_b I; omega) (by have B_189 := IX_b I; omega) (by have B_190 := IX_b I; omega) (by have B_191 := IX_b I; omega) (by have B_192 := IX_b I; omega) (by have B_193 := IX_b I; omega) (by have B_194 := IX_b I; omega) (by have B_195 := IX_b I; omega) (by have B_196 := IX_b I; omega) (by have B_197 := IX_b I; omega)) (fun u_199 z_198 => ?_)
        obtain ⟨I_u_199, G_u_199⟩ := z_198
        have F_u_199 := Kf_tr (Kf_rfl u) G_u_199
        have g_200 : (u_199.1 0).toInt = (u.1 0).toInt := by rw [G_u_199.1 0 (by decide) (by decide)]
        exact ⟨I_u_199, F_u_199⟩
    · rw [mM_SqlReaderModel_cut_J119]
      refine ok_eq (fun c_201 c_201' => ?_) (fun c_201 => ?_)
      · refine ok_bP (kM_SqlReaderModel_at (IX_IB I) (by have FUe : FU = 100000 := rfl; have B_203 := IX_b I; omega)) (fun r_204 z_202 => ?_)
        have p_205 := z_202
        refine ok_bP (kM_SqlReaderModel_isInName (IX_IB I)) (fun r_207 z_206 => ?_)
        obtain ⟨p_208, p_209, p_210⟩ := z_206
        refine ok_eq (fun c_211 c_211' => ?_) (fun c_211 => ?_)
        · rw [mM_SqlReaderModel_cut_J136]
          refine ok_eq (fun c_212 c_212' => ?_) (fun c_212 => ?_)
          · refine ok_bP (kM_SqlReaderModel_at (IX_IB I) (by have FUe : FU = 100000 := rfl; have B_214 := IX_b I; omega)) (fun r_215 z_213 => ?_)
            have p_216 := z_213
            refine ok_bP (kM_SqlReaderModel_isDigit (IX_IB I)) (fun r_218 z_217 => ?_)
            obtain ⟨p_219, p_220, p_221⟩ := z_217
            refine ok_eq (fun c_222 c_222' => ?_) (fun c_222 => ?_)
            · refine ok_mono (kM_SqlReaderModel_cut_J159 hq I (by have FUe : FU = 100000 := rfl; have B_223 := IX_b I; omega) (by have FUe : FU = 100000 := rfl; have B_224 := IX_b I; omega) (by have FUe : FU = 100000 := rfl; have B_225 := IX_b I; omega) (by have FUe : FU = 100000 := rfl; have B_226 := IX_b I; omega) (by have FUe : FU = 100000 := rfl; have B_227 := IX_b I; omega) (by have FUe : FU = 100000 := rfl; have B_228 := IX_b I; omega) (by have FUe : FU = 100000 := rfl; have B_229 := IX_b I; omega) (by have FUe : FU = 100000 := rfl; have B_230 := IX_b I; omega) (by have FUe : FU = 100000 := rfl; have B_231 := IX_b I; omega) (by have FUe : FU = 100000 := rfl; have B_232 := IX_b I; omega) (by have FUe : FU = 100000 := rfl; have B_233 := IX_b I; omega) (by have FUe : FU = 100000 := rfl; have B_234 := IX_b I; omega) (by have FUe : FU = 100000 := rfl; have B_235 := IX_b I; omega) (by have FUe : FU = 100000 := rfl; have B_236 := IX_b I; omega)) (fun u_238 z_237 => ?_)
              obtain ⟨I_u_238, G_u_238⟩ := z_237
              have F_u_238 := Kf_tr (Kf_rfl u) G_u_238
              have g_239 : (u_238.1 0).toInt = (u.1 0).toInt := by rw [G_u_238.1 0 (by decide) (by decide)]
              exact ⟨I_u_238, F_u_238⟩
            · try have e_242 : (x3 + 1 : Int32).toInt = (x3 : Int32).toInt + (1 : Int32).toInt := by have B_243 := IX_b I; exact add_i (by omega) (by omega)
              refine ok_seq (fun y_241 h_240 => ?_)
              have h_240' : y_241.toInt = (x3 + 1 : Int32).toInt := by rw [h_240]
              refine ok_mono (ih I (by have B_244 := IX_b I; omega) (by have B_245 := IX_b I; omega) (by have B_246 := IX_b I; omega) (by have B_247 := IX_b I; omega) (by have B_248 := IX_b I; omega) (by have B_249 := IX_b I; omega) (by have B_250 := IX_b I; omega) (by have B_251 := IX_b I; omega) (by have B_252 := IX_b I; omega) (by have B_253 := IX_b I; omega) (by have B_254 := IX_b I; omega) (by have B_255 := IX_b I; omega) (by have B_256 := IX_b I; omega) (by have B_257 := IX_b I; omega) (by have B_258 := IX_b I; omega)) (fun u_260 z_259 => ?_)
              obtain ⟨I_u_260, G_u_260⟩ := z_259
              have F_u_260 := Kf_tr (Kf_rfl u) G_u_260
              have g_261 : (u_260.1 0).toInt = (u.1 0).toInt := by rw [G_u_260.1 0 (by decide) (by decide)]
              exact ⟨I_u_260, F_u_260⟩
          · refine ok_mono (kM_SqlReaderModel_cut_J159 hq I (by have FUe : FU = 100000 := rfl; have B_262 := IX_b I; omega) (by have FUe : FU = 100000 := rfl; have B_263 := IX_b I; omega) (by have FUe : FU = 100000 := rfl; have B_264 := IX_b I; omega) (by have FUe : FU = 100000 := rfl; have B_265 := IX_b I; omega) (by have FUe : FU = 100000 := rfl; have B_266 := IX_b I; omega) (by have FUe : FU = 100000 := rfl; have B_267 := IX_b I; omega) (by have FUe : FU = 100000 := rfl; have B_268 := IX_b I; omega) (by have FUe : FU = 100000 := rfl; have B_269 := IX_b I; omega) (by have FUe : FU = 100000 := rfl; have B_270 := IX_b I; omega) (by have FUe : FU = 100000 := rfl; have B_271 := IX_b I; omega) (by have FUe : FU = 100000 := rfl; have B_272 := IX_b I; omega) (by have FUe : FU = 100000 := rfl; have B_273 := IX_b I; omega) (by have FUe : FU = 100000 := rfl; have B_274 := IX_b I; omega) (by have FUe : FU = 100000 := rfl; have B_275 := IX_b I; omega)) (fun u_277 z_276 => ?_)
            obtain ⟨I_u_277, G_u_277⟩ := z_276
            have F_u_277 := Kf_tr (Kf_rfl u) G_u_277
            have g_278 : (u_277.1 0).toInt = (u.1 0).toInt := by rw [G_u_277.1 0 (by decide) (by decide)]
            exact ⟨I_u_277, F_u_277⟩
        · try have e_281 : (x3 + 1 : Int32).toInt = (x3 : Int32).toInt + (1 : Int32).toInt := by have B_282 := IX_b I; exact add_i (by omega) (by omega)
          refine ok_seq (fun y_280 h_279 => ?_)
          have h_279' : y_280.toInt = (x3 + 1 : Int32).toInt := by rw [h_279]
          refine ok_mono (ih I (by have B_283 := IX_b I; omega) (by have B_284 := IX_b I; omega) (by have B_285 := IX_b I; omega) (by have B_286 := IX_b I; omega) (by have B_287 := IX_b I; omega) (by have B_288 := IX_b I; omega) (by have B_289 := IX_b I; omega) (by have B_290 := IX_b I; omega) (by have B_291 := IX_b I; omega) (by have B_292 := IX_b I; omega) (by have B_293 := IX_b I; omega) (by have B_294 := IX_b I; omega) (by have B_295 := IX_b I; omega) (by have B_296 := IX_b I; omega) (by have B_297 := IX_b I; omega)) (fun u_299 z_298 => ?_)
          obtain ⟨I_u_299, G_u_299⟩ := z_298
          have F_u_299 := Kf_tr (Kf_rfl u) G_u_299
          have g_300 : (u_299.1 0).toInt = (u.1 0).toInt := by rw [G_u_299.1 0 (by decide) (by decide)]
          exact ⟨I_u_299, F_u_299⟩
      · rw [mM_SqlReaderModel_cut_J136]
        refine ok_eq (fun c_301 c_301' => ?_) (fun c_301 => ?_)
        · refine ok_bP (kM_SqlReaderModel_at (IX_IB I) (by have FUe : FU = 100000 := rfl; have B_303 := IX_b I; omega)) (fun r_304 z_302 => ?_)
          have p_305 := z_302
          refine ok_bP (kM_SqlReaderModel_isDigit (IX_IB I)) (fun r_307 z_306 => ?_)
          obtain ⟨p_308, p_309, p_310⟩ := z_306
          refine ok_eq (fun c_311 c_311' => ?_) (fun c_311 => ?_)
          · refine ok_mono (kM_SqlReaderModel_cut_J159 hq I (by have FUe : FU = 100000 := rfl; have B_312 := IX_b I; omega) (by have FUe : FU = 100000 := rfl; have B_313 := IX_b I; omega) (by have FUe : FU = 100000 := rfl; have B_314 := IX_b I; omega) (by have FUe : FU = 100000 := rfl; have B_315 := IX_b I; omega) (by have FUe : FU = 100000 := rfl; have B_316 := IX_b I; omega) (by have FUe : FU = 100000 := rfl; have B_317 := IX_b I; omega) (by have FUe : FU = 100000 := rfl; have B_318 := IX_b I; omega) (by have FUe : FU = 100000 := rfl; have B_319 := IX_b I; omega) (by have FUe : FU = 100000 := rfl; have B_320 := IX_b I; omega) (by have FUe : FU = 100000 := rfl; have B_321 := IX_b I; omega) (by have FUe : FU = 100000 := rfl; have B_322 := IX_b I; omega) (by have FUe : FU = 100000 := rfl; have B_323 := IX_b I; omega) (by have FUe : FU = 100000 := rfl; have B_324 := IX_b I; omega) (by have FUe : FU = 100000 := rfl; have B_325 := IX_b I; omega)) (fun u_327 z_326 => ?_)
            obtain ⟨I_u_327, G_u_327⟩ := z_326
            have F_u_327 := Kf_tr (Kf_rfl u) G_u_327
            have g_328 : (u_327.1 0).toInt = (u.1 0).toInt := by rw [G_u_327.1 0 (by decide) (by decide)]
            exact ⟨I_u_327, F_u_327⟩
          · try have e_331 : (x3 + 1 : Int32).toInt = (x3 : Int32).toInt + (1 : Int32).toInt := by have B_332 := IX_b I; exact add_i (by omega) (by omega)
            refine ok_seq (fun y_330 h_329 => ?_)
            have h_329' : y_330.toInt = (x3 + 1 : Int32).toInt := by rw [h_329]
            refine ok_mono (ih I (by have B_333 := IX_b I; omega) (by have B_334 := IX_b I; omega) (by have B_335 := IX_b I; omega) (by have B_336 := IX_b I; omega) (by have B_337 := IX_b I; omega) (by have B_338 := IX_b I; omega) (by have B_339 := IX_b I; omega) (by have B_340 := IX_b I; omega) (by have B_341 := IX_b I; omega) (by have B_342 := IX_b I; omega) (by have B_343 := IX_b I; omega) (by have B_344 := IX_b I; omega) (by have B_345 := IX_b I; omega) (by have B_346 := IX_b I; omega) (by have B_347 := IX_b I; omega)) (fun u_349 z_348 => ?_)
            obtain ⟨I_u_349, G_u_349⟩ := z_348
            have F_u_349 := Kf_tr (Kf_rfl u) G_u_349
            have g_350 : (u_349.1 0).toInt = (u.1 0).toInt := by rw [G_u_349.1 0 (by decide) (by decide)]
            exact ⟨I_u_349, F_u_349⟩
        · refine ok_mono (kM_SqlReaderModel_cut_J159 hq I (by have FUe : FU = 100000 := rfl; have B_351 := IX_b I; omega) (by have FUe : FU = 100000 := rfl; have B_352 := IX_b I; omega) (by have FUe : FU = 100000 := rfl; have B_353 := IX_b I; omega) (by have FUe : FU = 100000 := rfl; have B_354 := IX_b I; omega) (by have FUe : FU = 100000 := rfl; have B_355 := IX_b I; omega) (by have FUe : FU = 100000 := rfl; have B_356 := IX_b I; omega) (by have FUe : FU = 100000 := rfl; have B_357 := IX_b I; omega) (by have FUe : FU = 100000 := rfl; have B_358 := IX_b I; omega) (by have FUe : FU = 100000 := rfl; have B_359 := IX_b I; omega) (by have FUe : FU = 100000 := rfl; have B_360 := IX_b I; omega) (by have FUe : FU = 100000 := rfl; have B_361 := IX_b I; omega) (by have FUe : FU = 100000 := rfl; have B_362 := IX_b I; omega) (by have FUe : FU = 100000 := rfl; have B_363 := IX_b I; omega) (by have FUe : FU = 100000 := rfl; have B_364 := IX_b I; omega)) (fun u_366 z_365 => ?_)
          obtain ⟨I_u_366, G_u_366⟩ := z_365
          have F_u_366 := Kf_tr (Kf_rfl u) G_u_366
          have g_367 : (u_366.1 0).toInt = (u.1 0).toInt := by rw [G_u_366.1 0 (by decide) (by decide)]
          exact ⟨I_u_366, F_u_366⟩
theorem kM_SqlReaderModel_cut_L12 : ∀ (n : Nat) {x1 : Int32} {u : St} (I : IX u) (h0 : (u.1 2).toInt = 1 ∨ (0 ≤ x1.toInt ∧ x1.toInt ≤ 2000 ∧ (u.1 1).toInt ≤ x1.toInt)) (hm : (2003 - x1.toInt - 5000 * (u.1 2).toInt).toNat < n), ok (mM_SqlReaderModel_cut_L12 n x1 u) (fun v => IX v ∧ Kf u v) := by
  intro n
  induction n with
  | zero => intro x1 u I h0 hm; exact absurd hm (Nat.not_lt_zero _)
  | succ n ih =>
    intro x1 u I h0 hm
    have l0 : (0 : Int32).toInt = 0 := by decide
    have l1 : (1 : Int32).toInt = 1 := by decide
    have l2 : (2 : Int32).toInt = 2 := by decide
    have l3 : (3 : Int32).toInt = 3 := by decide
    have l4 : (4 : Int32).toInt = 4 := by decide
    have l5 : (5 : Int32).toInt = 5 := by decide
    have l6 : (6 : Int32).toInt = 6 := by decide
    have l32 : (32 : Int32).toInt = 32 := by decide
    have l36 : (36 : Int32).toInt = 36 := by decide
    have l39 : (39 : Int32).toInt = 39 := by decide
    have l2000 : (2000 : Int32).toInt = 2000 := by decide
    have l2003 : (2003 : Int32).toInt = 2003 := by decide
    have l5000 : (5000 : Int32).toInt = 5000 := by decide
    rw [mM_SqlReaderModel_cut_L12]
    refine ok_le (fun c_1 => ?_) (fun c_1 => ?_)
    · exact ok_some ⟨I, (Kf_rfl u)⟩
    · refine ok_eq (fun c_2 c_2' => ?_) (fun c_2 => ?_)
      · refine ok_gd (inb_of (by have B_3 := IX_b I; omega) (by have B_4 := IX_b I; omega)) ?_
        refine ok_seq (fun y_6 h_5 => ?_)
        have h_5' : y_6.toInt = ((ga u 0 x1) : Int32).toInt := by rw [h_5]
        try have e_9 : (x1 + 1 : Int32).toInt = (x1 : Int32).toInt + (1 : Int32).toInt := by have B_10 := IX_b I; exact add_i (by omega) (by omega)
        refine ok_seq (fun y_8 h_7 => ?_)
        have h_7' : y_8.toInt = ((x1 + 1) : Int32).toInt := by rw [h_7]
        refine ok_eq (fun c_11 c_11' => ?_) (fun c_11 => ?_)
        · try have e_14 : (x1 + 1 : Int32).toInt = (x1 : Int32).toInt + (1 : Int32).toInt := by have B_15 := IX_b I; exact add_i (by omega) (by omega)
          refine ok_seq (fun y_13 h_12 => ?_)
          have h_12' : y_13.toInt = (x1 + 1 : Int32).toInt := by rw [h_12]
          refine ok_mono (ih I (by have B_16 := IX_b I; omega) (by have B_17 := IX_b I; omega)) (fun u_19 z_18 => ?_)
          obtain ⟨I_u_19, G_u_19⟩ := z_18
          have F_u_19 := Kf_tr (Kf_rfl u) G_u_19
          have g_20 : (u_19.1 0).toInt = (u.1 0).toInt := by rw [G_u_19.1 0 (by decide) (by decide)]
          exact ⟨I_u_19, F_u_19⟩
        · refine ok_eq (fun c_21 c_21' => ?_) (fun c_21 => ?_)
          · refine ok_bM (kM_SqlReaderModel_cutText I (by have FUe : FU = 100000 := rfl; have B_23 := IX_b I; omega) (by have FUe : FU = 100000 := rfl; have B_24 := IX_b I; omega) (by have FUe : FU = 100000 := rfl; have B_25 := IX_b I; omega) (by have FUe : FU = 100000 := rfl; have B_26 := IX_b I; omega)) (fun r_27 u_28 z_22 => ?_)
            obtain ⟨I_u_28, G_u_28, p_29, p_30⟩ := z_22
            have F_u_28 := Kf_tr (Kf_rfl u) G_u_28
            have g_31 : (u_28.1 0).toInt = (u.1 0).toInt := by rw [G_u_28.1 0 (by decide) (by decide)]
            refine ok_mono (ih I_u_28 (by have B_32 := IX_b I_u_28; omega) (by have B_33 := IX_b I_u_28; omega)) (fun u_35 z_34 => ?_)
            obtain ⟨I_u_35, G_u_35⟩ := z_34
            have F_u_35 := Kf_tr F_u_28 G_u_35
            have g_36 : (u_35.1 0).toInt = (u_28.1 0).toInt := by rw [G_u_35.1 0 (by decide) (by decide)]
            exact ⟨I_u_35, F_u_35⟩
          · refine ok_bP (kM_SqlReaderModel_isCapital (IX_IB I)) (fun r_38 z_37 => ?_)
            obtain ⟨p_39, p_40, p_41⟩ := z_37
            refine ok_eq (fun c_42 c_42' => ?_) (fun c_42 => ?_)
            · refine ok_bP (kM_SqlReaderModel_isSmall (IX_IB I)) (fun r_44 z_43 => ?_)
              obtain ⟨p_45, p_46, p_47⟩ := z_43
              refine ok_eq (fun c_48 c_48' => ?_) (fun c_48 => ?_)
              · refine ok_bP (kM_SqlReaderModel_isDigit (IX_IB I)) (fun r_50 z_49 => ?_)
                obtain ⟨p_51, p_52, p_53⟩ := z_49
                refine ok_eq (fun c_54 c_54' => ?_) (fun c_54 => ?_)
                · refine ok_mono (kM_SqlReaderModel_cut_L102 ih _ I (by have FUe : FU = 100000 := rfl; have B_55 := IX_b I; omega) (by have FUe : FU = 100000 := rfl; have B_56 := IX_b I; omega) (by have FUe : FU = 100000 := rfl; have B_57 := IX_b I; omega) (by have FUe : FU = 100000 := rfl; have B_58 := IX_b I; omega) (by have FUe : FU = 100000 := rfl; have B_59 := IX_b I; omega) (by have FUe : FU = 100000 := rfl; have B_60 := IX_b I; omega) (by have FUe : FU = 100000 := rfl; have B_61 := IX_b I; omega) (by have FUe : FU = 100000 := rfl; have B_62 := IX_b I; omega) (by have FUe : FU = 100000 := rfl; have B_63 := IX_b I; omega) (by have FUe : FU = 100000 := rfl; have B_64 := IX_b I; omega) (by have FUe : FU = 100000 := rfl; have B_65 := IX_b I; omega) (by have FUe : FU = 100000 := rfl; have B_66 := IX_b I; omega) (by have FUe : FU = 100000 := rfl; have B_67 := IX_b I; omega) (by have FUe : FU = 100000 := rfl; have B_68 := IX_b I; omega) (by have FUe : FU = 100000 := rfl; have B_69 := IX_b I; omega)) (fun u_71 z_70 => ?_)
                  obtain ⟨I_u_71, G_u_71⟩ := z_70
                  have F_u_71 := Kf_tr (Kf_rfl u) G_u_71
                  have g_72 : (u_71.1 0).toInt = (u.1 0).toInt := by rw [G_u_71.1 0 (by decide) (by decide)]
                  exact ⟨I_u_71, F_u_71⟩
                · refine ok_mono (kM_SqlReaderModel_cut_L102 ih _ I (by have FUe : FU = 100000 := rfl; have B_73 := IX_b I; omega) (by have FUe : FU = 100000 := rfl; have B_74 := IX_b I; omega) (by have FUe : FU = 100000 := rfl; have B_75 := IX_b I; omega) (by have FUe : FU = 100000 := rfl; have B_76 := IX_b I; omega) (by have FUe : FU = 100000 := rfl; have B_77 := IX_b I; omega) (by have FUe : FU = 100000 := rfl; have B_78 := IX_b I; omega) (by have FUe : FU = 100000 := rfl; have B_79 := IX_b I; omega) (by have FUe : FU = 100000 := rfl; have B_80 := IX_b I; omega) (by have FUe : FU = 100000 := rfl; have B_81 := IX_b I; omega) (by have FUe : FU = 100000 := rfl; have B_82 := IX_b I; omega) (by have FUe : FU = 100000 := rfl; have B_83 := IX_b I; omega) (by have FUe : FU = 100000 := rfl; have B_84 := IX_b I; omega) (by have FUe : FU = 100000 := rfl; have B_85 := IX_b I; omega) (by have FUe : FU = 100000 := rfl; have B_86 := IX_b I; omega) (by have FUe : FU = 100000 := rfl; have B_87 := IX_b I; omega)) (fun u_89 z_88 => ?_)
                  obtain ⟨I_u_89, G_u_89⟩ := z_88
                  have F_u_89 := Kf_tr (Kf_rfl u) G_u_89
                  have g_90 : (u_89.1 0).toInt = (u.1 0).toInt := by rw [G_u_89.1 0 (by decide) (by decide)]
                  exact ⟨I_u_89, F_u_89⟩
              · refine ok_mono (kM_SqlReaderModel_cut_L102 ih _ I (by have FUe : FU = 100000 := rfl; have B_91 := IX_b I; omega) (by have FUe : FU = 100000 := rfl; have B_92 := IX_b I; omega) (by have FUe : FU = 100000 := rfl; have B_93 := IX_b I; omega) (by have FUe : FU = 100000 := rfl; have B_94 := IX_b I; omega) (by have FUe : FU = 100000 := rfl; have B_95 := IX_b I; omega) (by have FUe : FU = 100000 := rfl; have B_96 := IX_b I; omega) (by have FUe : FU = 100000 := rfl; have B_97 := IX_b I; omega) (by have FUe : FU = 100000 := rfl; have B_98 := IX_b I; omega) (by have FUe : FU = 100000 := rfl; have B_99 := IX_b I; omega) (by have FUe : FU = 100000 := rfl; have B_100 := IX_b I; omega) (by have FUe : FU = 100000 := rfl; have B_101 := IX_b I; omega) (by have FUe : FU = 100000 := rfl; have B_102 := IX_b I; omega) (by have FUe : FU = 100000 := rfl; have B_103 := IX_b I; omega) (by have FUe : FU = 100000 := rfl; have B_104 := IX_b I; omega) (by have FUe : FU = 100000 := rfl; have B_105 := IX_b I; omega)) (fun u_107 z_106 => ?_)
                obtain ⟨I_u_107, G_u_107⟩ := z_106
                have F_u_107 := Kf_tr (Kf_rfl u) G_u_107
                have g_108 : (u_107.1 0).toInt = (u.1 0).toInt := by rw [G_u_107.1 0 (by decide) (by decide)]
                exact ⟨I_u_107, F_u_107⟩
            · refine ok_mono (kM_SqlReaderModel_cut_L102 ih _ I (by have FUe : FU = 100000 := rfl; have B_109 := IX_b I; omega) (by have FUe : FU = 100000 := rfl; have B_110 := IX_b I; omega) (by have FUe : FU = 100000 := rfl; have B_111 := IX_b I; omega) (by have FUe : FU = 100000 := rfl; have B_112 := IX_b I; omega) (by have FUe : FU = 100000 := rfl; have B_113 := IX_b I; omega) (by have FUe : FU = 100000 := rfl; have B_114 := IX_b I; omega) (by have FUe : FU = 100000 := rfl; have B_115 := IX_b I; omega) (by have FUe : FU = 100000 := rfl; have B_116 := IX_b I; omega) (by have FUe : FU = 100000 := rfl; have B_117 := IX_b I; omega) (by have FUe : FU = 100000 := rfl; have B_118 := IX_b I; omega) (by have FUe : FU = 100000 := rfl; have B_119 := IX_b I; omega) (by have FUe : FU = 100000 := rfl; have B_120 := IX_b I; omega) (by have FUe : FU = 100000 := rfl; have B_121 := IX_b I; omega) (by have FUe : FU = 100000 := rfl; have B_122 := IX_b I; omega) (by have FUe : FU = 100000 := rfl; have B_123 := IX_b I; omega)) (fun u_125 z_124 => ?_)
              obtain ⟨I_u_125, G_u_125⟩ := z_124
              have F_u_125 := Kf_tr (Kf_rfl u) G_u_125
              have g_126 : (u_125.1 0).toInt = (u.1 0).toInt := by rw [G_u_125.1 0 (by decide) (by decide)]
              exact ⟨I_u_125, F_u_125⟩
      · exact ok_some ⟨I, (Kf_rfl u)⟩
