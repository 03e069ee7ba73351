def RMn (rc : Nat → Int32 → Int32 → Int32 → Int32 → Int32 → Int32 → St → Option (Int32 × St)) (n : Nat) : Prop := (∀ {B : Int} {a b c d : Int32} {u : St}, IP u → 0 ≤ b.toInt → b.toInt ≤ 4000 → c.toInt ≤ (u.1 1).toInt → 0 ≤ d.toInt → d.toInt ≤ 4000 → (u.1 4).toInt ≤ B → 100000 ≤ B → B + 32 * (c.toInt - b.toInt) + 16 ≤ 190000 → B ≤ 189990 → b.toInt < c.toInt → d.toInt ≤ 20 → (u.1 2).toInt = 0 → (a.toInt = 0 ∨ a.toInt = 1 ∨ (4 ≤ a.toInt ∧ a.toInt ≤ 6)) → 18 * (21 - d.toInt) - 2 * a.toInt ≤ (n : Int) → okM (rc 0 a b c d 0 0 u) (fun r v => IP v ∧ Fr [2, 4, 5, 28] [10, 11, 12, 13, 14, 15, 16, 17, 18, 19, 20] u v ∧ (u.1 2).toInt ≤ (v.1 2).toInt ∧ ((u.1 4).toInt ≤ (v.1 4).toInt ∨ 200 < (v.1 4).toInt) ∧ r.toInt ≤ (v.1 4).toInt - 1 + 300000 * (v.1 2).toInt ∧ (v.1 4).toInt - 1 ≤ r.toInt + 300000 * (v.1 2).toInt ∧ 0 ≤ r.toInt ∧ (v.1 4).toInt ≤ B + 32 * ((c.toInt - b.toInt).toNat : Int) + 8 ∧ b.toInt + 1 ≤ c.toInt + 300000 * (v.1 2).toInt ∧ (v.1 4).toInt ≤ (u.1 4).toInt + 300000 * (1 - (u.1 2).toInt) ∧ (u.1 4).toInt ≤ (v.1 4).toInt + 300000 * (1 - (u.1 2).toInt))) ∧ (∀ {B : Int} {a b c : Int32} {u : St}, IP u → 0 ≤ a.toInt → a.toInt ≤ 4000 → b.toInt ≤ (u.1 1).toInt → 0 ≤ c.toInt → c.toInt ≤ 4000 → (u.1 4).toInt ≤ B → 100000 ≤ B → B + 32 * (b.toInt - a.toInt) + 16 ≤ 190000 → B ≤ 189990 → a.toInt < b.toInt → c.toInt ≤ 20 → (u.1 2).toInt = 0 → 18 * (21 - c.toInt) - 16 ≤ (n : Int) → okM (rc 1 a b c 0 0 0 u) (fun r v => IP v ∧ Fr [2, 4, 5, 28] [10, 11, 12, 13, 14, 15, 16, 17, 18, 19, 20] u v ∧ (u.1 2).toInt ≤ (v.1 2).toInt ∧ ((u.1 4).toInt ≤ (v.1 4).toInt ∨ 200 < (v.1 4).toInt) ∧ r.toInt ≤ (v.1 4).toInt - 1 + 300000 * (v.1 2).toInt ∧ (v.1 4).toInt - 1 ≤ r.toInt + 300000 * (v.1 2).toInt ∧ 0 ≤ r.toInt ∧ (v.1 4).toInt ≤ B + 32 * ((b.toInt - a.toInt).toNat : Int) + 8 ∧ a.toInt + 1 ≤ b.toInt + 300000 * (v.1 2).toInt ∧ (v.1 4).toInt ≤ (u.1 4).toInt + 300000 * (1 - (u.1 2).toInt) ∧ (u.1 4).toInt ≤ (v.1 4).toInt + 300000 * (1 - (u.1 2).toInt))) ∧ (∀ {B : Int} {a b c d e f : Int32} {u : St}, IP u → 0 ≤ a.toInt → a.toInt ≤ 4000 → b.toInt ≤ (u.1 1).toInt → 0 ≤ c.toInt → c.toInt ≤ 4000 → (u.1 4).toInt ≤ B → 100000 ≤ B → B + 32 * (b.toInt - a.toInt) + 16 ≤ 190000 → B ≤ 189990 → 1 ≤ a.toInt → a.toInt ≤ b.toInt → c.toInt ≤ 20 → ((u.1 2).toInt = 1 ∨ 200 < (u.1 4).toInt ∨ d.toInt < (u.1 4).toInt) → 0 ≤ d.toInt → 0 ≤ e.toInt → (e.toInt ≤ f.toInt ∨ 200 < f.toInt) → (f.toInt ≤ (u.1 4).toInt ∨ 200 < (u.1 4).toInt) → e.toInt ≤ 199000 → f.toInt ≤ 199000 → 0 ≤ f.toInt → 18 * (21 - c.toInt) - 7 ≤ (n : Int) → okM (rc 2 a b c d e f u) (fun r v => IP v ∧ Fr [2, 4, 5, 28] [10, 11, 12, 13, 14, 15, 16, 17, 18, 19, 20] u v ∧ (u.1 2).toInt ≤ (v.1 2).toInt ∧ ((u.1 4).toInt ≤ (v.1 4).toInt ∨ 200 < (v.1 4).toInt) ∧ r.toInt ≤ (v.1 4).toInt - 1 + 300000 * (v.1 2).toInt ∧ (v.1 4).toInt - 1 ≤ r.toInt + 300000 * (v.1 2).toInt ∧ 0 ≤ r.toInt ∧ (v.1 4).toInt ≤ B + 32 * ((b.toInt - a.toInt).toNat : Int) + 8)) ∧ (∀ {B : Int} {a b c : Int32} {u : St}, IP u → 0 ≤ a.toInt → a.toInt ≤ 4000 → b.toInt ≤ (u.1 1).toInt → 0 ≤ c.toInt → c.toInt ≤ 4000 → (u.1 4).toInt ≤ B → 100000 ≤ B → B + 32 * (b.toInt - a.toInt) + 16 ≤ 190000 → B ≤ 189990 → a.toInt < b.toInt → c.toInt ≤ 20 → (u.1 2).toInt = 0 → 18 * (21 - c.toInt) - 6 ≤ (n : Int) → okM (rc 3 a b c 0 0 0 u) (fun r v => IP v ∧ Fr [2, 4, 5, 28] [10, 11, 12, 13, 14, 15, 16, 17, 18, 19, 20] u v ∧ (u.1 2).toInt ≤ (v.1 2).toInt ∧ ((u.1 4).toInt ≤ (v.1 4).toInt ∨ 200 < (v.1 4).toInt) ∧ r.toInt ≤ (v.1 4).toInt - 1 + 300000 * (v.1 2).toInt ∧ (v.1 4).toInt - 1 ≤ r.toInt + 300000 * (v.1 2).toInt ∧ 0 ≤ r.toInt ∧ (v.1 4).toInt ≤ B + 32 * ((b.toInt - a.toInt).toNat : Int) + 8 ∧ a.toInt + 1 ≤ b.toInt + 300000 * (v.1 2).toInt ∧ (v.1 4).toInt ≤ (u.1 4).toInt + 300000 * (1 - (u.1 2).toInt) ∧ (u.1 4).toInt ≤ (v.1 4).toInt + 300000 * (1 - (u.1 2).toInt))) ∧ (∀ {B : Int} {a b c d : Int32} {u : St}, IP u → 0 ≤ b.toInt → b.toInt ≤ 4000 → c.toInt ≤ (u.1 1).toInt → 0 ≤ d.toInt → d.toInt ≤ 4000 → (u.1 4).toInt ≤ B → 100000 ≤ B → B + 32 * (c.toInt - b.toInt) + 16 ≤ 190000 → B ≤ 189990 → b.toInt < c.toInt → d.toInt ≤ 20 → (u.1 2).toInt = 0 → (a.toInt = 2 ∨ a.toInt = 7) → 18 * (21 - d.toInt) - 2 * a.toInt ≤ (n : Int) → okM (rc 4 a b c d 0 0 u) (fun r v => IP v ∧ Fr [2, 4, 5, 28] [10, 11, 12, 13, 14, 15, 16, 17, 18, 19, 20] u v ∧ (u.1 2).toInt ≤ (v.1 2).toInt ∧ ((u.1 4).toInt ≤ (v.1 4).toInt ∨ 200 < (v.1 4).toInt) ∧ r.toInt ≤ (v.1 4).toInt - 1 + 300000 * (v.1 2).toInt ∧ (v.1 4).toInt - 1 ≤ r.toInt + 300000 * (v.1 2).toInt ∧ 0 ≤ r.toInt ∧ (v.1 4).toInt ≤ B + 32 * ((c.toInt - b.toInt).toNat : Int) + 8 ∧ b.toInt + 1 ≤ c.toInt + 300000 * (v.1 2).toInt ∧ (v.1 4).toInt ≤ (u.1 4).toInt + 300000 * (1 - (u.1 2).toInt) ∧ (u.1 4).toInt ≤ (v.1 4).toInt + 300000 * (1 - (u.1 2).toInt))) ∧ (∀ {B : Int} {a b c d : Int32} {u : St}, IP u → 0 ≤ b.toInt → b.toInt ≤ 4000 → c.toInt ≤ (u.1 1).toInt → 0 ≤ d.toInt → d.toInt ≤ 4000 → (u.1 4).toInt ≤ B → 100000 ≤ B → B + 32 * (c.toInt - b.toInt) + 16 ≤ 190000 → B ≤ 189990 → 0 ≤ a.toInt → a.toInt ≤ 8 → 1 ≤ (n : Int) → (21 ≤ d.toInt ∨ 18 * (21 - d.toInt) + 1 - 2 * a.toInt ≤ (n : Int)) → -1 ≤ c.toInt → okM (rc 5 a b c d 0 0 u) (fun r v => IP v ∧ Fr [2, 4, 5, 28] [10, 11, 12, 13, 14, 15, 16, 17, 18, 19, 20] u v ∧ (u.1 2).toInt ≤ (v.1 2).toInt ∧ ((u.1 4).toInt ≤ (v.1 4).toInt ∨ 200 < (v.1 4).toInt) ∧ r.toInt ≤ (v.1 4).toInt - 1 + 300000 * (v.1 2).toInt ∧ (v.1 4).toInt - 1 ≤ r.toInt + 300000 * (v.1 2).toInt ∧ 0 ≤ r.toInt ∧ (v.1 4).toInt ≤ B + 32 * ((c.toInt - b.toInt).toNat : Int) + 8 ∧ b.toInt + 1 ≤ c.toInt + 300000 * (v.1 2).toInt ∧ (v.1 4).toInt ≤ (u.1 4).toInt + 300000 * (1 - (u.1 2).toInt) ∧ (u.1 4).toInt ≤ (v.1 4).toInt + 300000 * (1 - (u.1 2).toInt)))
theorem kP_SqlReaderModel_constant_J171 {x1 : Int32} {x2 : Int32} {s1 : Int32} {s2 : Int32} {u : St} (I : IP u) (h0 : 0 ≤ x1.toInt) (h1 : x1.toInt < (u.1 1).toInt) (h2 : x2.toInt = (ga u 1 x1).toInt) (h3 : (u.1 4).toInt ≤ 198000) (h4 : 0 ≤ s1.toInt) (h5 : s1.toInt ≤ 28) (h6 : s1.toInt ≠ 4) (h7 : s1.toInt < 6 ∨ s1.toInt = 28) (h8 : (u.1 2).toInt = 1 ∨ s1.toInt ≠ 28 ∨ (1 ≤ s2.toInt ∧ s2.toInt ≤ 9)) : okM (mM_SqlReaderModel_constant_J171 x1 x2 s1 s2 u) (fun r v => IP v ∧ Fr [4, 5, 28] [10, 11, 12, 13, 16, 17, 18, 19, 20] u v ∧ r.toInt = (u.1 4).toInt ∧ (v.1 4).toInt = (u.1 4).toInt + 1 ∧ 0 ≤ r.toInt) := by
  have lm1 : (-1 : Int32).toInt = -1 := by decide
  have l0 : (0 : Int32).toInt = 0 := by decide
  have l1 : (1 : Int32).toInt = 1 := by decide
  have l2 : (2 : Int32).toInt = 2 := by decide
  have l3 : (3 : Int32).toInt = 3 := by decide
  have l4 : (4 : Int32).toInt = 4 := by decide
  have l6 : (6 : Int32).toInt = 6 := by decide
  have l9 : (9 : Int32).toInt = 9 := by decide
  have l17 : (17 : Int32).toInt = 17 := by decide
  have l22 : (22 : Int32).toInt = 22 := by decide
  have l28 : (28 : Int32).toInt = 28 := by decide
  have l200 : (200 : Int32).toInt = 200 := by decide
  have l199000 : (199000 : Int32).toInt = 199000 := by decide
  rw [mM_SqlReaderModel_constant_J171]
  refine okM_bM (kP_SqlReaderModel_add I (by have FUe : FU = 100000 := rfl; have B_2 := IP_p I; omega) (by have FUe : FU = 100000 := rfl; have B_3 := IP_p I; omega) (by have FUe : FU = 100000 := rfl; have B_4 := IP_p I; omega) (by have FUe : FU = 100000 := rfl; have B_5 := IP_p I; omega) (by have FUe : FU = 100000 := rfl; have B_6 := IP_p I; omega) (by have FUe : FU = 100000 := rfl; have B_7 := IP_p I; omega) (by have FUe : FU = 100000 := rfl; have B_8 := IP_p I; omega)) (fun r_9 u_10 z_1 => ?_)
  obtain ⟨I_u_10, G_u_10, p_11, p_12, p_13⟩ := z_1
  have F_u_10 : Fr [4, 5, 28] [10, 11, 12, 13, 16, 17, 18, 19, 20] u u_10 := Fr_tr (Fr_rfl u) G_u_10 rfl rfl
  have g_14 : (u_10.1 1).toInt = (u.1 1).toInt := by rw [G_u_10.1 1 rfl]
  have g_15 : (u_10.1 2).toInt = (u.1 2).toInt := by rw [G_u_10.1 2 rfl]
  have g_16 : (ga u_10 1 x1).toInt = (ga u 1 x1).toInt := by show (u_10.2.1 1 _).toInt = _; rw [G_u_10.2.1 1 rfl]; rfl
  refine okM_le (fun c_17 => ?_) (fun c_17 => ?_)
  · refine okM_mono (kP_SqlReaderModel_constant_J307 I_u_10 (by have FUe : FU = 100000 := rfl; have B_18 := IP_p I_u_10; have B_19 := IP_p I; omega) (by have FUe : FU = 100000 := rfl; have B_20 := IP_p I_u_10; have B_21 := IP_p I; omega) (by have FUe : FU = 100000 := rfl; have B_22 := IP_p I_u_10; have B_23 := IP_p I; omega)) (fun r_25 u_26 z_24 => ?_)
    obtain ⟨I_u_26, G_u_26, p_27⟩ := z_24
    have F_u_26 : Fr [4, 5, 28] [10, 11, 12, 13, 16, 17, 18, 19, 20] u u_26 := Fr_tr F_u_10 G_u_26 rfl rfl
    have g_28 : (u_26.1 1).toInt = (u_10.1 1).toInt := by rw [G_u_26.1 1 rfl]
    have g_29 : (u_26.1 2).toInt = (u_10.1 2).toInt := by rw [G_u_26.1 2 rfl]
    have g_30 : (u_26.1 4).toInt = (u_10.1 4).toInt := by rw [G_u_26.1 4 rfl]
    have g_31 : (ga u_26 1 x1).toInt = (ga u_10 1 x1).toInt := by show (u_26.2.1 1 _).toInt = _; rw [G_u_26.2.1 1 rfl]; rfl
    exact ⟨I_u_26, F_u_26, (by have B_32 := IP_p I; omega), (by have B_33 := IP_p I_u_26; have B_34 := IP_p I; omega), (by omega)⟩
  · refine okM_eq (fun c_35 c_35' => ?_) (fun c_35 => ?_)
    · refine okM_bP (kM_SqlReaderModel_numberOf (IP_IT I_u_10) (by have FUe : FU = 100000 := rfl; have B_37 := IP_p I_u_10; have B_38 := IP_p I; omega) (by have FUe : FU = 100000 := rfl; have B_39 := IP_p I_u_10; have B_40 := IP_p I; omega)) (fun r_41 z_36 => ?_)
      refine okM_mono (kP_SqlReaderModel_constant_J205 I_u_10 (by have FUe : FU = 100000 := rfl; have B_42 := IP_p I_u_10; have B_43 := IP_p I; omega) (by have FUe : FU = 100000 := rfl; have B_44 := IP_p I_u_10; have B_45 := IP_p I; omega) (by have FUe : FU = 100000 := rfl; have B_46 := IP_p I_u_10; have B_47 := IP_p I; omega) (by have FUe : FU = 100000 := rfl; have B_48 := IP_p I_u_10; have B_49 := IP_p I; omega) (by have FUe : FU = 100000 := rfl; have B_50 := IP_p I_u_10; have B_51 := IP_p I; omega) rfl) (fun r_53 u_54 z_52 => ?_)
      obtain ⟨I_u_54, G_u_54, p_55⟩ := z_52
      have F_u_54 : Fr [4, 5, 28] [10, 11, 12, 13, 16, 17, 18, 19, 20] u u_54 := Fr_tr F_u_10 G_u_54 rfl rfl
      have g_56 : (u_54.1 1).toInt = (u_10.1 1).toInt := by rw [G_u_54.1 1 rfl]
      have g_57 : (u_54.1 2).toInt = (u_10.1 2).toInt := by rw [G_u_54.1 2 rfl]
      have g_58 : (u_54.1 4).toInt = (u_10.1 4).toInt := by rw [G_u_54.1 4 rfl]
      have g_59 : (ga u_54 1 x1).toInt = (ga u_10 1 x1).toInt := by show (u_54.2.1 1 _).toInt = _; rw [G_u_54.2.1 1 rfl]; rfl
      exact ⟨I_u_54, F_u_54, (by have B_60 := IP_p I; omega), (by have B_61 := IP_p I_u_54; have B_62 := IP_p I; omega), (by omega)⟩
    · refine okM_mono (kP_SqlReaderModel_constant_J205 I_u_10 (by have FUe : FU = 100000 := rfl; have B_63 := IP_p I_u_10; have B_64 := IP_p I; omega) (by have FUe : FU = 100000 := rfl; have B_65 := IP_p I_u_10; have B_66 := IP_p I; omega) (by have FUe : FU = 100000 := rfl; have B_67 := IP_p I_u_10; have B_68 := IP_p I; omega) (by have FUe : FU = 100000 := rfl; have B_69 := IP_p I_u_10; have B_70 := IP_p I; omega) (by have FUe : FU = 100000 := rfl; have B_71 := IP_p I_u_10; have B_72 := IP_p I; omega) rfl) (fun r_74 u_75 z_73 => ?_)
      obtain ⟨I_u_75, G_u_75, p_76⟩ := z_73
      have F_u_75 : Fr [4, 5, 28] [10, 11, 12, 13, 16, 17, 18, 19, 20] u u_75 := Fr_tr F_u_10 G_u_75 rfl rfl
      have g_77 : (u_75.1 1).toInt = (u_10.1 1).toInt := by rw [G_u_75.1 1 rfl]
      have g_78 : (u_75.1 2).toInt = (u_10.1 2).toInt := by rw [G_u_75.1 2 rfl]
      have g_79 : (u_75.1 4).toInt = (u_10.1 4).toInt := by rw [G_u_75.1 4 rfl]
      have g_80 : (ga u_75 1 x1).toInt = (ga u_10 1 x1).toInt := by show (u_75.2.1 1 _).toInt = _; rw [G_u_75.2.1 1 rfl]; rfl
      exact ⟨I_u_75, F_u_75, (by have B_81 := IP_p I; omega), (by have B_82 := IP_p I_u_75; have B_83 := IP_p I; omega), (by omega)⟩
theorem kP_SqlReaderModel_constant_J119 {x1 : Int32} {x2 : Int32} {x3 : Int32} {s1 : Int32} {u : St} (I : IP u) (h0 : 0 ≤ x1.toInt) (h1 : x1.toInt < (u.1 1).toInt) (h2 : x2.toInt = (ga u 1 x1).toInt) (h3 : (u.1 4).toInt ≤ 198000) (h4 : 0 ≤ s1.toInt) (h5 : s1.toInt ≤ 28) (h6 : s1.toInt ≠ 4) (h7 : s1.toInt < 6 ∨ s1.toInt = 28) (h8 : s1.toInt ≠ 28 ∨ x2.toInt = 5) : okM (mM_SqlReaderModel_constant_J119 x1 x2 x3 s1 u) (fun r v => IP v ∧ Fr [4, 5, 28] [10, 11, 12, 13, 16, 17, 18, 19, 20] u v ∧ r.toInt = (u.1 4).toInt ∧ (v.1 4).toInt = (u.1 4).toInt + 1 ∧ 0 ≤ r.toInt) := by
  have lm1 : (-1 : Int32).toInt = -1 := by decide
  have l0 : (0 : Int32).toInt = 0 := by decide
  have l1 : (1 : Int32).toInt = 1 := by decide
  have l2 : (2 : Int32).toInt = 2 := by decide
  have l4 : (4 : Int32).toInt = 4 := by decide
  have l5 : (5 : Int32).toInt = 5 := by decide
  have l6 : (6 : Int32).toInt = 6 := by decide
  have l9 : (9 : Int32).toInt = 9 := by decide
  have l28 : (28 : Int32).toInt = 28 := by decide
  have l48 : (48 : Int32).toInt = 48 := by decide
  have l108 : (108 : Int32).toInt = 108 := by decide
  have l198000 : (198000 : Int32).toInt = 198000 := by decide
  rw [mM_SqlReaderModel_constant_J119]
  have T := IT_tok (IP_IT I) x1
  refine okM_eq (fun c_1 c_1' => ?_) (fun c_1 => ?_)
  · refine okM_gd (inb_of (by have B_2 := IP_p I; omega) (by have B_3 := IP_p I; omega)) ?_
    try have e_4 : ((ga u 2 x1) + 1 : Int32).toInt = ((ga u 2 x1) : Int32).toInt + (1 : Int32).toInt := by have B_5 := IP_p I; exact add_i (by omega) (by omega)
    refine okM_gd (inb_of (by have B_6 := IP_p I; omega) (by have B_7 := IP_p I; omega)) ?_
    try have e_8 : ((ga u 0 ((ga u 2 x1) + 1)) - 48 : Int32).toInt = ((ga u 0 ((ga u 2 x1) + 1)) : Int32).toInt - (48 : Int32).toInt := by have B_9 := IP_p I; exact sub_i (by omega) (by omega)
    refine okM_mono (kP_SqlReaderModel_constant_J171 I (by have FUe : FU = 100000 := rfl; have B_10 := IP_p I; omega) (by have FUe : FU = 100000 := rfl; have B_11 := IP_p I; omega) (by have FUe : FU = 100000 := rfl; have B_12 := IP_p I; omega) (by have FUe : FU = 100000 := rfl; have B_13 := IP_p I; omega) (by have FUe : FU = 100000 := rfl; have B_14 := IP_p I; omega) (by have FUe : FU = 100000 := rfl; have B_15 := IP_p I; omega) (by have FUe : FU = 100000 := rfl; have B_16 := IP_p I; omega) (by have FUe : FU = 100000 := rfl; have B_17 := IP_p I; omega) (by have FUe : FU = 100000 := rfl; have B_18 := IP_p I; omega)) (fun r_20 u_21 z_19 => ?_)
    obtain ⟨I_u_21, G_u_21, p_22, p_23, p_24⟩ := z_19
    have F_u_21 : Fr [4, 5, 28] [10, 11, 12, 13, 16, 17, 18, 19, 20] u u_21 := Fr_tr (Fr_rfl u) G_u_21 rfl rfl
    have g_25 : (u_21.1 1).toInt = (u.1 1).toInt := by rw [G_u_21.1 1 rfl]
    have g_26 : (u_21.1 2).toInt = (u.1 2).toInt := by rw [G_u_21.1 2 rfl]
    exact ⟨I_u_21, F_u_21, (by have B_27 := IP_p I; omega), (by have B_28 := IP_p I_u_21; have B_29 := IP_p I; omega), (by omega)⟩
  · refine okM_eq (fun c_30 c_30' => ?_) (fun c_30 => ?_)
    · refine okM_eq (fun c_31 c_31' => ?_) (fun c_31 => ?_)
      · refine okM_mono (kP_SqlReaderModel_constant_J171 I (by have FUe : FU = 100000 := rfl; have B_32 := IP_p I; omega) (by have FUe : FU = 100000 := rfl; have B_33 := IP_p I; omega) (by have FUe : FU = 100000 := rfl; have B_34 := IP_p I; omega) (by have FUe : FU = 100000 := rfl; have B_35 := IP_p I; omega) (by have FUe : FU = 100000 := rfl; have B_36 := IP_p I; omega) (by have FUe : FU = 100000 := rfl; have B_37 := IP_p I; omega) (by have FUe : FU = 100000 := rfl; have B_38 := IP_p I; omega) (by have FUe : FU = 100000 := rfl; have B_39 := IP_p I; omega) (by have FUe : FU = 100000 := rfl; have B_40 := IP_p I; omega)) (fun r_42 u_43 z_41 => ?_)
        obtain ⟨I_u_43, G_u_43, p_44, p_45, p_46⟩ := z_41
        have F_u_43 : Fr [4, 5, 28] [10, 11, 12, 13, 16, 17, 18, 19, 20] u u_43 := Fr_tr (Fr_rfl u) G_u_43 rfl rfl
        have g_47 : (u_43.1 1).toInt = (u.1 1).toInt := by rw [G_u_43.1 1 rfl]
        have g_48 : (u_43.1 2).toInt = (u.1 2).toInt := by rw [G_u_43.1 2 rfl]
        exact ⟨I_u_43, F_u_43, (by have B_49 := IP_p I; omega), (by have B_50 := IP_p I_u_43; have B_51 := IP_p I; omega), (by omega)⟩
      · refine okM_mono (kP_SqlReaderModel_constant_J171 I (by have FUe : FU = 100000 := rfl; have B_52 := IP_p I; omega) (by have FUe : FU = 100000 := rfl; have B_53 := IP_p I; omega) (by have FUe : FU = 100000 := rfl; have B_54 := IP_p I; omega) (by have FUe : FU = 100000 := rfl; have B_55 := IP_p I; omega) (by have FUe : FU = 100000 := rfl; have B_56 := IP_p I; omega) (by have FUe : FU = 100000 := rfl; have B_57 := IP_p I; omega) (by have FUe : FU = 100000 := rfl; have B_58 := IP_p I; omega) (by have FUe : FU = 100000 := rfl; have B_59 := IP_p I; omega) (by have FUe : FU = 100000 := rfl; have B_60 := IP_p I; omega)) (fun r_62 u_63 z_61 => ?_)
        obtain ⟨I_u_63, G_u_63, p_64, p_65, p_66⟩ := z_61
        have F_u_63 : Fr [4, 5, 28] [10, 11, 12, 13, 16, 17, 18, 19, 20] u u_63 := Fr_tr (Fr_rfl u) G_u_63 rfl rfl
        have g_67 : (u_63.1 1).toInt = (u.1 1).toInt := by rw [G_u_63.1 1 rfl]
        have g_68 : (u_63.1 2).toInt = (u.1 2).toInt := by rw [G_u_63.1 2 rfl]
        exact ⟨I_u_63, F_u_63, (by have B_69 := IP_p I; omega), (by have B_70 := IP_p I_u_63; have B_71 := IP_p I; omega), (by omega)⟩
    · refine okM_bP (kM_SqlReaderModel_is (IP_IW I) (by decide) (by have FUe : FU = 100000 := rfl; have B_73 := IP_p I; omega)) (fun r_74 z_72 => ?_)
      obtain ⟨p_75, p_76, p_77⟩ := z_72
      refine okM_eq (fun c_78 c_78' => ?_) (fun c_78 => ?_)
      · refine okM_eq (fun c_79 c_79' => ?_) (fun c_79 => ?_)
        · refine okM_mono (kP_SqlReaderModel_constant_J171 I (by have FUe : FU = 100000 := rfl; have B_80 := IP_p I; omega) (by have FUe : FU = 100000 := rfl; have B_81 := IP_p I; omega) (by have FUe : FU = 100000 := rfl; have B_82 := IP_p I; omega) (by have FUe : FU = 100000 := rfl; have B_83 := IP_p I; omega) (by have FUe : FU = 100000 := rfl; have B_84 := IP_p I; omega) (by have FUe : FU = 100000 := rfl; have B_85 := IP_p I; omega) (by have FUe : FU = 100000 := rfl; have B_86 := IP_p I; omega) (by have FUe : FU = 100000 := rfl; have B_87 := IP_p I; omega) (by have FUe : FU = 100000 := rfl; have B_88 := IP_p I; omega)) (fun r_90 u_91 z_89 => ?_)
          obtain ⟨I_u_91, G_u_91, p_92, p_93, p_94⟩ := z_89
          have F_u_91 : Fr [4, 5, 28] [10, 11, 12, 13, 16, 17, 18, 19, 20] u u_91 := Fr_tr (Fr_rfl u) G_u_91 rfl rfl
          have g_95 : (u_91.1 1).toInt = (u.1 1).toInt := by rw [G_u_91.1 1 rfl]
          have g_96 : (u_91.1 2).toInt = (u.1 2).toInt := by rw [G_u_91.1 2 rfl]
          exact ⟨I_u_91, F_u_91, (by have B_97 := IP_p I; omega), (by have B_98 := IP_p I_u_91; have B_99 := IP_p I; omega), (by omega)⟩
        · refine okM_mono (kP_SqlReaderModel_constant_J171 I (by have FUe : FU = 100000 := rfl; have B_100 := IP_p I; omega) (by have FUe : FU = 100000 := rfl; have B_101 := IP_p I; omega) (by have FUe : FU = 100000 := rfl; have B_102 := IP_p I; omega) (by have FUe : FU = 100000 := rfl; have B_103 := IP_p I; omega) (by have FUe : FU = 100000 := rfl; have B_104 := IP_p I; omega) (by have FUe : FU = 100000 := rfl; have B_105 := IP_p I; omega) (by have FUe : FU = 100000 := rfl; have B_106 := IP_p I; omega) (by have FUe : FU = 100000 := rfl; have B_107 := IP_p I; omega) (by have FUe : FU = 100000 := rfl; have B_108 := IP_p I; omega)) (fun r_110 u_111 z_109 => ?_)
          obtain ⟨I_u_111, G_u_111, p_112, p_113, p_114⟩ := z_109
          have F_u_111 : Fr [4, 5, 28] [10, 11, 12, 13, 16, 17, 18, 19, 20] u u_111 := Fr_tr (Fr_rfl u) G_u_111 rfl rfl
          have g_115 : (u_111.1 1).toInt = (u.1 1).toInt := by rw [G_u_111.1 1 rfl]
          have g_116 : (u_111.1 2).toInt = (u.1 2).toInt := by rw [G_u_111.1 2 rfl]
          exact ⟨I_u_111, F_u_111, (by have B_117 := IP_p I; omega), (by have B_118 := IP_p I_u_111; have B_119 := IP_p I; omega), (by omega)⟩
      · refine okM_mono (kP_SqlReaderModel_constant_J171 I (by have FUe : FU = 100000 := rfl; have B_120 := IP_p I; omega) (by have FUe : FU = 100000 := rfl; have B_121 := IP_p I; omega) (by have FUe : FU = 100000 := rfl; have B_122 := IP_p I; omega) (by have FUe : FU = 100000 := rfl; have B_123 := IP_p I; omega) (by have FUe : FU = 100000 := rfl; have B_124 := IP_p I; omega) (by have FUe : FU = 100000 := rfl; have B_125 := IP_p I; omega) (by have FUe : FU = 100000 := rfl; have B_126 := IP_p I; omega) (by have FUe : FU = 100000 := rfl; have B_127 := IP_p I; omega) (by have FUe : FU = 100000 := rfl; have B_128 := IP_p I; omega)) (fun r_130 u_131 z_129 => ?_)
        obtain ⟨I_u_131, G_u_131, p_132, p_133, p_134⟩ := z_129
        have F_u_131 : Fr [4, 5, 28] [10, 11, 12, 13, 16, 17, 18, 19, 20] u u_131 := Fr_tr (Fr_rfl u) G_u_131 rfl rfl
        have g_135 : (u_131.1 1).toInt = (u.1 1).toInt := by rw [G_u_131.1 1 rfl]
        have g_136 : (u_131.1 2).toInt = (u.1 2).toInt := by rw [G_u_131.1 2 rfl]
        exact ⟨I_u_131, F_u_131, (by have B_137 := IP_p I; omega), (by have B_138 := IP_p I_u_131; have B_139 := IP_p I; omega), (by omega)⟩
theorem kP_SqlReaderModel_constant_J78 {x1 : Int32} {x2 : Int32} {x3 : Int32} {s1 : Int32} {u : St} (I : IP u) (h0 : 0 ≤ x1.toInt) (h1 : x1.toInt < (u.1 1).toInt) (h2 : x2.toInt = (ga u 1 x1).toInt) (h3 : (u.1 4).toInt ≤ 198000) (h4 : 0 ≤ s1.toInt) (h5 : s1.toInt ≤ 1) (h6 : (u.1 2).toInt ≤ s1.toInt) : okM (mM_SqlReaderModel_constant_J78 x1 x2 x3 s1 u) (fun r v => IP v ∧ Fr [2, 4, 5, 28] [10, 11, 12, 13, 16, 17, 18, 19, 20] u v ∧ r.toInt = (u.1 4).toInt ∧ (v.1 4).toInt = (u.1 4).toInt + 1 ∧ 0 ≤ r.toInt ∧ (u.1 2).toInt ≤ (v.1 2).toInt) := by
  have l0 : (0 : Int32).toInt = 0 := by decide
  have l1 : (1 : Int32).toInt = 1 := by decide
  have l2 : (2 : Int32).toInt = 2 := by decide
  have l3 : (3 : Int32).toInt = 3 := by decide
  have l4 : (4 : Int32).toInt = 4 := by decide
  have l5 : (5 : Int32).toInt = 5 := by decide
  have l6 : (6 : Int32).toInt = 6 := by decide
  have l28 : (28 : Int32).toInt = 28 := by decide
  have l198000 : (198000 : Int32).toInt = 198000 := by decide
  rw [mM_SqlReaderModel_constant_J78]
  refine okM_gd (zb_of (by omega) (by omega)) ?_
  refine okM_seq (fun u_2 h_1 => ?_)
  have I_u_2 : IP u_2 := by rw [h_1]; exact IP_bad I (by have B_3 := IP_b I; omega) (by have B_4 := IP_b I; omega) (by have B_5 := IP_b I; omega)
  have F_u_2 : Fr [2, 4, 5, 28] [10, 11, 12, 13, 16, 17, 18, 19, 20] u u_2 := by rw [h_1]; exact Fr_ss (Fr_rfl u) rfl rfl
  have g_6 : (ga u_2 1 x1).toInt = (ga u 1 x1).toInt := by rw [h_1]; rfl
  have g_7 : (u_2.1 2).toInt = (s1 : Int32).toInt := by rw [h_1]; rfl
  have g_8 : (u_2.1 1).toInt = (u.1 1).toInt := by rw [h_1]; rfl
  have g_9 : (u_2.1 4).toInt = (u.1 4).toInt := by rw [h_1]; rfl
  refine okM_eq (fun c_10 c_10' => ?_) (fun c_10 => ?_)
  · refine okM_mono (kP_SqlReaderModel_constant_J119 I_u_2 (by have FUe : FU = 100000 := rfl; have B_11 := IP_p I_u_2; have B_12 := IP_p I; omega) (by have FUe : FU = 100000 := rfl; have B_13 := IP_p I_u_2; have B_14 := IP_p I; omega) (by have FUe : FU = 100000 := rfl; have B_15 := IP_p I_u_2; have B_16 := IP_p I; omega) (by have FUe : FU = 100000 := rfl; have B_17 := IP_p I_u_2; have B_18 := IP_p I; omega) (by have FUe : FU = 100000 := rfl; have B_19 := IP_p I_u_2; have B_20 := IP_p I; omega) (by have FUe : FU = 100000 := rfl; have B_21 := IP_p I_u_2; have B_22 := IP_p I; omega) (by have FUe : FU = 100000 := rfl; have B_23 := IP_p I_u_2; have B_24 := IP_p I; omega) (by have FUe : FU = 100000 := rfl; have B_25 := IP_p I_u_2; have B_26 := IP_p I; omega) (by have FUe : FU = 100000 := rfl; have B_27 := IP_p I_u_2; have B_28 := IP_p I; omega)) (fun r_30 u_31 z_29 => ?_)
    obtain ⟨I_u_31, G_u_31, p_32, p_33, p_34⟩ := z_29
    have F_u_31 : Fr [2, 4, 5, 28] [10, 11, 12, 13, 16, 17, 18, 19, 20] u u_31 := Fr_tr F_u_2 G_u_31 rfl rfl
    have g_35 : (u_31.1 1).toInt = (u_2.1 1).toInt := by rw [G_u_31.1 1 rfl]
    have g_36 : (u_31.1 2).toInt = (u_2.1 2).toInt := by rw [G_u_31.1 2 rfl]
    have g_37 : (ga u_31 1 x1).toInt = (ga u_2 1 x1).toInt := by show (u_31.2.1 1 _).toInt = _; rw [G_u_31.2.1 1 rfl]; rfl
    exact ⟨I_u_31, F_u_31, (by have B_38 := IP_p I; omega), (by have B_39 := IP_p I_u_31; have B_40 := IP_p I; omega), (by omega), (by have B_41 := IP_p I; have B_42 := IP_p I_u_31; omega)⟩
  · refine okM_eq (fun c_43 c_43' => ?_) (fun c_43 => ?_)
    · refine okM_mono (kP_SqlReaderModel_constant_J119 I_u_2 (by have FUe : FU = 100000 := rfl; have B_44 := IP_p I_u_2; have B_45 := IP_p I; omega) (by have FUe : FU = 100000 := rfl; have B_46 := IP_p I_u_2; have B_47 := IP_p I; omega) (by have FUe : FU = 100000 := rfl; have B_48 := IP_p I_u_2; have B_49 := IP_p I; omega) (by have FUe : FU = 100000 := rfl; have B_50 := IP_p I_u_2; have B_51 := IP_p I; omega) (by have FUe : FU = 100000 := rfl; have B_52 := IP_p I_u_2; have B_53 := IP_p I; omega) (by have FUe : FU = 100000 := rfl; have B_54 := IP_p I_u_2; have B_55 := IP_p I; omega) (by have FUe : FU = 100000 := rfl; have B_56 := IP_p I_u_2; have B_57 := IP_p I; omega) (by have FUe : FU = 100000 := rfl; have B_58 := IP_p I_u_2; have B_59 := IP_p I; omega) (by have FUe : FU = 100000 := rfl; have B_60 := IP_p I_u_2; have B_61 := IP_p I; omega)) (fun r_63 u_64 z_62 => ?_)
      obtain ⟨I_u_64, G_u_64, p_65, p_66, p_67⟩ := z_62
      have F_u_64 : Fr [2, 4, 5, 28] [10, 11, 12, 13, 16, 17, 18, 19, 20] u u_64 := Fr_tr F_u_2 G_u_64 rfl rfl
      have g_68 : (u_64.1 1).toInt = (u_2.1 1).toInt := by rw [G_u_64.1 1 rfl]
      have g_69 : (u_64.1 2).toInt = (u_2.1 2).toInt := by rw [G_u_64.1 2 rfl]
      have g_70 : (ga u_64 1 x1).toInt = (ga u_2 1 x1).toInt := by show (u_64.2.1 1 _).toInt = _; rw [G_u_64.2.1 1 rfl]; rfl
      exact ⟨I_u_64, F_u_64, (by have B_71 := IP_p I; omega), (by have B_72 := IP_p I_u_64; have B_73 := IP_p I; omega), (by omega), (by have B_74 := IP_p I; have B_75 := IP_p I_u_64; omega)⟩
    · refine okM_eq (fun c_76 c_76' => ?_) (fun c_76 => ?_)
      · refine okM_mono (kP_SqlReaderModel_constant_J119 I_u_2 (by have FUe : FU = 100000 := rfl; have B_77 := IP_p I_u_2; have B_78 := IP_p I; omega) (by have FUe : FU = 100000 := rfl; have B_79 := IP_p I_u_2; have B_80 := IP_p I; omega) (by have FUe : FU = 100000 := rfl; have B_81 := IP_p I_u_2; have B_82 := IP_p I; omega) (by have FUe : FU = 100000 := rfl; have B_83 := IP_p I_u_2; have B_84 := IP_p I; omega) (by have FUe : FU = 100000 := rfl; have B_85 := IP_p I_u_2; have B_86 := IP_p I; omega) (by have FUe : FU = 100000 := rfl; have B_87 := IP_p I_u_2; have B_88 := IP_p I; omega) (by have FUe : FU = 100000 := rfl; have B_89 := IP_p I_u_2; have B_90 := IP_p I; omega) (by have FUe : FU = 100000 := rfl; have B_91 := IP_p I_u_2; have B_92 := IP_p I; omega) (by have FUe : FU = 100000 := rfl; have B_93 := IP_p I_u_2; have B_94 := IP_p I; omega)) (fun r_96 u_97 z_95 => ?_)
        obtain ⟨I_u_97, G_u_97, p_98, p_99, p_100⟩ := z_95
        have F_u_97 : Fr [2, 4, 5, 28] [10, 11, 12, 13, 16, 17, 18, 19, 20] u u_97 := Fr_tr F_u_2 G_u_97 rfl rfl
        have g_101 : (u_97.1 1).toInt = (u_2.1 1).toInt := by rw [G_u_97.1 1 rfl]
        have g_102 : (u_97.1 2).toInt = (u_2.1 2).toInt := by rw [G_u_97.1 2 rfl]
        have g_103 : (ga u_97 1 x1).toInt = (ga u_2 1 x1).toInt := by show (u_97.2.1 1 _).toInt = _; rw [G_u_97.2.1 1 rfl]; rfl
        exact ⟨I_u_97, F_u_97, (by have B_104 := IP_p I; omega), (by have B_105 := IP_p I_u_97; have B_106 := IP_p I; omega), (by omega), (by have B_107 := IP_p I; have B_108 := IP_p I_u_97; omega)⟩
      · refine okM_eq (fun c_109 c_109' => ?_) (fun c_109 => ?_)
        · refine okM_mono (kP_SqlReaderModel_constant_J119 I_u_2 (by have FUe : FU = 100000 := rfl; have B_110 := IP_p I_u_2; have B_111 := IP_p I; omega) (by have FUe : FU = 100000 := rfl; have B_112 := IP_p I_u_2; have B_113 := IP_p I; omega) (by have FUe : FU = 100000 := rfl; have B_114 := IP_p I_u_2; have B_115 := IP_p I; omega) (by have FUe : FU = 100000 := rfl; have B_116 := IP_p I_u_2; have B_117 := IP_p I; omega) (by have FUe : FU = 100000 := rfl; have B_118 := IP_p I_u_2; have B_119 := IP_p I; omega) (by have FUe : FU = 100000 := rfl; have B_120 := IP_p I_u_2; have B_121 := IP_p I; omega) (by have FUe : FU = 100000 := rfl; have B_122 := IP_p I_u_2; have B_123 := IP_p I; omega) (by have FUe : FU = 100000 := rfl; have B_124 := IP_p I_u_2; have B_125 := IP_p I; omega) (by have FUe : FU = 100000 := rfl; have B_126 := IP_p I_u_2; have B_127 := IP_p I; omega)) (fun r_129 u_130 z_128 => ?_)
          obtain ⟨I_u_130, G_u_130, p_131, p_132, p_133⟩ := z_128
          have F_u_130 : Fr [2, 4, 5, 28] [10, 11, 12, 13, 16, 17, 18, 19, 20] u u_130 := Fr_tr F_u_2 G_u_130 rfl rfl
          have g_134 : (u_130.1 1).toInt = (u_2.1 1).toInt := by rw [G_u_130.1 1 rfl]
          have g_135 : (u_130.1 2).toInt = (u_2.1 2).toInt := by rw [G_u_130.1 2 rfl]
          have g_136 : (ga u_130 1 x1).toInt = (ga u_2 1 x1).toInt := by show (u_130.2.1 1 _).toInt = _; rw [G_u_130.2.1 1 rfl]; rfl
          exact ⟨I_u_130, F_u_130, (by have B_137 := IP_p I; omega), (by have B_138 := IP_p I_u_130; have B_139 := IP_p I; omega), (by omega), (by have B_140 := IP_p I; have B_141 := IP_p I_u_130; omega)⟩
        · refine okM_mono (kP_SqlReaderModel_constant_J119 I_u_2 (by have FUe : FU = 100000 := rfl; have B_142 := IP_p I_u_2; have B_143 := IP_p I; omega) (by have FUe : FU = 100000 := rfl; have B_144 := IP_p I_u_2; have B_145 := IP_p I; omega) (by have FUe : FU = 100000 := rfl; have B_146 := IP_p I_u_2; have B_147 := IP_p I; omega) (by have FUe : FU = 100000 := rfl; have B_148 := IP_p I_u_2; have B_149 := IP_p I; omega) (by have FUe : FU = 100000 := rfl; have B_150 := IP_p I_u_2; have B_151 := IP_p I; omega) (by have FUe : FU = 100000 := rfl; have B_152 := IP_p I_u_2; have B_153 := IP_p I; omega) (by have FUe : FU = 100000 := rfl; have B_154 := IP_p I_u_2; have B_155 := IP_p I; omega) (by have FUe : FU = 100000 := rfl; have B_156 := IP_p I_u_2; have B_157 := IP_p I; omega) (by have FUe : FU = 100000 := rfl; have B_158 := IP_p I_u_2; have B_159 := IP_p I; omega)) (fun r_161 u_162 z_160 => ?_)
          obtain ⟨I_u_162, G_u_162, p_163, p_164, p_165⟩ := z_160
          have F_u_162 : Fr [2, 4, 5, 28] [10, 11, 12, 13, 16, 17, 18, 19, 20] u u_162 := Fr_tr F_u_2 G_u_162 rfl rfl
          have g_166 : (u_162.1 1).toInt = (u_2.1 1).toInt := by rw [G_u_162.1 1 rfl]
          have g_167 : (u_162.1 2).toInt = (u_2.1 2).toInt := by rw [G_u_162.1 2 rfl]
          have g_168 : (ga u_162 1 x1).toInt = (ga u_2 1 x1).toInt := by show (u_162.2.1 1 _).toInt = _; rw [G_u_162.2.1 1 rfl]; rfl
          exact ⟨I_u_162, F_u_162, (by have B_169 := IP_p I; omega), (by have B_170 := IP_p I_u_162; have B_171 := IP_p I; omega), (by omega), (by have B_172 := IP_p I; have B_173 := IP_p I_u_162; omega)⟩
theorem kP_SqlReaderModel_constant {x1 : Int32} {u : St} (I : IP u) (h0 : 0 ≤ x1.toInt) (h1 : x1.toInt < (u.1 1).toInt) (h2 : (u.1 4).toInt ≤ 198000) : okM (mM_SqlReaderModel_constant x1 u) (fun r v => IP v ∧ Fr [2, 4, 5, 28] [10, 11, 12, 13, 16, 17, 18, 19, 20] u v ∧ r.toInt = (u.1 4).toInt ∧ (v.1 4).toInt = (u.1 4).toInt + 1 ∧ 0 ≤ r.toInt ∧ (u.1 2).toInt ≤ (v.1 2).toInt) := by
  have l0 : (0 : Int32).toInt = 0 := by decide
  have l1 : (1 : Int32).toInt = 1 := by decide
  have l2 : (2 : Int32).toInt = 2 := by decide
  have l3 : (3 : Int32).toInt = 3 := by decide
  have l4 : (4 : Int32).toInt = 4 := by decide
  have l5 : (5 : Int32).toInt = 5 := by decide
  have l100 : (100 : Int32).toInt = 100 := by decide
  have l108 : (108 : Int32).toInt = 108 := by decide
  have l109 : (109 : Int32).toInt = 109 := by decide
  have l198000 : (198000 : Int32).toInt = 198000 := by decide
  rw [mM_SqlReaderModel_constant]
  refine okM_gd (inb_of (by have B_1 := IP_p I; omega) (by have B_2 := IP_p I; omega)) ?_
  refine okM_seq (fun y_4 h_3 => ?_)
  have h_3' : y_4.toInt = ((ga u 1 x1) : Int32).toInt := by rw [h_3]
  refine okM_bP (kM_SqlReaderModel_is (IP_IW I) (by decide) (by have FUe : FU = 100000 := rfl; have B_6 := IP_p I; omega)) (fun r_7 z_5 => ?_)
  obtain ⟨p_8, p_9, p_10⟩ := z_5
  refine okM_eq (fun c_11 c_11' => ?_) (fun c_11 => ?_)
  · refine okM_bP (kM_SqlReaderModel_is (IP_IW I) (by decide) (by have FUe : FU = 100000 := rfl; have B_13 := IP_p I; omega)) (fun r_14 z_12 => ?_)
    obtain ⟨p_15, p_16, p_17⟩ := z_12
    refine okM_eq (fun c_18 c_18' => ?_) (fun c_18 => ?_)
    · rw [mM_SqlReaderModel_constant_J34]
      refine okM_eq (fun c_19 c_19' => ?_) (fun c_19 => ?_)
      · refine okM_eq (fun c_20 c_20' => ?_) (fun c_20 => ?_)
        · refine okM_mono (kP_SqlReaderModel_constant_J78 I (by have FUe : FU = 100000 := rfl; have B_21 := IP_p I; omega) (by have FUe : FU = 100000 := rfl; have B_22 := IP_p I; omega) (by have FUe : FU = 100000 := rfl; have B_23 := IP_p I; omega) (by have FUe : FU = 100000 := rfl; have B_24 := IP_p I; omega) (by have FUe : FU = 100000 := rfl; have B_25 := IP_p I; omega) (by have FUe : FU = 100000 := rfl; have B_26 := IP_p I; omega) (by have FUe : FU = 100000 := rfl; have B_27 := IP_p I; omega)) (fun r_29 u_30 z_28 => ?_)
          obtain ⟨I_u_30, G_u_30, p_31, p_32, p_33, p_34⟩ := z_28
          have F_u_30 : Fr [2, 4, 5, 28] [10, 11, 12, 13, 16, 17, 18, 19, 20] u u_30 := Fr_tr (Fr_rfl u) G_u_30 rfl rfl
          have g_35 : (u_30.1 1).toInt = (u.1 1).toInt := by rw [G_u_30.1 1 rfl]
          exact ⟨I_u_30, F_u_30, (by have B_36 := IP_p I; omega), (by have B_37 := IP_p I_u_30; have B_38 := IP_p I; omega), (by omega), (by have B_39 := IP_p I; have B_40 := IP_p I_u_30; omega)⟩
        · refine okM_eq (fun c_41 c_41' => ?_) (fun c_41 => ?_)
          · refine okM_mono (kP_SqlReaderModel_constant_J78 I (by have FUe : FU = 100000 := rfl; have B_42 := IP_p I; omega) (by have FUe : FU = 100000 := rfl; have B_43 := IP_p I; omega) (by have FUe : FU = 100000 := rfl; have B_44 := IP_p I; omega) (by have FUe : FU = 100000 := rfl; have B_45 := IP_p I; omega) (by have FUe : FU = 100000 := rfl; have B_46 := IP_p I; omega) (by have FUe : FU = 100000 := rfl; have B_47 := IP_p I; omega) (by have FUe : FU = 100000 := rfl; have B_48 := IP_p I; omega)) (fun r_50 u_51 z_49 => ?_)
            obtain ⟨I_u_51, G_u_51, p_52, p_53, p_54, p_55⟩ := z_49
            have F_u_51 : Fr [2, 4, 5, 28] [10, 11, 12, 13, 16, 17, 18, 19, 20] u u_51 := Fr_tr (Fr_rfl u) G_u_51 rfl rfl
            have g_56 : (u_51.1 1).toInt = (u.1 1).toInt := by rw [G_u_51.1 1 rfl]
            exact ⟨I_u_51, F_u_51, (by have B_57 := IP_p I; omega), (by have B_58 := IP_p I_u_51; have B_59 := IP_p I; omega), (by omega), (by have B_60 := IP_p I; have B_61 := IP_p I_u_51; omega)⟩
          · refine okM_eq (fun c_62 c_62' => ?_) (fun c_62 => ?_)
            · refine okM_mono (kP_SqlReaderModel_constant_J78 I (by have FUe : FU = 100000 := rfl; have B_63 := IP_p I; omega) (by have FUe : FU = 100000 := rfl; have B_64 := IP_p I; omega) (by have FUe : FU = 100000 := rfl; have B_65 := IP_p I; omega) (by have FUe : FU = 100000 := rfl; have B_66 := IP_p I; omega) (by have FUe : FU = 100000 := rfl; have B_67 := IP_p I; omega) (by have FUe : FU = 100000 := rfl; have B_68 := IP_p I; omega) (by have FUe : FU = 100000 := rfl; have B_69 := IP_p I; omega)) (fun r_71 u_72 z_70 => ?_)
              obtain ⟨I_u_72, G_u_72, p_73, p_74, p_75, p_76⟩ := z_70
              have F_u_72 : Fr [2, 4, 5, 28] [10, 11, 12, 13, 16, 17, 18, 19, 20] u u_72 := Fr_tr (Fr_rfl u) G_u_72 rfl rfl
              have g_77 : (u_72.1 1).toInt = (u.1 1).toInt := by rw [G_u_72.1 1 rfl]
              exact ⟨I_u_72, F_u_72, (by have B_78 := IP_p I; omega), (by have B_79 := IP_p I_u_72; have B_80 := IP_p I; omega), (by omega), (by have B_81 := IP_p I; have B_82 := IP_p I_u_72; omega)⟩
            · refine okM_pos (by decide) ?_
              refine okM_bP (kM_SqlReaderModel_is (IP_IW I) (by decide) (by have FUe : FU = 100000 := rfl; have B_84 := IP_p I; omega)) (fun r_85 z_83 => ?_)
              obtain ⟨p_86, p_87, p_88⟩ := z_83
              refine okM_eq (fun c_89 c_89' => ?_) (fun c_89 => ?_)
              · refine okM_mono (kP_SqlReaderModel_constant_J78 I (by have FUe : FU = 100000 := rfl; have B_90 := IP_p I; omega) (by have FUe : FU = 100000 := rfl; have B_91 := IP_p I; omega) (by have FUe : FU = 100000 := rfl; have B_92 := IP_p I; omega) (by have FUe : FU = 100000 := rfl; have B_93 := IP_p I; omega) (by have FUe : FU = 100000 := rfl; have B_94 := IP_p I; omega) (by have FUe : FU = 100000 := rfl; have B_95 := IP_p I; omega) (by have FUe : FU = 100000 := rfl; have B_96 := IP_p I; omega)) (fun r_98 u_99 z_97 => ?_)
                obtain ⟨I_u_99, G_u_99, p_100, p_101, p_102, p_103⟩ := z_97
                have F_u_99 : Fr [2, 4, 5, 28] [10, 11, 12, 13, 16, 17, 18, 19, 20] u u_99 := Fr_tr (Fr_rfl u) G_u_99 rfl rfl
                have g_104 : (u_99.1 1).toInt = (u.1 1).toInt := by rw [G_u_99.1 1 rfl]
                exact ⟨I_u_99, F_u_99, (by have B_105 := IP_p I; omega), (by have B_106 := IP_p I_u_99; have B_107 := IP_p I; omega), (by omega), (by have B_108 := IP_p I; have B_109 := IP_p I_u_99; omega)⟩
              · refine okM_mono (kP_SqlReaderModel_constant_J78 I (by have FUe : FU = 100000 := rfl; have B_110 := IP_p I; omega) (by have FUe : FU = 100000 := rfl; have B_111 := IP_p I; omega) (by have FUe : FU = 100000 := rfl; have B_112 := IP_p I; omega) (by have FUe : FU = 100000 := rfl; have B_113 := IP_p I; omega) (by have FUe : FU = 100000 := rfl; have B_114 := IP_p I; omega) (by have FUe : FU = 100000 := rfl; have B_115 := IP_p I; omega) (by have FUe : FU = 100000 := rfl; have B_116 := IP_p I; omega)) (fun r_118 u_119 z_117 => ?_)
                obtain ⟨I_u_119, G_u_119, p_120, p_121, p_122, p_123⟩ := z_117
                have F_u_119 : Fr [2, 4, 5, 28] [10, 11, 12, 13, 16, 17, 18, 19, 20] u u_119 := Fr_tr (Fr_rfl u) G_u_119 rfl rfl
                have g_124 : (u_119.1 1).toInt = (u.1 1).toInt := by rw [G_u_119.1 1 rfl]
                exact ⟨I_u_119, F_u_119, (by have B_125 := IP_p I; omega), (by have B_126 := IP_p I_u_119; have B_127 := IP_p I; omega), (by omega), (by have B_128 := IP_p I; have B_129 := IP_p I_u_119; omega)⟩
      · refine okM_mono (kP_SqlReaderModel_constant_J78 I (by have FUe : FU = 100000 := rfl; have B_130 := IP_p I; omega) (by have FUe : FU = 100000 := rfl; have B_131 := IP_p I; omega) (by have FUe : FU = 100000 := rfl; have B_132 := IP_p I; omega) (by have FUe : FU = 100000 := rfl; have B_133 := IP_p I; omega) (by have FUe : FU = 100000 := rfl; have B_134 := IP_p I; omega) (by have FUe : FU = 100000 := rfl; have B_135 := IP_p I; omega) (by have FUe : FU = 100000 := rfl; have B_136 := IP_p I; omega)) (fun r_138 u_139 z_137 => ?_)
        obtain ⟨I_u_139, G_u_139, p_140, p_141, p_142, p_143⟩ := z_137
        have F_u_139 : Fr [2, 4, 5, 28] [10, 11, 12, 13, 16, 17, 18, 19, 20] u u_139 := Fr_tr (Fr_rfl u) G_u_139 rfl rfl
        have g_144 : (u_139.1 1).toInt = (u.1 1).toInt := by rw [G_u_139.1 1 rfl]
        exact ⟨I_u_139, F_u_139, (by have B_145 := IP_p I; omega), (by have B_146 := IP_p I_u_139; have B_147 := IP_p I; omega), (by omega), (by have B_148 := IP_p I; have B_149 := IP_p I_u_139; omega)⟩
    · rw [mM_SqlReaderModel_constant_J34]
      refine okM_eq (fun c_150 c_150' => ?_) (fun c_150 => ?_)
      · refine okM_eq (fun c_151 c_151' => ?_) (fun c_151 => ?_)
        · refine okM_mono (kP_SqlReaderModel_constant_J78 I (by have FUe : FU = 100000 := rfl; have B_152 := IP_p I; omega) (by have FUe : FU = 100000 := rfl; have B_153 := IP_p I; omega) (by have FUe : FU = 100000 := rfl; have B_154 := IP_p I; omega) (by have FUe : FU = 100000 := rfl; have B_155 := IP_p I; omega) (by have FUe : FU = 100000 := rfl; have B_156 := IP_p I; omega) (by have FUe : FU = 100000 := rfl; have B_157 := IP_p I; omega) (by have FUe : FU = 100000 := rfl; have B_158 := IP_p I; omega)) (fun r_160 u_161 z_159 => ?_)
          obtain ⟨I_u_161, G_u_161, p_162, p_163, p_164, p_165⟩ := z_159
          have F_u_161 : Fr [2, 4, 5, 28] [10, 11, 12, 13, 16, 17, 18, 19, 20] u u_161 := Fr_tr (Fr_rfl u) G_u_161 rfl rfl
          have g_166 : (u_161.1 1).toInt = (u.1 1).toInt := by rw [G_u_161.1 1 rfl]
          exact ⟨I_u_161, F_u_161, (by have B_167 := IP_p I; omega), (by have B_168 := IP_p I_u_161; have B_169 := IP_p I; omega), (by omega), (by have B_170 := IP_p I; have B_171 := IP_p I_u_161; omega)⟩
        · refine okM_eq (fun c_172 c_172' => ?_) (fun c_172 => ?_)
          · refine okM_mono (kP_SqlReaderModel_constant_J78 I (by have FUe : FU = 100000 := rfl; have B_173 := IP_p I; omega) (by have FUe : FU = 100000 := rfl; have B_174 := IP_p I; omega) (by have FUe : FU = 100000 := rfl; have B_175 := IP_p I; omega) (by have FUe : FU = 100000 := rfl; have B_176 := IP_p I; omega) (by have FUe : FU = 100000 := rfl; have B_177 := IP_p I; omega) (by have FUe : FU = 100000 := rfl; have B_178 := IP_p I; omega) (by have FUe : FU = 100000 := rfl; have B_179 := IP_p I; omega)) (fun r_181 u_182 z_180 => ?_)
            obtain ⟨I_u_182, G_u_182, p_183, p_184, p_185, p_186⟩ := z_180
            have F_u_182 : Fr [2, 4, 5, 28] [10, 11, 12, 13, 16, 17, 18, 19, 20] u u_182 := Fr_tr (Fr_rfl u) G_u_182 rfl rfl
            have g_187 : (u_182.1 1).toInt = (u.1 1).toInt := by rw [G_u_182.1 1 rfl]
            exact ⟨I_u_182, F_u_182, (by have B_188 := IP_p I; omega), (by have B_189 := IP_p I_u_182; have B_190 := IP_p I; omega), (by omega), (by have B_191 := IP_p I; have B_192 := IP_p I_u_182; omega)⟩
          · refine okM_eq (fun c_193 c_193' => ?_) (fun c_193 => ?_)
            · refine okM_mono (kP_SqlReaderModel_constant_J78 I (by have FUe : FU = 100000 := rfl; have B_194 := IP_p I; omega) (by have FUe : FU = 100000 := rfl; have B_195 := IP_p I; omega) (by have FUe : FU = 100000 := rfl; have B_196 := IP_p I; omega) (by have FUe : FU = 100000 := rfl; have B_197 := IP_p I; omega) (by have FUe : FU = 100000 := rfl; have B_198 := IP_p I; omega) (by have FUe : FU = 100000 := rfl; have B_199 := IP_p I; omega) (by have FUe : FU = 100000 := rfl; have B_200 := IP_p I; omega)) (fun r_202 u_203 z_201 => ?_)
              obtain ⟨I_u_203, G_u_203, p_204, p_205, p_206, p_207⟩ := z_201
              have F_u_203 : Fr [2, 4, 5, 28] [10, 11, 12, 13, 16, 17, 18, 19, 20] u u_203 := Fr_tr (Fr_rfl u) G_u_203 rfl rfl
              have g_208 : (u_203.1 1).toInt = (u.1 1).toInt := by rw [G_u_203.1 1 rfl]
              exact ⟨I_u_203, F_u_203, (by have B_209 := IP_p I; omega), (by have B_210 := IP_p I_u_203; have B_211 := IP_p I; omega), (by omega), (by have B_212 := IP_p I; have B_213 := IP_p I_u_203; omega)⟩
            · refine okM_neg (by decide) ?_
              refine okM_mono (kP_SqlReaderModel_constant_J78 I (by have FUe : FU = 100000 := rfl; have B_214 := IP_p I; omega) (by have FUe : FU = 100000 := rfl; have B_215 := IP_p I; omega) (by have FUe : FU = 100000 := rfl; have B_216 := IP_p I; omega) (by have FUe : FU = 100000 := rfl; have B_217 := IP_p I; omega) (by have FUe : FU = 100000 := rfl; have B_218 := IP_p I; omega) (by have FUe : FU = 100000 := rfl; have B_219 := IP_p I; omega) (by have FUe : FU = 100000 := rfl; have B_220 := IP_p I; omega)) (fun r_222 u_223 z_221 => ?_)
              obtain ⟨I_u_223, G_u_223, p_224, p_225, p_226, p_227⟩ := z_221
              have F_u_223 : Fr [2, 4, 5, 28] [10, 11, 12, 13, 16, 17, 18, 19, 20] u u_223 := Fr_tr (Fr_rfl u) G_u_223 rfl rfl
              have g_228 : (u_223.1 1).toInt = (u.1 1).toInt := by rw [G_u_223.1 1 rfl]
              exact ⟨I_u_223, F_u_223, (by have B_229 := IP_p I; omega), (by have B_230 := IP_p I_u_223; have B_231 := IP_p I; omega), (by omega), (by have B_232 := IP_p I; have B_233 := IP_p I_u_223; omega)⟩
      · refine okM_mono (kP_SqlReaderModel_constant_J78 I (by have FUe : FU = 100000 := rfl; have B_234 := IP_p I; omega) (by have FUe : FU = 100000 := rfl; have B_235 := IP_p I; omega) (by have FUe : FU = 100000 := rfl; have B_236 := IP_p I; omega) (by have FUe : FU = 100000 := rfl; have B_237 := IP_p I; omega) (by have FUe : FU = 100000 := rfl; have B_238 := IP_p I; omega) (by have FUe : FU = 100000 := rfl; have B_239 := IP_p I; omega) (by have FUe : FU = 100000 := rfl; have B_240 := IP_p I; omega)) (fun r_242 u_243 z_241 => ?_)
        obtain ⟨I_u_243, G_u_243, p_244, p_245, p_246, p_247⟩ := z_241
        have F_u_243 : Fr [2, 4, 5, 28] [10, 11, 12, 13, 16, 17, 18, 19, 20] u u_243 := Fr_tr (Fr_rfl u) G_u_243 rfl rfl
        have g_248 : (u_243.1 1).toInt = (u.1 1).toInt := by rw [G_u_243.1 1 rfl]
        exact ⟨I_u_243, F_u_243, (by have B_249 := IP_p I; omega), (by have B_250 := IP_p I_u_243; have B_251 := IP_p I; omega), (by omega), (by have B_252 := IP_p I; have B_253 := IP_p I_u_243; omega)⟩
  · rw [mM_SqlReaderModel_constant_J34]
    refine okM_eq (fun c_254 c_254' => ?_) (fun c_254 => ?_)
    · refine okM_eq (fun c_255 c_255' => ?_) (fun c_255 => ?_)
      · refine okM_mono (kP_SqlReaderModel_constant_J78 I (by have FUe : FU = 100000 := rfl; have B_256 := IP_p I; omega) (by have FUe : FU = 100000 := rfl; have B_257 := IP_p I; omega) (by have FUe : FU = 100000 := rfl; have B_258 := IP_p I; omega) (by have FUe : FU = 100000 := rfl; have B_259 := IP_p I; omega) (by have FUe : FU = 100000 := rfl; have B_260 := IP_p I; omega) (by have FUe : FU = 100000 := rfl; have B_261 := IP_p I; omega) (by have FUe : FU = 100000 := rfl; have B_262 := IP_p I; omega)) (fun r_264 u_265 z_263 => ?_)
        obtain ⟨I_u_265, G_u_265, p_266, p_267, p_268, p_269⟩ := z_263
        have F_u_265 : Fr [2, 4, 5, 28] [10, 11, 12, 13, 16, 17, 18, 19, 20] u u_265 := Fr_tr (Fr_rfl u) G_u_265 rfl rfl
        have g_270 : (u_265.1 1).toInt = (u.1 1).toInt := by rw [G_u_265.1 1 rfl]
        exact ⟨I_u_265, F_u_265, (by have B_271 := IP_p I; omega), (by have B_272 := IP_p I_u_265; have B_273 := IP_p I; omega), (by omega), (by have B_274 := IP_p I; have B_275 := IP_p I_u_265; omega)⟩
      · refine okM_eq (fun c_276 c_276' => ?_) (fun c_276 => ?_)
        · refine okM_mono (kP_SqlReaderModel_constant_J78 I (by have FUe : FU = 100000 := rfl; have B_277 := IP_p I; omega) (by have FUe : FU = 100000 := rfl; have B_278 := IP_p I; omega) (by have FUe : FU = 100000 := rfl; have B_279 := IP_p I; omega) (by have FUe : FU = 100000 := rfl; have B_280 := IP_p I; omega) (by have FUe : FU = 100000 := rfl; have B_281 := IP_p I; omega) (by have FUe : FU = 100000 := rfl; have B_282 := IP_p I; omega) (by have FUe : FU = 100000 := rfl; have B_283 := IP_p I; omega)) (fun r_285 u_286 z_284 => ?_)
          obtain ⟨I_u_286, G_u_286, p_287, p_288, p_289, p_290⟩ := z_284
          have F_u_286 : Fr [2, 4, 5, 28] [10, 11, 12, 13, 16, 17, 18, 19, 20] u u_286 := Fr_tr (Fr_rfl u) G_u_286 rfl rfl
          have g_291 : (u_286.1 1).toInt = (u.1 1).toInt := by rw [G_u_286.1 1 rfl]
          exact ⟨I_u_286, F_u_286, (by have B_292 := IP_p I; omega), (by have B_293 := IP_p I_u_286; have B_294 := IP_p I; omega), (by omega), (by have B_295 := IP_p I; have B_296 := IP_p I_u_286; omega)⟩
        · refine okM_eq (fun c_297 c_297' => ?_) (fun c_297 => ?_)
          · refine okM_mono (kP_SqlReaderModel_constant_J78 I (by have FUe : FU = 100000 := rfl; have B_298 := IP_p I; omega) (by have FUe : FU = 100000 := rfl; have B_299 := IP_p I; omega) (by have FUe : FU = 100000 := rfl; have B_300 := IP_p I; omega) (by have FUe : FU = 100000 := rfl; have B_301 := IP_p I; omega) (by have FUe : FU = 100000 := rfl; have B_302 := IP_p I; omega) (by have FUe : FU = 100000 := rfl; have B_303 := IP_p I; omega) (by have FUe : FU = 100000 := rfl; have B_304 := IP_p I; omega)) (fun r_306 u_307 z_305 => ?_)
            obtain ⟨I_u_307, G_u_307, p_308, p_309, p_310, p_311⟩ := z_305
            have F_u_307 : Fr [2, 4, 5, 28] [10, 11, 12, 13, 16, 17, 18, 19, 20] u u_307 := Fr_tr (Fr_rfl u) G_u_307 rfl rfl
            have g_312 : (u_307.1 1).toInt = (u.1 1).toInt := by rw [G_u_307.1 1 rfl]
            exact ⟨I_u_307, F_u_307, (by have B_313 := IP_p I; omega), (by have B_314 := IP_p I_u_307; have B_315 := IP_p I; omega), (by omega), (by have B_316 := IP_p I; have B_317 := IP_p I_u_307; omega)⟩
          · refine okM_neg (by decide) ?_
            refine okM_mono (kP_SqlReaderModel_constant_J78 I (by have FUe : FU = 100000 := rfl; have B_318 := IP_p I; omega) (by have FUe : FU = 100000 := rfl; have B_319 := IP_p I; omega) (by have FUe : FU = 100000 := rfl; have B_320 := IP_p I; omega) (by have FUe : FU = 100000 := rfl; have B_321 := IP_p I; omega) (by have FUe : FU = 100000 := rfl; have B_322 := IP_p I; omega) (by have FUe : FU = 100000 := rfl; have B_323 := IP_p I; omega) (by have FUe : FU = 100000 := rfl; have B_324 := IP_p I; omega)) (fun r_326 u_327 z_325 => ?_)
            obtain ⟨I_u_327, G_u_327, p_328, p_329, p_330, p_331⟩ := z_325
            have F_u_327 : Fr [2, 4, 5, 28] [10, 11, 12, 13, 16, 17, 18, 19, 20] u u_327 := Fr_tr (Fr_rfl u) G_u_327 rfl rfl
            have g_332 : (u_327.1 1).toInt = (u.1 1).toInt := by rw [G_u_327.1 1 rfl]
            exact ⟨I_u_327, F_u_327, (by have B_333 := IP_p I; omega), (by have B_334 := IP_p I_u_327; have B_335 := IP_p I; omega), (by omega), (by have B_336 := IP_p I; have B_337 := IP_p I_u_327; omega)⟩
    · refine okM_mono (kP_SqlReaderModel_constant_J78 I (by have FUe : FU = 100000 := rfl; have B_338 := IP_p I; omega) (by have FUe : FU = 100000 := rfl; have B_339 := IP_p I; omega) (by have FUe : FU = 100000 := rfl; have B_340 := IP_p I; omega) (by have FUe : FU = 100000 := rfl; have B_341 := IP_p I; omega) (by have FUe : FU = 100000 := rfl; have B_342 := IP_p I; omega) (by have FUe : FU = 100000 := rfl; have B_343 := IP_p I; omega) (by have FUe : FU = 100000 := rfl; have B_344 := IP_p I; omega)) (fun r_346 u_347 z_345 => ?_)
      obtain ⟨I_u_347, G_u_347, p_348, p_349, p_350, p_351⟩ := z_345
      have F_u_347 : Fr [2, 4, 5, 28] [10, 11, 12, 13, 16, 17, 18, 19, 20] u u_347 := Fr_tr (Fr_rfl u) G_u_347 rfl rfl
      have g_352 : (u_347.1 1).toInt = (u.1 1).toInt := by rw [G_u_347.1 1 rfl]
      exact ⟨I_u_347, F_u_347, (by have B_353 := IP_p I; omega), (by have B_354 := IP_p I_u_347; have B_355 := IP_p I; omega), (by omega), (by have B_356 := IP_p I; have B_357 := IP_p I_u_347; omega)⟩
set_option maxHeartbeats 20000000 in
theorem kP_SqlReaderModel_chain_J148 {rc : Nat → Int32 → Int32 → Int32 → Int32 → Int32 → Int32 → St → Option (Int32 × St)} {q32 : Int32 → Int32 → Int32 → Int32 → Int32 → Int32 → Int32 → Int32 → Int32 → Int32 → St → Option (Int32 × St)} {m : Nat} (R : RMn rc m) {w : Nat} (hq : ∀ {B : Int} {x1 x3 x4 x5 x6 x7 x8 x9 x10 x11 : Int32} {u : St} (I : IP u) (h0 : 0 ≤ x7.toInt) (h1 : x7.toInt ≤ x11.toInt) (h2 : x11.toInt ≤ x3.toInt + 1) (h3 : x3.toInt ≤ (u.1 1).toInt) (h4 : 0 ≤ x4.toInt) (h5 : x4.toInt ≤ 20) (h6 : 0 ≤ x1.toInt) (h7 : x1.toInt ≤ 6) (h8 : x10.toInt = x1.toInt + 1) (h9 : 18 * (21 - x4.toInt) - 2 * x1.toInt ≤ (m : Int) + 1) (h10 : (u.1 4).toInt ≤ B) (h11 : 100000 ≤ B) (h12 : B + 32 * (x3.toInt - x7.toInt) ≤ 189984) (h13 : x5.toInt < 0 ∨ (u.1 2).toInt = 1 ∨ 200 < (u.1 4).toInt ∨ x5.toInt < (u.1 4).toInt) (h14 : -1 ≤ x5.toInt) (h15 : x11.toInt ≤ x3.toInt ∨ 0 ≤ x5.toInt) (h16 : x5.toInt < 0 ∨ x3.toInt < x11.toInt ∨ (11 ≤ x6.toInt ∧ x6.toInt ≤ 27)) (h17 : x11.toInt ≤ x3.toInt ∨ x5.toInt ≤ (u.1 4).toInt - 1 + 300000 * (u.1 2).toInt) (h18 : x11.toInt ≤ x3.toInt ∨ (u.1 4).toInt - 1 ≤ x5.toInt + 300000 * (u.1 2).toInt) (h19 : x11.toInt ≤ x3.toInt ∨ x7.toInt = x3.toInt + 1) (hm : (2003 - x11.toInt).toNat < w), okM (q32 x1 x3 x4 x5 x6 x7 x8 x9 x10 x11 u) (fun r v => IP v ∧ Fr [2, 4, 5, 28] [10, 11, 12, 13, 14, 15, 16, 17, 18, 19, 20] u v ∧ (u.1 2).toInt ≤ (v.1 2).toInt ∧ ((u.1 4).toInt ≤ (v.1 4).toInt ∨ 200 < (v.1 4).toInt) ∧ r.toInt ≤ (v.1 4).toInt - 1 + 300000 * (v.1 2).toInt ∧ (v.1 4).toInt - 1 ≤ r.toInt + 300000 * (v.1 2).toInt ∧ 0 ≤ r.toInt ∧ ((x5.toInt < 0 ∧ (v.1 4).toInt ≤ B + 32 * (x3.toInt - x7.toInt) + 8) ∨ (0 ≤ x5.toInt ∧ ((v.1 4).toInt ≤ B + 32 * (x3.toInt - x7.toInt) + 9 ∨ (x3.toInt < x7.toInt ∧ (v.1 4).toInt ≤ B)))))) {B : Int} {x1 : Int32} {x3 : Int32} {x4 : Int32} {x5 : Int32} {x6 : Int32} {x7 : Int32} {x8 : Int32} {x9 : Int32} {x10 : Int32} {x11 : Int32} {x13 : Int32} {u : St} (I : IP u) (h0 : 0 ≤ x7.toInt) (h1 : x7.toInt ≤ x11.toInt) (h2 : x11.toInt ≤ x3.toInt + 1) (h3 : x3.toInt ≤ (u.1 1).toInt) (h4 : 0 ≤ x4.toInt) (h5 : x4.toInt ≤ 20) (h6 : 0 ≤ x1.toInt) (h7 : x1.toInt ≤ 6) (h8 : x10.toInt = x1.toInt + 1) (h9 : 18 * (21 - x4.toInt) - 2 * x1.toInt ≤ (m : Int) + 1) (h10 : (u.1 4).toInt ≤ B) (h11 : 100000 ≤ B) (h12 : B + 32 * (x3.toInt - x7.toInt) ≤ 189984) (h13 : x5.toInt < 0 ∨ (u.1 2).toInt = 1 ∨ 200 < (u.1 4).toInt ∨ x5.toInt < (u.1 4).toInt) (h14 : -1 ≤ x5.toInt) (h15 : x11.toInt ≤ x3.toInt ∨ 0 ≤ x5.toInt) (h16 : x5.toInt < 0 ∨ x3.toInt < x11.toInt ∨ (11 ≤ x6.toInt ∧ x6.toInt ≤ 27)) (h17 : x11.toInt ≤ x3.toInt ∨ x5.toInt ≤ (u.1 4).toInt - 1 + 300000 * (u.1 2).toInt) (h18 : x11.toInt ≤ x3.toInt ∨ (u.1 4).toInt - 1 ≤ x5.toInt + 300000 * (u.1 2).toInt) (h19 : x11.toInt ≤ x3.toInt ∨ x7.toInt = x3.toInt + 1) (h20 : x11.toInt ≤ x3.toInt) (h21 : x13.toInt ≤ 0 ∨ (11 ≤ x13.toInt ∧ x13.toInt ≤ 27 ∧ x11.toInt < x3.toInt)) (h22 : (2003 - x11.toInt).toNat < w + 1) : okM (mM_SqlReaderModel_chain_J148 rc q32 x1 x3 x4 x5 x6 x7 x8 x9 x10 x11 x13 u) (fun r v => IP v ∧ Fr [2, 4, 5, 28] [10, 11, 12, 13, 14, 15, 16, 17, 18, 19, 20] u v ∧ (u.1 2).toInt ≤ (v.1 2).toInt ∧ ((u.1 4).toInt ≤ (v.1 4).toInt ∨ 200 < (v.1 4).toInt) ∧ r.toInt ≤ (v.1 4).toInt - 1 + 300000 * (v.1 2).toInt ∧ (v.1 4).toInt - 1 ≤ r.toInt + 300000 * (v.1 2).toInt ∧ 0 ≤ r.toInt ∧ ((x5.toInt < 0 ∧ (v.1 4).toInt ≤ B + 32 * (x3.toInt - x7.toInt) + 8) ∨ (0 ≤ x5.toInt ∧ ((v.1 4).toInt ≤ B + 32 * (x3.toInt - x7.toInt) + 9 ∨ (x3.toInt < x7.toInt ∧ (v.1 4).toInt ≤ B))))) := by
  have l0 : (0 : Int32).toInt = 0 := by decide
  have l1 : (1 : Int32).toInt = 1 := by decide
  have l2 : (2 : Int32).toInt = 2 := by decide
  have l4 : (4 : Int32).toInt = 4 := by decide
  have l5 : (5 : Int32).toInt = 5 := by decide
  have l6 : (6 : Int32).toInt = 6 := by decide
  have l8 : (8 : Int32).toInt = 8 := by decide
  have l9 : (9 : Int32).toInt = 9 := by decide
  have l11 : (11 : Int32).toInt = 11 := by decide
  have l16 : (16 : Int32).toInt = 16 := by decide
  have l17 : (17 : Int32).toInt = 17 := by decide
  have l18 : (18 : Int32).toInt = 18 := by decide
  have l20 : (20 : Int32).toInt = 20 := by decide
  have l21 : (21 : Int32).toInt = 21 := by decide
  have l22 : (22 : Int32).toInt = 22 := by decide
  have l27 : (27 : Int32).toInt = 27 := by decide
  have l28 : (28 : Int32).toInt = 28 := by decide
  have l32 : (32 : Int32).toInt = 32 := by decide
  have l200 : (200 : Int32).toInt = 200 := by decide
  have l2003 : (2003 : Int32).toInt = 2003 := by decide
  have l4000 : (4000 : Int32).toInt = 4000 := by decide
  have l100000 : (100000 : Int32).toInt = 100000 := by decide
  have l189984 : (189984 : Int32).toInt = 189984 := by decide
  have l189990 : (189990 : Int32).toInt = 189990 := by decide
  have l190000 : (190000 : Int32).toInt = 190000 := by decide
  have l199000 : (199000 : Int32).toInt = 199000 := by decide
  have l300000 : (300000 : Int32).toInt = 300000 := by decide
  rw [mM_SqlReaderModel_chain_J148]
  refine okM_lt (fun c_1 => ?_) (fun c_1 => ?_)
  · rw [mM_SqlReaderModel_chain_J159]
    refine okM_bM (R.2.2.2.2.2 (B := B) I (by have B_3 := IP_p I; omega) (by have B_4 := IP_p I; omega) (by have B_5 := IP_p I; omega) (by have B_6 := IP_p I; omega) (by have B_7 := IP_p I; omega) (by have B_8 := IP_p I; omega) (by have B_9 := IP_p I; omega) (by have B_10 := IP_p I; omega) (by have B_11 := IP_p I; omega) (by have B_12 := IP_p I; omega) (by have B_13 := IP_p I; omega) (by have B_14 := IP_p I; omega) (by have B_15 := IP_p I; omega) (by have B_16 := IP_p I; omega)) (fun r_17 u_18 z_2 => ?_)
    obtain ⟨I_u_18, G_u_18, p_19, p_20, p_21, p_22, p_23, p_24, p_25, p_26, p_27⟩ := z_2
    have F_u_18 : Fr [2, 4, 5, 28] [10, 11, 12, 13, 14, 15, 16, 17, 18, 19, 20] u u_18 := Fr_tr (Fr_rfl u) G_u_18 rfl rfl
    have g_28 : (u_18.1 1).toInt = (u.1 1).toInt := by rw [G_u_18.1 1 rfl]
    refine okM_le (fun c_29 => ?_) (fun c_29 => ?_)
    · refine okM_bM (kP_SqlReaderModel_add I_u_18 (by have FUe : FU = 100000 := rfl; have B_31 := IP_p I_u_18; have B_32 := IP_p I; omega) (by have FUe : FU = 100000 := rfl; have B_33 := IP_p I_u_18; have B_34 := IP_p I; omega) (by have FUe : FU = 100000 := rfl; have B_35 := IP_p I_u_18; have B_36 := IP_p I; omega) (by have FUe : FU = 100000 := rfl; have B_37 := IP_p I_u_18; have B_38 := IP_p I; omega) (by have FUe : FU = 100000 := rfl; have B_39 := IP_p I_u_18; have B_40 := IP_p I; omega) (by have FUe : FU = 100000 := rfl; have B_41 := IP_p I_u_18; have B_42 := IP_p I; omega) (by have FUe : FU = 100000 := rfl; have B_43 := IP_p I_u_18; have B_44 := IP_p I; omega)) (fun r_45 u_46 z_30 => ?_)
      obtain ⟨I_u_46, G_u_46, p_47, p_48, p_49⟩ := z_30
      have F_u_46 : Fr [2, 4, 5, 28] [10, 11, 12, 13, 14, 15, 16, 17, 18, 19, 20] u u_46 := Fr_tr F_u_18 G_u_46 rfl rfl
      have g_50 : (u_46.1 1).toInt = (u_18.1 1).toInt := by rw [G_u_46.1 1 rfl]
      have g_51 : (u_46.1 2).toInt = (u_18.1 2).toInt := by rw [G_u_46.1 2 rfl]
      try have e_54 : (x11 + 1 : Int32).toInt = (x11 : Int32).toInt + (1 : Int32).toInt := by have B_55 := IP_p I; exact add_i (by omega) (by omega)
      refine okM_seq (fun y_53 h_52 => ?_)
      have h_52' : y_53.toInt = ((x11 + 1) : Int32).toInt := by rw [h_52]
      rw [mM_SqlReaderModel_chain_J205]
      refine okM_le (fun c_56 => ?_) (fun c_56 => ?_)
      · try have e_59 : (x11 + 1 : Int32).toInt = (x11 : Int32).toInt + (1 : Int32).toInt := by have B_60 := IP_p I; exact add_i (by omega) (by omega)
        refine okM_seq (fun y_58 h_57 => ?_)
        have h_57' : y_58.toInt = (x11 + 1 : Int32).toInt := by rw [h_57]
        refine okM_mono (hq (B := ((B + 32 * (((x11).toInt - (x7).toInt).toNat : Int) + 8) + 1)) I_u_46 (by have B_61 := IP_p I_u_46; omega) (by have B_62 := IP_p I_u_46; omega) (by have B_63 := IP_p I_u_46; omega) (by have B_64 := IP_p I_u_46; omega) (by have B_65 := IP_p I_u_46; omega) (by have B_66 := IP_p I_u_46; omega) (by have B_67 := IP_p I_u_46; omega) (by have B_68 := IP_p I_u_46; omega) (by have B_69 := IP_p I_u_46; omega) (by have B_70 := IP_p I_u_46; omega) (by have B_71 := IP_p I_u_46; omega) (by have B_72 := IP_p I_u_46; omega) (by have B_73 := IP_p I_u_46; omega) (by have B_74 := IP_p I_u_46; omega) (by have B_75 := IP_p I_u_46; omega) (by have B_76 := IP_p I_u_46; omega) (by have B_77 := IP_p I_u_46; omega) (by have B_78 := IP_p I_u_46; omega) (by have B_79 := IP_p I_u_46; omega) (by have B_80 := IP_p I_u_46; omega) (by have B_81 := IP_p I_u_46; omega)) (fun r_83 u_84 z_82 => ?_)
        obtain ⟨I_u_84, G_u_84, p_85, p_86, p_87, p_88, p_89, p_90⟩ := z_82
        have F_u_84 : Fr [2, 4, 5, 28] [10, 11, 12, 13, 14, 15, 16, 17, 18, 19, 20] u u_84 := Fr_tr F_u_46 G_u_84 rfl rfl
        have g_91 : (u_84.1 1).toInt = (u_46.1 1).toInt := by rw [G_u_84.1 1 rfl]
        exact ⟨I_u_84, F_u_84, (by have B_92 := IP_p I; have B_93 := IP_p I_u_84; omega), (by have B_94 := IP_p I; have B_95 := IP_p I_u_84; omega), (by have B_96 := IP_p I_u_84; omega), (by have B_97 := IP_p I_u_84; omega), (by omega), (by have B_98 := IP_p I_u_84; omega)⟩
      · refine okM_bP (kM_SqlReaderModel_opens (IP_IW I_u_46) (by have FUe : FU = 100000 := rfl; have B_100 := IP_p I_u_46; have B_101 := IP_p I; omega)) (fun r_102 z_99 => ?_)
        obtain ⟨p_103, p_104⟩ := z_99
        try have e_107 : (x8 + r_102 : Int32).toInt = (x8 : Int32).toInt + (r_102 : Int32).toInt := by have B_108 := IP_p I; exact add_i (by omega) (by omega)
        refine okM_seq (fun y_106 h_105 => ?_)
        have h_105' : y_106.toInt = ((x8 + r_102) : Int32).toInt := by rw [h_105]
        try have e_111 : (x11 + 1 : Int32).toInt = (x11 : Int32).toInt + (1 : Int32).toInt := by have B_112 := IP_p I; exact add_i (by omega) (by omega)
        refine okM_seq (fun y_110 h_109 => ?_)
        have h_109' : y_110.toInt = (x11 + 1 : Int32).toInt := by rw [h_109]
        refine okM_mono (hq (B := ((B + 32 * (((x11).toInt - (x7).toInt).toNat : Int) + 8) + 1)) I_u_46 (by have B_113 := IP_p I_u_46; omega) (by have B_114 := IP_p I_u_46; omega) (by have B_115 := IP_p I_u_46; omega) (by have B_116 := IP_p I_u_46; omega) (by have B_117 := IP_p I_u_46; omega) (by have B_118 := IP_p I_u_46; omega) (by have B_119 := IP_p I_u_46; omega) (by have B_120 := IP_p I_u_46; omega) (by have B_121 := IP_p I_u_46; omega) (by have B_122 := IP_p I_u_46; omega) (by have B_123 := IP_p I_u_46; omega) (by have B_124 := IP_p I_u_46; omega) (by have B_125 := IP_p I_u_46; omega) (by have B_126 := IP_p I_u_46; omega) (by have B_127 := IP_p I_u_46; omega) (by have B_128 := IP_p I_u_46; omega) (by have B_129 := IP_p I_u_46; omega) (by have B_130 := IP_p I_u_46; omega) (by have B_131 := IP_p I_u_46; omega) (by have B_132 := IP_p I_u_46; omega) (by have B_133 := IP_p I_u_46; omega)) (fun r_135 u_136 z_134 => ?_)
        obtain ⟨I_u_136, G_u_136, p_137, p_138, p_139, p_140, p_141, p_142⟩ := z_134
        have F_u_136 : Fr [2, 4, 5, 28] [10, 11, 12, 13, 14, 15, 16, 17, 18, 19, 20] u u_136 := Fr_tr F_u_46 G_u_136 rfl rfl
        have g_143 : (u_136.1 1).toInt = (u_46.1 1).toInt := by rw [G_u_136.1 1 rfl]
        exact ⟨I_u_136, F_u_136, (by have B_144 := IP_p I; have B_145 := IP_p I_u_136; omega), (by have B_146 := IP_p I; have B_147 := IP_p I_u_136; omega), (by have B_148 := IP_p I_u_136; omega), (by have B_149 := IP_p I_u_136; omega), (by omega), (by have B_150 := IP_p I_u_136; omega)⟩
    · try have e_153 : (x11 + 1 : Int32).toInt = (x11 : Int32).toInt + (1 : Int32).toInt := by have B_154 := IP_p I; exact add_i (by omega) (by omega)
      refine okM_seq (fun y_152 h_151 => ?_)
      have h_151' : y_152.toInt = ((x11 + 1) : Int32).toInt := by rw [h_151]
      rw [mM_SqlReaderModel_chain_J205]
      refine okM_le (fun c_155 => ?_) (fun c_155 => ?_)
      · try have e_158 : (x11 + 1 : Int32).toInt = (x11 : Int32).toInt + (1 : Int32).toInt := by have B_159 := IP_p I; exact add_i (by omega) (by omega)
        refine okM_seq (fun y_157 h_156 => ?_)
        have h_156' : y_157.toInt = (x11 + 1 : Int32).toInt := by rw [h_156]
        refine okM_mono (hq (B := (B + 32 * (((x11).toInt - (x7).toInt).toNat : Int) + 8)) I_u_18 (by have B_160 := IP_p I_u_18; omega) (by have B_161 := IP_p I_u_18; omega) (by have B_162 := IP_p I_u_18; omega) (by have B_163 := IP_p I_u_18; omega) (by have B_164 := IP_p I_u_18; omega) (by have B_165 := IP_p I_u_18; omega) (by have B_166 := IP_p I_u_18; omega) (by have B_167 := IP_p I_u_18; omega) (by have B_168 := IP_p I_u_18; omega) (by have B_169 := IP_p I_u_18; omega) (by have B_170 := IP_p I_u_18; omega) (by have B_171 := IP_p I_u_18; omega) (by have B_172 := IP_p I_u_18; omega) (by have B_173 := IP_p I_u_18; omega) (by have B_174 := IP_p I_u_18; omega) (by have B_175 := IP_p I_u_18; omega) (by have B_176 := IP_p I_u_18; omega) (by have B_177 := IP_p I_u_18; omega) (by have B_178 := IP_p I_u_18; omega) (by have B_179 := IP_p I_u_18; omega) (by have B_180 := IP_p I_u_18; omega)) (fun r_182 u_183 z_181 => ?_)
        obtain ⟨I_u_183, G_u_183, p_184, p_185, p_186, p_187, p_188, p_189⟩ := z_181
        have F_u_183 : Fr [2, 4, 5, 28] [10, 11, 12, 13, 14, 15, 16, 17, 18, 19, 20] u u_183 := Fr_tr F_u_18 G_u_183 rfl rfl
        have g_190 : (u_183.1 1).toInt = (u_18.1 1).toInt := by rw [G_u_183.1 1 rfl]
        exact ⟨I_u_183, F_u_183, (by have B_191 := IP_p I; have B_192 := IP_p I_u_183; omega), (by have B_193 := IP_p I; have B_194 := IP_p I_u_183; omega), (by have B_195 := IP_p I_u_183; omega), (by have B_196 := IP_p I_u_183; omega), (by omega), (by have B_197 := IP_p I_u_183; omega)⟩
      · refine okM_bP (kM_SqlReaderModel_opens (IP_IW I_u_18) (by have FUe : FU = 100000 := rfl; have B_199 := IP_p I_u_18; have B_200 := IP_p I; omega)) (fun r_201 z_198 => ?_)
        obtain ⟨p_202, p_203⟩ := z_198
        try have e_206 : (x8 + r_201 : Int32).toInt = (x8 : Int32).toInt + (r_201 : Int32).toInt := by have B_207 := IP_p I; exact add_i (by omega) (by omega)
        refine okM_seq (fun y_205 h_204 => ?_)
        have h_204' : y_205.toInt = ((x8 + r_201) : Int32).toInt := by rw [h_204]
        try have e_210 : (x11 + 1 : Int32).toInt = (x11 : Int32).toInt + (1 : Int32).toInt := by have B_211 := IP_p I; exact add_i (by omega) (by omega)
        refine okM_seq (fun y_209 h_208 => ?_)
        have h_208' : y_209.toInt = (x11 + 1 : Int32).toInt := by rw [h_208]
        refine okM_mono (hq (B := (B + 32 * (((x11).toInt - (x7).toInt).toNat : Int) + 8)) I_u_18 (by have B_212 := IP_p I_u_18; omega) (by have B_213 := IP_p I_u_18; omega) (by have B_214 := IP_p I_u_18; omega) (by have B_215 := IP_p I_u_18; omega) (by have B_216 := IP_p I_u_18; omega) (by have B_217 := IP_p I_u_18; omega) (by have B_218 := IP_p I_u_18; omega) (by have B_219 := IP_p I_u_18; omega) (by have B_220 := IP_p I_u_18; omega) (by have B_221 := IP_p I_u_18; omega) (by have B_222 := IP_p I_u_18; omega) (by have B_223 := IP_p I_u_18; omega) (by have B_224 := IP_p I_u_18; omega) (by have B_225 := IP_p I_u_18; omega) (by have B_226 := IP_p I_u_18; omega) (by have B_227 := IP_p I_u_18; omega) (by have B_228 := IP_p I_u_18; omega) (by have B_229 := IP_p I_u_18; omega) (by have B_230 := IP_p I_u_18; omega) (by have B_231 := IP_p I_u_18; omega) (by have B_232 := IP_p I_u_18; omega)) (fun r_234 u_235 z_233 => ?_)
        obtain ⟨I_u_235, G_u_235, p_236, p_237, p_238, p_239, p_240, p_241⟩ := z_233
        have F_u_235 : Fr [2, 4, 5, 28] [10, 11, 12, 13, 14, 15, 16, 17, 18, 19, 20] u u_235 := Fr_tr F_u_18 G_u_235 rfl rfl
        have g_242 : (u_235.1 1).toInt = (u_18.1 1).toInt := by rw [G_u_235.1 1 rfl]
        exact ⟨I_u_235, F_u_235, (by have B_243 := IP_p I; have B_244 := IP_p I_u_235; omega), (by have B_245 := IP_p I; have B_246 := IP_p I_u_235; omega), (by have B_247 := IP_p I_u_235; omega), (by have B_248 := IP_p I_u_235; omega), (by omega), (by have B_249 := IP_p I_u_235; omega)⟩
  · refine okM_eq (fun c_250 c_250' => ?_) (fun c_250 => ?_)
    · rw [mM_SqlReaderModel_chain_J159]
      refine okM_bM (R.2.2.2.2.2 (B := B) I (by have B_252 := IP_p I; omega) (by have B_253 := IP_p I; omega) (by have B_254 := IP_p I; omega) (by have B_255 := IP_p I; omega) (by have B_256 := IP_p I; omega) (by have B_257 := IP_p I; omega) (by have B_258 := IP_p I; omega) (by have B_259 := IP_p I; omega) (by have B_260 := IP_p I; omega) (by have B_261 := IP_p I; omega) (by have B_262 := IP_p I; omega) (by have B_263 := IP_p I; omega) (by have B_264 := IP_p I; omega) (by have B_265 := IP_p I; omega)) (fun r_266 u_267 z_251 => ?_)
      obtain ⟨I_u_267, G_u_267, p_268, p_269, p_270, p_271, p_272, p_273, p_274, p_275, p_276⟩ := z_251
      have F_u_267 : Fr [2, 4, 5, 28] [10, 11, 12, 13, 14, 15, 16, 17, 18, 19, 20] u u_267 := Fr_tr (Fr_rfl u) G_u_267 rfl rfl
      have g_277 : (u_267.1 1).toInt = (u.1 1).toInt := by rw [G_u_267.1 1 rfl]
      refine okM_le (fun c_278 => ?_) (fun c_278 => ?_)
      · refine okM_bM (kP_SqlReaderModel_add I_u_267 (by have FUe : FU = 100000 := rfl; have B_280 := IP_p I_u_267; have B_281 := IP_p I; omega) (by have FUe : FU = 100000 := rfl; have B_282 := IP_p I_u_267; have B_283 := IP_p I; omega) (by have FUe : FU = 100000 := rfl; have B_284 := IP_p I_u_267; have B_285 := IP_p I; omega) (by have FUe : FU = 100000 := rfl; have B_286 := IP_p I_u_267; have B_287 := IP_p I; omega) (by have FUe : FU = 100000 := rfl; have B_288 := IP_p I_u_267; have B_289 := IP_p I; omega) (by have FUe : FU = 100000 := rfl; have B_290 := IP_p I_u_267; have B_291 := IP_p I; omega) (by have FUe : FU = 100000 := rfl; have B_292 := IP_p I_u_267; have B_293 := IP_p I; omega)) (fun r_294 u_295 z_279 => ?_)
        obtain ⟨I_u_295, G_u_295, p_296, p_297, p_298⟩ := z_279
        have F_u_295 : Fr [2, 4, 5, 28] [10, 11, 12, 13, 14, 15, 16, 17, 18, 19, 20] u u_295 := Fr_tr F_u_267 G_u_295 rfl rfl
        have g_299 : (u_295.1 1).toInt = (u_267.1 1).toInt := by rw [G_u_295.1 1 rfl]
        have g_300 : (u_295.1 2).toInt = (u_267.1 2).toInt := by rw [G_u_295.1 2 rfl]
        try have e_303 : (x11 + 1 : Int32).toInt = (x11 : Int32).toInt + (1 : Int32).toInt := by have B_304 := IP_p I; exact add_i (by omega) (by omega)
        refine okM_seq (fun y_302 h_301 => ?_)
        have h_301' : y_302.toInt = ((x11 + 1) : Int32).toInt := by rw [h_301]
        rw [mM_SqlReaderModel_chain_J205]
        refine okM_le (fun c_305 => ?_) (fun c_305 => ?_)
        · try have e_308 : (x11 + 1 : Int32).toInt = (x11 : Int32).toInt + (1 : Int32).toInt := by have B_309 := IP_p I; exact add_i (by omega) (by omega)
          refine okM_seq (fun y_307 h_306 => ?_)
          have h_306' : y_307.toInt = (x11 + 1 : Int32).toInt := by rw [h_306]
          refine okM_mono (hq (B := ((B + 32 * (((x11).toInt - (x7).toInt).toNat : Int) + 8) + 1)) I_u_295 (by have B_310 := IP_p I_u_295; omega) (by have B_311 := IP_p I_u_295; omega) (by have B_312 := IP_p I_u_295; omega) (by have B_313 := IP_p I_u_295; omega) (by have B_314 := IP_p I_u_295; omega) (by have B_315 := IP_p I_u_295; omega) (by have B_316 := IP_p I_u_295; omega) (by have B_317 := IP_p I_u_295; omega) (by have B_318 := IP_p I_u_295; omega) (by have B_319 := IP_p I_u_295; omega) (by have B_320 := IP_p I_u_295; omega) (by have B_321 := IP_p I_u_295; omega) (by have B_322 := IP_p I_u_295; omega) (by have B_323 := IP_p I_u_295; omega) (by have B_324 := IP_p I_u_295; omega) (by have B_325 := IP_p I_u_295; omega) (by have B_326 := IP_p I_u_295; omega) (by have B_327 := IP_p I_u_295; omega) (by have B_328 := IP_p I_u_295; omega) (by have B_329 := IP_p I_u_295; omega) (by have B_330 := IP_p I_u_295; omega)) (fun r_332 u_333 z_331 => ?_)
          obtain ⟨I_u_333, G_u_333, p_334, p_335, p_336, p_337, p_338, p_339⟩ := z_331
          have F_u_333 : Fr [2, 4, 5, 28] [10, 11, 12, 13, 14, 15, 16, 17, 18, 19, 20] u u_333 := Fr_tr F_u_295 G_u_333 rfl rfl
          have g_340 : (u_333.1 1).toInt = (u_295.1 1).toInt := by rw [G_u_333.1 1 rfl]
          exact ⟨I_u_333, F_u_333, (by have B_341 := IP_p I; have B_342 := IP_p I_u_333; omega), (by have B_343 := IP_p I; have B_344 := IP_p I_u_333; omega), (by have B_345 := IP_p I_u_333; omega), (by have B_346 := IP_p I_u_333; omega), (by omega), (by have B_347 := IP_p I_u_333; omega)⟩
        · refine okM_bP (kM_SqlReaderModel_opens (IP_IW I_u_295) (by have FUe : FU = 100000 := rfl; have B_349 := IP_p I_u_295; have B_350 := IP_p I; omega)) (fun r_351 z_348 => ?_)
          obtain ⟨p_352, p_353⟩ := z_348
          try have e_356 : (x8 + r_351 : Int32).toInt = (x8 : Int32).toInt + (r_351 : Int32).toInt := by have B_357 := IP_p I; exact add_i (by omega) (by omega)
          refine okM_seq (fun y_355 h_354 => ?_)
          have h_354' : y_355.toInt = ((x8 + r_351) : Int32).toInt := by rw [h_354]
          try have e_360 : (x11 + 1 : Int32).toInt = (x11 : Int32).toInt + (1 : Int32).toInt := by have B_361 := IP_p I; exact add_i (by omega) (by omega)
          refine okM_seq (fun y_359 h_358 => ?_)
          have h_358' : y_359.toInt = (x11 + 1 : Int32).toInt := by rw [h_358]
          refine okM_mono (hq (B := ((B + 32 * (((x11).toInt - (x7).toInt).toNat : Int) + 8) + 1)) I_u_295 (by have B_362 := IP_p I_u_295; omega) (by have B_363 := IP_p I_u_295; omega) (by have B_364 := IP_p I_u_295; omega) (by have B_365 := IP_p I_u_295; omega) (by have B_366 := IP_p I_u_295; omega) (by have B_367 := IP_p I_u_295; omega) (by have B_368 := IP_p I_u_295; omega) (by have B_369 := IP_p I_u_295; omega) (by have B_370 := IP_p I_u_295; omega) (by have B_371 := IP_p I_u_295; omega) (by have B_372 := IP_p I_u_295; omega) (by have B_373 := IP_p I_u_295; omega) (by have B_374 := IP_p I_u_295; omega) (by have B_375 := IP_p I_u_295; omega) (by have B_376 := IP_p I_u_295; omega) (by have B_377 := IP_p I_u_295; omega) (by have B_378 := IP_p I_u_295; omega) (by have B_379 := IP_p I_u_295; omega) (by have B_380 := IP_p I_u_295; omega) (by have B_381 := IP_p I_u_295; omega) (by have B_382 := IP_p I_u_295; omega)) (fun r_384 u_385 z_383 => ?_)
          obtain ⟨I_u_385, G_u_385, p_386, p_387, p_388, p_389, p_390, p_391⟩ := z_383
          have F_u_385 : Fr [2, 4, 5, 28] [10, 11, 12, 13, 14, 15, 16, 17, 18, 19, 20] u u_385 := Fr_tr F_u_295 G_u_385 rfl rfl
          have g_392 : (u_385.1 1).toInt = (u_295.1 1).toInt := by rw [G_u_385.1 1 rfl]
          exact ⟨I_u_385, F_u_385, (by have B_393 := IP_p I; have B_394 := IP_p I_u_385; omega), (by have B_395 := IP_p I; have B_396 := IP_p I_u_385; omega), (by have B_397 := IP_p I_u_385; omega), (by have B_398 := IP_p I_u_385; omega), (by omega), (by have B_399 := IP_p I_u_385; omega)⟩
      · try have e_402 : (x11 + 1 : Int32).toInt = (x11 : Int32).toInt + (1 : Int32).toInt := by have B_403 := IP_p I; exact add_i (by omega) (by omega)
        refine okM_seq (fun y_401 h_400 => ?_)
        have h_400' : y_401.toInt = ((x11 + 1) : Int32).toInt := by rw [h_400]
        rw [mM_SqlReaderModel_chain_J205]
        refine okM_le (fun c_404 => ?_) (fun c_404 => ?_)
        · try have e_407 : (x11 + 1 : Int32).toInt = (x11 : Int32).toInt + (1 : Int32).toInt := by have B_408 := IP_p I; exact add_i (by omega) (by omega)
          refine okM_seq (fun y_406 h_405 => ?_)
          have h_405' : y_406.toInt = (x11 + 1 : Int32).toInt := by rw [h_405]
          refine okM_mono (hq (B := (B + 32 * (((x11).toInt - (x7).toInt).toNat : Int) + 8)) I_u_267 (by have B_409 := IP_p I_u_267; omega) (by have B_410 := IP_p I_u_267; omega) (by have B_411 := IP_p I_u_267; omega) (by have B_412 := IP_p I_u_267; omega) (by have B_413 := IP_p I_u_267; omega) (by have B_414 := IP_p I_u_267; omega) (by have B_415 := IP_p I_u_267; omega) (by have B_416 := IP_p I_u_267; omega) (by have B_417 := IP_p I_u_267; omega) (by have B_418 := IP_p I_u_267; omega) (by have B_419 := IP_p I_u_267; omega) (by have B_420 := IP_p I_u_267; omega) (by have B_421 := IP_p I_u_267; omega) (by have B_422 := IP_p I_u_267; omega) (by have B_423 := IP_p I_u_267; omega) (by have B_424 := IP_p I_u_267; omega) (by have B_425 := IP_p I_u_267; omega) (by have B_426 := IP_p I_u_267; omega) (by have B_427 := IP_p I_u_267; omega) (by have B_428 := IP_p I_u_267; omega) (by have B_429 := IP_p I_u_267; omega)) (fun r_431 u_432 z_430 => ?_)
          obtain ⟨I_u_432, G_u_432, p_433, p_434, p_435, p_436, p_437, p_438⟩ := z_430
          have F_u_432 : Fr [2, 4, 5, 28] [10, 11, 12, 13, 14, 15, 16, 17, 18, 19, 20] u u_432 := Fr_tr F_u_267 G_u_432 rfl rfl
          have g_439 : (u_432.1 1).toInt = (u_267.1 1).toInt := by rw [G_u_432.1 1 rfl]
          exact ⟨I_u_432, F_u_432, (by have B_440 := IP_p I; have B_441 := IP_p I_u_432; omega), (by have B_442 := IP_p I; have B_443 := IP_p I_u_432; omega), (by have B_444 := IP_p I_u_432; omega), (by have B_445 := IP_p I_u_432; omega), (by omega), (by have B_446 := IP_p I_u_432; omega)⟩
        · refine okM_bP (kM_SqlReaderModel_opens (IP_IW I_u_267) (by have FUe : FU = 100000 := rfl; have B_448 := IP_p I_u_267; have B_449 := IP_p I; omega)) (fun r_450 z_447 => ?_)
          obtain ⟨p_451, p_452⟩ := z_447
          try have e_455 : (x8 + r_450 : Int32).toInt = (x8 : Int32).toInt + (r_450 : Int32).toInt := by have B_456 := IP_p I; exact add_i (by omega) (by omega)
          refine okM_seq (fun y_454 h_453 => ?_)
          have h_453' : y_454.toInt = ((x8 + r_450) : Int32).toInt := by rw [h_453]
          try have e_459 : (x11 + 1 : Int32).toInt = (x11 : Int32).toInt + (1 : Int32).toInt := by have B_460 := IP_p I; exact add_i (by omega) (by omega)
          refine okM_seq (fun y_458 h_457 => ?_)
          have h_457' : y_458.toInt = (x11 + 1 : Int32).toInt := by rw [h_457]
          refine okM_mono (hq (B := (B + 32 * (((x11).toInt - (x7).toInt).toNat : Int) + 8)) I_u_267 (by have B_461 := IP_p I_u_267; omega) (by have B_462 := IP_p I_u_267; omega) (by have B_463 := IP_p I_u_267; omega) (by have B_464 := IP_p I_u_267; omega) (by have B_465 := IP_p I_u_267; omega) (by have B_466 := IP_p I_u_267; omega) (by have B_467 := IP_p I_u_267; omega) (by have B_468 := IP_p I_u_267; omega) (by have B_469 := IP_p I_u_267; omega) (by have B_470 := IP_p I_u_267; omega) (by have B_471 := IP_p I_u_267; omega) (by have B_472 := IP_p I_u_267; omega) (by have B_473 := IP_p I_u_267; omega) (by have B_474 := IP_p I_u_267; omega) (by have B_475 := IP_p I_u_267; omega) (by have B_476 := IP_p I_u_267; omega) (by have B_477 := IP_p I_u_267; omega) (by have B_478 := IP_p I_u_267; omega) (by have B_479 := IP_p I_u_267; omega) (by have B_480 := IP_p I_u_267; omega) (by have B_481 := IP_p I_u_267; omega)) (fun r_483 u_484 z_482 => ?_)
          obtain ⟨I_u_484, G_u_484, p_485, p_486, p_487, p_488, p_489, p_490⟩ := z_482
          have F_u_484 : Fr [2, 4, 5, 28] [10, 11, 12, 13, 14, 15, 16, 17, 18, 19, 20] u u_484 := Fr_tr F_u_267 G_u_484 rfl rfl
          have g_491 : (u_484.1 1).toInt = (u_267.1 1).toInt := by rw [G_u_484.1 1 rfl]
          exact ⟨I_u_484, F_u_484, (by have B_492 := IP_p I; have B_493 := IP_p I_u_484; omega), (by have B_494 := IP_p I; have B_495 := IP_p I_u_484; omega), (by have B_496 := IP_p I_u_484; omega), (by have B_497 := IP_p I_u_484; omega), (by omega), (by have B_498 := IP_p I_u_484; omega)⟩
    · rw [mM_SqlReaderModel_chain_J205]
      refine okM_le (fun c_499 => ?_) (fun c_499 => ?_)
      · try have e_502 : (x11 + 1 : Int32).toInt = (x11 : Int32).toInt + (1 : Int32).toInt := by have B_503 := IP_p I; exact add_i (by omega) (by omega)
        refine okM_seq (fun y_501 h_500 => ?_)
        have h_500' : y_501.toInt = (x11 + 1 : Int32).toInt := by rw [h_500]
        refine okM_mono (hq (B := B) I (by have B_504 := IP_p I; omega) (by have B_505 := IP_p I; omega) (by have B_506 := IP_p I; omega) (by have B_507 := IP_p I; omega) (by have B_508 := IP_p I; omega) (by have B_509 := IP_p I; omega) (by have B_510 := IP_p I; omega) (by have B_511 := IP_p I; omega) (by have B_512 := IP_p I; omega) (by have B_513 := IP_p I; omega) (by have B_514 := IP_p I; omega) (by have B_515 := IP_p I; omega) (by have B_516 := IP_p I; omega) (by have B_517 := IP_p I; omega) (by have B_518 := IP_p I; omega) (by have B_519 := IP_p I; omega) (by have B_520 := IP_p I; omega) (by have B_521 := IP_p I; omega) (by have B_522 := IP_p I; omega) (by have B_523 := IP_p I; omega) (by have B_524 := IP_p I; omega)) (fun r_526 u_527 z_525 => ?_)
        obtain ⟨I_u_527, G_u_527, p_528, p_529, p_530, p_531, p_532, p_533⟩ := z_525
        have F_u_527 : Fr [2, 4, 5, 28] [10, 11, 12, 13, 14, 15, 16, 17, 18, 19, 20] u u_527 := Fr_tr (Fr_rfl u) G_u_527 rfl rfl
        have g_534 : (u_527.1 1).toInt = (u.1 1).toInt := by rw [G_u_527.1 1 rfl]
        exact ⟨I_u_527, F_u_527, (by have B_535 := IP_p I; have B_536 := IP_p I_u_527; omega), (by have B_537 := IP_p I; have B_538 := IP_p I_u_527; omega), (by have B_539 := IP_p I_u_527; omega), (by have B_540 := IP_p I_u_527; omega), (by omega), (by have B_541 := IP_p I_u_527; omega)⟩
      · refine okM_bP (kM_SqlReaderModel_opens (IP_IW I) (by have FUe : FU = 100000 := rfl; have B_543 := IP_p I; omega)) (fun r_544 z_542 => ?_)
        obtain ⟨p_545, p_546⟩ := z_542
        try have e_549 : (x8 + r_544 : Int32).toInt = (x8 : Int32).toInt + (r_544 : Int32).toInt := by have B_550 := IP_p I; exact add_i (by omega) (by omega)
        refine okM_seq (fun y_548 h_547 => ?_)
        have h_547' : y_548.toInt = ((x8 + r_544) : Int32).toInt := by rw [h_547]
        try have e_553 : (x11 + 1 : Int32).toInt = (x11 : Int32).toInt + (1 : Int32).toInt := by have B_554 := IP_p I; exact add_i (by omega) (by omega)
        refine okM_seq (fun y_552 h_551 => ?_)
        have h_551' : y_552.toInt = (x11 + 1 : Int32).toInt := by rw [h_551]
        refine okM_mono (hq (B := B) I (by have B_555 := IP_p I; omega) (by have B_556 := IP_p I; omega) (by have B_557 := IP_p I; omega) (by have B_558 := IP_p I; omega) (by have B_559 := IP_p I; omega) (by have B_560 := IP_p I; omega) (by have B_561 := IP_p I; omega) (by have B_562 := IP_p I; omega) (by have B_563 := IP_p I; omega) (by have B_564 := IP_p I; omega) (by have B_565 := IP_p I; omega) (by have B_566 := IP_p I; omega) (by have B_567 := IP_p I; omega) (by have B_568 := IP_p I; omega) (by have B_569 := IP_p I; omega) (by have B_570 := IP_p I; omega) (by have B_571 := IP_p I; omega) (by have B_572 := IP_p I; omega) (by have B_573 := IP_p I; omega) (by have B_574 := IP_p I; omega) (by have B_575 := IP_p I; omega)) (fun r_577 u_578 z_576 => ?_)
        obtain ⟨I_u_578, G_u_578, p_579, p_580, p_581, p_582, p_583, p_584⟩ := z_576
        have F_u_578 : Fr [2, 4, 5, 28] [10, 11, 12, 13, 14, 15, 16, 17, 18, 19, 20] u u_578 := Fr_tr (Fr_rfl u) G_u_578 rfl rfl
        have g_585 : (u_578.1 1).toInt = (u.1 1).toInt := by rw [G_u_578.1 1 rfl]
        exact ⟨I_u_578, F_u_578, (by have B_586 := IP_p I; have B_587 := IP_p I_u_578; omega), (by have B_588 := IP_p I; have B_589 := IP_p I_u_578; omega), (by have B_590 := IP_p I_u_578; omega), (by have B_591 := IP_p I_u_578; omega), (by omega), (by have B_592 := IP_p I_u_578; omega)⟩
