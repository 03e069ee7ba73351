theorem kC_Parser_expression_o {rc : Nat → Int32 → Int32 → Int32 → Int32 → St → Option (Int32 × St)} {n : Nat} (R : RCn rc n) {x1 : Int32} {x2 : Int32} {u : St} (I : IC u) (h0 : 1 ≤ x1.toInt) (h1 : x1.toInt ≤ 8) (h2 : 0 ≤ x2.toInt) (h3 : x2.toInt ≤ 21) (h4 : 12 * (21 - x2.toInt) + 11 - x1.toInt ≤ (n : Int) + 1) (h5 : 5 ≤ x1.toInt ∨ 12 * (21 - x2.toInt) + 13 - x1.toInt ≤ (n : Int) + 1) : okM (mC_Parser_expression_o rc x1 x2 u) (fun r v => IC v ∧ Fq [4, 6, 7] [8, 9, 10, 11, 12, 13, 14, 15, 16] u v ∧ -1 ≤ r.toInt ∧ r.toInt < 200) := by
  have lm1 : (-1 : Int32).toInt = -1 := by decide
  have l0 : (0 : Int32).toInt = 0 := by decide
  have l1 : (1 : Int32).toInt = 1 := by decide
  have l2 : (2 : Int32).toInt = 2 := by decide
  have l3 : (3 : Int32).toInt = 3 := by decide
  have l5 : (5 : Int32).toInt = 5 := by decide
  have l6 : (6 : Int32).toInt = 6 := by decide
  have l7 : (7 : Int32).toInt = 7 := by decide
  have l8 : (8 : Int32).toInt = 8 := by decide
  have l11 : (11 : Int32).toInt = 11 := by decide
  have l12 : (12 : Int32).toInt = 12 := by decide
  have l13 : (13 : Int32).toInt = 13 := by decide
  have l20 : (20 : Int32).toInt = 20 := by decide
  have l21 : (21 : Int32).toInt = 21 := by decide
  have l25 : (25 : Int32).toInt = 25 := by decide
  have l28 : (28 : Int32).toInt = 28 := by decide
  have l200 : (200 : Int32).toInt = 200 := by decide
  have l2000 : (2000 : Int32).toInt = 2000 := by decide
  rw [mC_Parser_expression_o]
  refine okM_le (fun c_1 => ?_) (fun c_1 => ?_)
  · refine okM_bP (kC_Nodes_size I) (fun r_3 z_2 => ?_)
    have p_4 := z_2
    refine okM_lt (fun c_5 => ?_) (fun c_5 => ?_)
    · rw [mC_Parser_expression_J37]
      rw [mC_Parser_expression_J51]
      refine okM_pos (by decide) ?_
      refine okM_bM (R.2.1 I (by have B_7 := IC_b I; omega) (by have B_8 := IC_b I; omega) (by have B_9 := IC_b I; omega)) (fun r_10 u_11 z_6 => ?_)
      obtain ⟨I_u_11, G_u_11, p_12, p_13⟩ := z_6
      have F_u_11 : Fq [4, 6, 7] [8, 9, 10, 11, 12, 13, 14, 15, 16] u u_11 := Fq_tr (Fq_rfl u) G_u_11 rfl rfl
      refine okM_mono (kC_Parser_expression_L88 R _ I_u_11 (by have FUe : FU = 100000 := rfl; have B_14 := IC_b I_u_11; omega) (by have FUe : FU = 100000 := rfl; have B_15 := IC_b I_u_11; omega) (by have FUe : FU = 100000 := rfl; have B_16 := IC_b I_u_11; omega) (by have FUe : FU = 100000 := rfl; have B_17 := IC_b I_u_11; omega) (by have FUe : FU = 100000 := rfl; have B_18 := IC_b I_u_11; omega) (by have FUe : FU = 100000 := rfl; have B_19 := IC_b I_u_11; omega) (by have FUe : FU = 100000 := rfl; have B_20 := IC_b I_u_11; omega) (by have FUe : FU = 100000 := rfl; have B_21 := IC_b I_u_11; omega) (by have FUe : FU = 100000 := rfl; have B_22 := IC_b I_u_11; omega) (by have FUe : FU = 100000 := rfl; have B_23 := IC_b I_u_11; omega) (by have FUe : FU = 100000 := rfl; have B_24 := IC_b I_u_11; omega) (by have FUe : FU = 100000 := rfl; have B_25 := IC_b I_u_11; omega)) (fun r_27 u_28 z_26 => ?_)
      obtain ⟨I_u_28, G_u_28, p_29, p_30⟩ := z_26
      have F_u_28 : Fq [4, 6, 7] [8, 9, 10, 11, 12, 13, 14, 15, 16] u u_28 := Fq_tr F_u_11 G_u_28 rfl rfl
      exact ⟨I_u_28, F_u_28, (by omega), (by omega)⟩
    · refine okM_bM (kC_Tokens_takes I (by decide)) (fun r_32 u_33 z_31 => ?_)
      obtain ⟨I_u_33, G_u_33, p_34, p_35⟩ := z_31
      have F_u_33 : Fq [4, 6, 7] [8, 9, 10, 11, 12, 13, 14, 15, 16] u u_33 := Fq_tr (Fq_rfl u) G_u_33 rfl rfl
      refine okM_eq (fun c_36 c_36' => ?_) (fun c_36 => ?_)
      · rw [mC_Parser_expression_J37]
        rw [mC_Parser_expression_J51]
        refine okM_pos (by decide) ?_
        refine okM_bM (R.2.1 I_u_33 (by have B_38 := IC_b I_u_33; omega) (by have B_39 := IC_b I_u_33; omega) (by have B_40 := IC_b I_u_33; omega)) (fun r_41 u_42 z_37 => ?_)
        obtain ⟨I_u_42, G_u_42, p_43, p_44⟩ := z_37
        have F_u_42 : Fq [4, 6, 7] [8, 9, 10, 11, 12, 13, 14, 15, 16] u u_42 := Fq_tr F_u_33 G_u_42 rfl rfl
        refine okM_mono (kC_Parser_expression_L88 R _ I_u_42 (by have FUe : FU = 100000 := rfl; have B_45 := IC_b I_u_42; omega) (by have FUe : FU = 100000 := rfl; have B_46 := IC_b I_u_42; omega) (by have FUe : FU = 100000 := rfl; have B_47 := IC_b I_u_42; omega) (by have FUe : FU = 100000 := rfl; have B_48 := IC_b I_u_42; omega) (by have FUe : FU = 100000 := rfl; have B_49 := IC_b I_u_42; omega) (by have FUe : FU = 100000 := rfl; have B_50 := IC_b I_u_42; omega) (by have FUe : FU = 100000 := rfl; have B_51 := IC_b I_u_42; omega) (by have FUe : FU = 100000 := rfl; have B_52 := IC_b I_u_42; omega) (by have FUe : FU = 100000 := rfl; have B_53 := IC_b I_u_42; omega) (by have FUe : FU = 100000 := rfl; have B_54 := IC_b I_u_42; omega) (by have FUe : FU = 100000 := rfl; have B_55 := IC_b I_u_42; omega) (by have FUe : FU = 100000 := rfl; have B_56 := IC_b I_u_42; omega)) (fun r_58 u_59 z_57 => ?_)
        obtain ⟨I_u_59, G_u_59, p_60, p_61⟩ := z_57
        have F_u_59 : Fq [4, 6, 7] [8, 9, 10, 11, 12, 13, 14, 15, 16] u u_59 := Fq_tr F_u_42 G_u_59 rfl rfl
        exact ⟨I_u_59, F_u_59, (by omega), (by omega)⟩
      · rw [mC_Parser_expression_J51]
        refine okM_neg (by decide) ?_
        try have e_62 : (x2 + 1 : Int32).toInt = (x2 : Int32).toInt + (1 : Int32).toInt := by exact add_i (by omega) (by omega)
        refine okM_bM (R.2.2.2.2.2 I_u_33 (by have B_64 := IC_b I_u_33; omega) (by have B_65 := IC_b I_u_33; omega) (by have B_66 := IC_b I_u_33; omega) (by have B_67 := IC_b I_u_33; omega) (by have B_68 := IC_b I_u_33; omega) (by have B_69 := IC_b I_u_33; omega)) (fun r_70 u_71 z_63 => ?_)
        obtain ⟨I_u_71, G_u_71, p_72, p_73⟩ := z_63
        have F_u_71 : Fq [4, 6, 7] [8, 9, 10, 11, 12, 13, 14, 15, 16] u u_71 := Fq_tr F_u_33 G_u_71 rfl rfl
        refine okM_bM (kC_Nodes_top I_u_71 (by have FUe : FU = 100000 := rfl; have B_75 := IC_b I_u_71; omega)) (fun r_76 u_77 z_74 => ?_)
        obtain ⟨I_u_77, G_u_77, p_78, p_79⟩ := z_74
        have F_u_77 : Fq [4, 6, 7] [8, 9, 10, 11, 12, 13, 14, 15, 16] u u_77 := Fq_tr F_u_71 G_u_77 rfl rfl
        refine okM_mono (kC_Parser_expression_L88 R _ I_u_77 (by have FUe : FU = 100000 := rfl; have B_80 := IC_b I_u_77; omega) (by have FUe : FU = 100000 := rfl; have B_81 := IC_b I_u_77; omega) (by have FUe : FU = 100000 := rfl; have B_82 := IC_b I_u_77; omega) (by have FUe : FU = 100000 := rfl; have B_83 := IC_b I_u_77; omega) (by have FUe : FU = 100000 := rfl; have B_84 := IC_b I_u_77; omega) (by have FUe : FU = 100000 := rfl; have B_85 := IC_b I_u_77; omega) (by have FUe : FU = 100000 := rfl; have B_86 := IC_b I_u_77; omega) (by have FUe : FU = 100000 := rfl; have B_87 := IC_b I_u_77; omega) (by have FUe : FU = 100000 := rfl; have B_88 := IC_b I_u_77; omega) (by have FUe : FU = 100000 := rfl; have B_89 := IC_b I_u_77; omega) (by have FUe : FU = 100000 := rfl; have B_90 := IC_b I_u_77; omega) (by have FUe : FU = 100000 := rfl; have B_91 := IC_b I_u_77; omega)) (fun r_93 u_94 z_92 => ?_)
        obtain ⟨I_u_94, G_u_94, p_95, p_96⟩ := z_92
        have F_u_94 : Fq [4, 6, 7] [8, 9, 10, 11, 12, 13, 14, 15, 16] u u_94 := Fq_tr F_u_77 G_u_94 rfl rfl
        exact ⟨I_u_94, F_u_94, (by omega), (by omega)⟩
  · exact okM_some ⟨I, (Fq_rfl u), (by omega), (by omega)⟩
theorem grpC_ok : ∀ n : Nat, RCn (grpC n) n := by
  intro n
  induction n with
  | zero => exact ⟨fun _ _ _ _ h => by exfalso; omega, fun _ _ _ h => by exfalso; omega, fun _ _ _ h => by exfalso; omega, fun _ _ _ h => by exfalso; omega, fun _ _ _ _ h => by exfalso; omega, fun _ _ _ _ _ h _ => by exfalso; omega⟩
  | succ n R =>
    have c : ((n + 1 : Nat) : Int) = (n : Int) + 1 := by omega
    refine ⟨?_, ?_, ?_, ?_, ?_, ?_⟩
    · intro a b u I h0 h1 h2 h3
      rw [grpC]
      exact okM_mono (kC_Parser_aggregated_o R I (by omega) (by omega) (by omega) (by omega)) (fun r v hv => ⟨hv.1, Fq_tr (Fq_rfl u) hv.2.1 rfl rfl, hv.2.2⟩)
    · intro a u I h0 h1 h2
      rw [grpC]
      exact okM_mono (kC_Parser_operand_o R I (by omega) (by omega) (by omega)) (fun r v hv => ⟨hv.1, Fq_tr (Fq_rfl u) hv.2.1 rfl rfl, hv.2.2⟩)
    · intro a b c u I h0 h1 h2
      rw [grpC]
      exact okM_mono (kC_Parser_among_o R I (by omega) (by omega) (by omega)) (fun r v hv => ⟨hv.1, Fq_tr (Fq_rfl u) hv.2.1 rfl rfl, hv.2.2⟩)
    · intro a b c u I h0 h1 h2
      rw [grpC]
      exact okM_mono (kC_Parser_between_o R I (by omega) (by omega) (by omega)) (fun r v hv => ⟨hv.1, Fq_tr (Fq_rfl u) hv.2.1 rfl rfl, hv.2.2⟩)
    · intro a b c d u I h0 h1 h2 h3
      rw [grpC]
      exact okM_mono (kC_Parser_comparison_o R I (by omega) (by omega) (by omega) (by omega)) (fun r v hv => ⟨hv.1, Fq_tr (Fq_rfl u) hv.2.1 rfl rfl, hv.2.2⟩)
    · intro a b u I h0 h1 h2 h3 h4 h5
      rw [grpC]
      exact okM_mono (kC_Parser_expression_o R I (by omega) (by omega) (by omega) (by omega) (by omega) (by omega)) (fun r v hv => ⟨hv.1, Fq_tr (Fq_rfl u) hv.2.1 rfl rfl, hv.2.2⟩)
theorem kC_Parser_expression {x1 x2 : Int32} {u : St} (I : IC u) (h1 : x1.toInt = 1) (h2 : x2.toInt = 0) : okM (mC_Parser_expression DP x1 x2 u) (fun r v => IC v ∧ Fq [4, 6, 7] [8, 9, 10, 11, 12, 13, 14, 15, 16] u v ∧ -1 ≤ r.toInt ∧ r.toInt < 200) := by
  have D : DP = 400 := rfl
  rw [mC_Parser_expression]
  exact (grpC_ok DP).2.2.2.2.2 I (by omega) (by omega) (by omega) (by omega) (by omega) (by omega)
theorem kC_Lists_add {x1 : Int32} {x2 : Int32} {u : St} (I : IC u) (h0 : (x1.toInt ≠ 0 ∧ x1.toInt ≠ 5 ∧ x1.toInt ≠ 12) ∨ (-1 ≤ x2.toInt ∧ x2.toInt ≤ 200)) : ok (mC_Lists_add x1 x2 u) (fun v => IC v ∧ Fq [8] [17, 18] u v) := by
  have B := IC_b I
  have z0 : (0 : Int32).toInt = 0 := by decide
  have l1 : (1 : Int32).toInt = 1 := by decide
  have l14 : (14 : Int32).toInt = 14 := by decide
  have t0 : lnT 0 = 14 := by decide
  have t1 : lnT 1 = 14 := by decide
  rw [mC_Lists_add, t0, t1]
  refine ok_lt (fun c => ok_seq (fun v h => ok_some ⟨by rw [h]; exact IC_s8 I (by omega) (by omega), by rw [h]; exact Fq_ss (Fq_rfl u) rfl⟩)) (fun c => ?_)
  refine ok_le (fun c => ok_seq (fun v h => ok_some ⟨by rw [h]; exact IC_s8 I (by omega) (by omega), by rw [h]; exact Fq_ss (Fq_rfl u) rfl⟩)) (fun c2 => ?_)
  have F := gst_f (i := x1) (by omega) (by omega)
  have Z := IC_siz I (i := x1) (by omega) (by omega)
  have gi : inb x1 14 = true := inb_of (by omega) (by omega)
  refine ok_gd gi (ok_gd gi ?_)
  refine ok_lt (fun c3 => ?_) (fun c => ok_seq (fun v h => ok_some ⟨by rw [h]; exact IC_s8 I (by omega) (by omega), by rw [h]; exact Fq_ss (Fq_rfl u) rfl⟩))
  have e : (gst 1 x1 + ga u 17 x1 : Int32).toInt = (gst 1 x1).toInt + (ga u 17 x1).toInt := add_i (by omega) (by omega)
  have e' := cl_of (i := gst 1 x1 + ga u 17 x1) (by omega)
  refine ok_gd gi (ok_gd gi (ok_gd (inb_of (by omega) (by omega)) (ok_seq (fun u3 h3 => ?_))))
  have I3 : IC u3 := by rw [h3]; exact IC_a18 I (fun q => by omega)
  have g : ga u3 17 x1 = ga u 17 x1 := by rw [h3]; rfl
  refine ok_gd gi (ok_gd gi (ok_seq (fun u4 h4 => ok_some ?_)))
  have e2 : (ga u3 17 x1 + 1 : Int32).toInt = (ga u3 17 x1).toInt + (1 : Int32).toInt := add_i (by rw [g]; omega) (by rw [g]; omega)
  rw [h4]
  exact ⟨IC_a17 I3 (by rw [e2, g]; omega) (by omega) (by rw [e2, g]; omega), by rw [h3]; exact Fq_sa (Fq_sa (Fq_rfl u) rfl) rfl⟩
theorem kC_Parser_expressions_L2 : ∀ (n : Nat) {x1 : Int32} {x2 : Int32} {u : St} (I : IC u) (h0 : 0 ≤ x2.toInt) (h1 : x2.toInt ≤ 2000) (hm : (2000 - x2.toInt).toNat < n), okM (mC_Parser_expressions_L2 n x1 x2 u) (fun r v => IC v ∧ Fq [4, 6, 7, 8] [8, 9, 10, 11, 12, 13, 14, 15, 16, 17, 18] u v ∧ 0 ≤ r.toInt ∧ r.toInt ≤ 1) := by
  intro n
  induction n with
  | zero => intro x1 x2 u I h0 h1 hm; exact absurd hm (Nat.not_lt_zero _)
  | succ n ih =>
    intro x1 x2 u I h0 h1 hm
    have l0 : (0 : Int32).toInt = 0 := by decide
    have l1 : (1 : Int32).toInt = 1 := by decide
    have l5 : (5 : Int32).toInt = 5 := by decide
    have l12 : (12 : Int32).toInt = 12 := by decide
    have l33 : (33 : Int32).toInt = 33 := by decide
    have l200 : (200 : Int32).toInt = 200 := by decide
    have l2000 : (2000 : Int32).toInt = 2000 := by decide
    rw [mC_Parser_expressions_L2]
    refine okM_le (fun c_1 => ?_) (fun c_1 => ?_)
    · exact okM_some ⟨I, (Fq_rfl u), (by omega), (by omega)⟩
    · refine okM_bM (kC_Parser_expression I (by decide) (by decide)) (fun r_3 u_4 z_2 => ?_)
      obtain ⟨I_u_4, G_u_4, p_5, p_6⟩ := z_2
      have F_u_4 : Fq [4, 6, 7, 8] [8, 9, 10, 11, 12, 13, 14, 15, 16, 17, 18] u u_4 := Fq_tr (Fq_rfl u) G_u_4 rfl rfl
      refine okM_le (fun c_7 => ?_) (fun c_7 => ?_)
      · refine okM_bP (kC_Lists_add I_u_4 (by have FUe : FU = 100000 := rfl; have B_9 := IC_b I_u_4; omega)) (fun u_10 z_8 => ?_)
        obtain ⟨I_u_10, G_u_10⟩ := z_8
        have F_u_10 : Fq [4, 6, 7, 8] [8, 9, 10, 11, 12, 13, 14, 15, 16, 17, 18] u u_10 := Fq_tr F_u_4 G_u_10 rfl rfl
        refine okM_bM (kC_Tokens_takes I_u_10 (by decide)) (fun r_12 u_13 z_11 => ?_)
        obtain ⟨I_u_13, G_u_13, p_14, p_15⟩ := z_11
        have F_u_13 : Fq [4, 6, 7, 8] [8, 9, 10, 11, 12, 13, 14, 15, 16, 17, 18] u u_13 := Fq_tr F_u_10 G_u_13 rfl rfl
        refine okM_eq (fun c_16 c_16' => ?_) (fun c_16 => ?_)
        · exact okM_some ⟨I_u_13, F_u_13, (by omega), (by omega)⟩
        · try have e_19 : (x2 + 1 : Int32).toInt = (x2 : Int32).toInt + (1 : Int32).toInt := by exact add_i (by omega) (by omega)
          refine okM_seq (fun y_18 h_17 => ?_)
          have h_17' : y_18.toInt = (x2 + 1 : Int32).toInt := by rw [h_17]
          refine okM_mono (ih I_u_13 (by have B_20 := IC_b I_u_13; omega) (by have B_21 := IC_b I_u_13; omega) (by have B_22 := IC_b I_u_13; omega)) (fun r_24 u_25 z_23 => ?_)
          obtain ⟨I_u_25, G_u_25, p_26, p_27⟩ := z_23
          have F_u_25 : Fq [4, 6, 7, 8] [8, 9, 10, 11, 12, 13, 14, 15, 16, 17, 18] u u_25 := Fq_tr F_u_13 G_u_25 rfl rfl
          exact ⟨I_u_25, F_u_25, (by omega), (by omega)⟩
      · exact okM_some ⟨I_u_4, F_u_4, (by omega), (by omega)⟩
theorem kC_Parser_expressions {x1 : Int32} {u : St} (I : IC u) : okM (mC_Parser_expressions x1 u) (fun r v => IC v ∧ Fq [4, 6, 7, 8] [8, 9, 10, 11, 12, 13, 14, 15, 16, 17, 18] u v ∧ 0 ≤ r.toInt ∧ r.toInt ≤ 1) := by
  have l0 : (0 : Int32).toInt = 0 := by decide
  have l1 : (1 : Int32).toInt = 1 := by decide
  have l2000 : (2000 : Int32).toInt = 2000 := by decide
  rw [mC_Parser_expressions]
  refine okM_mono (kC_Parser_expressions_L2 _ I (by have FUe : FU = 100000 := rfl; have B_1 := IC_b I; omega) (by have FUe : FU = 100000 := rfl; have B_2 := IC_b I; omega) (by have FUe : FU = 100000 := rfl; have B_3 := IC_b I; omega)) (fun r_5 u_6 z_4 => ?_)
  obtain ⟨I_u_6, G_u_6, p_7, p_8⟩ := z_4
  have F_u_6 : Fq [4, 6, 7, 8] [8, 9, 10, 11, 12, 13, 14, 15, 16, 17, 18] u u_6 := Fq_tr (Fq_rfl u) G_u_6 rfl rfl
  exact ⟨I_u_6, F_u_6, (by omega), (by omega)⟩
theorem kC_Parser_tableOfQuery {u : St} (I : IC u) : okM (mC_Parser_tableOfQuery u) (fun r v => IC v ∧ Fq [4, 8] [17, 18] u v ∧ 0 ≤ r.toInt ∧ r.toInt ≤ 1) := by
  have l0 : (0 : Int32).toInt = 0 := by decide
  have l1 : (1 : Int32).toInt = 1 := by decide
  have l5 : (5 : Int32).toInt = 5 := by decide
  have l10 : (10 : Int32).toInt = 10 := by decide
  have l11 : (11 : Int32).toInt = 11 := by decide
  have l12 : (12 : Int32).toInt = 12 := by decide
  have l200 : (200 : Int32).toInt = 200 := by decide
  rw [mC_Parser_tableOfQuery]
  refine okM_bM (kC_Tokens_take I) (fun r_2 u_3 z_1 => ?_)
  obtain ⟨I_u_3, G_u_3, p_4, p_5, p_6⟩ := z_1
  have F_u_3 : Fq [4, 8] [17, 18] u u_3 := Fq_tr (Fq_rfl u) G_u_3 rfl rfl
  refine okM_bP (kC_Lists_add I_u_3 (by have FUe : FU = 100000 := rfl; have B_8 := IC_b I_u_3; omega)) (fun u_9 z_7 => ?_)
  obtain ⟨I_u_9, G_u_9⟩ := z_7
  have F_u_9 : Fq [4, 8] [17, 18] u u_9 := Fq_tr F_u_3 G_u_9 rfl rfl
  refine okM_bM (kC_Tokens_take I_u_9) (fun r_11 u_12 z_10 => ?_)
  obtain ⟨I_u_12, G_u_12, p_13, p_14, p_15⟩ := z_10
  have F_u_12 : Fq [4, 8] [17, 18] u u_12 := Fq_tr F_u_9 G_u_12 rfl rfl
  refine okM_bP (kC_Lists_add I_u_12 (by have FUe : FU = 100000 := rfl; have B_17 := IC_b I_u_12; omega)) (fun u_18 z_16 => ?_)
  obtain ⟨I_u_18, G_u_18⟩ := z_16
  have F_u_18 : Fq [4, 8] [17, 18] u u_18 := Fq_tr F_u_12 G_u_18 rfl rfl
  refine okM_lt (fun c_19 => ?_) (fun c_19 => ?_)
  · exact okM_some ⟨I_u_18, F_u_18, (by omega), (by omega)⟩
  · exact okM_some ⟨I_u_18, F_u_18, (by omega), (by omega)⟩
theorem kC_Parser_from_L27 : ∀ (n : Nat) {x1 : Int32} {x2 : Int32} {u : St} (I : IC u) (h0 : 0 ≤ x2.toInt) (h1 : x2.toInt ≤ 2000) (h2 : 0 ≤ x1.toInt) (h3 : x1.toInt ≤ 1) (hm : (2000 - x2.toInt).toNat < n), okM (mC_Parser_from_L27 n x1 x2 u) (fun r v => IC v ∧ Fq [4, 8] [17, 18] u v ∧ 0 ≤ r.toInt ∧ r.toInt ≤ 1) := by
  intro n
  induction n with
  | zero => intro x1 x2 u I h0 h1 h2 h3 hm; exact absurd hm (Nat.not_lt_zero _)
  | succ n ih =>
    intro x1 x2 u I h0 h1 h2 h3 hm
    have l0 : (0 : Int32).toInt = 0 := by decide
    have l1 : (1 : Int32).toInt = 1 := by decide
    have l33 : (33 : Int32).toInt = 33 := by decide
    have l2000 : (2000 : Int32).toInt = 2000 := by decide
    rw [mC_Parser_from_L27]
    refine okM_le (fun c_1 => ?_) (fun c_1 => ?_)
    · refine okM_gd (zb_of (by omega) (by omega)) ?_
      exact okM_some ⟨I, (Fq_rfl u), (by omega), (by omega)⟩
    · refine okM_eq (fun c_2 c_2' => ?_) (fun c_2 => ?_)
      · refine okM_gd (zb_of (by omega) (by omega)) ?_
        exact okM_some ⟨I, (Fq_rfl u), (by omega), (by omega)⟩
      · refine okM_bM (kC_Tokens_takes I (by decide)) (fun r_4 u_5 z_3 => ?_)
        obtain ⟨I_u_5, G_u_5, p_6, p_7⟩ := z_3
        have F_u_5 : Fq [4, 8] [17, 18] u u_5 := Fq_tr (Fq_rfl u) G_u_5 rfl rfl
        refine okM_eq (fun c_8 c_8' => ?_) (fun c_8 => ?_)
        · refine okM_gd (zb_of (by omega) (by omega)) ?_
          exact okM_some ⟨I_u_5, F_u_5, (by omega), (by omega)⟩
        · refine okM_bM (kC_Parser_tableOfQuery I_u_5) (fun r_10 u_11 z_9 => ?_)
          obtain ⟨I_u_11, G_u_11, p_12, p_13⟩ := z_9
          have F_u_11 : Fq [4, 8] [17, 18] u u_11 := Fq_tr F_u_5 G_u_11 rfl rfl
          try have e_16 : (x2 + 1 : Int32).toInt = (x2 : Int32).toInt + (1 : Int32).toInt := by exact add_i (by omega) (by omega)
          refine okM_seq (fun y_15 h_14 => ?_)
          have h_14' : y_15.toInt = (x2 + 1 : Int32).toInt := by rw [h_14]
          refine okM_mono (ih I_u_11 (by have B_17 := IC_b I_u_11; omega) (by have B_18 := IC_b I_u_11; omega) (by have B_19 := IC_b I_u_11; omega) (by have B_20 := IC_b I_u_11; omega) (by have B_21 := IC_b I_u_11; omega)) (fun r_23 u_24 z_22 => ?_)
          obtain ⟨I_u_24, G_u_24, p_25, p_26⟩ := z_22
          have F_u_24 : Fq [4, 8] [17, 18] u u_24 := Fq_tr F_u_11 G_u_24 rfl rfl
          exact ⟨I_u_24, F_u_24, (by omega), (by omega)⟩
theorem kC_Parser_from {u : St} (I : IC u) : okM (mC_Parser_from u) (fun r v => IC v ∧ Fq [4, 8] [17, 18] u v ∧ 0 ≤ r.toInt ∧ r.toInt ≤ 1) := by
  have l0 : (0 : Int32).toInt = 0 := by decide
  have l1 : (1 : Int32).toInt = 1 := by decide
  have l34 : (34 : Int32).toInt = 34 := by decide
  have l2000 : (2000 : Int32).toInt = 2000 := by decide
  rw [mC_Parser_from]
  refine okM_bM (kC_Tokens_takes I (by decide)) (fun r_2 u_3 z_1 => ?_)
  obtain ⟨I_u_3, G_u_3, p_4, p_5⟩ := z_1
  have F_u_3 : Fq [4, 8] [17, 18] u u_3 := Fq_tr (Fq_rfl u) G_u_3 rfl rfl
  refine okM_eq (fun c_6 c_6' => ?_) (fun c_6 => ?_)
  · refine okM_mono (kC_Parser_from_L27 _ I_u_3 (by have FUe : FU = 100000 := rfl; have B_7 := IC_b I_u_3; omega) (by have FUe : FU = 100000 := rfl; have B_8 := IC_b I_u_3; omega) (by have FUe : FU = 100000 := rfl; have B_9 := IC_b I_u_3; omega) (by have FUe : FU = 100000 := rfl; have B_10 := IC_b I_u_3; omega) (by have FUe : FU = 100000 := rfl; have B_11 := IC_b I_u_3; omega)) (fun r_13 u_14 z_12 => ?_)
    obtain ⟨I_u_14, G_u_14, p_15, p_16⟩ := z_12
    have F_u_14 : Fq [4, 8] [17, 18] u u_14 := Fq_tr F_u_3 G_u_14 rfl rfl
    exact ⟨I_u_14, F_u_14, (by omega), (by omega)⟩
  · refine okM_bM (kC_Parser_tableOfQuery I_u_3) (fun r_18 u_19 z_17 => ?_)
    obtain ⟨I_u_19, G_u_19, p_20, p_21⟩ := z_17
    have F_u_19 : Fq [4, 8] [17, 18] u u_19 := Fq_tr F_u_3 G_u_19 rfl rfl
    refine okM_eq (fun c_22 c_22' => ?_) (fun c_22 => ?_)
    · refine okM_mono (kC_Parser_from_L27 _ I_u_19 (by have FUe : FU = 100000 := rfl; have B_23 := IC_b I_u_19; omega) (by have FUe : FU = 100000 := rfl; have B_24 := IC_b I_u_19; omega) (by have FUe : FU = 100000 := rfl; have B_25 := IC_b I_u_19; omega) (by have FUe : FU = 100000 := rfl; have B_26 := IC_b I_u_19; omega) (by have FUe : FU = 100000 := rfl; have B_27 := IC_b I_u_19; omega)) (fun r_29 u_30 z_28 => ?_)
      obtain ⟨I_u_30, G_u_30, p_31, p_32⟩ := z_28
      have F_u_30 : Fq [4, 8] [17, 18] u u_30 := Fq_tr F_u_19 G_u_30 rfl rfl
      exact ⟨I_u_30, F_u_30, (by omega), (by omega)⟩
    · refine okM_mono (kC_Parser_from_L27 _ I_u_19 (by have FUe : FU = 100000 := rfl; have B_33 := IC_b I_u_19; omega) (by have FUe : FU = 100000 := rfl; have B_34 := IC_b I_u_19; omega) (by have FUe : FU = 100000 := rfl; have B_35 := IC_b I_u_19; omega) (by have FUe : FU = 100000 := rfl; have B_36 := IC_b I_u_19; omega) (by have FUe : FU = 100000 := rfl; have B_37 := IC_b I_u_19; omega)) (fun r_39 u_40 z_38 => ?_)
      obtain ⟨I_u_40, G_u_40, p_41, p_42⟩ := z_38
      have F_u_40 : Fq [4, 8] [17, 18] u u_40 := Fq_tr F_u_19 G_u_40 rfl rfl
      exact ⟨I_u_40, F_u_40, (by omega), (by omega)⟩
theorem kC_Parser_where {u : St} (I : IC u) : okM (mC_Parser_where u) (fun r v => IC v ∧ Fq [4, 6, 7, 18] [8, 9, 10, 11, 12, 13, 14, 15, 16] u v ∧ 0 ≤ r.toInt ∧ r.toInt ≤ 1) := by
  have l0 : (0 : Int32).toInt = 0 := by decide
  have l1 : (1 : Int32).toInt = 1 := by decide
  have l18 : (18 : Int32).toInt = 18 := by decide
  have l35 : (35 : Int32).toInt = 35 := by decide
  rw [mC_Parser_where]
  refine okM_bM (kC_Tokens_takes I (by decide)) (fun r_2 u_3 z_1 => ?_)
  obtain ⟨I_u_3, G_u_3, p_4, p_5⟩ := z_1
  have F_u_3 : Fq [4, 6, 7, 18] [8, 9, 10, 11, 12, 13, 14, 15, 16] u u_3 := Fq_tr (Fq_rfl u) G_u_3 rfl rfl
  refine okM_eq (fun c_6 c_6' => ?_) (fun c_6 => ?_)
  · exact okM_some ⟨I_u_3, F_u_3, (by omega), (by omega)⟩
  · refine okM_bM (kC_Parser_expression I_u_3 (by decide) (by decide)) (fun r_8 u_9 z_7 => ?_)
    obtain ⟨I_u_9, G_u_9, p_10, p_11⟩ := z_7
    have F_u_9 : Fq [4, 6, 7, 18] [8, 9, 10, 11, 12, 13, 14, 15, 16] u u_9 := Fq_tr F_u_3 G_u_9 rfl rfl
    refine okM_seq (fun u_13 h_12 => ?_)
    have I_u_13 : IC u_13 := by rw [h_12]; exact I_u_9
    have F_u_13 : Fq [4, 6, 7, 18] [8, 9, 10, 11, 12, 13, 14, 15, 16] u u_13 := by rw [h_12]; exact Fq_ss F_u_9 rfl
    refine okM_lt (fun c_14 => ?_) (fun c_14 => ?_)
    · exact okM_some ⟨I_u_13, F_u_13, (by omega), (by omega)⟩
    · exact okM_some ⟨I_u_13, F_u_13, (by omega), (by omega)⟩
theorem kC_Parser_group {u : St} (I : IC u) : okM (mC_Parser_group u) (fun r v => IC v ∧ Fq [4, 6, 7, 8] [8, 9, 10, 11, 12, 13, 14, 15, 16, 17, 18] u v ∧ 0 ≤ r.toInt ∧ r.toInt ≤ 1) := by
  have l0 : (0 : Int32).toInt = 0 := by decide
  have l1 : (1 : Int32).toInt = 1 := by decide
  have l5 : (5 : Int32).toInt = 5 := by decide
  have l12 : (12 : Int32).toInt = 12 := by decide
  have l200 : (200 : Int32).toInt = 200 := by decide
  rw [mC_Parser_group]
  refine okM_bM (kC_Parser_place I) (fun r_2 u_3 z_1 => ?_)
  obtain ⟨I_u_3, G_u_3, p_4, p_5⟩ := z_1
  have F_u_3 : Fq [4, 6, 7, 8] [8, 9, 10, 11, 12, 13, 14, 15, 16, 17, 18] u u_3 := Fq_tr (Fq_rfl u) G_u_3 rfl rfl
  refine okM_lt (fun c_6 => ?_) (fun c_6 => ?_)
  · refine okM_lt (fun c_7 => ?_) (fun c_7 => ?_)
    · exact okM_some ⟨I_u_3, F_u_3, (by omega), (by omega)⟩
    · exact okM_some ⟨I_u_3, F_u_3, (by omega), (by omega)⟩
  · refine okM_bP (kC_Lists_add I_u_3 (by have FUe : FU = 100000 := rfl; have B_9 := IC_b I_u_3; omega)) (fun u_10 z_8 => ?_)
    obtain ⟨I_u_10, G_u_10⟩ := z_8
    have F_u_10 : Fq [4, 6, 7, 8] [8, 9, 10, 11, 12, 13, 14, 15, 16, 17, 18] u u_10 := Fq_tr F_u_3 G_u_10 rfl rfl
    refine okM_lt (fun c_11 => ?_) (fun c_11 => ?_)
    · exact okM_some ⟨I_u_10, F_u_10, (by omega), (by omega)⟩
    · exact okM_some ⟨I_u_10, F_u_10, (by omega), (by omega)⟩
theorem kC_Parser_groups_L41 : ∀ (n : Nat) {x1 : Int32} {x2 : Int32} {u : St} (I : IC u) (h0 : 0 ≤ x2.toInt) (h1 : x2.toInt ≤ 2000) (h2 : 0 ≤ x1.toInt) (h3 : x1.toInt ≤ 1) (hm : (2000 - x2.toInt).toNat < n), okM (mC_Parser_groups_L41 n x1 x2 u) (fun r v => IC v ∧ Fq [4, 6, 7, 8] [8, 9, 10, 11, 12, 13, 14, 15, 16, 17, 18] u v ∧ 0 ≤ r.toInt ∧ r.toInt ≤ 1) := by
  intro n
  induction n with
  | zero => intro x1 x2 u I h0 h1 h2 h3 hm; exact absurd hm (Nat.not_lt_zero _)
  | succ n ih =>
    intro x1 x2 u I h0 h1 h2 h3 hm
    have l0 : (0 : Int32).toInt = 0 := by decide
    have l1 : (1 : Int32).toInt = 1 := by decide
    have l33 : (33 : Int32).toInt = 33 := by decide
    have l2000 : (2000 : Int32).toInt = 2000 := by decide
    rw [mC_Parser_groups_L41]
    refine okM_le (fun c_1 => ?_) (fun c_1 => ?_)
    · refine okM_gd (zb_of (by omega) (by omega)) ?_
      exact okM_some ⟨I, (Fq_rfl u), (by omega), (by omega)⟩
    · refine okM_eq (fun c_2 c_2' => ?_) (fun c_2 => ?_)
      · refine okM_gd (zb_of (by omega) (by omega)) ?_
        exact okM_some ⟨I, (Fq_rfl u), (by omega), (by omega)⟩
      · refine okM_bM (kC_Tokens_takes I (by decide)) (fun r_4 u_5 z_3 => ?_)
        obtain ⟨I_u_5, G_u_5, p_6, p_7⟩ := z_3
        have F_u_5 : Fq [4, 6, 7, 8] [8, 9, 10, 11, 12, 13, 14, 15, 16, 17, 18] u u_5 := Fq_tr (Fq_rfl u) G_u_5 rfl rfl
        refine okM_eq (fun c_8 c_8' => ?_) (fun c_8 => ?_)
        · refine okM_gd (zb_of (by omega) (by omega)) ?_
          exact okM_some ⟨I_u_5, F_u_5, (by omega), (by omega)⟩
        · refine okM_bM (kC_Parser_group I_u_5) (fun r_10 u_11 z_9 => ?_)
          obtain ⟨I_u_11, G_u_11, p_12, p_13⟩ := z_9
          have F_u_11 : Fq [4, 6, 7, 8] [8, 9, 10, 11, 12, 13, 14, 15, 16, 17, 18] u u_11 := Fq_tr F_u_5 G_u_11 rfl rfl
          try have e_16 : (x2 + 1 : Int32).toInt = (x2 : Int32).toInt + (1 : Int32).toInt := by exact add_i (by omega) (by omega)
          refine okM_seq (fun y_15 h_14 => ?_)
          have h_14' : y_15.toInt = (x2 + 1 : Int32).toInt := by rw [h_14]
          refine okM_mono (ih I_u_11 (by have B_17 := IC_b I_u_11; omega) (by have B_18 := IC_b I_u_11; omega) (by have B_19 := IC_b I_u_11; omega) (by have B_20 := IC_b I_u_11; omega) (by have B_21 := IC_b I_u_11; omega)) (fun r_23 u_24 z_22 => ?_)
          obtain ⟨I_u_24, G_u_24, p_25, p_26⟩ := z_22
          have F_u_24 : Fq [4, 6, 7, 8] [8, 9, 10, 11, 12, 13, 14, 15, 16, 17, 18] u u_24 := Fq_tr F_u_11 G_u_24 rfl rfl
          exact ⟨I_u_24, F_u_24, (by omega), (by omega)⟩
theorem kC_Parser_groups {u : St} (I : IC u) : okM (mC_Parser_groups u) (fun r v => IC v ∧ Fq [4, 6, 7, 8] [8, 9, 10, 11, 12, 13, 14, 15, 16, 17, 18] u v ∧ 0 ≤ r.toInt ∧ r.toInt ≤ 1) := by
  have l0 : (0 : Int32).toInt = 0 := by decide
  have l1 : (1 : Int32).toInt = 1 := by decide
  have l36 : (36 : Int32).toInt = 36 := by decide
  have l37 : (37 : Int32).toInt = 37 := by decide
  have l2000 : (2000 : Int32).toInt = 2000 := by decide
  rw [mC_Parser_groups]
  refine okM_bM (kC_Tokens_takes I (by decide)) (fun r_2 u_3 z_1 => ?_)
  obtain ⟨I_u_3, G_u_3, p_4, p_5⟩ := z_1
  have F_u_3 : Fq [4, 6, 7, 8] [8, 9, 10, 11, 12, 13, 14, 15, 16, 17, 18] u u_3 := Fq_tr (Fq_rfl u) G_u_3 rfl rfl
  refine okM_eq (fun c_6 c_6' => ?_) (fun c_6 => ?_)
  · exact okM_some ⟨I_u_3, F_u_3, (by omega), (by omega)⟩
  · refine okM_bM (kC_Tokens_takes I_u_3 (by decide)) (fun r_8 u_9 z_7 => ?_)
    obtain ⟨I_u_9, G_u_9, p_10, p_11⟩ := z_7
    have F_u_9 : Fq [4, 6, 7, 8] [8, 9, 10, 11, 12, 13, 14, 15, 16, 17, 18] u u_9 := Fq_tr F_u_3 G_u_9 rfl rfl
    refine okM_eq (fun c_12 c_12' => ?_) (fun c_12 => ?_)
    · refine okM_mono (kC_Parser_groups_L41 _ I_u_9 (by have FUe : FU = 100000 := rfl; have B_13 := IC_b I_u_9; omega) (by have FUe : FU = 100000 := rfl; have B_14 := IC_b I_u_9; omega) (by have FUe : FU = 100000 := rfl; have B_15 := IC_b I_u_9; omega) (by have FUe : FU = 100000 := rfl; have B_16 := IC_b I_u_9; omega) (by have FUe : FU = 100000 := rfl; have B_17 := IC_b I_u_9; omega)) (fun r_19 u_20 z_18 => ?_)
      obtain ⟨I_u_20, G_u_20, p_21, p_22⟩ := z_18
      have F_u_20 : Fq [4, 6, 7, 8] [8, 9, 10, 11, 12, 13, 14, 15, 16, 17, 18] u u_20 := Fq_tr F_u_9 G_u_20 rfl rfl
      exact ⟨I_u_20, F_u_20, (by omega), (by omega)⟩
    · refine okM_bM (kC_Parser_group I_u_9) (fun r_24 u_25 z_23 => ?_)
      obtain ⟨I_u_25, G_u_25, p_26, p_27⟩ := z_23
      have F_u_25 : Fq [4, 6, 7, 8] [8, 9, 10, 11, 12, 13, 14, 15, 16, 17, 18] u u_25 := Fq_tr F_u_9 G_u_25 rfl rfl
      refine okM_eq (fun c_28 c_28' => ?_) (fun c_28 => ?_)
      · refine okM_mono (kC_Parser_groups_L41 _ I_u_25 (by have FUe : FU = 100000 := rfl; have B_29 := IC_b I_u_25; omega) (by have FUe : FU = 100000 := rfl; have B_30 := IC_b I_u_25; omega) (by have FUe : FU = 100000 := rfl; have B_31 := IC_b I_u_25; omega) (by have FUe : FU = 100000 := rfl; have B_32 := IC_b I_u_25; omega) (by have FUe : FU = 100000 := rfl; have B_33 := IC_b I_u_25; omega)) (fun r_35 u_36 z_34 => ?_)
        obtain ⟨I_u_36, G_u_36, p_37, p_38⟩ := z_34
        have F_u_36 : Fq [4, 6, 7, 8] [8, 9, 10, 11, 12, 13, 14, 15, 16, 17, 18] u u_36 := Fq_tr F_u_25 G_u_36 rfl rfl
        exact ⟨I_u_36, F_u_36, (by omega), (by omega)⟩
      · refine okM_mono (kC_Parser_groups_L41 _ I_u_25 (by have FUe : FU = 100000 := rfl; have B_39 := IC_b I_u_25; omega) (by have FUe : FU = 100000 := rfl; have B_40 := IC_b I_u_25; omega) (by have FUe : FU = 100000 := rfl; have B_41 := IC_b I_u_25; omega) (by have FUe : FU = 100000 := rfl; have B_42 := IC_b I_u_25; omega) (by have FUe : FU = 100000 := rfl; have B_43 := IC_b I_u_25; omega)) (fun r_45 u_46 z_44 => ?_)
        obtain ⟨I_u_46, G_u_46, p_47, p_48⟩ := z_44
        have F_u_46 : Fq [4, 6, 7, 8] [8, 9, 10, 11, 12, 13, 14, 15, 16, 17, 18] u u_46 := Fq_tr F_u_25 G_u_46 rfl rfl
        exact ⟨I_u_46, F_u_46, (by omega), (by omega)⟩
theorem kC_Parser_order {u : St} (I : IC u) : okM (mC_Parser_order u) (fun r v => IC v ∧ Fq [4, 8] [17, 18] u v ∧ 0 ≤ r.toInt ∧ r.toInt ≤ 1) := by
  have lm1 : (-1 : Int32).toInt = -1 := by decide
  have l0 : (0 : Int32).toInt = 0 := by decide
  have l1 : (1 : Int32).toInt = 1 := by decide
  have l2 : (2 : Int32).toInt = 2 := by decide
  have l5 : (5 : Int32).toInt = 5 := by decide
  have l8 : (8 : Int32).toInt = 8 := by decide
  have l12 : (12 : Int32).toInt = 12 := by decide
  have l39 : (39 : Int32).toInt = 39 := by decide
  have l200 : (200 : Int32).toInt = 200 := by decide
  rw [mC_Parser_order]
  refine okM_bM (kC_Tokens_take I) (fun r_2 u_3 z_1 => ?_)
  obtain ⟨I_u_3, G_u_3, p_4, p_5, p_6⟩ := z_1
  have F_u_3 : Fq [4, 8] [17, 18] u u_3 := Fq_tr (Fq_rfl u) G_u_3 rfl rfl
  refine okM_le (fun c_7 => ?_) (fun c_7 => ?_)
  · refine okM_bP (kC_Tokens_numberOf I_u_3) (fun r_9 z_8 => ?_)
    have p_10 := z_8
    refine okM_lt (fun c_11 => ?_) (fun c_11 => ?_)
    · rw [mC_Parser_order_J47]
      refine okM_bM (kC_Tokens_takes I_u_3 (by decide)) (fun r_13 u_14 z_12 => ?_)
      obtain ⟨I_u_14, G_u_14, p_15, p_16⟩ := z_12
      have F_u_14 : Fq [4, 8] [17, 18] u u_14 := Fq_tr F_u_3 G_u_14 rfl rfl
      refine okM_eq (fun c_17 c_17' => ?_) (fun c_17 => ?_)
      · refine okM_bP (kC_Lists_add I_u_14 (by have FUe : FU = 100000 := rfl; have B_19 := IC_b I_u_14; omega)) (fun u_20 z_18 => ?_)
        obtain ⟨I_u_20, G_u_20⟩ := z_18
        have F_u_20 : Fq [4, 8] [17, 18] u u_20 := Fq_tr F_u_14 G_u_20 rfl rfl
        exact okM_some ⟨I_u_20, F_u_20, (by omega), (by omega)⟩
      · try have e_21 : ((-1) - 8 : Int32).toInt = ((-1) : Int32).toInt - (8 : Int32).toInt := by exact sub_i (by omega) (by omega)
        refine okM_bP (kC_Lists_add I_u_14 (by have FUe : FU = 100000 := rfl; have B_23 := IC_b I_u_14; omega)) (fun u_24 z_22 => ?_)
        obtain ⟨I_u_24, G_u_24⟩ := z_22
        have F_u_24 : Fq [4, 8] [17, 18] u u_24 := Fq_tr F_u_14 G_u_24 rfl rfl
        exact okM_some ⟨I_u_24, F_u_24, (by omega), (by omega)⟩
    · refine okM_le (fun c_25 => ?_) (fun c_25 => ?_)
      · try have e_26 : ((Int64.toInt32 r_9) - 1 : Int32).toInt = ((Int64.toInt32 r_9) : Int32).toInt - (1 : Int32).toInt := by exact sub_i (by omega) (by omega)
        rw [mC_Parser_order_J47]
        refine okM_bM (kC_Tokens_takes I_u_3 (by decide)) (fun r_28 u_29 z_27 => ?_)
        obtain ⟨I_u_29, G_u_29, p_30, p_31⟩ := z_27
        have F_u_29 : Fq [4, 8] [17, 18] u u_29 := Fq_tr F_u_3 G_u_29 rfl rfl
        refine okM_eq (fun c_32 c_32' => ?_) (fun c_32 => ?_)
        · try have e_33 : ((Int64.toInt32 r_9) - 1 : Int32).toInt = ((Int64.toInt32 r_9) : Int32).toInt - (1 : Int32).toInt := by exact sub_i (by omega) (by omega)
          refine okM_bP (kC_Lists_add I_u_29 (by have FUe : FU = 100000 := rfl; have B_35 := IC_b I_u_29; omega)) (fun u_36 z_34 => ?_)
          obtain ⟨I_u_36, G_u_36⟩ := z_34
          have F_u_36 : Fq [4, 8] [17, 18] u u_36 := Fq_tr F_u_29 G_u_36 rfl rfl
          exact okM_some ⟨I_u_36, F_u_36, (by omega), (by omega)⟩
        · try have e_37 : ((Int64.toInt32 r_9) - 1 : Int32).toInt = ((Int64.toInt32 r_9) : Int32).toInt - (1 : Int32).toInt := by exact sub_i (by omega) (by omega)
          try have e_38 : ((-1) - ((Int64.toInt32 r_9) - 1) : Int32).toInt = ((-1) : Int32).toInt - (((Int64.toInt32 r_9) - 1) : Int32).toInt := by exact sub_i (by omega) (by omega)
          refine okM_bP (kC_Lists_add I_u_29 (by have FUe : FU = 100000 := rfl; have B_40 := IC_b I_u_29; omega)) (fun u_41 z_39 => ?_)
          obtain ⟨I_u_41, G_u_41⟩ := z_39
          have F_u_41 : Fq [4, 8] [17, 18] u u_41 := Fq_tr F_u_29 G_u_41 rfl rfl
          exact okM_some ⟨I_u_41, F_u_41, (by omega), (by omega)⟩
      · rw [mC_Parser_order_J47]
        refine okM_bM (kC_Tokens_takes I_u_3 (by decide)) (fun r_43 u_44 z_42 => ?_)
        obtain ⟨I_u_44, G_u_44, p_45, p_46⟩ := z_42
        have F_u_44 : Fq [4, 8] [17, 18] u u_44 := Fq_tr F_u_3 G_u_44 rfl rfl
        refine okM_eq (fun c_47 c_47' => ?_) (fun c_47 => ?_)
        · refine okM_bP (kC_Lists_add I_u_44 (by have FUe : FU = 100000 := rfl; have B_49 := IC_b I_u_44; omega)) (fun u_50 z_48 => ?_)
          obtain ⟨I_u_50, G_u_50⟩ := z_48
          have F_u_50 : Fq [4, 8] [17, 18] u u_50 := Fq_tr F_u_44 G_u_50 rfl rfl
          exact okM_some ⟨I_u_50, F_u_50, (by omega), (by omega)⟩
        · try have e_51 : ((-1) - 8 : Int32).toInt = ((-1) : Int32).toInt - (8 : Int32).toInt := by exact sub_i (by omega) (by omega)
          refine okM_bP (kC_Lists_add I_u_44 (by have FUe : FU = 100000 := rfl; have B_53 := IC_b I_u_44; omega)) (fun u_54 z_52 => ?_)
          obtain ⟨I_u_54, G_u_54⟩ := z_52
          have F_u_54 : Fq [4, 8] [17, 18] u u_54 := Fq_tr F_u_44 G_u_54 rfl rfl
          exact okM_some ⟨I_u_54, F_u_54, (by omega), (by omega)⟩
  · exact okM_some ⟨I_u_3, F_u_3, (by omega), (by omega)⟩
theorem kC_Parser_orders_L42 : ∀ (n : Nat) {x1 : Int32} {x2 : Int32} {u : St} (I : IC u) (h0 : 0 ≤ x2.toInt) (h1 : x2.toInt ≤ 2000) (h2 : 0 ≤ x1.toInt) (h3 : x1.toInt ≤ 1) (hm : (2000 - x2.toInt).toNat < n), okM (mC_Parser_orders_L42 n x1 x2 u) (fun r v => IC v ∧ Fq [4, 8] [17, 18] u v ∧ 0 ≤ r.toInt ∧ r.toInt ≤ 1) := by
  intro n
  induction n with
  | zero => intro x1 x2 u I h0 h1 h2 h3 hm; exact absurd hm (Nat.not_lt_zero _)
  | succ n ih =>
    intro x1 x2 u I h0 h1 h2 h3 hm
    have l0 : (0 : Int32).toInt = 0 := by decide
    have l1 : (1 : Int32).toInt = 1 := by decide
    have l33 : (33 : Int32).toInt = 33 := by decide
    have l2000 : (2000 : Int32).toInt = 2000 := by decide
    rw [mC_Parser_orders_L42]
    refine okM_le (fun c_1 => ?_) (fun c_1 => ?_)
    · refine okM_gd (zb_of (by omega) (by omega)) ?_
      exact okM_some ⟨I, (Fq_rfl u), (by omega), (by omega)⟩
    · refine okM_eq (fun c_2 c_2' => ?_) (fun c_2 => ?_)
      · refine okM_gd (zb_of (by omega) (by omega)) ?_
        exact okM_some ⟨I, (Fq_rfl u), (by omega), (by omega)⟩
      · refine okM_bM (kC_Tokens_takes I (by decide)) (fun r_4 u_5 z_3 => ?_)
        obtain ⟨I_u_5, G_u_5, p_6, p_7⟩ := z_3
        have F_u_5 : Fq [4, 8] [17, 18] u u_5 := Fq_tr (Fq_rfl u) G_u_5 rfl rfl
        refine okM_eq (fun c_8 c_8' => ?_) (fun c_8 => ?_)
        · refine okM_gd (zb_of (by omega) (by omega)) ?_
          exact okM_some ⟨I_u_5, F_u_5, (by omega), (by omega)⟩
        · refine okM_bM (kC_Parser_order I_u_5) (fun r_10 u_11 z_9 => ?_)
          obtain ⟨I_u_11, G_u_11, p_12, p_13⟩ := z_9
          have F_u_11 : Fq [4, 8] [17, 18] u u_11 := Fq_tr F_u_5 G_u_11 rfl rfl
          try have e_16 : (x2 + 1 : Int32).toInt = (x2 : Int32).toInt + (1 : Int32).toInt := by exact add_i (by omega) (by omega)
          refine okM_seq (fun y_15 h_14 => ?_)
          have h_14' : y_15.toInt = (x2 + 1 : Int32).toInt := by rw [h_14]
          refine okM_mono (ih I_u_11 (by have B_17 := IC_b I_u_11; omega) (by have B_18 := IC_b I_u_11; omega) (by have B_19 := IC_b I_u_11; omega) (by have B_20 := IC_b I_u_11; omega) (by have B_21 := IC_b I_u_11; omega)) (fun r_23 u_24 z_22 => ?_)
          obtain ⟨I_u_24, G_u_24, p_25, p_26⟩ := z_22
          have F_u_24 : Fq [4, 8] [17, 18] u u_24 := Fq_tr F_u_11 G_u_24 rfl rfl
          exact ⟨I_u_24, F_u_24, (by omega), (by omega)⟩
theorem kC_Parser_orders {u : St} (I : IC u) : okM (mC_Parser_orders u) (fun r v => IC v ∧ Fq [4, 8] [17, 18] u v ∧ 0 ≤ r.toInt ∧ r.toInt ≤ 1) := by
  have l0 : (0 : Int32).toInt = 0 := by decide
  have l1 : (1 : Int32).toInt = 1 := by decide
  have l37 : (37 : Int32).toInt = 37 := by decide
  have l38 : (38 : Int32).toInt = 38 := by decide
  have l2000 : (2000 : Int32).toInt = 2000 := by decide
  rw [mC_Parser_orders]
  refine okM_bM (kC_Tokens_takes I (by decide)) (fun r_2 u_3 z_1 => ?_)
  obtain ⟨I_u_3, G_u_3, p_4, p_5⟩ := z_1
  have F_u_3 : Fq [4, 8] [17, 18] u u_3 := Fq_tr (Fq_rfl u) G_u_3 rfl rfl
  refine okM_eq (fun c_6 c_6' => ?_) (fun c_6 => ?_)
  · exact okM_some ⟨I_u_3, F_u_3, (by omega), (by omega)⟩
  · refine okM_bM (kC_Tokens_takes I_u_3 (by decide)) (fun r_8 u_9 z_7 => ?_)
    obtain ⟨I_u_9, G_u_9, p_10, p_11⟩ := z_7
    have F_u_9 : Fq [4, 8] [17, 18] u u_9 := Fq_tr F_u_3 G_u_9 rfl rfl
    refine okM_eq (fun c_12 c_12' => ?_) (fun c_12 => ?_)
    · refine okM_mono (kC_Parser_orders_L42 _ I_u_9 (by have FUe : FU = 100000 := rfl; have B_13 := IC_b I_u_9; omega) (by have FUe : FU = 100000 := rfl; have B_14 := IC_b I_u_9; omega) (by have FUe : FU = 100000 := rfl; have B_15 := IC_b I_u_9; omega) (by have FUe : FU = 100000 := rfl; have B_16 := IC_b I_u_9; omega) (by have FUe : FU = 100000 := rfl; have B_17 := IC_b I_u_9; omega)) (fun r_19 u_20 z_18 => ?_)
      obtain ⟨I_u_20, G_u_20, p_21, p_22⟩ := z_18
      have F_u_20 : Fq [4, 8] [17, 18] u u_20 := Fq_tr F_u_9 G_u_20 rfl rfl
      exact ⟨I_u_20, F_u_20, (by omega), (by omega)⟩
    · refine okM_bM (kC_Parser_order I_u_9) (fun r_24 u_25 z_23 => ?_)
      obtain ⟨I_u_25, G_u_25, p_26, p_27⟩ := z_23
      have F_u_25 : Fq [4, 8] [17, 18] u u_25 := Fq_tr F_u_9 G_u_25 rfl rfl
      refine okM_eq (fun c_28 c_28' => ?_) (fun c_28 => ?_)
      · refine okM_mono (kC_Parser_orders_L42 _ I_u_25 (by have FUe : FU = 100000 := rfl; have B_29 := IC_b I_u_25; omega) (by have FUe : FU = 100000 := rfl; have B_30 := IC_b I_u_25; omega) (by have FUe : FU = 100000 := rfl; have B_31 := IC_b I_u_25; omega) (by have FUe : FU = 100000 := rfl; have B_32 := IC_b I_u_25; omega) (by have FUe : FU = 100000 := rfl; have B_33 := IC_b I_u_25; omega)) (fun r_35 u_36 z_34 => ?_)
        obtain ⟨I_u_36, G_u_36, p_37, p_38⟩ := z_34
        have F_u_36 : Fq [4, 8] [17, 18] u u_36 := Fq_tr F_u_25 G_u_36 rfl rfl
        exact ⟨I_u_36, F_u_36, (by omega), (by omega)⟩
      · refine okM_mono (kC_Parser_orders_L42 _ I_u_25 (by have FUe : FU = 100000 := rfl; have B_39 := IC_b I_u_25; omega) (by have FUe : FU = 100000 := rfl; have B_40 := IC_b I_u_25; omega) (by have FUe : FU = 100000 := rfl; have B_41 := IC_b I_u_25; omega) (by have FUe : FU = 100000 := rfl; have B_42 := IC_b I_u_25; omega) (by have FUe : FU = 100000 := rfl; have B_43 := IC_b I_u_25; omega)) (fun r_45 u_46 z_44 => ?_)
        obtain ⟨I_u_46, G_u_46, p_47, p_48⟩ := z_44
        have F_u_46 : Fq [4, 8] [17, 18] u u_46 := Fq_tr F_u_25 G_u_46 rfl rfl
        exact ⟨I_u_46, F_u_46, (by omega), (by omega)⟩
theorem kC_Parser_limit {u : St} (I : IC u) : okM (mC_Parser_limit u) (fun r v => IC v ∧ Fq [4, 17] [] u v ∧ 0 ≤ r.toInt ∧ r.toInt ≤ 1) := by
  have l0 : (0 : Int32).toInt = 0 := by decide
  have l1 : (1 : Int32).toInt = 1 := by decide
  have l2 : (2 : Int32).toInt = 2 := by decide
  have l40 : (40 : Int32).toInt = 40 := by decide
  rw [mC_Parser_limit]
  refine okM_bM (kC_Tokens_takes I (by decide)) (fun r_2 u_3 z_1 => ?_)
  obtain ⟨I_u_3, G_u_3, p_4, p_5⟩ := z_1
  have F_u_3 : Fq [4, 17] [] u u_3 := Fq_tr (Fq_rfl u) G_u_3 rfl rfl
  refine okM_eq (fun c_6 c_6' => ?_) (fun c_6 => ?_)
  · exact okM_some ⟨I_u_3, F_u_3, (by omega), (by omega)⟩
  · refine okM_bM (kC_Tokens_take I_u_3) (fun r_8 u_9 z_7 => ?_)
    obtain ⟨I_u_9, G_u_9, p_10, p_11, p_12⟩ := z_7
    have F_u_9 : Fq [4, 17] [] u u_9 := Fq_tr F_u_3 G_u_9 rfl rfl
    refine okM_bP (kC_Tokens_numberOf I_u_9) (fun r_14 z_13 => ?_)
    have p_15 := z_13
    refine okM_seq (fun u_17 h_16 => ?_)
    have I_u_17 : IC u_17 := by rw [h_16]; exact I_u_9
    have F_u_17 : Fq [4, 17] [] u u_17 := by rw [h_16]; exact Fq_ss F_u_9 rfl
    refine okM_lt (fun c_18 => ?_) (fun c_18 => ?_)
    · exact okM_some ⟨I_u_17, F_u_17, (by omega), (by omega)⟩
    · exact okM_some ⟨I_u_17, F_u_17, (by omega), (by omega)⟩
theorem kC_Parser_lock {u : St} (I : IC u) : okM (mC_Parser_lock u) (fun r v => IC v ∧ Fq [4, 16] [] u v ∧ 0 ≤ r.toInt ∧ r.toInt ≤ 1) := by
  have l0 : (0 : Int32).toInt = 0 := by decide
  have l1 : (1 : Int32).toInt = 1 := by decide
  have l16 : (16 : Int32).toInt = 16 := by decide
  have l41 : (41 : Int32).toInt = 41 := by decide
  have l42 : (42 : Int32).toInt = 42 := by decide
  have l43 : (43 : Int32).toInt = 43 := by decide
  rw [mC_Parser_lock]
  refine okM_bM (kC_Tokens_takes I (by decide)) (fun r_2 u_3 z_1 => ?_)
  obtain ⟨I_u_3, G_u_3, p_4, p_5⟩ := z_1
  have F_u_3 : Fq [4, 16] [] u u_3 := Fq_tr (Fq_rfl u) G_u_3 rfl rfl
  refine okM_eq (fun c_6 c_6' => ?_) (fun c_6 => ?_)
  · exact okM_some ⟨I_u_3, F_u_3, (by omega), (by omega)⟩
  · refine okM_bM (kC_Tokens_takes I_u_3 (by decide)) (fun r_8 u_9 z_7 => ?_)
    obtain ⟨I_u_9, G_u_9, p_10, p_11⟩ := z_7
    have F_u_9 : Fq [4, 16] [] u u_9 := Fq_tr F_u_3 G_u_9 rfl rfl
    refine okM_eq (fun c_12 c_12' => ?_) (fun c_12 => ?_)
    · refine okM_bM (kC_Tokens_takes I_u_9 (by decide)) (fun r_14 u_15 z_13 => ?_)
      obtain ⟨I_u_15, G_u_15, p_16, p_17⟩ := z_13
      have F_u_15 : Fq [4, 16] [] u u_15 := Fq_tr F_u_9 G_u_15 rfl rfl
      refine okM_eq (fun c_18 c_18' => ?_) (fun c_18 => ?_)
      · refine okM_seq (fun u_20 h_19 => ?_)
        have I_u_20 : IC u_20 := by rw [h_19]; exact I_u_15
        have F_u_20 : Fq [4, 16] [] u u_20 := by rw [h_19]; exact Fq_ss F_u_15 rfl
        refine okM_le (fun c_21 => ?_) (fun c_21 => ?_)
        · exact okM_some ⟨I_u_20, F_u_20, (by omega), (by omega)⟩
        · exact okM_some ⟨I_u_20, F_u_20, (by omega), (by omega)⟩
      · refine okM_seq (fun u_23 h_22 => ?_)
        have I_u_23 : IC u_23 := by rw [h_22]; exact I_u_15
        have F_u_23 : Fq [4, 16] [] u u_23 := by rw [h_22]; exact Fq_ss F_u_15 rfl
        refine okM_le (fun c_24 => ?_) (fun c_24 => ?_)
        · exact okM_some ⟨I_u_23, F_u_23, (by omega), (by omega)⟩
        · exact okM_some ⟨I_u_23, F_u_23, (by omega), (by omega)⟩
    · refine okM_seq (fun u_26 h_25 => ?_)
      have I_u_26 : IC u_26 := by rw [h_25]; exact I_u_9
      have F_u_26 : Fq [4, 16] [] u u_26 := by rw [h_25]; exact Fq_ss F_u_9 rfl
      refine okM_le (fun c_27 => ?_) (fun c_27 => ?_)
      · exact okM_some ⟨I_u_26, F_u_26, (by omega), (by omega)⟩
      · exact okM_some ⟨I_u_26, F_u_26, (by omega), (by omega)⟩
theorem kC_Parser_is {x1 : Int32} {u : St} (I : IC u) : okM (mC_Parser_is x1 u) (fun r v => IC v ∧ Fq [10] [] u v ∧ 1 ≤ r.toInt ∧ r.toInt ≤ 1) := by
  have l1 : (1 : Int32).toInt = 1 := by decide
  rw [mC_Parser_is]
  refine okM_seq (fun u_2 h_1 => ?_)
  have I_u_2 : IC u_2 := by rw [h_1]; exact I
  have F_u_2 : Fq [10] [] u u_2 := by rw [h_1]; exact Fq_ss (Fq_rfl u) rfl
  exact okM_some ⟨I_u_2, F_u_2, (by omega), (by omega)⟩
theorem kC_Parser_query {x1 : Int32} {u : St} (I : IC u) : okM (mC_Parser_query x1 u) (fun r v => IC v ∧ Fq [4, 6, 7, 8, 10, 16, 17, 18, 20, 21, 23] [8, 9, 10, 11, 12, 13, 14, 15, 16, 17, 18] u v ∧ 0 ≤ r.toInt ∧ r.toInt ≤ 1) := by
  have l0 : (0 : Int32).toInt = 0 := by decide
  have l1 : (1 : Int32).toInt = 1 := by decide
  have l4 : (4 : Int32).toInt = 4 := by decide
  have l5 : (5 : Int32).toInt = 5 := by decide
  have l21 : (21 : Int32).toInt = 21 := by decide
  rw [mC_Parser_query]
  refine okM_bM (kC_Tokens_takes I (by decide)) (fun r_2 u_3 z_1 => ?_)
  obtain ⟨I_u_3, G_u_3, p_4, p_5⟩ := z_1
  have F_u_3 : Fq [4, 6, 7, 8, 10, 16, 17, 18, 20, 21, 23] [8, 9, 10, 11, 12, 13, 14, 15, 16, 17, 18] u u_3 := Fq_tr (Fq_rfl u) G_u_3 rfl rfl
  refine okM_gd (zb_of (by omega) (by omega)) ?_
  refine okM_seq (fun u_7 h_6 => ?_)
  have I_u_7 : IC u_7 := by rw [h_6]; exact I_u_3
  have F_u_7 : Fq [4, 6, 7, 8, 10, 16, 17, 18, 20, 21, 23] [8, 9, 10, 11, 12, 13, 14, 15, 16, 17, 18] u u_7 := by rw [h_6]; exact Fq_ss F_u_3 rfl
  refine okM_bM (kC_Tokens_takes I_u_7 (by decide)) (fun r_9 u_10 z_8 => ?_)
  obtain ⟨I_u_10, G_u_10, p_11, p_12⟩ := z_8
  have F_u_10 : Fq [4, 6, 7, 8, 10, 16, 17, 18, 20, 21, 23] [8, 9, 10, 11, 12, 13, 14, 15, 16, 17, 18] u u_10 := Fq_tr F_u_7 G_u_10 rfl rfl
  refine okM_gd (zb_of (by omega) (by omega)) ?_
  refine okM_seq (fun u_14 h_13 => ?_)
  have I_u_14 : IC u_14 := by rw [h_13]; exact I_u_10
  have F_u_14 : Fq [4, 6, 7, 8, 10, 16, 17, 18, 20, 21, 23] [8, 9, 10, 11, 12, 13, 14, 15, 16, 17, 18] u u_14 := by rw [h_13]; exact Fq_ss F_u_10 rfl
  refine okM_seq (fun u_16 h_15 => ?_)
  have I_u_16 : IC u_16 := by rw [h_15]; exact I_u_14
  have F_u_16 : Fq [4, 6, 7, 8, 10, 16, 17, 18, 20, 21, 23] [8, 9, 10, 11, 12, 13, 14, 15, 16, 17, 18] u u_16 := by rw [h_15]; exact Fq_ss F_u_14 rfl
  refine okM_eq (fun c_17 c_17' => ?_) (fun c_17 => ?_)
  · refine okM_bM (kC_Parser_expressions I_u_16) (fun r_19 u_20 z_18 => ?_)
    obtain ⟨I_u_20, G_u_20, p_21, p_22⟩ := z_18
    have F_u_20 : Fq [4, 6, 7, 8, 10, 16, 17, 18, 20, 21, 23] [8, 9, 10, 11, 12, 13, 14, 15, 16, 17, 18] u u_20 := Fq_tr F_u_16 G_u_20 rfl rfl
    refine okM_eq (fun c_23 c_23' => ?_) (fun c_23 => ?_)
    · rw [mC_Parser_query_J60]
      refine okM_seq (fun u_25 h_24 => ?_)
      have I_u_25 : IC u_25 := by rw [h_24]; exact I_u_20
      have F_u_25 : Fq [4, 6, 7, 8, 10, 16, 17, 18, 20, 21, 23] [8, 9, 10, 11, 12, 13, 14, 15, 16, 17, 18] u u_25 := by rw [h_24]; exact Fq_ss F_u_20 rfl
      refine okM_pos (by decide) ?_
      exact okM_some ⟨I_u_25, F_u_25, (by omega), (by omega)⟩
    · rw [mC_Parser_query_J60]
      refine okM_seq (fun u_27 h_26 => ?_)
      have I_u_27 : IC u_27 := by rw [h_26]; exact I_u_20
      have F_u_27 : Fq [4, 6, 7, 8, 10, 16, 17, 18, 20, 21, 23] [8, 9, 10, 11, 12, 13, 14, 15, 16, 17, 18] u u_27 := by rw [h_26]; exact Fq_ss F_u_20 rfl
      refine okM_neg (by decide) ?_
      refine okM_bM (kC_Parser_from I_u_27) (fun r_29 u_30 z_28 => ?_)
      obtain ⟨I_u_30, G_u_30, p_31, p_32⟩ := z_28
      have F_u_30 : Fq [4, 6, 7, 8, 10, 16, 17, 18, 20, 21, 23] [8, 9, 10, 11, 12, 13, 14, 15, 16, 17, 18] u u_30 := Fq_tr F_u_27 G_u_30 rfl rfl
      refine okM_eq (fun c_33 c_33' => ?_) (fun c_33 => ?_)
      · exact okM_some ⟨I_u_30, F_u_30, (by omega), (by omega)⟩
      · refine okM_bM (kC_Parser_where I_u_30) (fun r_35 u_36 z_34 => ?_)
        obtain ⟨I_u_36, G_u_36, p_37, p_38⟩ := z_34
        have F_u_36 : Fq [4, 6, 7, 8, 10, 16, 17, 18, 20, 21, 23] [8, 9, 10, 11, 12, 13, 14, 15, 16, 17, 18] u u_36 := Fq_tr F_u_30 G_u_36 rfl rfl
        refine okM_eq (fun c_39 c_39' => ?_) (fun c_39 => ?_)
        · exact okM_some ⟨I_u_36, F_u_36, (by omega), (by omega)⟩
        · refine okM_bM (kC_Parser_groups I_u_36) (fun r_41 u_42 z_40 => ?_)
          obtain ⟨I_u_42, G_u_42, p_43, p_44⟩ := z_40
          have F_u_42 : Fq [4, 6, 7, 8, 10, 16, 17, 18, 20, 21, 23] [8, 9, 10, 11, 12, 13, 14, 15, 16, 17, 18] u u_42 := Fq_tr F_u_36 G_u_42 rfl rfl
          refine okM_eq (fun c_45 c_45' => ?_) (fun c_45 => ?_)
          · exact okM_some ⟨I_u_42, F_u_42, (by omega), (by omega)⟩
          · refine okM_bM (kC_Parser_orders I_u_42) (fun r_47 u_48 z_46 => ?_)
            obtain ⟨I_u_48, G_u_48, p_49, p_50⟩ := z_46
            have F_u_48 : Fq [4, 6, 7, 8, 10, 16, 17, 18, 20, 21, 23] [8, 9, 10, 11, 12, 13, 14, 15, 16, 17, 18] u u_48 := Fq_tr F_u_42 G_u_48 rfl rfl
            refine okM_eq (fun c_51 c_51' => ?_) (fun c_51 => ?_)
            · exact okM_some ⟨I_u_48, F_u_48, (by omega), (by omega)⟩
            · refine okM_bM (kC_Parser_limit I_u_48) (fun r_53 u_54 z_52 => ?_)
              obtain ⟨I_u_54, G_u_54, p_55, p_56⟩ := z_52
              have F_u_54 : Fq [4, 6, 7, 8, 10, 16, 17, 18, 20, 21, 23] [8, 9, 10, 11, 12, 13, 14, 15, 16, 17, 18] u u_54 := Fq_tr F_u_48 G_u_54 rfl rfl
              refine okM_eq (fun c_57 c_57' => ?_) (fun c_57 => ?_)
              · exact okM_some ⟨I_u_54, F_u_54, (by omega), (by omega)⟩
              · refine okM_bM (kC_Parser_lock I_u_54) (fun r_59 u_60 z_58 => ?_)
                obtain ⟨I_u_60, G_u_60, p_61, p_62⟩ := z_58
                have F_u_60 : Fq [4, 6, 7, 8, 10, 16, 17, 18, 20, 21, 23] [8, 9, 10, 11, 12, 13, 14, 15, 16, 17, 18] u u_60 := Fq_tr F_u_54 G_u_60 rfl rfl
                refine okM_eq (fun c_63 c_63' => ?_) (fun c_63 => ?_)
                · exact okM_some ⟨I_u_60, F_u_60, (by omega), (by omega)⟩
                · refine okM_bM (kC_Parser_is I_u_60) (fun r_65 u_66 z_64 => ?_)
                  obtain ⟨I_u_66, G_u_66, p_67, p_68⟩ := z_64
                  have F_u_66 : Fq [4, 6, 7, 8, 10, 16, 17, 18, 20, 21, 23] [8, 9, 10, 11, 12, 13, 14, 15, 16, 17, 18] u u_66 := Fq_tr F_u_60 G_u_66 rfl rfl
                  refine okM_eq (fun c_69 c_69' => ?_) (fun c_69 => ?_)
                  · exact okM_some ⟨I_u_66, F_u_66, (by omega), (by omega)⟩
                  · exact okM_some ⟨I_u_66, F_u_66, (by omega), (by omega)⟩
  · rw [mC_Parser_query_J60]
    refine okM_seq (fun u_71 h_70 => ?_)
    have I_u_71 : IC u_71 := by rw [h_70]; exact I_u_16
    have F_u_71 : Fq [4, 6, 7, 8, 10, 16, 17, 18, 20, 21, 23] [8, 9, 10, 11, 12, 13, 14, 15, 16, 17, 18] u u_71 := by rw [h_70]; exact Fq_ss F_u_16 rfl
    refine okM_neg (by decide) ?_
    refine okM_bM (kC_Parser_from I_u_71) (fun r_73 u_74 z_72 => ?_)
    obtain ⟨I_u_74, G_u_74, p_75, p_76⟩ := z_72
    have F_u_74 : Fq [4, 6, 7, 8, 10, 16, 17, 18, 20, 21, 23] [8, 9, 10, 11, 12, 13, 14, 15, 16, 17, 18] u u_74 := Fq_tr F_u_71 G_u_74 rfl rfl
    refine okM_eq (fun c_77 c_77' => ?_) (fun c_77 => ?_)
    · exact okM_some ⟨I_u_74, F_u_74, (by omega), (by omega)⟩
    · refine okM_bM (kC_Parser_where I_u_74) (fun r_79 u_80 z_78 => ?_)
      obtain ⟨I_u_80, G_u_80, p_81, p_82⟩ := z_78
      have F_u_80 : Fq [4, 6, 7, 8, 10, 16, 17, 18, 20, 21, 23] [8, 9, 10, 11, 12, 13, 14, 15, 16, 17, 18] u u_80 := Fq_tr F_u_74 G_u_80 rfl rfl
      refine okM_eq (fun c_83 c_83' => ?_) (fun c_83 => ?_)
      · exact okM_some ⟨I_u_80, F_u_80, (by omega), (by omega)⟩
      · refine okM_bM (kC_Parser_groups I_u_80) (fun r_85 u_86 z_84 => ?_)
        obtain ⟨I_u_86, G_u_86, p_87, p_88⟩ := z_84
        have F_u_86 : Fq [4, 6, 7, 8, 10, 16, 17, 18, 20, 21, 23] [8, 9, 10, 11, 12, 13, 14, 15, 16, 17, 18] u u_86 := Fq_tr F_u_80 G_u_86 rfl rfl
        refine okM_eq (fun c_89 c_89' => ?_) (fun c_89 => ?_)
        · exact okM_some ⟨I_u_86, F_u_86, (by omega), (by omega)⟩
        · refine okM_bM (kC_Parser_orders I_u_86) (fun r_91 u_92 z_90 => ?_)
          obtain ⟨I_u_92, G_u_92, p_93, p_94⟩ := z_90
          have F_u_92 : Fq [4, 6, 7, 8, 10, 16, 17, 18, 20, 21, 23] [8, 9, 10, 11, 12, 13, 14, 15, 16, 17, 18] u u_92 := Fq_tr F_u_86 G_u_92 rfl rfl
          refine okM_eq (fun c_95 c_95' => ?_) (fun c_95 => ?_)
          · exact okM_some ⟨I_u_92, F_u_92, (by omega), (by omega)⟩
          · refine okM_bM (kC_Parser_limit I_u_92) (fun r_97 u_98 z_96 => ?_)
            obtain ⟨I_u_98, G_u_98, p_99, p_100⟩ := z_96
            have F_u_98 : Fq [4, 6, 7, 8, 10, 16, 17, 18, 20, 21, 23] [8, 9, 10, 11, 12, 13, 14, 15, 16, 17, 18] u u_98 := Fq_tr F_u_92 G_u_98 rfl rfl
            refine okM_eq (fun c_101 c_101' => ?_) (fun c_101 => ?_)
            · exact okM_some ⟨I_u_98, F_u_98, (by omega), (by omega)⟩
            · refine okM_bM (kC_Parser_lock I_u_98) (fun r_103 u_104 z_102 => ?_)
              obtain ⟨I_u_104, G_u_104, p_105, p_106⟩ := z_102
              have F_u_104 : Fq [4, 6, 7, 8, 10, 16, 17, 18, 20, 21, 23] [8, 9, 10, 11, 12, 13, 14, 15, 16, 17, 18] u u_104 := Fq_tr F_u_98 G_u_104 rfl rfl
              refine okM_eq (fun c_107 c_107' => ?_) (fun c_107 => ?_)
              · exact okM_some ⟨I_u_104, F_u_104, (by omega), (by omega)⟩
              · refine okM_bM (kC_Parser_is I_u_104) (fun r_109 u_110 z_108 => ?_)
                obtain ⟨I_u_110, G_u_110, p_111, p_112⟩ := z_108
                have F_u_110 : Fq [4, 6, 7, 8, 10, 16, 17, 18, 20, 21, 23] [8, 9, 10, 11, 12, 13, 14, 15, 16, 17, 18] u u_110 := Fq_tr F_u_104 G_u_110 rfl rfl
                refine okM_eq (fun c_113 c_113' => ?_) (fun c_113 => ?_)
                · exact okM_some ⟨I_u_110, F_u_110, (by omega), (by omega)⟩
                · exact okM_some ⟨I_u_110, F_u_110, (by omega), (by omega)⟩
theorem kC_Parser_target {u : St} (I : IC u) : okM (mC_Parser_target u) (fun r v => IC v ∧ Fq [4, 12] [] u v ∧ 0 ≤ r.toInt ∧ r.toInt ≤ 1) := by
  have l0 : (0 : Int32).toInt = 0 := by decide
  have l1 : (1 : Int32).toInt = 1 := by decide
  have l12 : (12 : Int32).toInt = 12 := by decide
  rw [mC_Parser_target]
  refine okM_bM (kC_Tokens_take I) (fun r_2 u_3 z_1 => ?_)
  obtain ⟨I_u_3, G_u_3, p_4, p_5, p_6⟩ := z_1
  have F_u_3 : Fq [4, 12] [] u u_3 := Fq_tr (Fq_rfl u) G_u_3 rfl rfl
  refine okM_seq (fun u_8 h_7 => ?_)
  have I_u_8 : IC u_8 := by rw [h_7]; exact I_u_3
  have F_u_8 : Fq [4, 12] [] u u_8 := by rw [h_7]; exact Fq_ss F_u_3 rfl
  refine okM_lt (fun c_9 => ?_) (fun c_9 => ?_)
  · exact okM_some ⟨I_u_8, F_u_8, (by omega), (by omega)⟩
  · exact okM_some ⟨I_u_8, F_u_8, (by omega), (by omega)⟩
theorem kC_Lists_size {x1 : Int32} {u : St} (I : IC u) : ok (mC_Lists_size x1 u) (fun r => 0 ≤ r.toInt ∧ r.toInt ≤ 200) := by
  have z0 : (0 : Int32).toInt = 0 := by decide
  have l14 : (14 : Int32).toInt = 14 := by decide
  rw [mC_Lists_size]
  refine ok_lt (fun c => ok_some ⟨by omega, by omega⟩) (fun c => ?_)
  refine ok_lt (fun c => ?_) (fun c2 => ok_some ⟨by omega, by omega⟩)
  have F := gst_f (i := x1) (by omega) (by omega)
  have Z := IC_siz I (i := x1) (by omega) (by omega)
  exact ok_gd (inb_of (by omega) (by omega)) (ok_some ⟨by omega, by omega⟩)
theorem kC_Parser_rows_L12 : ∀ (n : Nat) {x1 : Int32} {x2 : Int32} {u : St} (I : IC u) (h0 : 0 ≤ x2.toInt) (h1 : x2.toInt ≤ 2000) (h2 : 0 ≤ x1.toInt) (h3 : x1.toInt ≤ 1) (hm : (2000 - x2.toInt).toNat < n), okM (mC_Parser_rows_L12 n x1 x2 u) (fun r v => IC v ∧ Fq [4, 6, 7, 8, 10] [8, 9, 10, 11, 12, 13, 14, 15, 16, 17, 18] u v ∧ 0 ≤ r.toInt ∧ r.toInt ≤ 1) := by
  intro n
  induction n with
  | zero => intro x1 x2 u I h0 h1 h2 h3 hm; exact absurd hm (Nat.not_lt_zero _)
  | succ n ih =>
    intro x1 x2 u I h0 h1 h2 h3 hm
    have l0 : (0 : Int32).toInt = 0 := by decide
    have l1 : (1 : Int32).toInt = 1 := by decide
    have l4 : (4 : Int32).toInt = 4 := by decide
    have l5 : (5 : Int32).toInt = 5 := by decide
    have l6 : (6 : Int32).toInt = 6 := by decide
    have l8 : (8 : Int32).toInt = 8 := by decide
    have l9 : (9 : Int32).toInt = 9 := by decide
    have l12 : (12 : Int32).toInt = 12 := by decide
    have l33 : (33 : Int32).toInt = 33 := by decide
    have l200 : (200 : Int32).toInt = 200 := by decide
    have l2000 : (2000 : Int32).toInt = 2000 := by decide
    rw [mC_Parser_rows_L12]
    refine okM_le (fun c_1 => ?_) (fun c_1 => ?_)
    · rw [mC_Parser_rows_J101]
      refine okM_eq (fun c_2 c_2' => ?_) (fun c_2 => ?_)
      · exact okM_some ⟨I, (Fq_rfl u), (by omega), (by omega)⟩
      · refine okM_bM (kC_Parser_is I) (fun r_4 u_5 z_3 => ?_)
        obtain ⟨I_u_5, G_u_5, p_6, p_7⟩ := z_3
        have F_u_5 : Fq [4, 6, 7, 8, 10] [8, 9, 10, 11, 12, 13, 14, 15, 16, 17, 18] u u_5 := Fq_tr (Fq_rfl u) G_u_5 rfl rfl
        refine okM_eq (fun c_8 c_8' => ?_) (fun c_8 => ?_)
        · exact okM_some ⟨I_u_5, F_u_5, (by omega), (by omega)⟩
        · exact okM_some ⟨I_u_5, F_u_5, (by omega), (by omega)⟩
    · refine okM_eq (fun c_9 c_9' => ?_) (fun c_9 => ?_)
      · rw [mC_Parser_rows_J101]
        refine okM_eq (fun c_10 c_10' => ?_) (fun c_10 => ?_)
        · exact okM_some ⟨I, (Fq_rfl u), (by omega), (by omega)⟩
        · refine okM_bM (kC_Parser_is I) (fun r_12 u_13 z_11 => ?_)
          obtain ⟨I_u_13, G_u_13, p_14, p_15⟩ := z_11
          have F_u_13 : Fq [4, 6, 7, 8, 10] [8, 9, 10, 11, 12, 13, 14, 15, 16, 17, 18] u u_13 := Fq_tr (Fq_rfl u) G_u_13 rfl rfl
          refine okM_eq (fun c_16 c_16' => ?_) (fun c_16 => ?_)
          · exact okM_some ⟨I_u_13, F_u_13, (by omega), (by omega)⟩
          · exact okM_some ⟨I_u_13, F_u_13, (by omega), (by omega)⟩
      · refine okM_bM (kC_Tokens_takes I (by decide)) (fun r_18 u_19 z_17 => ?_)
        obtain ⟨I_u_19, G_u_19, p_20, p_21⟩ := z_17
        have F_u_19 : Fq [4, 6, 7, 8, 10] [8, 9, 10, 11, 12, 13, 14, 15, 16, 17, 18] u u_19 := Fq_tr (Fq_rfl u) G_u_19 rfl rfl
        refine okM_eq (fun c_22 c_22' => ?_) (fun c_22 => ?_)
        · rw [mC_Parser_rows_J61]
          refine okM_bP (kC_Lists_size I_u_19) (fun r_24 z_23 => ?_)
          obtain ⟨p_25, p_26⟩ := z_23
          refine okM_bP (kC_Lists_add I_u_19 (by have FUe : FU = 100000 := rfl; have B_28 := IC_b I_u_19; omega)) (fun u_29 z_27 => ?_)
          obtain ⟨I_u_29, G_u_29⟩ := z_27
          have F_u_29 : Fq [4, 6, 7, 8, 10] [8, 9, 10, 11, 12, 13, 14, 15, 16, 17, 18] u u_29 := Fq_tr F_u_19 G_u_29 rfl rfl
          refine okM_bM (kC_Tokens_takes I_u_29 (by decide)) (fun r_31 u_32 z_30 => ?_)
          obtain ⟨I_u_32, G_u_32, p_33, p_34⟩ := z_30
          have F_u_32 : Fq [4, 6, 7, 8, 10] [8, 9, 10, 11, 12, 13, 14, 15, 16, 17, 18] u u_32 := Fq_tr F_u_29 G_u_32 rfl rfl
          refine okM_eq (fun c_35 c_35' => ?_) (fun c_35 => ?_)
          · rw [mC_Parser_rows_J101]
            refine okM_pos (by decide) ?_
            exact okM_some ⟨I_u_32, F_u_32, (by omega), (by omega)⟩
          · try have e_38 : (x2 + 1 : Int32).toInt = (x2 : Int32).toInt + (1 : Int32).toInt := by exact add_i (by omega) (by omega)
            refine okM_seq (fun y_37 h_36 => ?_)
            have h_36' : y_37.toInt = (x2 + 1 : Int32).toInt := by rw [h_36]
            refine okM_mono (ih I_u_32 (by have B_39 := IC_b I_u_32; omega) (by have B_40 := IC_b I_u_32; omega) (by have B_41 := IC_b I_u_32; omega) (by have B_42 := IC_b I_u_32; omega) (by have B_43 := IC_b I_u_32; omega)) (fun r_45 u_46 z_44 => ?_)
            obtain ⟨I_u_46, G_u_46, p_47, p_48⟩ := z_44
            have F_u_46 : Fq [4, 6, 7, 8, 10] [8, 9, 10, 11, 12, 13, 14, 15, 16, 17, 18] u u_46 := Fq_tr F_u_32 G_u_46 rfl rfl
            exact ⟨I_u_46, F_u_46, (by omega), (by omega)⟩
        · refine okM_bM (kC_Parser_expressions I_u_19) (fun r_50 u_51 z_49 => ?_)
          obtain ⟨I_u_51, G_u_51, p_52, p_53⟩ := z_49
          have F_u_51 : Fq [4, 6, 7, 8, 10] [8, 9, 10, 11, 12, 13, 14, 15, 16, 17, 18] u u_51 := Fq_tr F_u_19 G_u_51 rfl rfl
          refine okM_eq (fun c_54 c_54' => ?_) (fun c_54 => ?_)
          · rw [mC_Parser_rows_J61]
            refine okM_bP (kC_Lists_size I_u_51) (fun r_56 z_55 => ?_)
            obtain ⟨p_57, p_58⟩ := z_55
            refine okM_bP (kC_Lists_add I_u_51 (by have FUe : FU = 100000 := rfl; have B_60 := IC_b I_u_51; omega)) (fun u_61 z_59 => ?_)
            obtain ⟨I_u_61, G_u_61⟩ := z_59
            have F_u_61 : Fq [4, 6, 7, 8, 10] [8, 9, 10, 11, 12, 13, 14, 15, 16, 17, 18] u u_61 := Fq_tr F_u_51 G_u_61 rfl rfl
            refine okM_bM (kC_Tokens_takes I_u_61 (by decide)) (fun r_63 u_64 z_62 => ?_)
            obtain ⟨I_u_64, G_u_64, p_65, p_66⟩ := z_62
            have F_u_64 : Fq [4, 6, 7, 8, 10] [8, 9, 10, 11, 12, 13, 14, 15, 16, 17, 18] u u_64 := Fq_tr F_u_61 G_u_64 rfl rfl
            refine okM_eq (fun c_67 c_67' => ?_) (fun c_67 => ?_)
            · rw [mC_Parser_rows_J101]
              refine okM_pos (by decide) ?_
              exact okM_some ⟨I_u_64, F_u_64, (by omega), (by omega)⟩
            · try have e_70 : (x2 + 1 : Int32).toInt = (x2 : Int32).toInt + (1 : Int32).toInt := by exact add_i (by omega) (by omega)
              refine okM_seq (fun y_69 h_68 => ?_)
              have h_68' : y_69.toInt = (x2 + 1 : Int32).toInt := by rw [h_68]
              refine okM_mono (ih I_u_64 (by have B_71 := IC_b I_u_64; omega) (by have B_72 := IC_b I_u_64; omega) (by have B_73 := IC_b I_u_64; omega) (by have B_74 := IC_b I_u_64; omega) (by have B_75 := IC_b I_u_64; omega)) (fun r_77 u_78 z_76 => ?_)
              obtain ⟨I_u_78, G_u_78, p_79, p_80⟩ := z_76
              have F_u_78 : Fq [4, 6, 7, 8, 10] [8, 9, 10, 11, 12, 13, 14, 15, 16, 17, 18] u u_78 := Fq_tr F_u_64 G_u_78 rfl rfl
              exact ⟨I_u_78, F_u_78, (by omega), (by omega)⟩
          · refine okM_bM (kC_Tokens_takes I_u_51 (by decide)) (fun r_82 u_83 z_81 => ?_)
            obtain ⟨I_u_83, G_u_83, p_84, p_85⟩ := z_81
            have F_u_83 : Fq [4, 6, 7, 8, 10] [8, 9, 10, 11, 12, 13, 14, 15, 16, 17, 18] u u_83 := Fq_tr F_u_51 G_u_83 rfl rfl
            refine okM_eq (fun c_86 c_86' => ?_) (fun c_86 => ?_)
            · rw [mC_Parser_rows_J61]
              refine okM_bP (kC_Lists_size I_u_83) (fun r_88 z_87 => ?_)
              obtain ⟨p_89, p_90⟩ := z_87
              refine okM_bP (kC_Lists_add I_u_83 (by have FUe : FU = 100000 := rfl; have B_92 := IC_b I_u_83; omega)) (fun u_93 z_91 => ?_)
              obtain ⟨I_u_93, G_u_93⟩ := z_91
              have F_u_93 : Fq [4, 6, 7, 8, 10] [8, 9, 10, 11, 12, 13, 14, 15, 16, 17, 18] u u_93 := Fq_tr F_u_83 G_u_93 rfl rfl
              refine okM_bM (kC_Tokens_takes I_u_93 (by decide)) (fun r_95 u_96 z_94 => ?_)
              obtain ⟨I_u_96, G_u_96, p_97, p_98⟩ := z_94
              have F_u_96 : Fq [4, 6, 7, 8, 10] [8, 9, 10, 11, 12, 13, 14, 15, 16, 17, 18] u u_96 := Fq_tr F_u_93 G_u_96 rfl rfl
              refine okM_eq (fun c_99 c_99' => ?_) (fun c_99 => ?_)
              · rw [mC_Parser_rows_J101]
                refine okM_pos (by decide) ?_
                exact okM_some ⟨I_u_96, F_u_96, (by omega), (by omega)⟩
              · try have e_102 : (x2 + 1 : Int32).toInt = (x2 : Int32).toInt + (1 : Int32).toInt := by exact add_i (by omega) (by omega)
                refine okM_seq (fun y_101 h_100 => ?_)
                have h_100' : y_101.toInt = (x2 + 1 : Int32).toInt := by rw [h_100]
                refine okM_mono (ih I_u_96 (by have B_103 := IC_b I_u_96; omega) (by have B_104 := IC_b I_u_96; omega) (by have B_105 := IC_b I_u_96; omega) (by have B_106 := IC_b I_u_96; omega) (by have B_107 := IC_b I_u_96; omega)) (fun r_109 u_110 z_108 => ?_)
                obtain ⟨I_u_110, G_u_110, p_111, p_112⟩ := z_108
                have F_u_110 : Fq [4, 6, 7, 8, 10] [8, 9, 10, 11, 12, 13, 14, 15, 16, 17, 18] u u_110 := Fq_tr F_u_96 G_u_110 rfl rfl
                exact ⟨I_u_110, F_u_110, (by omega), (by omega)⟩
            · rw [mC_Parser_rows_J61]
              refine okM_bP (kC_Lists_size I_u_83) (fun r_114 z_113 => ?_)
              obtain ⟨p_115, p_116⟩ := z_113
              refine okM_bP (kC_Lists_add I_u_83 (by have FUe : FU = 100000 := rfl; have B_118 := IC_b I_u_83; omega)) (fun u_119 z_117 => ?_)
              obtain ⟨I_u_119, G_u_119⟩ := z_117
              have F_u_119 : Fq [4, 6, 7, 8, 10] [8, 9, 10, 11, 12, 13, 14, 15, 16, 17, 18] u u_119 := Fq_tr F_u_83 G_u_119 rfl rfl
              refine okM_bM (kC_Tokens_takes I_u_119 (by decide)) (fun r_121 u_122 z_120 => ?_)
              obtain ⟨I_u_122, G_u_122, p_123, p_124⟩ := z_120
              have F_u_122 : Fq [4, 6, 7, 8, 10] [8, 9, 10, 11, 12, 13, 14, 15, 16, 17, 18] u u_122 := Fq_tr F_u_119 G_u_122 rfl rfl
              refine okM_eq (fun c_125 c_125' => ?_) (fun c_125 => ?_)
              · rw [mC_Parser_rows_J101]
                refine okM_neg (by decide) ?_
                refine okM_bM (kC_Parser_is I_u_122) (fun r_127 u_128 z_126 => ?_)
                obtain ⟨I_u_128, G_u_128, p_129, p_130⟩ := z_126
                have F_u_128 : Fq [4, 6, 7, 8, 10] [8, 9, 10, 11, 12, 13, 14, 15, 16, 17, 18] u u_128 := Fq_tr F_u_122 G_u_128 rfl rfl
                refine okM_eq (fun c_131 c_131' => ?_) (fun c_131 => ?_)
                · exact okM_some ⟨I_u_128, F_u_128, (by omega), (by omega)⟩
                · exact okM_some ⟨I_u_128, F_u_128, (by omega), (by omega)⟩
              · try have e_134 : (x2 + 1 : Int32).toInt = (x2 : Int32).toInt + (1 : Int32).toInt := by exact add_i (by omega) (by omega)
                refine okM_seq (fun y_133 h_132 => ?_)
                have h_132' : y_133.toInt = (x2 + 1 : Int32).toInt := by rw [h_132]
                refine okM_mono (ih I_u_122 (by have B_135 := IC_b I_u_122; omega) (by have B_136 := IC_b I_u_122; omega) (by have B_137 := IC_b I_u_122; omega) (by have B_138 := IC_b I_u_122; omega) (by have B_139 := IC_b I_u_122; omega)) (fun r_141 u_142 z_140 => ?_)
                obtain ⟨I_u_142, G_u_142, p_143, p_144⟩ := z_140
                have F_u_142 : Fq [4, 6, 7, 8, 10] [8, 9, 10, 11, 12, 13, 14, 15, 16, 17, 18] u u_142 := Fq_tr F_u_122 G_u_142 rfl rfl
                exact ⟨I_u_142, F_u_142, (by omega), (by omega)⟩
