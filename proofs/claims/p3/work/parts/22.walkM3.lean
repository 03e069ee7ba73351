set_option maxRecDepth 100000 in
set_option maxHeartbeats 4000000 in
theorem tM_SqlReaderModel_in_J149 {X : Cx} {G : Gx} {res : Int32 × St} (rc : Nat → Int32 → Int32 → Int32 → Int32 → Int32 → Int32 → St → Option (Int32 × St)) (n0 : Nat) (hrc : ∀ (t : Nat) (a b c d e f : Int32) (u : St) (res : Int32 × St), rc t a b c d e f u = some res → rcCM n0 G t a b c d e f u res) (E : EM X G prog_11_method_36_code R_SqlReaderModel 13 (rmGM (n0 + 1))) (hR : RtI X vwCl (wM G) prog_11_method_36_code res) {q61 : Int32 → Int32 → Int32 → Int32 → Int32 → Int32 → Int32 → Int32 → St → Option (Int32 × St)} (h61 : ∀ (x2 : Int32) (x3 : Int32) (x4 : Int32) (x5 : Int32) (x6 : Int32) (x7 : Int32) (x8 : Int32) (x9 : Int32) (u : St), SM X G 13 res (q61 x2 x3 x4 x5 x6 x7 x8 x9 u) u 61 [(0, .ref (G.1 100)), (2, .int x2), (3, .int x3), (4, .int x4), (5, .int x5), (6, .int x6), (7, .int x7), (8, .int x8), (9, .int x9)] []) : ∀ (x2 : Int32) (x3 : Int32) (x4 : Int32) (x5 : Int32) (x6 : Int32) (x10 : Int32) (s0 : Int32) (u : St), SM X G 13 res (mM_SqlReaderModel_in_J149 rc q61 x2 x3 x4 x5 x6 x10 s0 u) u 149 [(0, .ref (G.1 100)), (2, .int x2), (3, .int x3), (4, .int x4), (5, .int x5), (6, .int x6), (10, .int x10)] [.int s0] := by
  intro x2 x3 x4 x5 x6 x10 s0 u
  rw [mM_SqlReaderModel_in_J149]
  refine Sm_istore (lv' := [(7, .int s0), (0, .ref (G.1 100)), (2, .int x2), (3, .int x3), (4, .int x4), (5, .int x5), (6, .int x6), (10, .int x10)]) E d_SqlReaderModel_in_149 (by decide) rfl ?_
  refine Sm_iload E d_SqlReaderModel_in_151 7 rfl ?_
  refine Sm_iload_n E d_SqlReaderModel_in_153 rfl 2 rfl ?_
  refine Sm_iconst (v := 1) E d_SqlReaderModel_in_154 (by decide) ?_
  refine Sm_isub E d_SqlReaderModel_in_155 ?_
  refine Sm_icmp_ge (tgt := 163) E d_SqlReaderModel_in_156 (by decide) (fun _ => ?_) (fun _ => ?_)
  · refine Sm_iconst (v := 0) E d_SqlReaderModel_in_163 (by decide) ?_
    refine Sm_istore (lv' := [(9, .int 0), (7, .int s0), (0, .ref (G.1 100)), (2, .int x2), (3, .int x3), (4, .int x4), (5, .int x5), (6, .int x6), (10, .int x10)]) E d_SqlReaderModel_in_164 (by decide) rfl ?_
    refine Sm_iload E d_SqlReaderModel_in_166 8 rfl ?_
    refine Sm_iconst (v := 1) E d_SqlReaderModel_in_168 (by decide) ?_
    refine Sm_iadd E d_SqlReaderModel_in_169 ?_
    refine Sm_leti fun y12 _ => ?_
    refine Sm_istore (lv' := [(8, .int y12), (9, .int 0), (7, .int s0), (0, .ref (G.1 100)), (2, .int x2), (3, .int x3), (4, .int x4), (5, .int x5), (6, .int x6), (10, .int x10)]) E d_SqlReaderModel_in_170 (by decide) rfl ?_
    refine Sm_goto (tgt := 61) E d_SqlReaderModel_in_172 (by decide) ?_
    exact Sm_sub [3, 4, 5, 6, 7, 8, 2, 0, 1] rfl (h61 _ _ _ _ _ _ _ _ _)
  · refine Sm_iconst (v := 1) E d_SqlReaderModel_in_159 (by decide) ?_
    refine Sm_goto (tgt := 164) E d_SqlReaderModel_in_160 (by decide) ?_
    refine Sm_istore (lv' := [(9, .int 1), (7, .int s0), (0, .ref (G.1 100)), (2, .int x2), (3, .int x3), (4, .int x4), (5, .int x5), (6, .int x6), (10, .int x10)]) E d_SqlReaderModel_in_164 (by decide) rfl ?_
    refine Sm_iload E d_SqlReaderModel_in_166 8 rfl ?_
    refine Sm_iconst (v := 1) E d_SqlReaderModel_in_168 (by decide) ?_
    refine Sm_iadd E d_SqlReaderModel_in_169 ?_
    refine Sm_leti fun y13 _ => ?_
    refine Sm_istore (lv' := [(8, .int y13), (9, .int 1), (7, .int s0), (0, .ref (G.1 100)), (2, .int x2), (3, .int x3), (4, .int x4), (5, .int x5), (6, .int x6), (10, .int x10)]) E d_SqlReaderModel_in_170 (by decide) rfl ?_
    refine Sm_goto (tgt := 61) E d_SqlReaderModel_in_172 (by decide) ?_
    exact Sm_sub [3, 4, 5, 6, 7, 8, 2, 0, 1] rfl (h61 _ _ _ _ _ _ _ _ _)
set_option maxRecDepth 100000 in
set_option maxHeartbeats 4000000 in
theorem tM_SqlReaderModel_in_J105 {X : Cx} {G : Gx} {res : Int32 × St} (rc : Nat → Int32 → Int32 → Int32 → Int32 → Int32 → Int32 → St → Option (Int32 × St)) (n0 : Nat) (hrc : ∀ (t : Nat) (a b c d e f : Int32) (u : St) (res : Int32 × St), rc t a b c d e f u = some res → rcCM n0 G t a b c d e f u res) (E : EM X G prog_11_method_36_code R_SqlReaderModel 13 (rmGM (n0 + 1))) (hR : RtI X vwCl (wM G) prog_11_method_36_code res) {q61 : Int32 → Int32 → Int32 → Int32 → Int32 → Int32 → Int32 → Int32 → St → Option (Int32 × St)} (h61 : ∀ (x2 : Int32) (x3 : Int32) (x4 : Int32) (x5 : Int32) (x6 : Int32) (x7 : Int32) (x8 : Int32) (x9 : Int32) (u : St), SM X G 13 res (q61 x2 x3 x4 x5 x6 x7 x8 x9 u) u 61 [(0, .ref (G.1 100)), (2, .int x2), (3, .int x3), (4, .int x4), (5, .int x5), (6, .int x6), (7, .int x7), (8, .int x8), (9, .int x9)] []) : ∀ (x2 : Int32) (x3 : Int32) (x4 : Int32) (x5 : Int32) (x6 : Int32) (x7 : Int32) (x8 : Int32) (x10 : Int32) (s0 : Int32) (u : St), SM X G 13 res (mM_SqlReaderModel_in_J105 rc q61 x2 x3 x4 x5 x6 x7 x8 x10 s0 u) u 105 [(0, .ref (G.1 100)), (2, .int x2), (3, .int x3), (4, .int x4), (5, .int x5), (6, .int x6), (7, .int x7), (8, .int x8), (10, .int x10)] [.int s0] := by
  intro x2 x3 x4 x5 x6 x7 x8 x10 s0 u
  rw [mM_SqlReaderModel_in_J105]
  refine Sm_istore (lv' := [(11, .int s0), (0, .ref (G.1 100)), (2, .int x2), (3, .int x3), (4, .int x4), (5, .int x5), (6, .int x6), (7, .int x7), (8, .int x8), (10, .int x10)]) E d_SqlReaderModel_in_105 (by decide) rfl ?_
  refine Sm_aload_n E d_SqlReaderModel_in_107 rfl 1 rfl ?_
  refine Sm_bipush (v := 17) E d_SqlReaderModel_in_108 (by decide) ?_
  refine Sm_iload E d_SqlReaderModel_in_110 0 rfl ?_
  refine Sm_aload_n E d_SqlReaderModel_in_112 rfl 1 rfl ?_
  refine Sm_iconst (v := 0) E d_SqlReaderModel_in_113 (by decide) ?_
  refine Sm_iload E d_SqlReaderModel_in_114 8 rfl ?_
  refine Sm_iload E d_SqlReaderModel_in_116 9 rfl ?_
  refine Sm_iload_n E d_SqlReaderModel_in_118 rfl 3 rfl ?_
  refine Sm_iconst (v := 1) E d_SqlReaderModel_in_119 (by decide) ?_
  refine Sm_iadd E d_SqlReaderModel_in_120 ?_
  refine Sm_cSI (As := [.ref (G.1 100), .int 0, .int x8, .int x10, .int (x3 + 1)]) (st := [.int s0, .int 17, .ref (G.1 100)]) (n := 5) E exOk wM_as (fun _ h => hrc 5 _ _ _ _ _ _ _ _ h X.2.1 (xD X)) gk_SqlReaderModel_330 dk_SqlReaderModel_part rfl ⟨rfl, rfl⟩ ⟨(by show n0 + 7 + 1 ≤ n0 + 1 + 7; omega), (by show 8 + (5 + 11) + (35 * n0 + 155) ≤ 35 * (n0 + 1) + 155; omega)⟩ rfl (Nat.le_of_ble_eq_true rfl) d_SqlReaderModel_in_121 fun r6 u7 _ => ?_
  refine Sm_cVI (As := [.int 17, .int s0, .int r6]) (b := (G.1 100)) (st := []) (n := 3) E exOk wM_as (fun _ h => cM_SqlReaderModel_add 17 s0 r6 u7 h) gk_SqlReaderModel_287 dk_SqlReaderModel_add rfl ⟨rfl, rfl⟩ ⟨(by show 1 + 1 ≤ n0 + 1 + 7; omega), (by show 8 + (4 + 11) + 23 ≤ 35 * (n0 + 1) + 155; omega)⟩ (rvW (q0 := 0) (ci := 1) E rfl rfl rfl) rfl (Nat.le_of_ble_eq_true rfl) d_SqlReaderModel_in_124 fun r8 u9 _ => ?_
  refine Sm_istore (lv' := [(12, .int r8), (11, .int s0), (0, .ref (G.1 100)), (2, .int x2), (3, .int x3), (4, .int x4), (5, .int x5), (6, .int x6), (7, .int x7), (8, .int x8), (10, .int x10)]) E d_SqlReaderModel_in_127 (by decide) rfl ?_
  refine Sm_iload E d_SqlReaderModel_in_129 8 rfl ?_
  refine Sm_if_ge (tgt := 139) E d_SqlReaderModel_in_131 (by decide) (fun _ => ?_) (fun _ => ?_)
  · refine Sm_aload_n E d_SqlReaderModel_in_139 rfl 2 rfl ?_
    refine Sm_bipush (v := 27) E d_SqlReaderModel_in_140 (by decide) ?_
    refine Sm_iload E d_SqlReaderModel_in_142 8 rfl ?_
    refine Sm_iload E d_SqlReaderModel_in_144 0 rfl ?_
    refine Sm_cVI (As := [.int 27, .int x7, .int r8]) (b := (G.1 100)) (st := []) (n := 3) E exOk wM_as (fun _ h => cM_SqlReaderModel_add 27 x7 r8 u9 h) gk_SqlReaderModel_287 dk_SqlReaderModel_add rfl ⟨rfl, rfl⟩ ⟨(by show 1 + 1 ≤ n0 + 1 + 7; omega), (by show 8 + (4 + 11) + 23 ≤ 35 * (n0 + 1) + 155; omega)⟩ (rvW (q0 := 0) (ci := 1) E rfl rfl rfl) rfl (Nat.le_of_ble_eq_true rfl) d_SqlReaderModel_in_146 fun r10 u11 _ => ?_
    exact Sm_sub [2, 3, 4, 5, 6, 7, 10] rfl (tM_SqlReaderModel_in_J149 rc n0 hrc E hR h61 _ _ _ _ _ _ _ _)
  · refine Sm_iload E d_SqlReaderModel_in_134 0 rfl ?_
    refine Sm_goto (tgt := 149) E d_SqlReaderModel_in_136 (by decide) ?_
    exact Sm_sub [2, 3, 4, 5, 6, 7, 10] rfl (tM_SqlReaderModel_in_J149 rc n0 hrc E hR h61 _ _ _ _ _ _ _ _)
set_option maxRecDepth 100000 in
set_option maxHeartbeats 4000000 in
theorem tM_SqlReaderModel_in_L61 {X : Cx} {G : Gx} {res : Int32 × St} (rc : Nat → Int32 → Int32 → Int32 → Int32 → Int32 → Int32 → St → Option (Int32 × St)) (n0 : Nat) (hrc : ∀ (t : Nat) (a b c d e f : Int32) (u : St) (res : Int32 × St), rc t a b c d e f u = some res → rcCM n0 G t a b c d e f u res) (E : EM X G prog_11_method_36_code R_SqlReaderModel 13 (rmGM (n0 + 1))) (hR : RtI X vwCl (wM G) prog_11_method_36_code res) : ∀ (n : Nat) (x2 : Int32) (x3 : Int32) (x4 : Int32) (x5 : Int32) (x6 : Int32) (x7 : Int32) (x8 : Int32) (x9 : Int32) (u : St), SM X G 13 res (mM_SqlReaderModel_in_L61 rc n x2 x3 x4 x5 x6 x7 x8 x9 u) u 61 [(0, .ref (G.1 100)), (2, .int x2), (3, .int x3), (4, .int x4), (5, .int x5), (6, .int x6), (7, .int x7), (8, .int x8), (9, .int x9)] [] := by
  intro n
  induction n with
  | zero => intro x2 x3 x4 x5 x6 x7 x8 x9 u; exact Sm_none
  | succ n h61 =>
    intro x2 x3 x4 x5 x6 x7 x8 x9 u
    rw [mM_SqlReaderModel_in_L61]
    refine Sm_iload E d_SqlReaderModel_in_61 8 rfl ?_
    refine Sm_if_eq (tgt := 175) E d_SqlReaderModel_in_63 (by decide) (fun _ => ?_) (fun _ => ?_)
    · refine Sm_iload E d_SqlReaderModel_in_175 6 rfl ?_
      refine Sm_if_ge (tgt := 184) E d_SqlReaderModel_in_177 (by decide) (fun _ => ?_) (fun _ => ?_)
      · refine Sm_iload E d_SqlReaderModel_in_184 6 rfl ?_
        exact Sm_retI hR d_SqlReaderModel_in_186
      · refine Sm_iconst (v := 0) E d_SqlReaderModel_in_180 (by decide) ?_
        refine Sm_goto (tgt := 186) E d_SqlReaderModel_in_181 (by decide) ?_
        exact Sm_retI hR d_SqlReaderModel_in_186
    · refine Sm_aload_n E d_SqlReaderModel_in_66 rfl 0 rfl ?_
      refine gfM_0_bad E fl_SqlReaderModel_226 d_SqlReaderModel_in_67 ?_
      refine Sm_if_ne (tgt := 175) E d_SqlReaderModel_in_70 (by decide) (fun _ => ?_) (fun _ => ?_)
      · refine Sm_iload E d_SqlReaderModel_in_175 6 rfl ?_
        refine Sm_if_ge (tgt := 184) E d_SqlReaderModel_in_177 (by decide) (fun _ => ?_) (fun _ => ?_)
        · refine Sm_iload E d_SqlReaderModel_in_184 6 rfl ?_
          exact Sm_retI hR d_SqlReaderModel_in_186
        · refine Sm_iconst (v := 0) E d_SqlReaderModel_in_180 (by decide) ?_
          refine Sm_goto (tgt := 186) E d_SqlReaderModel_in_181 (by decide) ?_
          exact Sm_retI hR d_SqlReaderModel_in_186
      · refine Sm_aload_n E d_SqlReaderModel_in_73 rfl 0 rfl ?_
        refine Sm_ldcS_w E sr_SqlReaderModel_387 d_SqlReaderModel_in_74 ?_
        refine Sm_iload E d_SqlReaderModel_in_77 7 rfl ?_
        refine Sm_iload_n E d_SqlReaderModel_in_79 rfl 1 rfl ?_
        refine Sm_iconst (v := 1) E d_SqlReaderModel_in_80 (by decide) ?_
        refine Sm_isub E d_SqlReaderModel_in_81 ?_
        refine Sm_cVi (As := [.ref (G.2.2.1 80), .int x8, .int (x2 - 1)]) (b := (G.1 100)) (st := []) (n := 3) E exOk wM_as (fun _ h => cM_SqlReaderModel_find 80 x8 (x2 - 1) u h) gk_SqlReaderModel_374 dk_SqlReaderModel_find rfl ⟨rfl, rfl⟩ ⟨(by show 6 + 1 ≤ n0 + 1 + 7; omega), (by show 8 + (6 + 11) + 130 ≤ 35 * (n0 + 1) + 155; omega)⟩ (rvW (q0 := 0) (ci := 1) E rfl rfl rfl) rfl (Nat.le_of_ble_eq_true rfl) d_SqlReaderModel_in_82 fun r3 _ => ?_
        refine Sm_istore (lv' := [(10, .int r3), (0, .ref (G.1 100)), (2, .int x2), (3, .int x3), (4, .int x4), (5, .int x5), (6, .int x6), (7, .int x7), (8, .int x8), (9, .int x9)]) E d_SqlReaderModel_in_85 (by decide) rfl ?_
        refine Sm_iload E d_SqlReaderModel_in_87 7 rfl ?_
        refine Sm_if_ge (tgt := 97) E d_SqlReaderModel_in_89 (by decide) (fun _ => ?_) (fun _ => ?_)
        · refine Sm_aload_n E d_SqlReaderModel_in_97 rfl 1 rfl ?_
          refine Sm_iload E d_SqlReaderModel_in_98 5 rfl ?_
          refine Sm_iload E d_SqlReaderModel_in_100 6 rfl ?_
          refine Sm_cVI (As := [.int x5, .int x6]) (b := (G.1 100)) (st := []) (n := 2) E exOk wM_as (fun _ h => cM_SqlReaderModel_again x5 x6 u h) gk_SqlReaderModel_378 dk_SqlReaderModel_again rfl ⟨rfl, rfl⟩ ⟨(by show 2 + 1 ≤ n0 + 1 + 7; omega), (by show 8 + (9 + 11) + 46 ≤ 35 * (n0 + 1) + 155; omega)⟩ (rvW (q0 := 0) (ci := 1) E rfl rfl rfl) rfl (Nat.le_of_ble_eq_true rfl) d_SqlReaderModel_in_102 fun r4 u5 _ => ?_
          exact Sm_sub [1, 2, 3, 4, 5, 6, 7, 8, 0] rfl (tM_SqlReaderModel_in_J105 rc n0 hrc E hR h61 _ _ _ _ _ _ _ _ _ _)
        · refine Sm_iload E d_SqlReaderModel_in_92 4 rfl ?_
          refine Sm_goto (tgt := 105) E d_SqlReaderModel_in_94 (by decide) ?_
          exact Sm_sub [1, 2, 3, 4, 5, 6, 7, 8, 0] rfl (tM_SqlReaderModel_in_J105 rc n0 hrc E hR h61 _ _ _ _ _ _ _ _ _ _)
set_option maxRecDepth 100000 in
set_option maxHeartbeats 4000000 in
theorem tM_SqlReaderModel_in_J36 {X : Cx} {G : Gx} {res : Int32 × St} (rc : Nat → Int32 → Int32 → Int32 → Int32 → Int32 → Int32 → St → Option (Int32 × St)) (n0 : Nat) (hrc : ∀ (t : Nat) (a b c d e f : Int32) (u : St) (res : Int32 × St), rc t a b c d e f u = some res → rcCM n0 G t a b c d e f u res) (E : EM X G prog_11_method_36_code R_SqlReaderModel 13 (rmGM (n0 + 1))) (hR : RtI X vwCl (wM G) prog_11_method_36_code res) : ∀ (x1 : Int32) (x2 : Int32) (x3 : Int32) (x4 : Int32) (x5 : Int32) (x6 : Int32) (s1 : Int32) (u : St), SM X G 13 res (mM_SqlReaderModel_in_J36 rc x1 x2 x3 x4 x5 x6 s1 u) u 36 [(0, .ref (G.1 100)), (1, .int x1), (2, .int x2), (3, .int x3), (4, .int x4), (5, .int x5), (6, .int x6)] [.int s1, .ref (G.1 100)] := by
  intro x1 x2 x3 x4 x5 x6 s1 u
  rw [mM_SqlReaderModel_in_J36]
  refine Sm_gd fun hz => pfM_0_bad E fl_SqlReaderModel_226 d_SqlReaderModel_in_36 (zb_n hz) (zb_f hz) fun u1 _ => ?_
  refine Sm_iconst (v := (-1)) E d_SqlReaderModel_in_39 (by decide) ?_
  refine Sm_istore (lv' := [(7, .int (-1)), (0, .ref (G.1 100)), (1, .int x1), (2, .int x2), (3, .int x3), (4, .int x4), (5, .int x5), (6, .int x6)]) E d_SqlReaderModel_in_40 (by decide) rfl ?_
  refine Sm_iload_n E d_SqlReaderModel_in_42 rfl 2 rfl ?_
  refine Sm_iconst (v := 1) E d_SqlReaderModel_in_43 (by decide) ?_
  refine Sm_iadd E d_SqlReaderModel_in_44 ?_
  refine Sm_leti fun y2 _ => ?_
  refine Sm_istore (lv' := [(8, .int y2), (7, .int (-1)), (0, .ref (G.1 100)), (1, .int x1), (2, .int x2), (3, .int x3), (4, .int x4), (5, .int x5), (6, .int x6)]) E d_SqlReaderModel_in_45 (by decide) rfl ?_
  refine Sm_aload_n E d_SqlReaderModel_in_47 rfl 2 rfl ?_
  refine gfM_0_bad E fl_SqlReaderModel_226 d_SqlReaderModel_in_48 ?_
  refine Sm_if_ne (tgt := 58) E d_SqlReaderModel_in_51 (by decide) (fun _ => ?_) (fun _ => ?_)
  · refine Sm_iconst (v := 0) E d_SqlReaderModel_in_58 (by decide) ?_
    refine Sm_istore (lv' := [(9, .int 0), (8, .int y2), (7, .int (-1)), (0, .ref (G.1 100)), (1, .int x1), (2, .int x2), (3, .int x3), (4, .int x4), (5, .int x5), (6, .int x6)]) E d_SqlReaderModel_in_59 (by decide) rfl ?_
    exact Sm_sub [3, 5, 6, 7, 8, 9, 2, 1, 0] rfl (tM_SqlReaderModel_in_L61 rc n0 hrc E hR FU _ _ _ _ _ _ _ _ _)
  · refine Sm_iconst (v := 1) E d_SqlReaderModel_in_54 (by decide) ?_
    refine Sm_goto (tgt := 59) E d_SqlReaderModel_in_55 (by decide) ?_
    refine Sm_istore (lv' := [(9, .int 1), (8, .int y2), (7, .int (-1)), (0, .ref (G.1 100)), (1, .int x1), (2, .int x2), (3, .int x3), (4, .int x4), (5, .int x5), (6, .int x6)]) E d_SqlReaderModel_in_59 (by decide) rfl ?_
    exact Sm_sub [3, 5, 6, 7, 8, 9, 2, 1, 0] rfl (tM_SqlReaderModel_in_L61 rc n0 hrc E hR FU _ _ _ _ _ _ _ _ _)
set_option maxRecDepth 100000 in
set_option maxHeartbeats 4000000 in
theorem cM_SqlReaderModel_in_o {l : Launch} {D : va_G} {G : Gx} (rc : Nat → Int32 → Int32 → Int32 → Int32 → Int32 → Int32 → St → Option (Int32 × St)) (n0 : Nat) (hrc : ∀ (t : Nat) (a b c d e f : Int32) (u : St) (res : Int32 × St), rc t a b c d e f u = some res → rcCM n0 G t a b c d e f u res) (x1 : Int32) (x2 : Int32) (x3 : Int32) (x4 : Int32) (x5 : Int32) (x6 : Int32) (u : St) {res : Int32 × St} (hm : mM_SqlReaderModel_in_o rc x1 x2 x3 x4 x5 x6 u = some res) : KM l D G y_SqlReaderModel_in (.code y_SqlReaderModel_in prog_11_method_36_code 13 (some .int)) (rmGM (n0 + 1)) [.ref (G.1 100), .int x1, .int x2, .int x3, .int x4, .int x5, .int x6] u (qI D vwCl (wM G) (tyW G) (adsM G) res) := by
  refine Ct_I (by decide) wM_as (Nat.le_of_ble_eq_true rfl) hm (fun X _ _ E hR => ?_)
  refine Sm_lvs (lv' := [(0, .ref (G.1 100)), (1, .int x1), (2, .int x2), (3, .int x3), (4, .int x4), (5, .int x5), (6, .int x6)]) rfl ?_
  rw [mM_SqlReaderModel_in_o]
  refine Sm_aload_n E d_SqlReaderModel_in_0 rfl 0 rfl ?_
  refine Sm_aload_n E d_SqlReaderModel_in_1 rfl 0 rfl ?_
  refine gfM_0_bad E fl_SqlReaderModel_226 d_SqlReaderModel_in_2 ?_
  refine Sm_if_ne (tgt := 31) E d_SqlReaderModel_in_5 (by decide) (fun _ => ?_) (fun _ => ?_)
  · refine Sm_iconst (v := 1) E d_SqlReaderModel_in_31 (by decide) ?_
    refine Sm_goto (tgt := 36) E d_SqlReaderModel_in_32 (by decide) ?_
    exact Sm_sub [0, 1, 2, 3, 4, 5, 6] rfl (tM_SqlReaderModel_in_J36 rc n0 hrc E hR _ _ _ _ _ _ _ _)
  · refine Sm_aload_n E d_SqlReaderModel_in_8 rfl 0 rfl ?_
    refine Sm_iload_n E d_SqlReaderModel_in_9 rfl 1 rfl ?_
    refine Sm_ldcS_w E sr_SqlReaderModel_291 d_SqlReaderModel_in_10 ?_
    refine Sm_cVi (As := [.int x1, .ref (G.2.2.1 79)]) (b := (G.1 100)) (st := [.ref (G.1 100)]) (n := 2) E exOk wM_as (fun _ h => cM_SqlReaderModel_is x1 79 u h) gk_SqlReaderModel_293 dk_SqlReaderModel_is rfl ⟨rfl, rfl⟩ ⟨(by show 4 + 1 ≤ n0 + 1 + 7; omega), (by show 8 + (5 + 11) + 85 ≤ 35 * (n0 + 1) + 155; omega)⟩ (rvW (q0 := 0) (ci := 1) E rfl rfl rfl) rfl (Nat.le_of_ble_eq_true rfl) d_SqlReaderModel_in_13 fun r14 _ => ?_
    refine Sm_if_eq (tgt := 31) E d_SqlReaderModel_in_16 (by decide) (fun _ => ?_) (fun _ => ?_)
    · refine Sm_iconst (v := 1) E d_SqlReaderModel_in_31 (by decide) ?_
      refine Sm_goto (tgt := 36) E d_SqlReaderModel_in_32 (by decide) ?_
      exact Sm_sub [0, 1, 2, 3, 4, 5, 6] rfl (tM_SqlReaderModel_in_J36 rc n0 hrc E hR _ _ _ _ _ _ _ _)
    · refine Sm_aload_n E d_SqlReaderModel_in_19 rfl 0 rfl ?_
      refine Sm_iload_n E d_SqlReaderModel_in_20 rfl 1 rfl ?_
      refine Sm_iload_n E d_SqlReaderModel_in_21 rfl 2 rfl ?_
      refine Sm_cVi (As := [.int x1, .int x2]) (b := (G.1 100)) (st := [.ref (G.1 100)]) (n := 2) E exOk wM_as (fun _ h => cM_SqlReaderModel_closing x1 x2 u h) gk_SqlReaderModel_384 dk_SqlReaderModel_closing rfl ⟨rfl, rfl⟩ ⟨(by show 6 + 1 ≤ n0 + 1 + 7; omega), (by show 8 + (5 + 11) + 130 ≤ 35 * (n0 + 1) + 155; omega)⟩ (rvW (q0 := 0) (ci := 1) E rfl rfl rfl) rfl (Nat.le_of_ble_eq_true rfl) d_SqlReaderModel_in_22 fun r15 _ => ?_
      refine Sm_iload_n E d_SqlReaderModel_in_25 rfl 2 rfl ?_
      refine Sm_iconst (v := 1) E d_SqlReaderModel_in_26 (by decide) ?_
      refine Sm_isub E d_SqlReaderModel_in_27 ?_
      refine Sm_icmp_eq (tgt := 35) E d_SqlReaderModel_in_28 (by decide) (fun _ => ?_) (fun _ => ?_)
      · refine Sm_iconst (v := 0) E d_SqlReaderModel_in_35 (by decide) ?_
        exact Sm_sub [0, 1, 2, 3, 4, 5, 6] rfl (tM_SqlReaderModel_in_J36 rc n0 hrc E hR _ _ _ _ _ _ _ _)
      · refine Sm_iconst (v := 1) E d_SqlReaderModel_in_31 (by decide) ?_
        refine Sm_goto (tgt := 36) E d_SqlReaderModel_in_32 (by decide) ?_
        exact Sm_sub [0, 1, 2, 3, 4, 5, 6] rfl (tM_SqlReaderModel_in_J36 rc n0 hrc E hR _ _ _ _ _ _ _ _)
set_option maxRecDepth 100000 in
set_option maxHeartbeats 4000000 in
theorem tM_SqlReaderModel_comparison_J352 {X : Cx} {G : Gx} {res : Int32 × St} (rc : Nat → Int32 → Int32 → Int32 → Int32 → Int32 → Int32 → St → Option (Int32 × St)) (n0 : Nat) (hrc : ∀ (t : Nat) (a b c d e f : Int32) (u : St) (res : Int32 × St), rc t a b c d e f u = some res → rcCM n0 G t a b c d e f u res) (E : EM X G prog_11_method_35_code R_SqlReaderModel 16 (rmGM (n0 + 1))) (hR : RtI X vwCl (wM G) prog_11_method_35_code res) : ∀ (x9 : Int32) (x11 : Int32) (u : St), SM X G 16 res (mM_SqlReaderModel_comparison_J352 rc x9 x11 u) u 352 [(0, .ref (G.1 100)), (9, .int x9), (11, .int x11)] [] := by
  intro x9 x11 u
  rw [mM_SqlReaderModel_comparison_J352]
  refine Sm_iload E d_SqlReaderModel_comparison_352 1 rfl ?_
  refine Sm_if_eq (tgt := 369) E d_SqlReaderModel_comparison_354 (by decide) (fun _ => ?_) (fun _ => ?_)
  · refine Sm_iload E d_SqlReaderModel_comparison_369 2 rfl ?_
    exact Sm_retI hR d_SqlReaderModel_comparison_371
  · refine Sm_aload_n E d_SqlReaderModel_comparison_357 rfl 0 rfl ?_
    refine Sm_bipush (v := 25) E d_SqlReaderModel_comparison_358 (by decide) ?_
    refine Sm_iload E d_SqlReaderModel_comparison_360 2 rfl ?_
    refine Sm_iconst (v := (-1)) E d_SqlReaderModel_comparison_362 (by decide) ?_
    refine Sm_cVI (As := [.int 25, .int x11, .int (-1)]) (b := (G.1 100)) (st := []) (n := 3) E exOk wM_as (fun _ h => cM_SqlReaderModel_add 25 x11 (-1) u h) gk_SqlReaderModel_287 dk_SqlReaderModel_add rfl ⟨rfl, rfl⟩ ⟨(by show 1 + 1 ≤ n0 + 1 + 7; omega), (by show 8 + (4 + 11) + 23 ≤ 35 * (n0 + 1) + 155; omega)⟩ (rvW (q0 := 0) (ci := 1) E rfl rfl rfl) rfl (Nat.le_of_ble_eq_true rfl) d_SqlReaderModel_comparison_363 fun r10 u11 _ => ?_
    refine Sm_goto (tgt := 371) E d_SqlReaderModel_comparison_366 (by decide) ?_
    exact Sm_retI hR d_SqlReaderModel_comparison_371
set_option maxRecDepth 100000 in
set_option maxHeartbeats 4000000 in
theorem tM_SqlReaderModel_comparison_J308 {X : Cx} {G : Gx} {res : Int32 × St} (rc : Nat → Int32 → Int32 → Int32 → Int32 → Int32 → Int32 → St → Option (Int32 × St)) (n0 : Nat) (hrc : ∀ (t : Nat) (a b c d e f : Int32) (u : St) (res : Int32 × St), rc t a b c d e f u = some res → rcCM n0 G t a b c d e f u res) (E : EM X G prog_11_method_35_code R_SqlReaderModel 16 (rmGM (n0 + 1))) (hR : RtI X vwCl (wM G) prog_11_method_35_code res) : ∀ (x2 : Int32) (x3 : Int32) (x5 : Int32) (x6 : Int32) (x7 : Int32) (x9 : Int32) (x10 : Int32) (x11 : Int32) (u : St), SM X G 16 res (mM_SqlReaderModel_comparison_J308 rc x2 x3 x5 x6 x7 x9 x10 x11 u) u 308 [(0, .ref (G.1 100)), (2, .int x2), (3, .int x3), (5, .int x5), (6, .int x6), (7, .int x7), (9, .int x9), (10, .int x10), (11, .int x11)] [] := by
  intro x2 x3 x5 x6 x7 x9 x10 x11 u
  rw [mM_SqlReaderModel_comparison_J308]
  refine Sm_iload E d_SqlReaderModel_comparison_308 7 rfl ?_
  refine Sm_iload_n E d_SqlReaderModel_comparison_310 rfl 1 rfl ?_
  refine Sm_icmp_ge (tgt := 347) E d_SqlReaderModel_comparison_311 (by decide) (fun _ => ?_) (fun _ => ?_)
  · refine Sm_aload_n E d_SqlReaderModel_comparison_347 rfl 0 rfl ?_
    refine Sm_iconst (v := 1) E d_SqlReaderModel_comparison_348 (by decide) ?_
    refine pfM_0_bad E fl_SqlReaderModel_226 d_SqlReaderModel_comparison_349 (by decide) rfl fun u9 _ => ?_
    exact Sm_sub [0, 6, 8] rfl (tM_SqlReaderModel_comparison_J352 rc n0 hrc E hR _ _ _)
  · refine Sm_aload_n E d_SqlReaderModel_comparison_314 rfl 0 rfl ?_
    refine Sm_iload E d_SqlReaderModel_comparison_315 7 rfl ?_
    refine Sm_ldcS_w E sr_SqlReaderModel_369 d_SqlReaderModel_comparison_317 ?_
    refine Sm_cVi (As := [.int x10, .ref (G.2.2.1 99)]) (b := (G.1 100)) (st := []) (n := 2) E exOk wM_as (fun _ h => cM_SqlReaderModel_is x10 99 u h) gk_SqlReaderModel_293 dk_SqlReaderModel_is rfl ⟨rfl, rfl⟩ ⟨(by show 4 + 1 ≤ n0 + 1 + 7; omega), (by show 8 + (5 + 11) + 85 ≤ 35 * (n0 + 1) + 155; omega)⟩ (rvW (q0 := 0) (ci := 1) E rfl rfl rfl) rfl (Nat.le_of_ble_eq_true rfl) d_SqlReaderModel_comparison_320 fun r12 _ => ?_
    refine Sm_if_eq (tgt := 347) E d_SqlReaderModel_comparison_323 (by decide) (fun _ => ?_) (fun _ => ?_)
    · refine Sm_aload_n E d_SqlReaderModel_comparison_347 rfl 0 rfl ?_
      refine Sm_iconst (v := 1) E d_SqlReaderModel_comparison_348 (by decide) ?_
      refine pfM_0_bad E fl_SqlReaderModel_226 d_SqlReaderModel_comparison_349 (by decide) rfl fun u13 _ => ?_
      exact Sm_sub [0, 6, 8] rfl (tM_SqlReaderModel_comparison_J352 rc n0 hrc E hR _ _ _)
    · refine Sm_aload_n E d_SqlReaderModel_comparison_326 rfl 0 rfl ?_
      refine Sm_iload E d_SqlReaderModel_comparison_327 7 rfl ?_
      refine Sm_iconst (v := 1) E d_SqlReaderModel_comparison_329 (by decide) ?_
      refine Sm_iadd E d_SqlReaderModel_comparison_330 ?_
      refine Sm_iload_n E d_SqlReaderModel_comparison_331 rfl 1 rfl ?_
      refine Sm_iload_n E d_SqlReaderModel_comparison_332 rfl 2 rfl ?_
      refine Sm_iload E d_SqlReaderModel_comparison_333 4 rfl ?_
      refine Sm_iload E d_SqlReaderModel_comparison_335 3 rfl ?_
      refine Sm_iload E d_SqlReaderModel_comparison_337 5 rfl ?_
      refine Sm_cSI (As := [.ref (G.1 100), .int (x10 + 1), .int x2, .int x3, .int x6, .int x5, .int x7]) (st := []) (n := 7) E exOk wM_as (fun _ h => hrc 2 _ _ _ _ _ _ _ _ h X.2.1 (xD X)) gk_SqlReaderModel_381 dk_SqlReaderModel_in rfl ⟨rfl, rfl⟩ ⟨(by show n0 + 7 + 1 ≤ n0 + 1 + 7; omega), (by show 8 + (13 + 11) + (35 * n0 + 155) ≤ 35 * (n0 + 1) + 155; omega)⟩ rfl (Nat.le_of_ble_eq_true rfl) d_SqlReaderModel_comparison_339 fun r14 u15 _ => ?_
      refine Sm_istore (lv' := [(11, .int r14), (0, .ref (G.1 100)), (2, .int x2), (3, .int x3), (5, .int x5), (6, .int x6), (7, .int x7), (9, .int x9), (10, .int x10)]) E d_SqlReaderModel_comparison_342 (by decide) rfl ?_
      refine Sm_goto (tgt := 352) E d_SqlReaderModel_comparison_344 (by decide) ?_
      exact Sm_sub [1, 7, 0] rfl (tM_SqlReaderModel_comparison_J352 rc n0 hrc E hR _ _ _)
set_option maxRecDepth 100000 in
set_option maxHeartbeats 4000000 in
theorem tM_SqlReaderModel_comparison_J203 {X : Cx} {G : Gx} {res : Int32 × St} (rc : Nat → Int32 → Int32 → Int32 → Int32 → Int32 → Int32 → St → Option (Int32 × St)) (n0 : Nat) (hrc : ∀ (t : Nat) (a b c d e f : Int32) (u : St) (res : Int32 × St), rc t a b c d e f u = some res → rcCM n0 G t a b c d e f u res) (E : EM X G prog_11_method_35_code R_SqlReaderModel 16 (rmGM (n0 + 1))) (hR : RtI X vwCl (wM G) prog_11_method_35_code res) : ∀ (x2 : Int32) (x3 : Int32) (x5 : Int32) (x6 : Int32) (x7 : Int32) (x9 : Int32) (s0 : Int32) (u : St), SM X G 16 res (mM_SqlReaderModel_comparison_J203 rc x2 x3 x5 x6 x7 x9 s0 u) u 203 [(0, .ref (G.1 100)), (2, .int x2), (3, .int x3), (5, .int x5), (6, .int x6), (7, .int x7), (9, .int x9)] [.int s0] := by
  intro x2 x3 x5 x6 x7 x9 s0 u
  rw [mM_SqlReaderModel_comparison_J203]
  refine Sm_istore (lv' := [(10, .int s0), (0, .ref (G.1 100)), (2, .int x2), (3, .int x3), (5, .int x5), (6, .int x6), (7, .int x7), (9, .int x9)]) E d_SqlReaderModel_comparison_203 (by decide) rfl ?_
  refine Sm_iconst (v := 0) E d_SqlReaderModel_comparison_205 (by decide) ?_
  refine Sm_istore (lv' := [(11, .int 0), (10, .int s0), (0, .ref (G.1 100)), (2, .int x2), (3, .int x3), (5, .int x5), (6, .int x6), (7, .int x7), (9, .int x9)]) E d_SqlReaderModel_comparison_206 (by decide) rfl ?_
  refine Sm_iload E d_SqlReaderModel_comparison_208 1 rfl ?_
  refine Sm_iload_n E d_SqlReaderModel_comparison_210 rfl 3 rfl ?_
  refine Sm_icmp_ge (tgt := 308) E d_SqlReaderModel_comparison_211 (by decide) (fun _ => ?_) (fun _ => ?_)
  · exact Sm_sub [2, 3, 4, 5, 6, 7, 8, 1, 0] rfl (tM_SqlReaderModel_comparison_J308 rc n0 hrc E hR _ _ _ _ _ _ _ _ _)
  · refine Sm_aload_n E d_SqlReaderModel_comparison_214 rfl 2 rfl ?_
    refine Sm_iload E d_SqlReaderModel_comparison_215 1 rfl ?_
    refine Sm_ldcS_w E sr_SqlReaderModel_328 d_SqlReaderModel_comparison_217 ?_
    refine Sm_cVi (As := [.int s0, .ref (G.2.2.1 98)]) (b := (G.1 100)) (st := []) (n := 2) E exOk wM_as (fun _ h => cM_SqlReaderModel_is s0 98 u h) gk_SqlReaderModel_293 dk_SqlReaderModel_is rfl ⟨rfl, rfl⟩ ⟨(by show 4 + 1 ≤ n0 + 1 + 7; omega), (by show 8 + (5 + 11) + 85 ≤ 35 * (n0 + 1) + 155; omega)⟩ (rvW (q0 := 0) (ci := 1) E rfl rfl rfl) rfl (Nat.le_of_ble_eq_true rfl) d_SqlReaderModel_comparison_220 fun r16 _ => ?_
    refine Sm_if_eq (tgt := 308) E d_SqlReaderModel_comparison_223 (by decide) (fun _ => ?_) (fun _ => ?_)
    · exact Sm_sub [2, 3, 4, 5, 6, 7, 8, 1, 0] rfl (tM_SqlReaderModel_comparison_J308 rc n0 hrc E hR _ _ _ _ _ _ _ _ _)
    · refine Sm_aload_n E d_SqlReaderModel_comparison_226 rfl 2 rfl ?_
      refine Sm_ldcS_w E sr_SqlReaderModel_307 d_SqlReaderModel_comparison_227 ?_
      refine Sm_iload E d_SqlReaderModel_comparison_230 1 rfl ?_
      refine Sm_iconst (v := 1) E d_SqlReaderModel_comparison_232 (by decide) ?_
      refine Sm_iadd E d_SqlReaderModel_comparison_233 ?_
      refine Sm_iload_n E d_SqlReaderModel_comparison_234 rfl 3 rfl ?_
      refine Sm_cVi (As := [.ref (G.2.2.1 101), .int (s0 + 1), .int x2]) (b := (G.1 100)) (st := []) (n := 3) E exOk wM_as (fun _ h => cM_SqlReaderModel_find 101 (s0 + 1) x2 u h) gk_SqlReaderModel_374 dk_SqlReaderModel_find rfl ⟨rfl, rfl⟩ ⟨(by show 6 + 1 ≤ n0 + 1 + 7; omega), (by show 8 + (6 + 11) + 130 ≤ 35 * (n0 + 1) + 155; omega)⟩ (rvW (q0 := 0) (ci := 1) E rfl rfl rfl) rfl (Nat.le_of_ble_eq_true rfl) d_SqlReaderModel_comparison_235 fun r17 _ => ?_
      refine Sm_istore (lv' := [(12, .int r17), (11, .int 0), (10, .int s0), (0, .ref (G.1 100)), (2, .int x2), (3, .int x3), (5, .int x5), (6, .int x6), (7, .int x7), (9, .int x9)]) E d_SqlReaderModel_comparison_238 (by decide) rfl ?_
      refine Sm_aload_n E d_SqlReaderModel_comparison_240 rfl 3 rfl ?_
      refine Sm_bipush (v := 22) E d_SqlReaderModel_comparison_241 (by decide) ?_
      refine Sm_iload E d_SqlReaderModel_comparison_243 7 rfl ?_
      refine Sm_aload_n E d_SqlReaderModel_comparison_245 rfl 3 rfl ?_
      refine Sm_iconst (v := 4) E d_SqlReaderModel_comparison_246 (by decide) ?_
      refine Sm_iload E d_SqlReaderModel_comparison_247 2 rfl ?_
      refine Sm_iconst (v := 1) E d_SqlReaderModel_comparison_249 (by decide) ?_
      refine Sm_iadd E d_SqlReaderModel_comparison_250 ?_
      refine Sm_iload E d_SqlReaderModel_comparison_251 0 rfl ?_
      refine Sm_iload_n E d_SqlReaderModel_comparison_253 rfl 5 rfl ?_
      refine Sm_cSI (As := [.ref (G.1 100), .int 4, .int (s0 + 1), .int r17, .int x3]) (st := [.int x6, .int 22, .ref (G.1 100)]) (n := 5) E exOk wM_as (fun _ h => hrc 5 _ _ _ _ _ _ _ _ h X.2.1 (xD X)) gk_SqlReaderModel_330 dk_SqlReaderModel_part rfl ⟨rfl, rfl⟩ ⟨(by show n0 + 7 + 1 ≤ n0 + 1 + 7; omega), (by show 8 + (5 + 11) + (35 * n0 + 155) ≤ 35 * (n0 + 1) + 155; omega)⟩ rfl (Nat.le_of_ble_eq_true rfl) d_SqlReaderModel_comparison_254 fun r18 u19 _ => ?_
      refine Sm_cVI (As := [.int 22, .int x6, .int r18]) (b := (G.1 100)) (st := []) (n := 3) E exOk wM_as (fun _ h => cM_SqlReaderModel_add 22 x6 r18 u19 h) gk_SqlReaderModel_287 dk_SqlReaderModel_add rfl ⟨rfl, rfl⟩ ⟨(by show 1 + 1 ≤ n0 + 1 + 7; omega), (by show 8 + (4 + 11) + 23 ≤ 35 * (n0 + 1) + 155; omega)⟩ (rvW (q0 := 0) (ci := 1) E rfl rfl rfl) rfl (Nat.le_of_ble_eq_true rfl) d_SqlReaderModel_comparison_257 fun r20 u21 _ => ?_
      refine Sm_istore (lv' := [(13, .int r20), (12, .int r17), (11, .int 0), (10, .int s0), (0, .ref (G.1 100)), (2, .int x2), (3, .int x3), (5, .int x5), (6, .int x6), (7, .int x7), (9, .int x9)]) E d_SqlReaderModel_comparison_260 (by decide) rfl ?_
      refine Sm_aload_n E d_SqlReaderModel_comparison_262 rfl 4 rfl ?_
      refine Sm_iload E d_SqlReaderModel_comparison_263 7 rfl ?_
      refine Sm_iload E d_SqlReaderModel_comparison_265 9 rfl ?_
      refine Sm_cVI (As := [.int x5, .int x7]) (b := (G.1 100)) (st := []) (n := 2) E exOk wM_as (fun _ h => cM_SqlReaderModel_again x5 x7 u21 h) gk_SqlReaderModel_378 dk_SqlReaderModel_again rfl ⟨rfl, rfl⟩ ⟨(by show 2 + 1 ≤ n0 + 1 + 7; omega), (by show 8 + (9 + 11) + 46 ≤ 35 * (n0 + 1) + 155; omega)⟩ (rvW (q0 := 0) (ci := 1) E rfl rfl rfl) rfl (Nat.le_of_ble_eq_true rfl) d_SqlReaderModel_comparison_267 fun r22 u23 _ => ?_
      refine Sm_istore (lv' := [(14, .int r22), (13, .int r20), (12, .int r17), (11, .int 0), (10, .int s0), (0, .ref (G.1 100)), (2, .int x2), (3, .int x3), (5, .int x5), (6, .int x6), (7, .int x7), (9, .int x9)]) E d_SqlReaderModel_comparison_270 (by decide) rfl ?_
      refine Sm_aload_n E d_SqlReaderModel_comparison_272 rfl 5 rfl ?_
      refine Sm_bipush (v := 20) E d_SqlReaderModel_comparison_273 (by decide) ?_
      refine Sm_iload E d_SqlReaderModel_comparison_275 0 rfl ?_
      refine Sm_aload_n E d_SqlReaderModel_comparison_277 rfl 5 rfl ?_
      refine Sm_iconst (v := 4) E d_SqlReaderModel_comparison_278 (by decide) ?_
      refine Sm_iload E d_SqlReaderModel_comparison_279 2 rfl ?_
      refine Sm_iconst (v := 1) E d_SqlReaderModel_comparison_281 (by decide) ?_
      refine Sm_iadd E d_SqlReaderModel_comparison_282 ?_
      refine Sm_iload_n E d_SqlReaderModel_comparison_283 rfl 6 rfl ?_
      refine Sm_iload_n E d_SqlReaderModel_comparison_284 rfl 7 rfl ?_
      refine Sm_cSI (As := [.ref (G.1 100), .int 4, .int (r17 + 1), .int x2, .int x3]) (st := [.int r22, .int 20, .ref (G.1 100)]) (n := 5) E exOk wM_as (fun _ h => hrc 5 _ _ _ _ _ _ _ _ h X.2.1 (xD X)) gk_SqlReaderModel_330 dk_SqlReaderModel_part rfl ⟨rfl, rfl⟩ ⟨(by show n0 + 7 + 1 ≤ n0 + 1 + 7; omega), (by show 8 + (5 + 11) + (35 * n0 + 155) ≤ 35 * (n0 + 1) + 155; omega)⟩ rfl (Nat.le_of_ble_eq_true rfl) d_SqlReaderModel_comparison_285 fun r24 u25 _ => ?_
      refine Sm_cVI (As := [.int 20, .int r22, .int r24]) (b := (G.1 100)) (st := []) (n := 3) E exOk wM_as (fun _ h => cM_SqlReaderModel_add 20 r22 r24 u25 h) gk_SqlReaderModel_287 dk_SqlReaderModel_add rfl ⟨rfl, rfl⟩ ⟨(by show 1 + 1 ≤ n0 + 1 + 7; omega), (by show 8 + (4 + 11) + 23 ≤ 35 * (n0 + 1) + 155; omega)⟩ (rvW (q0 := 0) (ci := 1) E rfl rfl rfl) rfl (Nat.le_of_ble_eq_true rfl) d_SqlReaderModel_comparison_288 fun r26 u27 _ => ?_
      refine Sm_istore (lv' := [(15, .int r26), (14, .int r22), (13, .int r20), (12, .int r17), (11, .int 0), (10, .int s0), (0, .ref (G.1 100)), (2, .int x2), (3, .int x3), (5, .int x5), (6, .int x6), (7, .int x7), (9, .int x9)]) E d_SqlReaderModel_comparison_291 (by decide) rfl ?_
      refine Sm_aload_n E d_SqlReaderModel_comparison_293 rfl 6 rfl ?_
      refine Sm_bipush (v := 26) E d_SqlReaderModel_comparison_294 (by decide) ?_
      refine Sm_iload E d_SqlReaderModel_comparison_296 2 rfl ?_
      refine Sm_iload E d_SqlReaderModel_comparison_298 0 rfl ?_
      refine Sm_cVI (As := [.int 26, .int r20, .int r26]) (b := (G.1 100)) (st := []) (n := 3) E exOk wM_as (fun _ h => cM_SqlReaderModel_add 26 r20 r26 u27 h) gk_SqlReaderModel_287 dk_SqlReaderModel_add rfl ⟨rfl, rfl⟩ ⟨(by show 1 + 1 ≤ n0 + 1 + 7; omega), (by show 8 + (4 + 11) + 23 ≤ 35 * (n0 + 1) + 155; omega)⟩ (rvW (q0 := 0) (ci := 1) E rfl rfl rfl) rfl (Nat.le_of_ble_eq_true rfl) d_SqlReaderModel_comparison_300 fun r28 u29 _ => ?_
      refine Sm_istore (lv' := [(11, .int r28), (15, .int r26), (14, .int r22), (13, .int r20), (12, .int r17), (10, .int s0), (0, .ref (G.1 100)), (2, .int x2), (3, .int x3), (5, .int x5), (6, .int x6), (7, .int x7), (9, .int x9)]) E d_SqlReaderModel_comparison_303 (by decide) rfl ?_
      refine Sm_goto (tgt := 352) E d_SqlReaderModel_comparison_305 (by decide) ?_
      exact Sm_sub [6, 12, 0] rfl (tM_SqlReaderModel_comparison_J352 rc n0 hrc E hR _ _ _)
set_option maxRecDepth 100000 in
set_option maxHeartbeats 4000000 in
theorem tM_SqlReaderModel_comparison_J155 {X : Cx} {G : Gx} {res : Int32 × St} (rc : Nat → Int32 → Int32 → Int32 → Int32 → Int32 → Int32 → St → Option (Int32 × St)) (n0 : Nat) (hrc : ∀ (t : Nat) (a b c d e f : Int32) (u : St) (res : Int32 × St), rc t a b c d e f u = some res → rcCM n0 G t a b c d e f u res) (E : EM X G prog_11_method_35_code R_SqlReaderModel 16 (rmGM (n0 + 1))) (hR : RtI X vwCl (wM G) prog_11_method_35_code res) : ∀ (x6 : Int32) (x9 : Int32) (s1 : Int32) (u : St), SM X G 16 res (mM_SqlReaderModel_comparison_J155 rc x6 x9 s1 u) u 155 [(0, .ref (G.1 100)), (6, .int x6), (9, .int x9)] [.int s1, .ref (G.1 100)] := by
  intro x6 x9 s1 u
  rw [mM_SqlReaderModel_comparison_J155]
  refine Sm_gd fun hz => pfM_0_bad E fl_SqlReaderModel_226 d_SqlReaderModel_comparison_155 (zb_n hz) (zb_f hz) fun u31 _ => ?_
  refine Sm_aload_n E d_SqlReaderModel_comparison_158 rfl 0 rfl ?_
  refine Sm_iload E d_SqlReaderModel_comparison_159 2 rfl ?_
  refine Sm_if_eq (tgt := 169) E d_SqlReaderModel_comparison_161 (by decide) (fun _ => ?_) (fun _ => ?_)
  · refine Sm_bipush (v := 23) E d_SqlReaderModel_comparison_169 (by decide) ?_
    refine Sm_iload E d_SqlReaderModel_comparison_171 1 rfl ?_
    refine Sm_iconst (v := (-1)) E d_SqlReaderModel_comparison_173 (by decide) ?_
    refine Sm_cVI (As := [.int 23, .int x6, .int (-1)]) (b := (G.1 100)) (st := []) (n := 3) E exOk wM_as (fun _ h => cM_SqlReaderModel_add 23 x6 (-1) u31 h) gk_SqlReaderModel_287 dk_SqlReaderModel_add rfl ⟨rfl, rfl⟩ ⟨(by show 1 + 1 ≤ n0 + 1 + 7; omega), (by show 8 + (4 + 11) + 23 ≤ 35 * (n0 + 1) + 155; omega)⟩ (rvW (q0 := 0) (ci := 1) E rfl rfl rfl) rfl (Nat.le_of_ble_eq_true rfl) d_SqlReaderModel_comparison_174 fun r32 u33 _ => ?_
    exact Sm_retI hR d_SqlReaderModel_comparison_177
  · refine Sm_bipush (v := 24) E d_SqlReaderModel_comparison_164 (by decide) ?_
    refine Sm_goto (tgt := 171) E d_SqlReaderModel_comparison_166 (by decide) ?_
    refine Sm_iload E d_SqlReaderModel_comparison_171 1 rfl ?_
    refine Sm_iconst (v := (-1)) E d_SqlReaderModel_comparison_173 (by decide) ?_
    refine Sm_cVI (As := [.int 24, .int x6, .int (-1)]) (b := (G.1 100)) (st := []) (n := 3) E exOk wM_as (fun _ h => cM_SqlReaderModel_add 24 x6 (-1) u31 h) gk_SqlReaderModel_287 dk_SqlReaderModel_add rfl ⟨rfl, rfl⟩ ⟨(by show 1 + 1 ≤ n0 + 1 + 7; omega), (by show 8 + (4 + 11) + 23 ≤ 35 * (n0 + 1) + 155; omega)⟩ (rvW (q0 := 0) (ci := 1) E rfl rfl rfl) rfl (Nat.le_of_ble_eq_true rfl) d_SqlReaderModel_comparison_174 fun r34 u35 _ => ?_
    exact Sm_retI hR d_SqlReaderModel_comparison_177
set_option maxRecDepth 100000 in
set_option maxHeartbeats 4000000 in
theorem tM_SqlReaderModel_comparison_J120 {X : Cx} {G : Gx} {res : Int32 × St} (rc : Nat → Int32 → Int32 → Int32 → Int32 → Int32 → Int32 → St → Option (Int32 × St)) (n0 : Nat) (hrc : ∀ (t : Nat) (a b c d e f : Int32) (u : St) (res : Int32 × St), rc t a b c d e f u = some res → rcCM n0 G t a b c d e f u res) (E : EM X G prog_11_method_35_code R_SqlReaderModel 16 (rmGM (n0 + 1))) (hR : RtI X vwCl (wM G) prog_11_method_35_code res) : ∀ (x2 : Int32) (x6 : Int32) (x9 : Int32) (s0 : Int32) (u : St), SM X G 16 res (mM_SqlReaderModel_comparison_J120 rc x2 x6 x9 s0 u) u 120 [(0, .ref (G.1 100)), (2, .int x2), (6, .int x6), (9, .int x9)] [.int s0] := by
  intro x2 x6 x9 s0 u
  rw [mM_SqlReaderModel_comparison_J120]
  refine Sm_istore (lv' := [(10, .int s0), (0, .ref (G.1 100)), (2, .int x2), (6, .int x6), (9, .int x9)]) E d_SqlReaderModel_comparison_120 (by decide) rfl ?_
  refine Sm_aload_n E d_SqlReaderModel_comparison_122 rfl 1 rfl ?_
  refine Sm_aload_n E d_SqlReaderModel_comparison_123 rfl 1 rfl ?_
  refine gfM_0_bad E fl_SqlReaderModel_226 d_SqlReaderModel_comparison_124 ?_
  refine Sm_if_ne (tgt := 150) E d_SqlReaderModel_comparison_127 (by decide) (fun _ => ?_) (fun _ => ?_)
  · refine Sm_iconst (v := 1) E d_SqlReaderModel_comparison_150 (by decide) ?_
    refine Sm_goto (tgt := 155) E d_SqlReaderModel_comparison_151 (by decide) ?_
    exact Sm_sub [1, 3, 4] rfl (tM_SqlReaderModel_comparison_J155 rc n0 hrc E hR _ _ _ _)
  · refine Sm_iload E d_SqlReaderModel_comparison_130 0 rfl ?_
    refine Sm_iload_n E d_SqlReaderModel_comparison_132 rfl 2 rfl ?_
    refine Sm_iconst (v := 1) E d_SqlReaderModel_comparison_133 (by decide) ?_
    refine Sm_isub E d_SqlReaderModel_comparison_134 ?_
    refine Sm_icmp_ne (tgt := 150) E d_SqlReaderModel_comparison_135 (by decide) (fun _ => ?_) (fun _ => ?_)
    · refine Sm_iconst (v := 1) E d_SqlReaderModel_comparison_150 (by decide) ?_
      refine Sm_goto (tgt := 155) E d_SqlReaderModel_comparison_151 (by decide) ?_
      exact Sm_sub [1, 3, 4] rfl (tM_SqlReaderModel_comparison_J155 rc n0 hrc E hR _ _ _ _)
    · refine Sm_aload_n E d_SqlReaderModel_comparison_138 rfl 1 rfl ?_
      refine Sm_iload E d_SqlReaderModel_comparison_139 0 rfl ?_
      refine Sm_ldcS_w E sr_SqlReaderModel_303 d_SqlReaderModel_comparison_141 ?_
      refine Sm_cVi (As := [.int s0, .ref (G.2.2.1 100)]) (b := (G.1 100)) (st := [.ref (G.1 100)]) (n := 2) E exOk wM_as (fun _ h => cM_SqlReaderModel_is s0 100 u h) gk_SqlReaderModel_293 dk_SqlReaderModel_is rfl ⟨rfl, rfl⟩ ⟨(by show 4 + 1 ≤ n0 + 1 + 7; omega), (by show 8 + (5 + 11) + 85 ≤ 35 * (n0 + 1) + 155; omega)⟩ (rvW (q0 := 0) (ci := 1) E rfl rfl rfl) rfl (Nat.le_of_ble_eq_true rfl) d_SqlReaderModel_comparison_144 fun r36 _ => ?_
      refine Sm_if_ne (tgt := 154) E d_SqlReaderModel_comparison_147 (by decide) (fun _ => ?_) (fun _ => ?_)
      · refine Sm_iconst (v := 0) E d_SqlReaderModel_comparison_154 (by decide) ?_
        exact Sm_sub [1, 3, 4] rfl (tM_SqlReaderModel_comparison_J155 rc n0 hrc E hR _ _ _ _)
      · refine Sm_iconst (v := 1) E d_SqlReaderModel_comparison_150 (by decide) ?_
        refine Sm_goto (tgt := 155) E d_SqlReaderModel_comparison_151 (by decide) ?_
        exact Sm_sub [1, 3, 4] rfl (tM_SqlReaderModel_comparison_J155 rc n0 hrc E hR _ _ _ _)
set_option maxRecDepth 100000 in
set_option maxHeartbeats 4000000 in
theorem cM_SqlReaderModel_comparison_o {l : Launch} {D : va_G} {G : Gx} (rc : Nat → Int32 → Int32 → Int32 → Int32 → Int32 → Int32 → St → Option (Int32 × St)) (n0 : Nat) (hrc : ∀ (t : Nat) (a b c d e f : Int32) (u : St) (res : Int32 × St), rc t a b c d e f u = some res → rcCM n0 G t a b c d e f u res) (x1 : Int32) (x2 : Int32) (x3 : Int32) (u : St) {res : Int32 × St} (hm : mM_SqlReaderModel_comparison_o rc x1 x2 x3 u = some res) : KM l D G y_SqlReaderModel_comparison (.code y_SqlReaderModel_comparison prog_11_method_35_code 16 (some .int)) (rmGM (n0 + 1)) [.ref (G.1 100), .int x1, .int x2, .int x3] u (qI D vwCl (wM G) (tyW G) (adsM G) res) := by
  refine Ct_I (by decide) wM_as (Nat.le_of_ble_eq_true rfl) hm (fun X _ _ E hR => ?_)
  refine Sm_lvs (lv' := [(0, .ref (G.1 100)), (1, .int x1), (2, .int x2), (3, .int x3)]) rfl ?_
  rw [mM_SqlReaderModel_comparison_o]
  refine Sm_aload_n E d_SqlReaderModel_comparison_0 rfl 0 rfl ?_
  refine Sm_iload_n E d_SqlReaderModel_comparison_1 rfl 1 rfl ?_
  refine Sm_iload_n E d_SqlReaderModel_comparison_2 rfl 2 rfl ?_
  refine Sm_cVi (As := [.int x1, .int x2]) (b := (G.1 100)) (st := []) (n := 2) E exOk wM_as (fun _ h => cM_SqlReaderModel_firstComparison x1 x2 u h) gk_SqlReaderModel_371 dk_SqlReaderModel_firstComparison rfl ⟨rfl, rfl⟩ ⟨(by show 6 + 1 ≤ n0 + 1 + 7; omega), (by show 8 + (6 + 11) + 130 ≤ 35 * (n0 + 1) + 155; omega)⟩ (rvW (q0 := 0) (ci := 1) E rfl rfl rfl) rfl (Nat.le_of_ble_eq_true rfl) d_SqlReaderModel_comparison_3 fun r1 _ => ?_
  refine Sm_istore (lv' := [(4, .int r1), (0, .ref (G.1 100)), (1, .int x1), (2, .int x2), (3, .int x3)]) E d_SqlReaderModel_comparison_6 (by decide) rfl ?_
  refine Sm_iload E d_SqlReaderModel_comparison_8 0 rfl ?_
  refine Sm_iload_n E d_SqlReaderModel_comparison_10 rfl 3 rfl ?_
  refine Sm_icmp_ne (tgt := 23) E d_SqlReaderModel_comparison_11 (by decide) (fun _ => ?_) (fun _ => ?_)
  · refine Sm_aload_n E d_SqlReaderModel_comparison_23 rfl 1 rfl ?_
    refine gfM_0_nodes E fl_SqlReaderModel_133 d_SqlReaderModel_comparison_24 ?_
    refine Sm_leti fun y2 _ => ?_
    refine Sm_istore (lv' := [(5, .int y2), (4, .int r1), (0, .ref (G.1 100)), (1, .int x1), (2, .int x2), (3, .int x3)]) E d_SqlReaderModel_comparison_27 (by decide) rfl ?_
    refine Sm_aload_n E d_SqlReaderModel_comparison_29 rfl 2 rfl ?_
    refine Sm_iconst (v := 4) E d_SqlReaderModel_comparison_30 (by decide) ?_
    refine Sm_iload_n E d_SqlReaderModel_comparison_31 rfl 3 rfl ?_
    refine Sm_iload E d_SqlReaderModel_comparison_32 1 rfl ?_
    refine Sm_iload_n E d_SqlReaderModel_comparison_34 rfl 5 rfl ?_
    refine Sm_cSI (As := [.ref (G.1 100), .int 4, .int x1, .int r1, .int x3]) (st := []) (n := 5) E exOk wM_as (fun _ h => hrc 5 _ _ _ _ _ _ _ _ h X.2.1 (xD X)) gk_SqlReaderModel_330 dk_SqlReaderModel_part rfl ⟨rfl, rfl⟩ ⟨(by show n0 + 7 + 1 ≤ n0 + 1 + 7; omega), (by show 8 + (5 + 11) + (35 * n0 + 155) ≤ 35 * (n0 + 1) + 155; omega)⟩ rfl (Nat.le_of_ble_eq_true rfl) d_SqlReaderModel_comparison_35 fun r3 u4 _ => ?_
    refine Sm_istore (lv' := [(6, .int r3), (5, .int y2), (4, .int r1), (0, .ref (G.1 100)), (1, .int x1), (2, .int x2), (3, .int x3)]) E d_SqlReaderModel_comparison_38 (by decide) rfl ?_
    refine Sm_aload_n E d_SqlReaderModel_comparison_40 rfl 3 rfl ?_
    refine gfM_0_nodes E fl_SqlReaderModel_133 d_SqlReaderModel_comparison_41 ?_
    refine Sm_leti fun y5 _ => ?_
    refine Sm_istore (lv' := [(7, .int y5), (6, .int r3), (5, .int y2), (4, .int r1), (0, .ref (G.1 100)), (1, .int x1), (2, .int x2), (3, .int x3)]) E d_SqlReaderModel_comparison_44 (by decide) rfl ?_
    refine Sm_aload_n E d_SqlReaderModel_comparison_46 rfl 4 rfl ?_
    refine Sm_iload E d_SqlReaderModel_comparison_47 3 rfl ?_
    refine Sm_cVi (As := [.int r1]) (b := (G.1 100)) (st := []) (n := 1) E exOk wM_as (fun _ h => cM_SqlReaderModel_compares r1 u4 h) gk_SqlReaderModel_364 dk_SqlReaderModel_compares rfl ⟨rfl, rfl⟩ ⟨(by show 5 + 1 ≤ n0 + 1 + 7; omega), (by show 8 + (2 + 11) + 109 ≤ 35 * (n0 + 1) + 155; omega)⟩ (rvW (q0 := 0) (ci := 1) E rfl rfl rfl) rfl (Nat.le_of_ble_eq_true rfl) d_SqlReaderModel_comparison_49 fun r6 _ => ?_
    refine Sm_istore (lv' := [(8, .int r6), (7, .int y5), (6, .int r3), (5, .int y2), (4, .int r1), (0, .ref (G.1 100)), (1, .int x1), (2, .int x2), (3, .int x3)]) E d_SqlReaderModel_comparison_52 (by decide) rfl ?_
    refine Sm_iload E d_SqlReaderModel_comparison_54 0 rfl ?_
    refine Sm_if_le (tgt := 79) E d_SqlReaderModel_comparison_56 (by decide) (fun _ => ?_) (fun _ => ?_)
    · refine Sm_aload_n E d_SqlReaderModel_comparison_79 rfl 5 rfl ?_
      refine Sm_iload E d_SqlReaderModel_comparison_80 4 rfl ?_
      refine Sm_ldcS_w E sr_SqlReaderModel_367 d_SqlReaderModel_comparison_82 ?_
      refine Sm_cVi (As := [.int r1, .ref (G.2.2.1 97)]) (b := (G.1 100)) (st := []) (n := 2) E exOk wM_as (fun _ h => cM_SqlReaderModel_is r1 97 u4 h) gk_SqlReaderModel_293 dk_SqlReaderModel_is rfl ⟨rfl, rfl⟩ ⟨(by show 4 + 1 ≤ n0 + 1 + 7; omega), (by show 8 + (5 + 11) + 85 ≤ 35 * (n0 + 1) + 155; omega)⟩ (rvW (q0 := 0) (ci := 1) E rfl rfl rfl) rfl (Nat.le_of_ble_eq_true rfl) d_SqlReaderModel_comparison_85 fun r7 _ => ?_
      refine Sm_if_eq (tgt := 178) E d_SqlReaderModel_comparison_88 (by decide) (fun _ => ?_) (fun _ => ?_)
      · refine Sm_aload_n E d_SqlReaderModel_comparison_178 rfl 5 rfl ?_
        refine Sm_iload E d_SqlReaderModel_comparison_179 4 rfl ?_
        refine Sm_ldcS_w E sr_SqlReaderModel_350 d_SqlReaderModel_comparison_181 ?_
        refine Sm_cVi (As := [.int r1, .ref (G.2.2.1 89)]) (b := (G.1 100)) (st := []) (n := 2) E exOk wM_as (fun _ h => cM_SqlReaderModel_is r1 89 u4 h) gk_SqlReaderModel_293 dk_SqlReaderModel_is rfl ⟨rfl, rfl⟩ ⟨(by show 4 + 1 ≤ n0 + 1 + 7; omega), (by show 8 + (5 + 11) + 85 ≤ 35 * (n0 + 1) + 155; omega)⟩ (rvW (q0 := 0) (ci := 1) E rfl rfl rfl) rfl (Nat.le_of_ble_eq_true rfl) d_SqlReaderModel_comparison_184 fun r8 _ => ?_
        refine Sm_istore (lv' := [(9, .int r8), (8, .int r6), (7, .int y5), (6, .int r3), (5, .int y2), (4, .int r1), (0, .ref (G.1 100)), (1, .int x1), (2, .int x2), (3, .int x3)]) E d_SqlReaderModel_comparison_187 (by decide) rfl ?_
        refine Sm_iload E d_SqlReaderModel_comparison_189 0 rfl ?_
        refine Sm_if_eq (tgt := 201) E d_SqlReaderModel_comparison_191 (by decide) (fun _ => ?_) (fun _ => ?_)
        · refine Sm_iload E d_SqlReaderModel_comparison_201 5 rfl ?_
          exact Sm_sub [6, 8, 9, 4, 3, 2, 0] rfl (tM_SqlReaderModel_comparison_J203 rc n0 hrc E hR _ _ _ _ _ _ _ _)
        · refine Sm_iload E d_SqlReaderModel_comparison_194 5 rfl ?_
          refine Sm_iconst (v := 1) E d_SqlReaderModel_comparison_196 (by decide) ?_
          refine Sm_iadd E d_SqlReaderModel_comparison_197 ?_
          refine Sm_goto (tgt := 203) E d_SqlReaderModel_comparison_198 (by decide) ?_
          exact Sm_sub [6, 8, 9, 4, 3, 2, 0] rfl (tM_SqlReaderModel_comparison_J203 rc n0 hrc E hR _ _ _ _ _ _ _ _)
      · refine Sm_aload_n E d_SqlReaderModel_comparison_91 rfl 5 rfl ?_
        refine Sm_iload E d_SqlReaderModel_comparison_92 4 rfl ?_
        refine Sm_iconst (v := 1) E d_SqlReaderModel_comparison_94 (by decide) ?_
        refine Sm_iadd E d_SqlReaderModel_comparison_95 ?_
        refine Sm_ldcS_w E sr_SqlReaderModel_350 d_SqlReaderModel_comparison_96 ?_
        refine Sm_cVi (As := [.int (r1 + 1), .ref (G.2.2.1 89)]) (b := (G.1 100)) (st := []) (n := 2) E exOk wM_as (fun _ h => cM_SqlReaderModel_is (r1 + 1) 89 u4 h) gk_SqlReaderModel_293 dk_SqlReaderModel_is rfl ⟨rfl, rfl⟩ ⟨(by show 4 + 1 ≤ n0 + 1 + 7; omega), (by show 8 + (5 + 11) + 85 ≤ 35 * (n0 + 1) + 155; omega)⟩ (rvW (q0 := 0) (ci := 1) E rfl rfl rfl) rfl (Nat.le_of_ble_eq_true rfl) d_SqlReaderModel_comparison_99 fun r30 _ => ?_
        refine Sm_istore (lv' := [(9, .int r30), (8, .int r6), (7, .int y5), (6, .int r3), (5, .int y2), (4, .int r1), (0, .ref (G.1 100)), (1, .int x1), (2, .int x2), (3, .int x3)]) E d_SqlReaderModel_comparison_102 (by decide) rfl ?_
        refine Sm_iload E d_SqlReaderModel_comparison_104 0 rfl ?_
        refine Sm_if_eq (tgt := 116) E d_SqlReaderModel_comparison_106 (by decide) (fun _ => ?_) (fun _ => ?_)
        · refine Sm_iload E d_SqlReaderModel_comparison_116 5 rfl ?_
          refine Sm_iconst (v := 1) E d_SqlReaderModel_comparison_118 (by decide) ?_
          refine Sm_iadd E d_SqlReaderModel_comparison_119 ?_
          exact Sm_sub [6, 8, 3, 0] rfl (tM_SqlReaderModel_comparison_J120 rc n0 hrc E hR _ _ _ _ _)
        · refine Sm_iload E d_SqlReaderModel_comparison_109 5 rfl ?_
          refine Sm_iconst (v := 2) E d_SqlReaderModel_comparison_111 (by decide) ?_
          refine Sm_iadd E d_SqlReaderModel_comparison_112 ?_
          refine Sm_goto (tgt := 120) E d_SqlReaderModel_comparison_113 (by decide) ?_
          exact Sm_sub [6, 8, 3, 0] rfl (tM_SqlReaderModel_comparison_J120 rc n0 hrc E hR _ _ _ _ _)
    · refine Sm_aload_n E d_SqlReaderModel_comparison_59 rfl 5 rfl ?_
      refine Sm_iload E d_SqlReaderModel_comparison_60 0 rfl ?_
      refine Sm_iload E d_SqlReaderModel_comparison_62 2 rfl ?_
      refine Sm_aload_n E d_SqlReaderModel_comparison_64 rfl 5 rfl ?_
      refine Sm_iconst (v := 4) E d_SqlReaderModel_comparison_65 (by decide) ?_
      refine Sm_iload E d_SqlReaderModel_comparison_66 4 rfl ?_
      refine Sm_iconst (v := 1) E d_SqlReaderModel_comparison_68 (by decide) ?_
      refine Sm_iadd E d_SqlReaderModel_comparison_69 ?_
      refine Sm_iload_n E d_SqlReaderModel_comparison_70 rfl 7 rfl ?_
      refine Sm_iload_n E d_SqlReaderModel_comparison_71 rfl 8 rfl ?_
      refine Sm_cSI (As := [.ref (G.1 100), .int 4, .int (r1 + 1), .int x2, .int x3]) (st := [.int r3, .int r6, .ref (G.1 100)]) (n := 5) E exOk wM_as (fun _ h => hrc 5 _ _ _ _ _ _ _ _ h X.2.1 (xD X)) gk_SqlReaderModel_330 dk_SqlReaderModel_part rfl ⟨rfl, rfl⟩ ⟨(by show n0 + 7 + 1 ≤ n0 + 1 + 7; omega), (by show 8 + (5 + 11) + (35 * n0 + 155) ≤ 35 * (n0 + 1) + 155; omega)⟩ rfl (Nat.le_of_ble_eq_true rfl) d_SqlReaderModel_comparison_72 fun r37 u38 _ => ?_
      refine Sm_cVI (As := [.int r6, .int r3, .int r37]) (b := (G.1 100)) (st := []) (n := 3) E exOk wM_as (fun _ h => cM_SqlReaderModel_add r6 r3 r37 u38 h) gk_SqlReaderModel_287 dk_SqlReaderModel_add rfl ⟨rfl, rfl⟩ ⟨(by show 1 + 1 ≤ n0 + 1 + 7; omega), (by show 8 + (4 + 11) + 23 ≤ 35 * (n0 + 1) + 155; omega)⟩ (rvW (q0 := 0) (ci := 1) E rfl rfl rfl) rfl (Nat.le_of_ble_eq_true rfl) d_SqlReaderModel_comparison_75 fun r39 u40 _ => ?_
      exact Sm_retI hR d_SqlReaderModel_comparison_78
  · refine Sm_aload_n E d_SqlReaderModel_comparison_14 rfl 1 rfl ?_
    refine Sm_iconst (v := 4) E d_SqlReaderModel_comparison_15 (by decide) ?_
    refine Sm_iload_n E d_SqlReaderModel_comparison_16 rfl 2 rfl ?_
    refine Sm_iload_n E d_SqlReaderModel_comparison_17 rfl 3 rfl ?_
    refine Sm_iload_n E d_SqlReaderModel_comparison_18 rfl 4 rfl ?_
    refine Sm_cSI (As := [.ref (G.1 100), .int 4, .int x1, .int x2, .int x3]) (st := []) (n := 5) E exOk wM_as (fun _ h => hrc 5 _ _ _ _ _ _ _ _ h X.2.1 (xD X)) gk_SqlReaderModel_330 dk_SqlReaderModel_part rfl ⟨rfl, rfl⟩ ⟨(by show n0 + 7 + 1 ≤ n0 + 1 + 7; omega), (by show 8 + (5 + 11) + (35 * n0 + 155) ≤ 35 * (n0 + 1) + 155; omega)⟩ rfl (Nat.le_of_ble_eq_true rfl) d_SqlReaderModel_comparison_19 fun r41 u42 _ => ?_
    exact Sm_retI hR d_SqlReaderModel_comparison_22
set_option maxRecDepth 100000 in
set_option maxHeartbeats 4000000 in
theorem tM_SqlReaderModel_prefixed_L64 {X : Cx} {G : Gx} {res : Int32 × St} (rc : Nat → Int32 → Int32 → Int32 → Int32 → Int32 → Int32 → St → Option (Int32 × St)) (n0 : Nat) (hrc : ∀ (t : Nat) (a b c d e f : Int32) (u : St) (res : Int32 × St), rc t a b c d e f u = some res → rcCM n0 G t a b c d e f u res) (E : EM X G prog_11_method_31_code R_SqlReaderModel 8 (rmGM (n0 + 1))) (hR : RtI X vwCl (wM G) prog_11_method_31_code res) : ∀ (n : Nat) (x1 : Int32) (x5 : Int32) (x6 : Int32) (x7 : Int32) (u : St), SM X G 8 res (mM_SqlReaderModel_prefixed_L64 rc n x1 x5 x6 x7 u) u 64 [(0, .ref (G.1 100)), (1, .int x1), (5, .int x5), (6, .int x6), (7, .int x7)] [] := by
  intro n
  induction n with
  | zero => intro x1 x5 x6 x7 u; exact Sm_none
  | succ n h64 =>
    intro x1 x5 x6 x7 u
    rw [mM_SqlReaderModel_prefixed_L64]
    refine Sm_iload E d_SqlReaderModel_prefixed_64 4 rfl ?_
    refine Sm_iload E d_SqlReaderModel_prefixed_66 2 rfl ?_
    refine Sm_icmp_ge (tgt := 98) E d_SqlReaderModel_prefixed_68 (by decide) (fun _ => ?_) (fun _ => ?_)
    · refine Sm_iload E d_SqlReaderModel_prefixed_98 3 rfl ?_
      exact Sm_retI hR d_SqlReaderModel_prefixed_100
    · refine Sm_aload_n E d_SqlReaderModel_prefixed_71 rfl 0 rfl ?_
      refine Sm_iload_n E d_SqlReaderModel_prefixed_72 rfl 1 rfl ?_
      refine Sm_iconst (v := 2) E d_SqlReaderModel_prefixed_73 (by decide) ?_
      refine Sm_icmp_ne (tgt := 82) E d_SqlReaderModel_prefixed_74 (by decide) (fun _ => ?_) (fun _ => ?_)
      · refine Sm_bipush (v := 10) E d_SqlReaderModel_prefixed_82 (by decide) ?_
        refine Sm_iload E d_SqlReaderModel_prefixed_84 3 rfl ?_
        refine Sm_iconst (v := (-1)) E d_SqlReaderModel_prefixed_86 (by decide) ?_
        refine Sm_cVI (As := [.int 10, .int x6, .int (-1)]) (b := (G.1 100)) (st := []) (n := 3) E exOk wM_as (fun _ h => cM_SqlReaderModel_add 10 x6 (-1) u h) gk_SqlReaderModel_287 dk_SqlReaderModel_add rfl ⟨rfl, rfl⟩ ⟨(by show 1 + 1 ≤ n0 + 1 + 7; omega), (by show 8 + (4 + 11) + 23 ≤ 35 * (n0 + 1) + 155; omega)⟩ (rvW (q0 := 0) (ci := 1) E rfl rfl rfl) rfl (Nat.le_of_ble_eq_true rfl) d_SqlReaderModel_prefixed_87 fun r3 u4 _ => ?_
        refine Sm_istore (lv' := [(6, .int r3), (0, .ref (G.1 100)), (1, .int x1), (5, .int x5), (7, .int x7)]) E d_SqlReaderModel_prefixed_90 (by decide) rfl ?_
        refine Sm_iinc (k := 4) (d := 1) E d_SqlReaderModel_prefixed_92 rfl rfl (by decide) fun y5 _ => Sm_lvs (lv' := [(7, .int y5), (6, .int r3), (0, .ref (G.1 100)), (1, .int x1), (5, .int x5)]) rfl ?_
        refine Sm_goto (tgt := 64) E d_SqlReaderModel_prefixed_95 (by decide) ?_
        exact Sm_sub [2, 3, 4, 1, 0] rfl (h64 _ _ _ _ _)
      · refine Sm_bipush (v := 25) E d_SqlReaderModel_prefixed_77 (by decide) ?_
        refine Sm_goto (tgt := 84) E d_SqlReaderModel_prefixed_79 (by decide) ?_
        refine Sm_iload E d_SqlReaderModel_prefixed_84 3 rfl ?_
        refine Sm_iconst (v := (-1)) E d_SqlReaderModel_prefixed_86 (by decide) ?_
        refine Sm_cVI (As := [.int 25, .int x6, .int (-1)]) (b := (G.1 100)) (st := []) (n := 3) E exOk wM_as (fun _ h => cM_SqlReaderModel_add 25 x6 (-1) u h) gk_SqlReaderModel_287 dk_SqlReaderModel_add rfl ⟨rfl, rfl⟩ ⟨(by show 1 + 1 ≤ n0 + 1 + 7; omega), (by show 8 + (4 + 11) + 23 ≤ 35 * (n0 + 1) + 155; omega)⟩ (rvW (q0 := 0) (ci := 1) E rfl rfl rfl) rfl (Nat.le_of_ble_eq_true rfl) d_SqlReaderModel_prefixed_87 fun r6 u7 _ => ?_
        refine Sm_istore (lv' := [(6, .int r6), (0, .ref (G.1 100)), (1, .int x1), (5, .int x5), (7, .int x7)]) E d_SqlReaderModel_prefixed_90 (by decide) rfl ?_
        refine Sm_iinc (k := 4) (d := 1) E d_SqlReaderModel_prefixed_92 rfl rfl (by decide) fun y8 _ => Sm_lvs (lv' := [(7, .int y8), (6, .int r6), (0, .ref (G.1 100)), (1, .int x1), (5, .int x5)]) rfl ?_
        refine Sm_goto (tgt := 64) E d_SqlReaderModel_prefixed_95 (by decide) ?_
        exact Sm_sub [2, 3, 4, 1, 0] rfl (h64 _ _ _ _ _)
set_option maxRecDepth 100000 in
set_option maxHeartbeats 4000000 in
theorem tM_SqlReaderModel_prefixed_J42 {X : Cx} {G : Gx} {res : Int32 × St} (rc : Nat → Int32 → Int32 → Int32 → Int32 → Int32 → Int32 → St → Option (Int32 × St)) (n0 : Nat) (hrc : ∀ (t : Nat) (a b c d e f : Int32) (u : St) (res : Int32 × St), rc t a b c d e f u = some res → rcCM n0 G t a b c d e f u res) (E : EM X G prog_11_method_31_code R_SqlReaderModel 8 (rmGM (n0 + 1))) (hR : RtI X vwCl (wM G) prog_11_method_31_code res) : ∀ (x1 : Int32) (x2 : Int32) (x3 : Int32) (x4 : Int32) (x5 : Int32) (u : St), SM X G 8 res (mM_SqlReaderModel_prefixed_J42 rc x1 x2 x3 x4 x5 u) u 42 [(0, .ref (G.1 100)), (1, .int x1), (2, .int x2), (3, .int x3), (4, .int x4), (5, .int x5)] [] := by
  intro x1 x2 x3 x4 x5 u
  rw [mM_SqlReaderModel_prefixed_J42]
  refine Sm_aload_n E d_SqlReaderModel_prefixed_42 rfl 0 rfl ?_
  refine Sm_iload_n E d_SqlReaderModel_prefixed_43 rfl 1 rfl ?_
  refine Sm_iconst (v := 1) E d_SqlReaderModel_prefixed_44 (by decide) ?_
  refine Sm_iadd E d_SqlReaderModel_prefixed_45 ?_
  refine Sm_iload_n E d_SqlReaderModel_prefixed_46 rfl 2 rfl ?_
  refine Sm_iload E d_SqlReaderModel_prefixed_47 5 rfl ?_
  refine Sm_iadd E d_SqlReaderModel_prefixed_49 ?_
  refine Sm_iload_n E d_SqlReaderModel_prefixed_50 rfl 3 rfl ?_
  refine Sm_iload E d_SqlReaderModel_prefixed_51 4 rfl ?_
  refine Sm_iload E d_SqlReaderModel_prefixed_53 5 rfl ?_
  refine Sm_iadd E d_SqlReaderModel_prefixed_55 ?_
  refine Sm_cSI (As := [.ref (G.1 100), .int (x1 + 1), .int (x2 + x5), .int x3, .int (x4 + x5)]) (st := []) (n := 5) E exOk wM_as (fun _ h => hrc 5 _ _ _ _ _ _ _ _ h X.2.1 (xD X)) gk_SqlReaderModel_330 dk_SqlReaderModel_part rfl ⟨rfl, rfl⟩ ⟨(by show n0 + 7 + 1 ≤ n0 + 1 + 7; omega), (by show 8 + (5 + 11) + (35 * n0 + 155) ≤ 35 * (n0 + 1) + 155; omega)⟩ rfl (Nat.le_of_ble_eq_true rfl) d_SqlReaderModel_prefixed_56 fun r1 u2 _ => ?_
  refine Sm_istore (lv' := [(6, .int r1), (0, .ref (G.1 100)), (1, .int x1), (2, .int x2), (3, .int x3), (4, .int x4), (5, .int x5)]) E d_SqlReaderModel_prefixed_59 (by decide) rfl ?_
  refine Sm_iconst (v := 0) E d_SqlReaderModel_prefixed_61 (by decide) ?_
  refine Sm_istore (lv' := [(7, .int 0), (6, .int r1), (0, .ref (G.1 100)), (1, .int x1), (2, .int x2), (3, .int x3), (4, .int x4), (5, .int x5)]) E d_SqlReaderModel_prefixed_62 (by decide) rfl ?_
  exact Sm_sub [2, 3, 7, 1, 0] rfl (tM_SqlReaderModel_prefixed_L64 rc n0 hrc E hR FU _ _ _ _ _)
set_option maxRecDepth 100000 in
set_option maxHeartbeats 4000000 in
theorem tM_SqlReaderModel_prefixed_L3 {X : Cx} {G : Gx} {res : Int32 × St} (rc : Nat → Int32 → Int32 → Int32 → Int32 → Int32 → Int32 → St → Option (Int32 × St)) (n0 : Nat) (hrc : ∀ (t : Nat) (a b c d e f : Int32) (u : St) (res : Int32 × St), rc t a b c d e f u = some res → rcCM n0 G t a b c d e f u res) (E : EM X G prog_11_method_31_code R_SqlReaderModel 8 (rmGM (n0 + 1))) (hR : RtI X vwCl (wM G) prog_11_method_31_code res) : ∀ (n : Nat) (x1 : Int32) (x2 : Int32) (x3 : Int32) (x4 : Int32) (x5 : Int32) (u : St), SM X G 8 res (mM_SqlReaderModel_prefixed_L3 rc n x1 x2 x3 x4 x5 u) u 3 [(0, .ref (G.1 100)), (1, .int x1), (2, .int x2), (3, .int x3), (4, .int x4), (5, .int x5)] [] := by
  intro n
  induction n with
  | zero => intro x1 x2 x3 x4 x5 u; exact Sm_none
  | succ n h3 =>
    intro x1 x2 x3 x4 x5 u
    rw [mM_SqlReaderModel_prefixed_L3]
    refine Sm_iload_n E d_SqlReaderModel_prefixed_3 rfl 2 rfl ?_
    refine Sm_iload E d_SqlReaderModel_prefixed_4 5 rfl ?_
    refine Sm_iadd E d_SqlReaderModel_prefixed_6 ?_
    refine Sm_iload_n E d_SqlReaderModel_prefixed_7 rfl 3 rfl ?_
    refine Sm_icmp_ge (tgt := 42) E d_SqlReaderModel_prefixed_8 (by decide) (fun _ => ?_) (fun _ => ?_)
    · exact Sm_sub [0, 1, 2, 3, 4, 5] rfl (tM_SqlReaderModel_prefixed_J42 rc n0 hrc E hR _ _ _ _ _ _)
    · refine Sm_aload_n E d_SqlReaderModel_prefixed_11 rfl 0 rfl ?_
      refine Sm_iload_n E d_SqlReaderModel_prefixed_12 rfl 2 rfl ?_
      refine Sm_iload E d_SqlReaderModel_prefixed_13 5 rfl ?_
      refine Sm_iadd E d_SqlReaderModel_prefixed_15 ?_
      refine Sm_iload_n E d_SqlReaderModel_prefixed_16 rfl 1 rfl ?_
      refine Sm_iconst (v := 2) E d_SqlReaderModel_prefixed_17 (by decide) ?_
      refine Sm_icmp_ne (tgt := 27) E d_SqlReaderModel_prefixed_18 (by decide) (fun _ => ?_) (fun _ => ?_)
      · refine Sm_ldcS_w E sr_SqlReaderModel_313 d_SqlReaderModel_prefixed_27 ?_
        refine Sm_cVi (As := [.int (x2 + x5), .ref (G.2.2.1 90)]) (b := (G.1 100)) (st := []) (n := 2) E exOk wM_as (fun _ h => cM_SqlReaderModel_is (x2 + x5) 90 u h) gk_SqlReaderModel_293 dk_SqlReaderModel_is rfl ⟨rfl, rfl⟩ ⟨(by show 4 + 1 ≤ n0 + 1 + 7; omega), (by show 8 + (5 + 11) + 85 ≤ 35 * (n0 + 1) + 155; omega)⟩ (rvW (q0 := 0) (ci := 1) E rfl rfl rfl) rfl (Nat.le_of_ble_eq_true rfl) d_SqlReaderModel_prefixed_30 fun r9 _ => ?_
        refine Sm_if_eq (tgt := 42) E d_SqlReaderModel_prefixed_33 (by decide) (fun _ => ?_) (fun _ => ?_)
        · exact Sm_sub [0, 1, 2, 3, 4, 5] rfl (tM_SqlReaderModel_prefixed_J42 rc n0 hrc E hR _ _ _ _ _ _)
        · refine Sm_iinc (k := 5) (d := 1) E d_SqlReaderModel_prefixed_36 rfl rfl (by decide) fun y10 _ => Sm_lvs (lv' := [(5, .int y10), (0, .ref (G.1 100)), (1, .int x1), (2, .int x2), (3, .int x3), (4, .int x4)]) rfl ?_
          refine Sm_goto (tgt := 3) E d_SqlReaderModel_prefixed_39 (by decide) ?_
          exact Sm_sub [1, 2, 3, 4, 5, 0] rfl (h3 _ _ _ _ _ _)
      · refine Sm_ldcS_w E sr_SqlReaderModel_350 d_SqlReaderModel_prefixed_21 ?_
        refine Sm_goto (tgt := 30) E d_SqlReaderModel_prefixed_24 (by decide) ?_
        refine Sm_cVi (As := [.int (x2 + x5), .ref (G.2.2.1 89)]) (b := (G.1 100)) (st := []) (n := 2) E exOk wM_as (fun _ h => cM_SqlReaderModel_is (x2 + x5) 89 u h) gk_SqlReaderModel_293 dk_SqlReaderModel_is rfl ⟨rfl, rfl⟩ ⟨(by show 4 + 1 ≤ n0 + 1 + 7; omega), (by show 8 + (5 + 11) + 85 ≤ 35 * (n0 + 1) + 155; omega)⟩ (rvW (q0 := 0) (ci := 1) E rfl rfl rfl) rfl (Nat.le_of_ble_eq_true rfl) d_SqlReaderModel_prefixed_30 fun r11 _ => ?_
        refine Sm_if_eq (tgt := 42) E d_SqlReaderModel_prefixed_33 (by decide) (fun _ => ?_) (fun _ => ?_)
        · exact Sm_sub [0, 1, 2, 3, 4, 5] rfl (tM_SqlReaderModel_prefixed_J42 rc n0 hrc E hR _ _ _ _ _ _)
        · refine Sm_iinc (k := 5) (d := 1) E d_SqlReaderModel_prefixed_36 rfl rfl (by decide) fun y12 _ => Sm_lvs (lv' := [(5, .int y12), (0, .ref (G.1 100)), (1, .int x1), (2, .int x2), (3, .int x3), (4, .int x4)]) rfl ?_
          refine Sm_goto (tgt := 3) E d_SqlReaderModel_prefixed_39 (by decide) ?_
          exact Sm_sub [1, 2, 3, 4, 5, 0] rfl (h3 _ _ _ _ _ _)
set_option maxRecDepth 100000 in
set_option maxHeartbeats 4000000 in
theorem cM_SqlReaderModel_prefixed_o {l : Launch} {D : va_G} {G : Gx} (rc : Nat → Int32 → Int32 → Int32 → Int32 → Int32 → Int32 → St → Option (Int32 × St)) (n0 : Nat) (hrc : ∀ (t : Nat) (a b c d e f : Int32) (u : St) (res : Int32 × St), rc t a b c d e f u = some res → rcCM n0 G t a b c d e f u res) (x1 : Int32) (x2 : Int32) (x3 : Int32) (x4 : Int32) (u : St) {res : Int32 × St} (hm : mM_SqlReaderModel_prefixed_o rc x1 x2 x3 x4 u = some res) : KM l D G y_SqlReaderModel_prefixed (.code y_SqlReaderModel_prefixed prog_11_method_31_code 8 (some .int)) (rmGM (n0 + 1)) [.ref (G.1 100), .int x1, .int x2, .int x3, .int x4] u (qI D vwCl (wM G) (tyW G) (adsM G) res) := by
  refine Ct_I (by decide) wM_as (Nat.le_of_ble_eq_true rfl) hm (fun X _ _ E hR => ?_)
  refine Sm_lvs (lv' := [(0, .ref (G.1 100)), (1, .int x1), (2, .int x2), (3, .int x3), (4, .int x4)]) rfl ?_
  rw [mM_SqlReaderModel_prefixed_o]
  refine Sm_iconst (v := 0) E d_SqlReaderModel_prefixed_0 (by decide) ?_
  refine Sm_istore (lv' := [(5, .int 0), (0, .ref (G.1 100)), (1, .int x1), (2, .int x2), (3, .int x3), (4, .int x4)]) E d_SqlReaderModel_prefixed_1 (by decide) rfl ?_
  exact Sm_sub [1, 2, 3, 4, 5, 0] rfl (tM_SqlReaderModel_prefixed_L3 rc n0 hrc E hR FU _ _ _ _ _ _)
set_option maxRecDepth 100000 in
set_option maxHeartbeats 4000000 in
theorem cM_SqlReaderModel_part_o {l : Launch} {D : va_G} {G : Gx} (rc : Nat → Int32 → Int32 → Int32 → Int32 → Int32 → Int32 → St → Option (Int32 × St)) (n0 : Nat) (hrc : ∀ (t : Nat) (a b c d e f : Int32) (u : St) (res : Int32 × St), rc t a b c d e f u = some res → rcCM n0 G t a b c d e f u res) (x1 : Int32) (x2 : Int32) (x3 : Int32) (x4 : Int32) (u : St) {res : Int32 × St} (hm : mM_SqlReaderModel_part_o rc x1 x2 x3 x4 u = some res) : KM l D G y_SqlReaderModel_part (.code y_SqlReaderModel_part prog_11_method_30_code 5 (some .int)) (rmGM (n0 + 1)) [.ref (G.1 100), .int x1, .int x2, .int x3, .int x4] u (qI D vwCl (wM G) (tyW G) (adsM G) res) := by
  refine Ct_I (by decide) wM_as (Nat.le_of_ble_eq_true rfl) hm (fun X _ _ E hR => ?_)
  refine Sm_lvs (lv' := [(0, .ref (G.1 100)), (1, .int x1), (2, .int x2), (3, .int x3), (4, .int x4)]) rfl ?_
  rw [mM_SqlReaderModel_part_o]
  refine Sm_aload_n E d_SqlReaderModel_part_0 rfl 0 rfl ?_
  refine gfM_0_bad E fl_SqlReaderModel_226 d_SqlReaderModel_part_1 ?_
  refine Sm_if_ne (tgt := 19) E d_SqlReaderModel_part_4 (by decide) (fun _ => ?_) (fun _ => ?_)
  · refine Sm_aload_n E d_SqlReaderModel_part_19 rfl 0 rfl ?_
    refine Sm_iconst (v := 1) E d_SqlReaderModel_part_20 (by decide) ?_
    refine pfM_0_bad E fl_SqlReaderModel_226 d_SqlReaderModel_part_21 (by decide) rfl fun u1 _ => ?_
    refine Sm_iconst (v := 0) E d_SqlReaderModel_part_24 (by decide) ?_
    exact Sm_retI hR d_SqlReaderModel_part_25
  · refine Sm_iload_n E d_SqlReaderModel_part_7 rfl 2 rfl ?_
    refine Sm_iload_n E d_SqlReaderModel_part_8 rfl 3 rfl ?_
    refine Sm_icmp_ge (tgt := 19) E d_SqlReaderModel_part_9 (by decide) (fun _ => ?_) (fun _ => ?_)
    · refine Sm_aload_n E d_SqlReaderModel_part_19 rfl 0 rfl ?_
      refine Sm_iconst (v := 1) E d_SqlReaderModel_part_20 (by decide) ?_
      refine pfM_0_bad E fl_SqlReaderModel_226 d_SqlReaderModel_part_21 (by decide) rfl fun u2 _ => ?_
      refine Sm_iconst (v := 0) E d_SqlReaderModel_part_24 (by decide) ?_
      exact Sm_retI hR d_SqlReaderModel_part_25
    · refine Sm_iload E d_SqlReaderModel_part_12 4 rfl ?_
      refine Sm_bipush (v := 20) E d_SqlReaderModel_part_14 (by decide) ?_
      refine Sm_icmp_le (tgt := 26) E d_SqlReaderModel_part_16 (by decide) (fun _ => ?_) (fun _ => ?_)
      · refine Sm_iload_n E d_SqlReaderModel_part_26 rfl 1 rfl ?_
        refine Sm_iconst (v := 2) E d_SqlReaderModel_part_27 (by decide) ?_
        refine Sm_icmp_eq (tgt := 37) E d_SqlReaderModel_part_28 (by decide) (fun _ => ?_) (fun _ => ?_)
        · refine Sm_aload_n E d_SqlReaderModel_part_37 rfl 0 rfl ?_
          refine Sm_iload_n E d_SqlReaderModel_part_38 rfl 1 rfl ?_
          refine Sm_iload_n E d_SqlReaderModel_part_39 rfl 2 rfl ?_
          refine Sm_iload_n E d_SqlReaderModel_part_40 rfl 3 rfl ?_
          refine Sm_iload E d_SqlReaderModel_part_41 4 rfl ?_
          refine Sm_cSI (As := [.ref (G.1 100), .int x1, .int x2, .int x3, .int x4]) (st := []) (n := 5) E exOk wM_as (fun _ h => hrc 4 _ _ _ _ _ _ _ _ h X.2.1 (xD X)) gk_SqlReaderModel_337 dk_SqlReaderModel_prefixed rfl ⟨rfl, rfl⟩ ⟨(by show n0 + 7 + 1 ≤ n0 + 1 + 7; omega), (by show 8 + (8 + 11) + (35 * n0 + 155) ≤ 35 * (n0 + 1) + 155; omega)⟩ rfl (Nat.le_of_ble_eq_true rfl) d_SqlReaderModel_part_43 fun r3 u4 _ => ?_
          exact Sm_retI hR d_SqlReaderModel_part_46
        · refine Sm_iload_n E d_SqlReaderModel_part_31 rfl 1 rfl ?_
          refine Sm_bipush (v := 7) E d_SqlReaderModel_part_32 (by decide) ?_
          refine Sm_icmp_ne (tgt := 47) E d_SqlReaderModel_part_34 (by decide) (fun _ => ?_) (fun _ => ?_)
          · refine Sm_iload_n E d_SqlReaderModel_part_47 rfl 1 rfl ?_
            refine Sm_iconst (v := 3) E d_SqlReaderModel_part_48 (by decide) ?_
            refine Sm_icmp_ne (tgt := 61) E d_SqlReaderModel_part_49 (by decide) (fun _ => ?_) (fun _ => ?_)
            · refine Sm_iload_n E d_SqlReaderModel_part_61 rfl 1 rfl ?_
              refine Sm_bipush (v := 8) E d_SqlReaderModel_part_62 (by decide) ?_
              refine Sm_icmp_ne (tgt := 78) E d_SqlReaderModel_part_64 (by decide) (fun _ => ?_) (fun _ => ?_)
              · refine Sm_aload_n E d_SqlReaderModel_part_78 rfl 0 rfl ?_
                refine Sm_iload_n E d_SqlReaderModel_part_79 rfl 1 rfl ?_
                refine Sm_iload_n E d_SqlReaderModel_part_80 rfl 2 rfl ?_
                refine Sm_iload_n E d_SqlReaderModel_part_81 rfl 3 rfl ?_
                refine Sm_iload E d_SqlReaderModel_part_82 4 rfl ?_
                refine Sm_cSI (As := [.ref (G.1 100), .int x1, .int x2, .int x3, .int x4]) (st := []) (n := 5) E exOk wM_as (fun _ h => hrc 0 _ _ _ _ _ _ _ _ h X.2.1 (xD X)) gk_SqlReaderModel_347 dk_SqlReaderModel_chain rfl ⟨rfl, rfl⟩ ⟨(by show n0 + 7 + 1 ≤ n0 + 1 + 7; omega), (by show 8 + (15 + 11) + (35 * n0 + 155) ≤ 35 * (n0 + 1) + 155; omega)⟩ rfl (Nat.le_of_ble_eq_true rfl) d_SqlReaderModel_part_84 fun r5 u6 _ => ?_
                exact Sm_retI hR d_SqlReaderModel_part_87
              · refine Sm_aload_n E d_SqlReaderModel_part_67 rfl 0 rfl ?_
                refine Sm_iload_n E d_SqlReaderModel_part_68 rfl 2 rfl ?_
                refine Sm_iload_n E d_SqlReaderModel_part_69 rfl 3 rfl ?_
                refine Sm_iload E d_SqlReaderModel_part_70 4 rfl ?_
                refine Sm_cSI (As := [.ref (G.1 100), .int x2, .int x3, .int x4]) (st := []) (n := 4) E exOk wM_as (fun _ h => hrc 1 _ _ _ _ _ _ _ _ h X.2.1 (xD X)) gk_SqlReaderModel_344 dk_SqlReaderModel_primary rfl ⟨rfl, rfl⟩ ⟨(by show n0 + 7 + 1 ≤ n0 + 1 + 7; omega), (by show 8 + (6 + 11) + (35 * n0 + 155) ≤ 35 * (n0 + 1) + 155; omega)⟩ rfl (Nat.le_of_ble_eq_true rfl) d_SqlReaderModel_part_72 fun r7 u8 _ => ?_
                refine Sm_goto (tgt := 87) E d_SqlReaderModel_part_75 (by decide) ?_
                exact Sm_retI hR d_SqlReaderModel_part_87
            · refine Sm_aload_n E d_SqlReaderModel_part_52 rfl 0 rfl ?_
              refine Sm_iload_n E d_SqlReaderModel_part_53 rfl 2 rfl ?_
              refine Sm_iload_n E d_SqlReaderModel_part_54 rfl 3 rfl ?_
              refine Sm_iload E d_SqlReaderModel_part_55 4 rfl ?_
              refine Sm_cSI (As := [.ref (G.1 100), .int x2, .int x3, .int x4]) (st := []) (n := 4) E exOk wM_as (fun _ h => hrc 3 _ _ _ _ _ _ _ _ h X.2.1 (xD X)) gk_SqlReaderModel_340 dk_SqlReaderModel_comparison rfl ⟨rfl, rfl⟩ ⟨(by show n0 + 7 + 1 ≤ n0 + 1 + 7; omega), (by show 8 + (16 + 11) + (35 * n0 + 155) ≤ 35 * (n0 + 1) + 155; omega)⟩ rfl (Nat.le_of_ble_eq_true rfl) d_SqlReaderModel_part_57 fun r9 u10 _ => ?_
              exact Sm_retI hR d_SqlReaderModel_part_60
          · refine Sm_aload_n E d_SqlReaderModel_part_37 rfl 0 rfl ?_
            refine Sm_iload_n E d_SqlReaderModel_part_38 rfl 1 rfl ?_
            refine Sm_iload_n E d_SqlReaderModel_part_39 rfl 2 rfl ?_
            refine Sm_iload_n E d_SqlReaderModel_part_40 rfl 3 rfl ?_
            refine Sm_iload E d_SqlReaderModel_part_41 4 rfl ?_
            refine Sm_cSI (As := [.ref (G.1 100), .int x1, .int x2, .int x3, .int x4]) (st := []) (n := 5) E exOk wM_as (fun _ h => hrc 4 _ _ _ _ _ _ _ _ h X.2.1 (xD X)) gk_SqlReaderModel_337 dk_SqlReaderModel_prefixed rfl ⟨rfl, rfl⟩ ⟨(by show n0 + 7 + 1 ≤ n0 + 1 + 7; omega), (by show 8 + (8 + 11) + (35 * n0 + 155) ≤ 35 * (n0 + 1) + 155; omega)⟩ rfl (Nat.le_of_ble_eq_true rfl) d_SqlReaderModel_part_43 fun r11 u12 _ => ?_
            exact Sm_retI hR d_SqlReaderModel_part_46
      · refine Sm_aload_n E d_SqlReaderModel_part_19 rfl 0 rfl ?_
        refine Sm_iconst (v := 1) E d_SqlReaderModel_part_20 (by decide) ?_
        refine pfM_0_bad E fl_SqlReaderModel_226 d_SqlReaderModel_part_21 (by decide) rfl fun u13 _ => ?_
        refine Sm_iconst (v := 0) E d_SqlReaderModel_part_24 (by decide) ?_
        exact Sm_retI hR d_SqlReaderModel_part_25
set_option maxRecDepth 100000 in
theorem cgM {G : Gx} : ∀ (n t : Nat) (a b c d e f : Int32) (u : St) (res : Int32 × St), grpM n t a b c d e f u = some res → rcCM n G t a b c d e f u res := by
  intro n
  induction n with
  | zero => intro t a b c d e f u res h; cases h
  | succ n ih =>
    intro t a b c d e f u res h
    match t, h with
    | 0, h => exact fun l D => cM_SqlReaderModel_chain_o (grpM n) n ih a b c d u h
    | 1, h => exact fun l D => cM_SqlReaderModel_primary_o (grpM n) n ih a b c u h
    | 2, h => exact fun l D => cM_SqlReaderModel_in_o (grpM n) n ih a b c d e f u h
    | 3, h => exact fun l D => cM_SqlReaderModel_comparison_o (grpM n) n ih a b c u h
    | 4, h => exact fun l D => cM_SqlReaderModel_prefixed_o (grpM n) n ih a b c d u h
    | 5, h => exact fun l D => cM_SqlReaderModel_part_o (grpM n) n ih a b c d u h
    | t + 6, h => trivial
theorem cM_SqlReaderModel_chain {l : Launch} {D : va_G} {G : Gx} (x1 : Int32) (x2 : Int32) (x3 : Int32) (x4 : Int32) (u : St) {res : Int32 × St} (hm : mM_SqlReaderModel_chain DP x1 x2 x3 x4 u = some res) : KM l D G y_SqlReaderModel_chain (.code y_SqlReaderModel_chain prog_11_method_29_code 15 (some .int)) (rmGM DP) [.ref (G.1 100), .int x1, .int x2, .int x3, .int x4] u (qI D vwCl (wM G) (tyW G) (adsM G) res) := cgM DP 0 _ _ _ _ _ _ u res hm l D
theorem cM_SqlReaderModel_primary {l : Launch} {D : va_G} {G : Gx} (x1 : Int32) (x2 : Int32) (x3 : Int32) (u : St) {res : Int32 × St} (hm : mM_SqlReaderModel_primary DP x1 x2 x3 u = some res) : KM l D G y_SqlReaderModel_primary (.code y_SqlReaderModel_primary prog_11_method_39_code 6 (some .int)) (rmGM DP) [.ref (G.1 100), .int x1, .int x2, .int x3] u (qI D vwCl (wM G) (tyW G) (adsM G) res) := cgM DP 1 _ _ _ _ _ _ u res hm l D
theorem cM_SqlReaderModel_in {l : Launch} {D : va_G} {G : Gx} (x1 : Int32) (x2 : Int32) (x3 : Int32) (x4 : Int32) (x5 : Int32) (x6 : Int32) (u : St) {res : Int32 × St} (hm : mM_SqlReaderModel_in DP x1 x2 x3 x4 x5 x6 u = some res) : KM l D G y_SqlReaderModel_in (.code y_SqlReaderModel_in prog_11_method_36_code 13 (some .int)) (rmGM DP) [.ref (G.1 100), .int x1, .int x2, .int x3, .int x4, .int x5, .int x6] u (qI D vwCl (wM G) (tyW G) (adsM G) res) := cgM DP 2 _ _ _ _ _ _ u res hm l D
theorem cM_SqlReaderModel_comparison {l : Launch} {D : va_G} {G : Gx} (x1 : Int32) (x2 : Int32) (x3 : Int32) (u : St) {res : Int32 × St} (hm : mM_SqlReaderModel_comparison DP x1 x2 x3 u = some res) : KM l D G y_SqlReaderModel_comparison (.code y_SqlReaderModel_comparison prog_11_method_35_code 16 (some .int)) (rmGM DP) [.ref (G.1 100), .int x1, .int x2, .int x3] u (qI D vwCl (wM G) (tyW G) (adsM G) res) := cgM DP 3 _ _ _ _ _ _ u res hm l D
theorem cM_SqlReaderModel_prefixed {l : Launch} {D : va_G} {G : Gx} (x1 : Int32) (x2 : Int32) (x3 : Int32) (x4 : Int32) (u : St) {res : Int32 × St} (hm : mM_SqlReaderModel_prefixed DP x1 x2 x3 x4 u = some res) : KM l D G y_SqlReaderModel_prefixed (.code y_SqlReaderModel_prefixed prog_11_method_31_code 8 (some .int)) (rmGM DP) [.ref (G.1 100), .int x1, .int x2, .int x3, .int x4] u (qI D vwCl (wM G) (tyW G) (adsM G) res) := cgM DP 4 _ _ _ _ _ _ u res hm l D
theorem cM_SqlReaderModel_part {l : Launch} {D : va_G} {G : Gx} (x1 : Int32) (x2 : Int32) (x3 : Int32) (x4 : Int32) (u : St) {res : Int32 × St} (hm : mM_SqlReaderModel_part DP x1 x2 x3 x4 u = some res) : KM l D G y_SqlReaderModel_part (.code y_SqlReaderModel_part prog_11_method_30_code 5 (some .int)) (rmGM DP) [.ref (G.1 100), .int x1, .int x2, .int x3, .int x4] u (qI D vwCl (wM G) (tyW G) (adsM G) res) := cgM DP 5 _ _ _ _ _ _ u res hm l D
set_option maxRecDepth 100000 in
set_option maxHeartbeats 4000000 in
theorem cM_SqlReaderModel_expression {l : Launch} {D : va_G} {G : Gx} (u : St) {res : Int32 × St} (hm : mM_SqlReaderModel_expression u = some res) : KM l D G y_SqlReaderModel_expression (.code y_SqlReaderModel_expression prog_11_method_46_code 3 (some .int)) { frames := 408, cells := 0, slots := 0, locals := 14179 } [.ref (G.1 100)] u (qI D vwCl (wM G) (tyW G) (adsM G) res) := by
  refine Ct_I (by decide) wM_as (Nat.le_of_ble_eq_true rfl) hm (fun X _ _ E hR => ?_)
  refine Sm_lvs (lv' := [(0, .ref (G.1 100))]) rfl ?_
  rw [mM_SqlReaderModel_expression]
  refine Sm_aload_n E d_SqlReaderModel_expression_0 rfl 0 rfl ?_
  refine Sm_cVi (As := []) (b := (G.1 100)) (st := []) (n := 0) E exOk wM_as (fun _ h => cM_SqlReaderModel_reach u h) gk_SqlReaderModel_439 dk_SqlReaderModel_reach rfl ⟨rfl, rfl⟩ ⟨Nat.le_of_ble_eq_true rfl, Nat.le_of_ble_eq_true rfl⟩ (rvW (q0 := 0) (ci := 1) E rfl rfl rfl) rfl (Nat.le_of_ble_eq_true rfl) d_SqlReaderModel_expression_1 fun r1 _ => ?_
  refine Sm_istore_n (lv' := [(1, .int r1), (0, .ref (G.1 100))]) E d_SqlReaderModel_expression_4 rfl (by decide) rfl ?_
  refine Sm_aload_n E d_SqlReaderModel_expression_5 rfl 1 rfl ?_
  refine Sm_iconst (v := 0) E d_SqlReaderModel_expression_6 (by decide) ?_
  refine Sm_aload_n E d_SqlReaderModel_expression_7 rfl 1 rfl ?_
  refine gfM_0_place E fl_SqlReaderModel_419 d_SqlReaderModel_expression_8 ?_
  refine Sm_iload_n E d_SqlReaderModel_expression_11 rfl 0 rfl ?_
  refine Sm_iconst (v := 0) E d_SqlReaderModel_expression_12 (by decide) ?_
  refine Sm_cSI (As := [.ref (G.1 100), .int 0, .int (u.1 30), .int r1, .int 0]) (st := []) (n := 5) E exOk wM_as (fun _ h => cM_SqlReaderModel_part 0 (u.1 30) r1 0 u h) gk_SqlReaderModel_330 dk_SqlReaderModel_part rfl ⟨rfl, rfl⟩ ⟨Nat.le_of_ble_eq_true rfl, Nat.le_of_ble_eq_true rfl⟩ rfl (Nat.le_of_ble_eq_true rfl) d_SqlReaderModel_expression_13 fun r2 u3 _ => ?_
  refine Sm_istore_n (lv' := [(2, .int r2), (1, .int r1), (0, .ref (G.1 100))]) E d_SqlReaderModel_expression_16 rfl (by decide) rfl ?_
  refine Sm_aload_n E d_SqlReaderModel_expression_17 rfl 2 rfl ?_
  refine Sm_iload_n E d_SqlReaderModel_expression_18 rfl 1 rfl ?_
  refine pfM_0_place E fl_SqlReaderModel_419 d_SqlReaderModel_expression_19 fun u4 _ => ?_
  refine Sm_iload_n E d_SqlReaderModel_expression_22 rfl 0 rfl ?_
  exact Sm_retI hR d_SqlReaderModel_expression_23
set_option maxRecDepth 100000 in
set_option maxHeartbeats 4000000 in
theorem tM_SqlReaderModel_readRows_J87 {X : Cx} {G : Gx} {res : St} (E : EM X G prog_11_method_49_code R_SqlReaderModel 4 { frames := 409, cells := 0, slots := 0, locals := 14201 }) (hR : RtV X vwCl (wM G) prog_11_method_49_code res) {q2 : Int32 → St → Option (St)} (h2 : ∀ (x1 : Int32) (u : St), SM X G 4 res (q2 x1 u) u 2 [(0, .ref (G.1 100)), (1, .int x1)] []) : ∀ (x2 : Int32) (u : St), SM X G 4 res (mM_SqlReaderModel_readRows_J87 q2 x2 u) u 87 [(0, .ref (G.1 100)), (2, .int x2)] [] := by
  intro x2 u
  rw [mM_SqlReaderModel_readRows_J87]
  refine Sm_aload_n E d_SqlReaderModel_readRows_87 rfl 0 rfl ?_
  refine Sm_ldcS_w E sr_SqlReaderModel_297 d_SqlReaderModel_readRows_88 ?_
  refine Sm_cVV (As := [.ref (G.2.2.1 88)]) (b := (G.1 100)) (st := []) (n := 1) E exOk wM_as (fun _ h => cM_SqlReaderModel_need 88 u h) gk_SqlReaderModel_450 dk_SqlReaderModel_need rfl ⟨rfl, rfl⟩ ⟨Nat.le_of_ble_eq_true rfl, Nat.le_of_ble_eq_true rfl⟩ (rvW (q0 := 0) (ci := 1) E rfl rfl rfl) rfl (Nat.le_of_ble_eq_true rfl) d_SqlReaderModel_readRows_91 fun u2 _ => ?_
  refine Sm_aload_n E d_SqlReaderModel_readRows_94 rfl 0 rfl ?_
  refine Sm_bipush (v := 10) E d_SqlReaderModel_readRows_95 (by decide) ?_
  refine Sm_iload_n E d_SqlReaderModel_readRows_97 rfl 1 rfl ?_
  refine Sm_iconst (v := 0) E d_SqlReaderModel_readRows_98 (by decide) ?_
  refine Sm_cVV (As := [.int 10, .int x2, .int 0]) (b := (G.1 100)) (st := []) (n := 3) E exOk wM_as (fun _ h => cM_SqlReaderModel_note 10 x2 0 u2 h) gk_SqlReaderModel_283 dk_SqlReaderModel_note rfl ⟨rfl, rfl⟩ ⟨Nat.le_of_ble_eq_true rfl, Nat.le_of_ble_eq_true rfl⟩ (rvW (q0 := 0) (ci := 1) E rfl rfl rfl) rfl (Nat.le_of_ble_eq_true rfl) d_SqlReaderModel_readRows_99 fun u3 _ => ?_
  refine Sm_aload_n E d_SqlReaderModel_readRows_102 rfl 0 rfl ?_
  refine Sm_dup E d_SqlReaderModel_readRows_103 rfl ?_
  refine gfM_0_rows E fl_SqlReaderModel_189 d_SqlReaderModel_readRows_104 ?_
  refine Sm_iconst (v := 1) E d_SqlReaderModel_readRows_107 (by decide) ?_
  refine Sm_iadd E d_SqlReaderModel_readRows_108 ?_
  refine pfM_0_rows E fl_SqlReaderModel_189 d_SqlReaderModel_readRows_109 fun u4 _ => ?_
  refine Sm_aload_n E d_SqlReaderModel_readRows_112 rfl 0 rfl ?_
  refine Sm_ldcS_w E sr_SqlReaderModel_387 d_SqlReaderModel_readRows_113 ?_
  refine Sm_cVI (As := [.ref (G.2.2.1 80)]) (b := (G.1 100)) (st := []) (n := 1) E exOk wM_as (fun _ h => cM_SqlReaderModel_takes 80 u4 h) gk_SqlReaderModel_421 dk_SqlReaderModel_takes rfl ⟨rfl, rfl⟩ ⟨Nat.le_of_ble_eq_true rfl, Nat.le_of_ble_eq_true rfl⟩ (rvW (q0 := 0) (ci := 1) E rfl rfl rfl) rfl (Nat.le_of_ble_eq_true rfl) d_SqlReaderModel_readRows_116 fun r5 u6 _ => ?_
  refine Sm_istore_n (lv' := [(1, .int r5), (0, .ref (G.1 100)), (2, .int x2)]) E d_SqlReaderModel_readRows_119 rfl (by decide) rfl ?_
  refine Sm_goto (tgt := 2) E d_SqlReaderModel_readRows_120 (by decide) ?_
  exact Sm_sub [1, 0] rfl (h2 _ _)
set_option maxRecDepth 100000 in
set_option maxHeartbeats 4000000 in
theorem tM_SqlReaderModel_readRows_L24 {X : Cx} {G : Gx} {res : St} (E : EM X G prog_11_method_49_code R_SqlReaderModel 4 { frames := 409, cells := 0, slots := 0, locals := 14201 }) (hR : RtV X vwCl (wM G) prog_11_method_49_code res) {q2 : Int32 → St → Option (St)} (h2 : ∀ (x1 : Int32) (u : St), SM X G 4 res (q2 x1 u) u 2 [(0, .ref (G.1 100)), (1, .int x1)] []) : ∀ (n : Nat) (x2 : Int32) (x3 : Int32) (u : St), SM X G 4 res (mM_SqlReaderModel_readRows_L24 q2 n x2 x3 u) u 24 [(0, .ref (G.1 100)), (2, .int x2), (3, .int x3)] [] := by
  intro n
  induction n with
  | zero => intro x2 x3 u; exact Sm_none
  | succ n h24 =>
    intro x2 x3 u
    rw [mM_SqlReaderModel_readRows_L24]
    refine Sm_iload_n E d_SqlReaderModel_readRows_24 rfl 2 rfl ?_
    refine Sm_if_eq (tgt := 87) E d_SqlReaderModel_readRows_25 (by decide) (fun _ => ?_) (fun _ => ?_)
    · exact Sm_sub [0, 1] rfl (tM_SqlReaderModel_readRows_J87 E hR h2 _ _)
    · refine Sm_aload_n E d_SqlReaderModel_readRows_28 rfl 0 rfl ?_
      refine gfM_0_bad E fl_SqlReaderModel_226 d_SqlReaderModel_readRows_29 ?_
      refine Sm_if_ne (tgt := 87) E d_SqlReaderModel_readRows_32 (by decide) (fun _ => ?_) (fun _ => ?_)
      · exact Sm_sub [0, 1] rfl (tM_SqlReaderModel_readRows_J87 E hR h2 _ _)
      · refine Sm_aload_n E d_SqlReaderModel_readRows_35 rfl 0 rfl ?_
        refine gfM_0_value E fl_SqlReaderModel_109 d_SqlReaderModel_readRows_36 ?_
        refine Sm_aload_n E d_SqlReaderModel_readRows_39 rfl 0 rfl ?_
        refine gfM_0_values E fl_SqlReaderModel_195 d_SqlReaderModel_readRows_40 ?_
        refine Sm_aload_n E d_SqlReaderModel_readRows_43 rfl 0 rfl ?_
        refine Sm_cVI (As := []) (b := (G.1 100)) (st := [.int (u.1 23), .ref (G.1 133)]) (n := 0) E exOk wM_as (fun _ h => cM_SqlReaderModel_expression u h) gk_SqlReaderModel_442 dk_SqlReaderModel_expression rfl ⟨rfl, rfl⟩ ⟨Nat.le_of_ble_eq_true rfl, Nat.le_of_ble_eq_true rfl⟩ (rvW (q0 := 0) (ci := 1) E rfl rfl rfl) rfl (Nat.le_of_ble_eq_true rfl) d_SqlReaderModel_readRows_44 fun r7 u8 _ => ?_
        refine Sm_gd fun hi => stM_33 E (inb_in hi) d_SqlReaderModel_readRows_47 fun u9 _ => ?_
        refine Sm_aload_n E d_SqlReaderModel_readRows_48 rfl 0 rfl ?_
        refine Sm_iconst (v := 2) E d_SqlReaderModel_readRows_49 (by decide) ?_
        refine Sm_aload_n E d_SqlReaderModel_readRows_50 rfl 0 rfl ?_
        refine gfM_0_value E fl_SqlReaderModel_109 d_SqlReaderModel_readRows_51 ?_
        refine Sm_aload_n E d_SqlReaderModel_readRows_54 rfl 0 rfl ?_
        refine gfM_0_values E fl_SqlReaderModel_195 d_SqlReaderModel_readRows_55 ?_
        refine Sm_gd fun hi => ldM_33 E (inb_in hi) d_SqlReaderModel_readRows_58 ?_
        refine Sm_iload_n E d_SqlReaderModel_readRows_59 rfl 1 rfl ?_
        refine Sm_cVV (As := [.int 2, .int (ga u9 30 (u9.1 23)), .int x2]) (b := (G.1 100)) (st := []) (n := 3) E exOk wM_as (fun _ h => cM_SqlReaderModel_note 2 (ga u9 30 (u9.1 23)) x2 u9 h) gk_SqlReaderModel_283 dk_SqlReaderModel_note rfl ⟨rfl, rfl⟩ ⟨Nat.le_of_ble_eq_true rfl, Nat.le_of_ble_eq_true rfl⟩ (rvW (q0 := 0) (ci := 1) E rfl rfl rfl) rfl (Nat.le_of_ble_eq_true rfl) d_SqlReaderModel_readRows_60 fun u10 _ => ?_
        refine Sm_aload_n E d_SqlReaderModel_readRows_63 rfl 0 rfl ?_
        refine Sm_dup E d_SqlReaderModel_readRows_64 rfl ?_
        refine gfM_0_values E fl_SqlReaderModel_195 d_SqlReaderModel_readRows_65 ?_
        refine Sm_iconst (v := 1) E d_SqlReaderModel_readRows_68 (by decide) ?_
        refine Sm_iadd E d_SqlReaderModel_readRows_69 ?_
        refine pfM_0_values E fl_SqlReaderModel_195 d_SqlReaderModel_readRows_70 fun u11 _ => ?_
        refine Sm_iinc (k := 1) (d := 1) E d_SqlReaderModel_readRows_73 rfl rfl (by decide) fun y12 _ => Sm_lvs (lv' := [(2, .int y12), (0, .ref (G.1 100)), (3, .int x3)]) rfl ?_
        refine Sm_aload_n E d_SqlReaderModel_readRows_76 rfl 1 rfl ?_
        refine Sm_ldcS_w E sr_SqlReaderModel_387 d_SqlReaderModel_readRows_77 ?_
        refine Sm_cVI (As := [.ref (G.2.2.1 80)]) (b := (G.1 100)) (st := []) (n := 1) E exOk wM_as (fun _ h => cM_SqlReaderModel_takes 80 u11 h) gk_SqlReaderModel_421 dk_SqlReaderModel_takes rfl ⟨rfl, rfl⟩ ⟨Nat.le_of_ble_eq_true rfl, Nat.le_of_ble_eq_true rfl⟩ (rvW (q0 := 0) (ci := 1) E rfl rfl rfl) rfl (Nat.le_of_ble_eq_true rfl) d_SqlReaderModel_readRows_80 fun r13 u14 _ => ?_
        refine Sm_istore_n (lv' := [(3, .int r13), (2, .int y12), (0, .ref (G.1 100))]) E d_SqlReaderModel_readRows_83 rfl (by decide) rfl ?_
        refine Sm_goto (tgt := 24) E d_SqlReaderModel_readRows_84 (by decide) ?_
        exact Sm_sub [2, 1, 0] rfl (h24 _ _ _)
set_option maxRecDepth 100000 in
set_option maxHeartbeats 4000000 in
theorem tM_SqlReaderModel_readRows_L2 {X : Cx} {G : Gx} {res : St} (E : EM X G prog_11_method_49_code R_SqlReaderModel 4 { frames := 409, cells := 0, slots := 0, locals := 14201 }) (hR : RtV X vwCl (wM G) prog_11_method_49_code res) : ∀ (n : Nat) (x1 : Int32) (u : St), SM X G 4 res (mM_SqlReaderModel_readRows_L2 n x1 u) u 2 [(0, .ref (G.1 100)), (1, .int x1)] [] := by
  intro n
  induction n with
  | zero => intro x1 u; exact Sm_none
  | succ n h2 =>
    intro x1 u
    rw [mM_SqlReaderModel_readRows_L2]
    refine Sm_iload_n E d_SqlReaderModel_readRows_2 rfl 1 rfl ?_
    refine Sm_if_eq (tgt := 123) E d_SqlReaderModel_readRows_3 (by decide) (fun _ => ?_) (fun _ => ?_)
    · exact Sm_retV hR d_SqlReaderModel_readRows_123
    · refine Sm_aload_n E d_SqlReaderModel_readRows_6 rfl 0 rfl ?_
      refine gfM_0_bad E fl_SqlReaderModel_226 d_SqlReaderModel_readRows_7 ?_
      refine Sm_if_ne (tgt := 123) E d_SqlReaderModel_readRows_10 (by decide) (fun _ => ?_) (fun _ => ?_)
      · exact Sm_retV hR d_SqlReaderModel_readRows_123
      · refine Sm_aload_n E d_SqlReaderModel_readRows_13 rfl 0 rfl ?_
        refine Sm_ldcS_w E sr_SqlReaderModel_291 d_SqlReaderModel_readRows_14 ?_
        refine Sm_cVV (As := [.ref (G.2.2.1 79)]) (b := (G.1 100)) (st := []) (n := 1) E exOk wM_as (fun _ h => cM_SqlReaderModel_need 79 u h) gk_SqlReaderModel_450 dk_SqlReaderModel_need rfl ⟨rfl, rfl⟩ ⟨Nat.le_of_ble_eq_true rfl, Nat.le_of_ble_eq_true rfl⟩ (rvW (q0 := 0) (ci := 1) E rfl rfl rfl) rfl (Nat.le_of_ble_eq_true rfl) d_SqlReaderModel_readRows_17 fun u1 _ => ?_
        refine Sm_iconst (v := 0) E d_SqlReaderModel_readRows_20 (by decide) ?_
        refine Sm_istore_n (lv' := [(2, .int 0), (0, .ref (G.1 100)), (1, .int x1)]) E d_SqlReaderModel_readRows_21 rfl (by decide) rfl ?_
        refine Sm_iconst (v := 1) E d_SqlReaderModel_readRows_22 (by decide) ?_
        refine Sm_istore_n (lv' := [(3, .int 1), (2, .int 0), (0, .ref (G.1 100)), (1, .int x1)]) E d_SqlReaderModel_readRows_23 rfl (by decide) rfl ?_
        exact Sm_sub [2, 1, 0] rfl (tM_SqlReaderModel_readRows_L24 E hR h2 FU _ _ _)
set_option maxRecDepth 100000 in
set_option maxHeartbeats 4000000 in
theorem cM_SqlReaderModel_readRows {l : Launch} {D : va_G} {G : Gx} (u : St) {res : St} (hm : mM_SqlReaderModel_readRows u = some res) : KM l D G y_SqlReaderModel_readRows (.code y_SqlReaderModel_readRows prog_11_method_49_code 4 none) { frames := 409, cells := 0, slots := 0, locals := 14201 } [.ref (G.1 100)] u (qV D vwCl (wM G) (tyW G) (adsM G) res) := by
  refine Ct_V (by decide) wM_as (Nat.le_of_ble_eq_true rfl) hm (fun X _ _ E hR => ?_)
  refine Sm_lvs (lv' := [(0, .ref (G.1 100))]) rfl ?_
  rw [mM_SqlReaderModel_readRows]
  refine Sm_iconst (v := 1) E d_SqlReaderModel_readRows_0 (by decide) ?_
  refine Sm_istore_n (lv' := [(1, .int 1), (0, .ref (G.1 100))]) E d_SqlReaderModel_readRows_1 rfl (by decide) rfl ?_
  exact Sm_sub [1, 0] rfl (tM_SqlReaderModel_readRows_L2 E hR FU _ _)
set_option maxRecDepth 100000 in
set_option maxHeartbeats 4000000 in
theorem tM_SqlReaderModel_readItems_J91 {X : Cx} {G : Gx} {res : St} (E : EM X G prog_11_method_53_code R_SqlReaderModel 3 { frames := 409, cells := 0, slots := 0, locals := 14201 }) (hR : RtV X vwCl (wM G) prog_11_method_53_code res) {q44 : Int32 → St → Option (St)} (h44 : ∀ (x1 : Int32) (u : St), SM X G 3 res (q44 x1 u) u 44 [(0, .ref (G.1 100)), (1, .int x1)] []) : ∀ (u : St), SM X G 3 res (mM_SqlReaderModel_readItems_J91 q44 u) u 91 [(0, .ref (G.1 100))] [] := by
  intro u
  rw [mM_SqlReaderModel_readItems_J91]
  refine Sm_aload_n E d_SqlReaderModel_readItems_91 rfl 0 rfl ?_
  refine Sm_dup E d_SqlReaderModel_readItems_92 rfl ?_
  refine gfM_0_items E fl_SqlReaderModel_174 d_SqlReaderModel_readItems_93 ?_
  refine Sm_iconst (v := 1) E d_SqlReaderModel_readItems_96 (by decide) ?_
  refine Sm_iadd E d_SqlReaderModel_readItems_97 ?_
  refine pfM_0_items E fl_SqlReaderModel_174 d_SqlReaderModel_readItems_98 fun u9 _ => ?_
  refine Sm_aload_n E d_SqlReaderModel_readItems_101 rfl 0 rfl ?_
  refine Sm_ldcS_w E sr_SqlReaderModel_387 d_SqlReaderModel_readItems_102 ?_
  refine Sm_cVI (As := [.ref (G.2.2.1 80)]) (b := (G.1 100)) (st := []) (n := 1) E exOk wM_as (fun _ h => cM_SqlReaderModel_takes 80 u9 h) gk_SqlReaderModel_421 dk_SqlReaderModel_takes rfl ⟨rfl, rfl⟩ ⟨Nat.le_of_ble_eq_true rfl, Nat.le_of_ble_eq_true rfl⟩ (rvW (q0 := 0) (ci := 1) E rfl rfl rfl) rfl (Nat.le_of_ble_eq_true rfl) d_SqlReaderModel_readItems_105 fun r10 u11 _ => ?_
  refine Sm_istore_n (lv' := [(1, .int r10), (0, .ref (G.1 100))]) E d_SqlReaderModel_readItems_108 rfl (by decide) rfl ?_
  refine Sm_goto (tgt := 44) E d_SqlReaderModel_readItems_109 (by decide) ?_
  exact Sm_sub [1, 0] rfl (h44 _ _)
set_option maxRecDepth 100000 in
set_option maxHeartbeats 4000000 in
theorem tM_SqlReaderModel_readItems_L44 {X : Cx} {G : Gx} {res : St} (E : EM X G prog_11_method_53_code R_SqlReaderModel 3 { frames := 409, cells := 0, slots := 0, locals := 14201 }) (hR : RtV X vwCl (wM G) prog_11_method_53_code res) : ∀ (n : Nat) (x1 : Int32) (u : St), SM X G 3 res (mM_SqlReaderModel_readItems_L44 n x1 u) u 44 [(0, .ref (G.1 100)), (1, .int x1)] [] := by
  intro n
  induction n with
  | zero => intro x1 u; exact Sm_none
  | succ n h44 =>
    intro x1 u
    rw [mM_SqlReaderModel_readItems_L44]
    refine Sm_iload_n E d_SqlReaderModel_readItems_44 rfl 1 rfl ?_
    refine Sm_if_eq (tgt := 112) E d_SqlReaderModel_readItems_45 (by decide) (fun _ => ?_) (fun _ => ?_)
    · refine Sm_aload_n E d_SqlReaderModel_readItems_112 rfl 0 rfl ?_
      refine Sm_iconst (v := 0) E d_SqlReaderModel_readItems_113 (by decide) ?_
      refine pfM_0_inItems E fl_SqlReaderModel_400 d_SqlReaderModel_readItems_114 (by decide) rfl fun u5 _ => ?_
      exact Sm_retV hR d_SqlReaderModel_readItems_117
    · refine Sm_aload_n E d_SqlReaderModel_readItems_48 rfl 0 rfl ?_
      refine gfM_0_bad E fl_SqlReaderModel_226 d_SqlReaderModel_readItems_49 ?_
      refine Sm_if_ne (tgt := 112) E d_SqlReaderModel_readItems_52 (by decide) (fun _ => ?_) (fun _ => ?_)
      · refine Sm_aload_n E d_SqlReaderModel_readItems_112 rfl 0 rfl ?_
        refine Sm_iconst (v := 0) E d_SqlReaderModel_readItems_113 (by decide) ?_
        refine pfM_0_inItems E fl_SqlReaderModel_400 d_SqlReaderModel_readItems_114 (by decide) rfl fun u6 _ => ?_
        exact Sm_retV hR d_SqlReaderModel_readItems_117
      · refine Sm_aload_n E d_SqlReaderModel_readItems_55 rfl 0 rfl ?_
        refine Sm_cVI (As := []) (b := (G.1 100)) (st := []) (n := 0) E exOk wM_as (fun _ h => cM_SqlReaderModel_expression u h) gk_SqlReaderModel_442 dk_SqlReaderModel_expression rfl ⟨rfl, rfl⟩ ⟨Nat.le_of_ble_eq_true rfl, Nat.le_of_ble_eq_true rfl⟩ (rvW (q0 := 0) (ci := 1) E rfl rfl rfl) rfl (Nat.le_of_ble_eq_true rfl) d_SqlReaderModel_readItems_56 fun r7 u8 _ => ?_
        refine Sm_istore_n (lv' := [(2, .int r7), (0, .ref (G.1 100)), (1, .int x1)]) E d_SqlReaderModel_readItems_59 rfl (by decide) rfl ?_
        refine Sm_aload_n E d_SqlReaderModel_readItems_60 rfl 1 rfl ?_
        refine gfM_0_items E fl_SqlReaderModel_174 d_SqlReaderModel_readItems_61 ?_
        refine Sm_sipush (v := 200) E d_SqlReaderModel_readItems_64 (by decide) ?_
        refine Sm_icmp_ge (tgt := 91) E d_SqlReaderModel_readItems_67 (by decide) (fun _ => ?_) (fun _ => ?_)
        · exact Sm_sub [1] rfl (tM_SqlReaderModel_readItems_J91 E hR h44 _)
        · refine Sm_aload_n E d_SqlReaderModel_readItems_70 rfl 1 rfl ?_
          refine gfM_0_item E fl_SqlReaderModel_78 d_SqlReaderModel_readItems_71 ?_
          refine Sm_aload_n E d_SqlReaderModel_readItems_74 rfl 1 rfl ?_
          refine gfM_0_items E fl_SqlReaderModel_174 d_SqlReaderModel_readItems_75 ?_
          refine Sm_iload_n E d_SqlReaderModel_readItems_78 rfl 0 rfl ?_
          refine Sm_gd fun hi => stM_23 E (inb_in hi) d_SqlReaderModel_readItems_79 fun u12 _ => ?_
          refine Sm_aload_n E d_SqlReaderModel_readItems_80 rfl 1 rfl ?_
          refine Sm_bipush (v := 6) E d_SqlReaderModel_readItems_81 (by decide) ?_
          refine Sm_iload_n E d_SqlReaderModel_readItems_83 rfl 0 rfl ?_
          refine Sm_aload_n E d_SqlReaderModel_readItems_84 rfl 1 rfl ?_
          refine gfM_0_items E fl_SqlReaderModel_174 d_SqlReaderModel_readItems_85 ?_
          refine Sm_cVV (As := [.int 6, .int r7, .int (u12.1 16)]) (b := (G.1 100)) (st := []) (n := 3) E exOk wM_as (fun _ h => cM_SqlReaderModel_note 6 r7 (u12.1 16) u12 h) gk_SqlReaderModel_283 dk_SqlReaderModel_note rfl ⟨rfl, rfl⟩ ⟨Nat.le_of_ble_eq_true rfl, Nat.le_of_ble_eq_true rfl⟩ (rvW (q0 := 0) (ci := 1) E rfl rfl rfl) rfl (Nat.le_of_ble_eq_true rfl) d_SqlReaderModel_readItems_88 fun u13 _ => ?_
          exact Sm_sub [1] rfl (tM_SqlReaderModel_readItems_J91 E hR h44 _)
set_option maxRecDepth 100000 in
set_option maxHeartbeats 4000000 in
theorem tM_SqlReaderModel_readItems_J31 {X : Cx} {G : Gx} {res : St} (E : EM X G prog_11_method_53_code R_SqlReaderModel 3 { frames := 409, cells := 0, slots := 0, locals := 14201 }) (hR : RtV X vwCl (wM G) prog_11_method_53_code res) : ∀ (u : St), SM X G 3 res (mM_SqlReaderModel_readItems_J31 u) u 31 [(0, .ref (G.1 100))] [] := by
  intro u
  rw [mM_SqlReaderModel_readItems_J31]
  refine Sm_aload_n E d_SqlReaderModel_readItems_31 rfl 0 rfl ?_
  refine gfM_0_star E fl_SqlReaderModel_158 d_SqlReaderModel_readItems_32 ?_
  refine Sm_if_ne (tgt := 42) E d_SqlReaderModel_readItems_35 (by decide) (fun _ => ?_) (fun _ => ?_)
  · refine Sm_iconst (v := 0) E d_SqlReaderModel_readItems_42 (by decide) ?_
    refine Sm_istore_n (lv' := [(1, .int 0), (0, .ref (G.1 100))]) E d_SqlReaderModel_readItems_43 rfl (by decide) rfl ?_
    exact Sm_sub [1, 0] rfl (tM_SqlReaderModel_readItems_L44 E hR FU _ _)
  · refine Sm_iconst (v := 1) E d_SqlReaderModel_readItems_38 (by decide) ?_
    refine Sm_goto (tgt := 43) E d_SqlReaderModel_readItems_39 (by decide) ?_
    refine Sm_istore_n (lv' := [(1, .int 1), (0, .ref (G.1 100))]) E d_SqlReaderModel_readItems_43 rfl (by decide) rfl ?_
    exact Sm_sub [1, 0] rfl (tM_SqlReaderModel_readItems_L44 E hR FU _ _)
set_option maxRecDepth 100000 in
set_option maxHeartbeats 4000000 in
theorem cM_SqlReaderModel_readItems {l : Launch} {D : va_G} {G : Gx} (u : St) {res : St} (hm : mM_SqlReaderModel_readItems u = some res) : KM l D G y_SqlReaderModel_readItems (.code y_SqlReaderModel_readItems prog_11_method_53_code 3 none) { frames := 409, cells := 0, slots := 0, locals := 14201 } [.ref (G.1 100)] u (qV D vwCl (wM G) (tyW G) (adsM G) res) := by
  refine Ct_V (by decide) wM_as (Nat.le_of_ble_eq_true rfl) hm (fun X _ _ E hR => ?_)
  refine Sm_lvs (lv' := [(0, .ref (G.1 100))]) rfl ?_
  rw [mM_SqlReaderModel_readItems]
  refine Sm_aload_n E d_SqlReaderModel_readItems_0 rfl 0 rfl ?_
  refine Sm_iconst (v := 1) E d_SqlReaderModel_readItems_1 (by decide) ?_
  refine pfM_0_inItems E fl_SqlReaderModel_400 d_SqlReaderModel_readItems_2 (by decide) rfl fun u1 _ => ?_
  refine Sm_aload_n E d_SqlReaderModel_readItems_5 rfl 0 rfl ?_
  refine Sm_aload_n E d_SqlReaderModel_readItems_6 rfl 0 rfl ?_
  refine Sm_ldcS_w E sr_SqlReaderModel_315 d_SqlReaderModel_readItems_7 ?_
  refine Sm_cVI (As := [.ref (G.2.2.1 106)]) (b := (G.1 100)) (st := [.ref (G.1 100)]) (n := 1) E exOk wM_as (fun _ h => cM_SqlReaderModel_takes 106 u1 h) gk_SqlReaderModel_421 dk_SqlReaderModel_takes rfl ⟨rfl, rfl⟩ ⟨Nat.le_of_ble_eq_true rfl, Nat.le_of_ble_eq_true rfl⟩ (rvW (q0 := 0) (ci := 1) E rfl rfl rfl) rfl (Nat.le_of_ble_eq_true rfl) d_SqlReaderModel_readItems_10 fun r2 u3 _ => ?_
  refine Sm_gd fun hz => pfM_0_star E fl_SqlReaderModel_158 d_SqlReaderModel_readItems_13 (zb_n hz) (zb_f hz) fun u4 _ => ?_
  refine Sm_aload_n E d_SqlReaderModel_readItems_16 rfl 0 rfl ?_
  refine gfM_0_star E fl_SqlReaderModel_158 d_SqlReaderModel_readItems_17 ?_
  refine Sm_if_eq (tgt := 31) E d_SqlReaderModel_readItems_20 (by decide) (fun _ => ?_) (fun _ => ?_)
  · exact Sm_sub [0] rfl (tM_SqlReaderModel_readItems_J31 E hR _)
  · refine Sm_aload_n E d_SqlReaderModel_readItems_23 rfl 0 rfl ?_
    refine Sm_bipush (v := 7) E d_SqlReaderModel_readItems_24 (by decide) ?_
    refine Sm_iconst (v := 0) E d_SqlReaderModel_readItems_26 (by decide) ?_
    refine Sm_iconst (v := 0) E d_SqlReaderModel_readItems_27 (by decide) ?_
    refine Sm_cVV (As := [.int 7, .int 0, .int 0]) (b := (G.1 100)) (st := []) (n := 3) E exOk wM_as (fun _ h => cM_SqlReaderModel_note 7 0 0 u4 h) gk_SqlReaderModel_283 dk_SqlReaderModel_note rfl ⟨rfl, rfl⟩ ⟨Nat.le_of_ble_eq_true rfl, Nat.le_of_ble_eq_true rfl⟩ (rvW (q0 := 0) (ci := 1) E rfl rfl rfl) rfl (Nat.le_of_ble_eq_true rfl) d_SqlReaderModel_readItems_28 fun u14 _ => ?_
    exact Sm_sub [0] rfl (tM_SqlReaderModel_readItems_J31 E hR _)
set_option maxRecDepth 100000 in
set_option maxHeartbeats 4000000 in
theorem cM_SqlReaderModel_from {l : Launch} {D : va_G} {G : Gx} (x1 : Int32) (x2 : Int32) (u : St) {res : St} (hm : mM_SqlReaderModel_from x1 x2 u = some res) : KM l D G y_SqlReaderModel_from (.code y_SqlReaderModel_from prog_11_method_51_code 3 none) { frames := 0, cells := 0, slots := 0, locals := 0 } [.ref (G.1 100), .int x1, .int x2] u (qV D vwCl (wM G) (tyW G) (adsM G) res) := by
  refine Ct_V (by decide) wM_as (Nat.le_of_ble_eq_true rfl) hm (fun X _ _ E hR => ?_)
  refine Sm_lvs (lv' := [(0, .ref (G.1 100)), (1, .int x1), (2, .int x2)]) rfl ?_
  rw [mM_SqlReaderModel_from]
  refine Sm_aload_n E d_SqlReaderModel_from_0 rfl 0 rfl ?_
  refine gfM_0_fromToken E fl_SqlReaderModel_94 d_SqlReaderModel_from_1 ?_
  refine Sm_aload_n E d_SqlReaderModel_from_4 rfl 0 rfl ?_
  refine gfM_0_froms E fl_SqlReaderModel_183 d_SqlReaderModel_from_5 ?_
  refine Sm_iload_n E d_SqlReaderModel_from_8 rfl 1 rfl ?_
  refine Sm_gd fun hi => stM_28 E (inb_in hi) d_SqlReaderModel_from_9 fun u1 _ => ?_
  refine Sm_aload_n E d_SqlReaderModel_from_10 rfl 0 rfl ?_
  refine gfM_0_alias E fl_SqlReaderModel_97 d_SqlReaderModel_from_11 ?_
  refine Sm_aload_n E d_SqlReaderModel_from_14 rfl 0 rfl ?_
  refine gfM_0_froms E fl_SqlReaderModel_183 d_SqlReaderModel_from_15 ?_
  refine Sm_iload_n E d_SqlReaderModel_from_18 rfl 2 rfl ?_
  refine Sm_gd fun hi => stM_29 E (inb_in hi) d_SqlReaderModel_from_19 fun u2 _ => ?_
  refine Sm_aload_n E d_SqlReaderModel_from_20 rfl 0 rfl ?_
  refine Sm_dup E d_SqlReaderModel_from_21 rfl ?_
  refine gfM_0_froms E fl_SqlReaderModel_183 d_SqlReaderModel_from_22 ?_
  refine Sm_iconst (v := 1) E d_SqlReaderModel_from_25 (by decide) ?_
  refine Sm_iadd E d_SqlReaderModel_from_26 ?_
  refine pfM_0_froms E fl_SqlReaderModel_183 d_SqlReaderModel_from_27 fun u3 _ => ?_
  exact Sm_retV hR d_SqlReaderModel_from_30
set_option maxRecDepth 100000 in
set_option maxHeartbeats 4000000 in
theorem cM_SqlReaderModel_readWhere {l : Launch} {D : va_G} {G : Gx} (u : St) {res : St} (hm : mM_SqlReaderModel_readWhere u = some res) : KM l D G y_SqlReaderModel_readWhere (.code y_SqlReaderModel_readWhere prog_11_method_47_code 1 none) { frames := 409, cells := 0, slots := 0, locals := 14201 } [.ref (G.1 100)] u (qV D vwCl (wM G) (tyW G) (adsM G) res) := by
  refine Ct_V (by decide) wM_as (Nat.le_of_ble_eq_true rfl) hm (fun X _ _ E hR => ?_)
  refine Sm_lvs (lv' := [(0, .ref (G.1 100))]) rfl ?_
  rw [mM_SqlReaderModel_readWhere]
  refine Sm_aload_n E d_SqlReaderModel_readWhere_0 rfl 0 rfl ?_
  refine Sm_ldcS_w E sr_SqlReaderModel_429 d_SqlReaderModel_readWhere_1 ?_
  refine Sm_cVI (As := [.ref (G.2.2.1 83)]) (b := (G.1 100)) (st := []) (n := 1) E exOk wM_as (fun _ h => cM_SqlReaderModel_takes 83 u h) gk_SqlReaderModel_421 dk_SqlReaderModel_takes rfl ⟨rfl, rfl⟩ ⟨Nat.le_of_ble_eq_true rfl, Nat.le_of_ble_eq_true rfl⟩ (rvW (q0 := 0) (ci := 1) E rfl rfl rfl) rfl (Nat.le_of_ble_eq_true rfl) d_SqlReaderModel_readWhere_4 fun r1 u2 _ => ?_
  refine Sm_if_eq (tgt := 28) E d_SqlReaderModel_readWhere_7 (by decide) (fun _ => ?_) (fun _ => ?_)
  · exact Sm_retV hR d_SqlReaderModel_readWhere_28
  · refine Sm_aload_n E d_SqlReaderModel_readWhere_10 rfl 0 rfl ?_
    refine Sm_aload_n E d_SqlReaderModel_readWhere_11 rfl 0 rfl ?_
    refine Sm_cVI (As := []) (b := (G.1 100)) (st := [.ref (G.1 100)]) (n := 0) E exOk wM_as (fun _ h => cM_SqlReaderModel_expression u2 h) gk_SqlReaderModel_442 dk_SqlReaderModel_expression rfl ⟨rfl, rfl⟩ ⟨Nat.le_of_ble_eq_true rfl, Nat.le_of_ble_eq_true rfl⟩ (rvW (q0 := 0) (ci := 1) E rfl rfl rfl) rfl (Nat.le_of_ble_eq_true rfl) d_SqlReaderModel_readWhere_12 fun r3 u4 _ => ?_
    refine pfM_0_where E fl_SqlReaderModel_171 d_SqlReaderModel_readWhere_15 fun u5 _ => ?_
    refine Sm_aload_n E d_SqlReaderModel_readWhere_18 rfl 0 rfl ?_
    refine Sm_iconst (v := 3) E d_SqlReaderModel_readWhere_19 (by decide) ?_
    refine Sm_aload_n E d_SqlReaderModel_readWhere_20 rfl 0 rfl ?_
    refine gfM_0_where E fl_SqlReaderModel_171 d_SqlReaderModel_readWhere_21 ?_
    refine Sm_iconst (v := 0) E d_SqlReaderModel_readWhere_24 (by decide) ?_
    refine Sm_cVV (As := [.int 3, .int (u5.1 15), .int 0]) (b := (G.1 100)) (st := []) (n := 3) E exOk wM_as (fun _ h => cM_SqlReaderModel_note 3 (u5.1 15) 0 u5 h) gk_SqlReaderModel_283 dk_SqlReaderModel_note rfl ⟨rfl, rfl⟩ ⟨Nat.le_of_ble_eq_true rfl, Nat.le_of_ble_eq_true rfl⟩ (rvW (q0 := 0) (ci := 1) E rfl rfl rfl) rfl (Nat.le_of_ble_eq_true rfl) d_SqlReaderModel_readWhere_25 fun u6 _ => ?_
    exact Sm_retV hR d_SqlReaderModel_readWhere_28
set_option maxRecDepth 100000 in
set_option maxHeartbeats 4000000 in
theorem tM_SqlReaderModel_readGroups_J111 {X : Cx} {G : Gx} {res : St} (E : EM X G prog_11_method_54_code R_SqlReaderModel 4 { frames := 408, cells := 0, slots := 0, locals := 14179 }) (hR : RtV X vwCl (wM G) prog_11_method_54_code res) {q9 : Int32 → St → Option (St)} (h9 : ∀ (x1 : Int32) (u : St), SM X G 4 res (q9 x1 u) u 9 [(0, .ref (G.1 100)), (1, .int x1)] []) : ∀ (u : St), SM X G 4 res (mM_SqlReaderModel_readGroups_J111 q9 u) u 111 [(0, .ref (G.1 100))] [] := by
  intro u
  rw [mM_SqlReaderModel_readGroups_J111]
  refine Sm_aload_n E d_SqlReaderModel_readGroups_111 rfl 0 rfl ?_
  refine Sm_dup E d_SqlReaderModel_readGroups_112 rfl ?_
  refine gfM_0_groups E fl_SqlReaderModel_177 d_SqlReaderModel_readGroups_113 ?_
  refine Sm_iconst (v := 1) E d_SqlReaderModel_readGroups_116 (by decide) ?_
  refine Sm_iadd E d_SqlReaderModel_readGroups_117 ?_
  refine pfM_0_groups E fl_SqlReaderModel_177 d_SqlReaderModel_readGroups_118 fun u7 _ => ?_
  refine Sm_aload_n E d_SqlReaderModel_readGroups_121 rfl 0 rfl ?_
  refine Sm_ldcS_w E sr_SqlReaderModel_387 d_SqlReaderModel_readGroups_122 ?_
  refine Sm_cVI (As := [.ref (G.2.2.1 80)]) (b := (G.1 100)) (st := []) (n := 1) E exOk wM_as (fun _ h => cM_SqlReaderModel_takes 80 u7 h) gk_SqlReaderModel_421 dk_SqlReaderModel_takes rfl ⟨rfl, rfl⟩ ⟨Nat.le_of_ble_eq_true rfl, Nat.le_of_ble_eq_true rfl⟩ (rvW (q0 := 0) (ci := 1) E rfl rfl rfl) rfl (Nat.le_of_ble_eq_true rfl) d_SqlReaderModel_readGroups_125 fun r8 u9 _ => ?_
  refine Sm_istore_n (lv' := [(1, .int r8), (0, .ref (G.1 100))]) E d_SqlReaderModel_readGroups_128 rfl (by decide) rfl ?_
  refine Sm_goto (tgt := 9) E d_SqlReaderModel_readGroups_129 (by decide) ?_
  exact Sm_sub [1, 0] rfl (h9 _ _)
set_option maxRecDepth 100000 in
set_option maxHeartbeats 4000000 in
theorem tM_SqlReaderModel_readGroups_J70 {X : Cx} {G : Gx} {res : St} (E : EM X G prog_11_method_54_code R_SqlReaderModel 4 { frames := 408, cells := 0, slots := 0, locals := 14179 }) (hR : RtV X vwCl (wM G) prog_11_method_54_code res) {q9 : Int32 → St → Option (St)} (h9 : ∀ (x1 : Int32) (u : St), SM X G 4 res (q9 x1 u) u 9 [(0, .ref (G.1 100)), (1, .int x1)] []) : ∀ (x2 : Int32) (s1 : Int32) (u : St), SM X G 4 res (mM_SqlReaderModel_readGroups_J70 q9 x2 s1 u) u 70 [(0, .ref (G.1 100)), (2, .int x2)] [.int s1, .ref (G.1 100)] := by
  intro x2 s1 u
  rw [mM_SqlReaderModel_readGroups_J70]
  refine Sm_gd fun hz => pfM_0_bad E fl_SqlReaderModel_226 d_SqlReaderModel_readGroups_70 (zb_n hz) (zb_f hz) fun u3 _ => ?_
  refine Sm_aload_n E d_SqlReaderModel_readGroups_73 rfl 0 rfl ?_
  refine Sm_bipush (v := 8) E d_SqlReaderModel_readGroups_74 (by decide) ?_
  refine Sm_aload_n E d_SqlReaderModel_readGroups_76 rfl 0 rfl ?_
  refine gfM_0_place E fl_SqlReaderModel_419 d_SqlReaderModel_readGroups_77 ?_
  refine Sm_iload_n E d_SqlReaderModel_readGroups_80 rfl 1 rfl ?_
  refine Sm_iconst (v := 0) E d_SqlReaderModel_readGroups_81 (by decide) ?_
  refine Sm_cSI (As := [.ref (G.1 100), .int 8, .int (u3.1 30), .int x2, .int 0]) (st := []) (n := 5) E exOk wM_as (fun _ h => cM_SqlReaderModel_part 8 (u3.1 30) x2 0 u3 h) gk_SqlReaderModel_330 dk_SqlReaderModel_part rfl ⟨rfl, rfl⟩ ⟨Nat.le_of_ble_eq_true rfl, Nat.le_of_ble_eq_true rfl⟩ rfl (Nat.le_of_ble_eq_true rfl) d_SqlReaderModel_readGroups_82 fun r4 u5 _ => ?_
  refine Sm_istore_n (lv' := [(3, .int r4), (0, .ref (G.1 100)), (2, .int x2)]) E d_SqlReaderModel_readGroups_85 rfl (by decide) rfl ?_
  refine Sm_aload_n E d_SqlReaderModel_readGroups_86 rfl 1 rfl ?_
  refine Sm_iload_n E d_SqlReaderModel_readGroups_87 rfl 2 rfl ?_
  refine pfM_0_place E fl_SqlReaderModel_419 d_SqlReaderModel_readGroups_88 fun u6 _ => ?_
  refine Sm_aload_n E d_SqlReaderModel_readGroups_91 rfl 1 rfl ?_
  refine gfM_0_groups E fl_SqlReaderModel_177 d_SqlReaderModel_readGroups_92 ?_
  refine Sm_sipush (v := 200) E d_SqlReaderModel_readGroups_95 (by decide) ?_
  refine Sm_icmp_ge (tgt := 111) E d_SqlReaderModel_readGroups_98 (by decide) (fun _ => ?_) (fun _ => ?_)
  · exact Sm_sub [1] rfl (tM_SqlReaderModel_readGroups_J111 E hR h9 _)
  · refine Sm_aload_n E d_SqlReaderModel_readGroups_101 rfl 1 rfl ?_
    refine gfM_0_group E fl_SqlReaderModel_81 d_SqlReaderModel_readGroups_102 ?_
    refine Sm_aload_n E d_SqlReaderModel_readGroups_105 rfl 1 rfl ?_
    refine gfM_0_groups E fl_SqlReaderModel_177 d_SqlReaderModel_readGroups_106 ?_
    refine Sm_iload_n E d_SqlReaderModel_readGroups_109 rfl 0 rfl ?_
    refine Sm_gd fun hi => stM_24 E (inb_in hi) d_SqlReaderModel_readGroups_110 fun u10 _ => ?_
    exact Sm_sub [1] rfl (tM_SqlReaderModel_readGroups_J111 E hR h9 _)
set_option maxRecDepth 100000 in
set_option maxHeartbeats 4000000 in
theorem tM_SqlReaderModel_readGroups_L9 {X : Cx} {G : Gx} {res : St} (E : EM X G prog_11_method_54_code R_SqlReaderModel 4 { frames := 408, cells := 0, slots := 0, locals := 14179 }) (hR : RtV X vwCl (wM G) prog_11_method_54_code res) : ∀ (n : Nat) (x1 : Int32) (u : St), SM X G 4 res (mM_SqlReaderModel_readGroups_L9 n x1 u) u 9 [(0, .ref (G.1 100)), (1, .int x1)] [] := by
  intro n
  induction n with
  | zero => intro x1 u; exact Sm_none
  | succ n h9 =>
    intro x1 u
    rw [mM_SqlReaderModel_readGroups_L9]
    refine Sm_iload_n E d_SqlReaderModel_readGroups_9 rfl 1 rfl ?_
    refine Sm_if_eq (tgt := 132) E d_SqlReaderModel_readGroups_10 (by decide) (fun _ => ?_) (fun _ => ?_)
    · exact Sm_retV hR d_SqlReaderModel_readGroups_132
    · refine Sm_aload_n E d_SqlReaderModel_readGroups_13 rfl 0 rfl ?_
      refine gfM_0_bad E fl_SqlReaderModel_226 d_SqlReaderModel_readGroups_14 ?_
      refine Sm_if_ne (tgt := 132) E d_SqlReaderModel_readGroups_17 (by decide) (fun _ => ?_) (fun _ => ?_)
      · exact Sm_retV hR d_SqlReaderModel_readGroups_132
      · refine Sm_aload_n E d_SqlReaderModel_readGroups_20 rfl 0 rfl ?_
        refine Sm_cVi (As := []) (b := (G.1 100)) (st := []) (n := 0) E exOk wM_as (fun _ h => cM_SqlReaderModel_reach u h) gk_SqlReaderModel_439 dk_SqlReaderModel_reach rfl ⟨rfl, rfl⟩ ⟨Nat.le_of_ble_eq_true rfl, Nat.le_of_ble_eq_true rfl⟩ (rvW (q0 := 0) (ci := 1) E rfl rfl rfl) rfl (Nat.le_of_ble_eq_true rfl) d_SqlReaderModel_readGroups_21 fun r2 _ => ?_
        refine Sm_istore_n (lv' := [(2, .int r2), (0, .ref (G.1 100)), (1, .int x1)]) E d_SqlReaderModel_readGroups_24 rfl (by decide) rfl ?_
        refine Sm_aload_n E d_SqlReaderModel_readGroups_25 rfl 1 rfl ?_
        refine Sm_aload_n E d_SqlReaderModel_readGroups_26 rfl 1 rfl ?_
        refine gfM_0_bad E fl_SqlReaderModel_226 d_SqlReaderModel_readGroups_27 ?_
        refine Sm_if_ne (tgt := 65) E d_SqlReaderModel_readGroups_30 (by decide) (fun _ => ?_) (fun _ => ?_)
        · refine Sm_iconst (v := 1) E d_SqlReaderModel_readGroups_65 (by decide) ?_
          refine Sm_goto (tgt := 70) E d_SqlReaderModel_readGroups_66 (by decide) ?_
          exact Sm_sub [1, 0] rfl (tM_SqlReaderModel_readGroups_J70 E hR h9 _ _ _)
        · refine Sm_aload_n E d_SqlReaderModel_readGroups_33 rfl 1 rfl ?_
          refine Sm_aload_n E d_SqlReaderModel_readGroups_34 rfl 1 rfl ?_
          refine gfM_0_place E fl_SqlReaderModel_419 d_SqlReaderModel_readGroups_35 ?_
          refine Sm_iconst (v := 2) E d_SqlReaderModel_readGroups_38 (by decide) ?_
          refine Sm_cVi (As := [.int (u.1 30), .int 2]) (b := (G.1 100)) (st := [.ref (G.1 100)]) (n := 2) E exOk wM_as (fun _ h => cM_SqlReaderModel_isKind (u.1 30) 2 u h) gk_SqlReaderModel_403 dk_SqlReaderModel_isKind rfl ⟨rfl, rfl⟩ ⟨Nat.le_of_ble_eq_true rfl, Nat.le_of_ble_eq_true rfl⟩ (rvW (q0 := 0) (ci := 1) E rfl rfl rfl) rfl (Nat.le_of_ble_eq_true rfl) d_SqlReaderModel_readGroups_39 fun r11 _ => ?_
          refine Sm_if_eq (tgt := 65) E d_SqlReaderModel_readGroups_42 (by decide) (fun _ => ?_) (fun _ => ?_)
          · refine Sm_iconst (v := 1) E d_SqlReaderModel_readGroups_65 (by decide) ?_
            refine Sm_goto (tgt := 70) E d_SqlReaderModel_readGroups_66 (by decide) ?_
            exact Sm_sub [1, 0] rfl (tM_SqlReaderModel_readGroups_J70 E hR h9 _ _ _)
          · refine Sm_iload_n E d_SqlReaderModel_readGroups_45 rfl 0 rfl ?_
            refine Sm_aload_n E d_SqlReaderModel_readGroups_46 rfl 1 rfl ?_
            refine gfM_0_place E fl_SqlReaderModel_419 d_SqlReaderModel_readGroups_47 ?_
            refine Sm_iconst (v := 1) E d_SqlReaderModel_readGroups_50 (by decide) ?_
            refine Sm_iadd E d_SqlReaderModel_readGroups_51 ?_
            refine Sm_icmp_eq (tgt := 69) E d_SqlReaderModel_readGroups_52 (by decide) (fun _ => ?_) (fun _ => ?_)
            · refine Sm_iconst (v := 0) E d_SqlReaderModel_readGroups_69 (by decide) ?_
              exact Sm_sub [1, 0] rfl (tM_SqlReaderModel_readGroups_J70 E hR h9 _ _ _)
            · refine Sm_iload_n E d_SqlReaderModel_readGroups_55 rfl 0 rfl ?_
              refine Sm_aload_n E d_SqlReaderModel_readGroups_56 rfl 1 rfl ?_
              refine gfM_0_place E fl_SqlReaderModel_419 d_SqlReaderModel_readGroups_57 ?_
              refine Sm_iconst (v := 3) E d_SqlReaderModel_readGroups_60 (by decide) ?_
              refine Sm_iadd E d_SqlReaderModel_readGroups_61 ?_
              refine Sm_icmp_eq (tgt := 69) E d_SqlReaderModel_readGroups_62 (by decide) (fun _ => ?_) (fun _ => ?_)
              · refine Sm_iconst (v := 0) E d_SqlReaderModel_readGroups_69 (by decide) ?_
                exact Sm_sub [1, 0] rfl (tM_SqlReaderModel_readGroups_J70 E hR h9 _ _ _)
              · refine Sm_iconst (v := 1) E d_SqlReaderModel_readGroups_65 (by decide) ?_
                refine Sm_goto (tgt := 70) E d_SqlReaderModel_readGroups_66 (by decide) ?_
                exact Sm_sub [1, 0] rfl (tM_SqlReaderModel_readGroups_J70 E hR h9 _ _ _)
set_option maxRecDepth 100000 in
set_option maxHeartbeats 4000000 in
theorem cM_SqlReaderModel_readGroups {l : Launch} {D : va_G} {G : Gx} (u : St) {res : St} (hm : mM_SqlReaderModel_readGroups u = some res) : KM l D G y_SqlReaderModel_readGroups (.code y_SqlReaderModel_readGroups prog_11_method_54_code 4 none) { frames := 408, cells := 0, slots := 0, locals := 14179 } [.ref (G.1 100)] u (qV D vwCl (wM G) (tyW G) (adsM G) res) := by
  refine Ct_V (by decide) wM_as (Nat.le_of_ble_eq_true rfl) hm (fun X _ _ E hR => ?_)
  refine Sm_lvs (lv' := [(0, .ref (G.1 100))]) rfl ?_
  rw [mM_SqlReaderModel_readGroups]
  refine Sm_aload_n E d_SqlReaderModel_readGroups_0 rfl 0 rfl ?_
  refine Sm_ldcS_w E sr_SqlReaderModel_486 d_SqlReaderModel_readGroups_1 ?_
  refine Sm_cVV (As := [.ref (G.2.2.1 117)]) (b := (G.1 100)) (st := []) (n := 1) E exOk wM_as (fun _ h => cM_SqlReaderModel_need 117 u h) gk_SqlReaderModel_450 dk_SqlReaderModel_need rfl ⟨rfl, rfl⟩ ⟨Nat.le_of_ble_eq_true rfl, Nat.le_of_ble_eq_true rfl⟩ (rvW (q0 := 0) (ci := 1) E rfl rfl rfl) rfl (Nat.le_of_ble_eq_true rfl) d_SqlReaderModel_readGroups_4 fun u1 _ => ?_
  refine Sm_iconst (v := 1) E d_SqlReaderModel_readGroups_7 (by decide) ?_
  refine Sm_istore_n (lv' := [(1, .int 1), (0, .ref (G.1 100))]) E d_SqlReaderModel_readGroups_8 rfl (by decide) rfl ?_
  exact Sm_sub [1, 0] rfl (tM_SqlReaderModel_readGroups_L9 E hR FU _ _)
set_option maxRecDepth 100000 in
set_option maxHeartbeats 4000000 in
theorem tM_SqlReaderModel_needNumber_J25 {X : Cx} {G : Gx} {res : Int64 × St} (E : EM X G prog_11_method_55_code R_SqlReaderModel 1 { frames := 1, cells := 0, slots := 0, locals := 24 }) (hR : RtJ X vwCl (wM G) prog_11_method_55_code res) : ∀ (s1 : Int32) (u : St), SM X G 1 res (mM_SqlReaderModel_needNumber_J25 s1 u) u 25 [(0, .ref (G.1 100))] [.int s1, .ref (G.1 100)] := by
  intro s1 u
  rw [mM_SqlReaderModel_needNumber_J25]
  refine Sm_gd fun hz => pfM_0_bad E fl_SqlReaderModel_226 d_SqlReaderModel_needNumber_25 (zb_n hz) (zb_f hz) fun u1 _ => ?_
  refine Sm_aload_n E d_SqlReaderModel_needNumber_28 rfl 0 rfl ?_
  refine Sm_dup E d_SqlReaderModel_needNumber_29 rfl ?_
  refine gfM_0_place E fl_SqlReaderModel_419 d_SqlReaderModel_needNumber_30 ?_
  refine Sm_iconst (v := 1) E d_SqlReaderModel_needNumber_33 (by decide) ?_
  refine Sm_iadd E d_SqlReaderModel_needNumber_34 ?_
  refine pfM_0_place E fl_SqlReaderModel_419 d_SqlReaderModel_needNumber_35 fun u2 _ => ?_
  refine Sm_aload_n E d_SqlReaderModel_needNumber_38 rfl 0 rfl ?_
  refine gfM_0_bad E fl_SqlReaderModel_226 d_SqlReaderModel_needNumber_39 ?_
  refine Sm_if_eq (tgt := 49) E d_SqlReaderModel_needNumber_42 (by decide) (fun _ => ?_) (fun _ => ?_)
  · refine Sm_aload_n E d_SqlReaderModel_needNumber_49 rfl 0 rfl ?_
    refine Sm_aload_n E d_SqlReaderModel_needNumber_50 rfl 0 rfl ?_
    refine gfM_0_place E fl_SqlReaderModel_419 d_SqlReaderModel_needNumber_51 ?_
    refine Sm_iconst (v := 1) E d_SqlReaderModel_needNumber_54 (by decide) ?_
    refine Sm_isub E d_SqlReaderModel_needNumber_55 ?_
    refine Sm_cVj (As := [.int ((u2.1 30) - 1)]) (b := (G.1 100)) (st := []) (n := 1) E exOk wM_as (fun _ h => cM_SqlReaderModel_numberOf ((u2.1 30) - 1) u2 h) gk_SqlReaderModel_415 dk_SqlReaderModel_numberOf rfl ⟨rfl, rfl⟩ ⟨Nat.le_of_ble_eq_true rfl, Nat.le_of_ble_eq_true rfl⟩ (rvW (q0 := 0) (ci := 1) E rfl rfl rfl) rfl (Nat.le_of_ble_eq_true rfl) d_SqlReaderModel_needNumber_56 fun r3 _ => ?_
    exact Sm_retJ hR d_SqlReaderModel_needNumber_59
  · refine Sm_lconst (v := 0) E d_SqlReaderModel_needNumber_45 (by decide) ?_
    refine Sm_goto (tgt := 59) E d_SqlReaderModel_needNumber_46 (by decide) ?_
    exact Sm_retJ hR d_SqlReaderModel_needNumber_59
set_option maxRecDepth 100000 in
set_option maxHeartbeats 4000000 in
theorem cM_SqlReaderModel_needNumber {l : Launch} {D : va_G} {G : Gx} (u : St) {res : Int64 × St} (hm : mM_SqlReaderModel_needNumber u = some res) : KM l D G y_SqlReaderModel_needNumber (.code y_SqlReaderModel_needNumber prog_11_method_55_code 1 (some .long)) { frames := 1, cells := 0, slots := 0, locals := 24 } [.ref (G.1 100)] u (qJ D vwCl (wM G) (tyW G) (adsM G) res) := by
  refine Ct_J (by decide) wM_as (Nat.le_of_ble_eq_true rfl) hm (fun X _ _ E hR => ?_)
  refine Sm_lvs (lv' := [(0, .ref (G.1 100))]) rfl ?_
  rw [mM_SqlReaderModel_needNumber]
  refine Sm_aload_n E d_SqlReaderModel_needNumber_0 rfl 0 rfl ?_
  refine Sm_aload_n E d_SqlReaderModel_needNumber_1 rfl 0 rfl ?_
  refine gfM_0_bad E fl_SqlReaderModel_226 d_SqlReaderModel_needNumber_2 ?_
  refine Sm_if_ne (tgt := 20) E d_SqlReaderModel_needNumber_5 (by decide) (fun _ => ?_) (fun _ => ?_)
  · refine Sm_iconst (v := 1) E d_SqlReaderModel_needNumber_20 (by decide) ?_
    refine Sm_goto (tgt := 25) E d_SqlReaderModel_needNumber_21 (by decide) ?_
    exact Sm_sub [0] rfl (tM_SqlReaderModel_needNumber_J25 E hR _ _)
  · refine Sm_aload_n E d_SqlReaderModel_needNumber_8 rfl 0 rfl ?_
    refine Sm_aload_n E d_SqlReaderModel_needNumber_9 rfl 0 rfl ?_
    refine gfM_0_place E fl_SqlReaderModel_419 d_SqlReaderModel_needNumber_10 ?_
    refine Sm_iconst (v := 3) E d_SqlReaderModel_needNumber_13 (by decide) ?_
    refine Sm_cVi (As := [.int (u.1 30), .int 3]) (b := (G.1 100)) (st := [.ref (G.1 100)]) (n := 2) E exOk wM_as (fun _ h => cM_SqlReaderModel_isKind (u.1 30) 3 u h) gk_SqlReaderModel_403 dk_SqlReaderModel_isKind rfl ⟨rfl, rfl⟩ ⟨Nat.le_of_ble_eq_true rfl, Nat.le_of_ble_eq_true rfl⟩ (rvW (q0 := 0) (ci := 1) E rfl rfl rfl) rfl (Nat.le_of_ble_eq_true rfl) d_SqlReaderModel_needNumber_14 fun r4 _ => ?_
    refine Sm_if_ne (tgt := 24) E d_SqlReaderModel_needNumber_17 (by decide) (fun _ => ?_) (fun _ => ?_)
    · refine Sm_iconst (v := 0) E d_SqlReaderModel_needNumber_24 (by decide) ?_
      exact Sm_sub [0] rfl (tM_SqlReaderModel_needNumber_J25 E hR _ _)
    · refine Sm_iconst (v := 1) E d_SqlReaderModel_needNumber_20 (by decide) ?_
      refine Sm_goto (tgt := 25) E d_SqlReaderModel_needNumber_21 (by decide) ?_
      exact Sm_sub [0] rfl (tM_SqlReaderModel_needNumber_J25 E hR _ _)
set_option maxRecDepth 100000 in
set_option maxHeartbeats 4000000 in
theorem tM_SqlReaderModel_readOrders_L9 {X : Cx} {G : Gx} {res : St} (E : EM X G prog_11_method_56_code R_SqlReaderModel 2 { frames := 7, cells := 0, slots := 0, locals := 152 }) (hR : RtV X vwCl (wM G) prog_11_method_56_code res) : ∀ (n : Nat) (x1 : Int32) (u : St), SM X G 2 res (mM_SqlReaderModel_readOrders_L9 n x1 u) u 9 [(0, .ref (G.1 100)), (1, .int x1)] [] := by
  intro n
  induction n with
  | zero => intro x1 u; exact Sm_none
  | succ n h9 =>
    intro x1 u
    rw [mM_SqlReaderModel_readOrders_L9]
    refine Sm_iload_n E d_SqlReaderModel_readOrders_9 rfl 1 rfl ?_
    refine Sm_if_eq (tgt := 70) E d_SqlReaderModel_readOrders_10 (by decide) (fun _ => ?_) (fun _ => ?_)
    · exact Sm_retV hR d_SqlReaderModel_readOrders_70
    · refine Sm_aload_n E d_SqlReaderModel_readOrders_13 rfl 0 rfl ?_
      refine gfM_0_bad E fl_SqlReaderModel_226 d_SqlReaderModel_readOrders_14 ?_
      refine Sm_if_ne (tgt := 70) E d_SqlReaderModel_readOrders_17 (by decide) (fun _ => ?_) (fun _ => ?_)
      · exact Sm_retV hR d_SqlReaderModel_readOrders_70
      · refine Sm_aload_n E d_SqlReaderModel_readOrders_20 rfl 0 rfl ?_
        refine gfM_0_order E fl_SqlReaderModel_84 d_SqlReaderModel_readOrders_21 ?_
        refine Sm_aload_n E d_SqlReaderModel_readOrders_24 rfl 0 rfl ?_
        refine gfM_0_orders E fl_SqlReaderModel_180 d_SqlReaderModel_readOrders_25 ?_
        refine Sm_aload_n E d_SqlReaderModel_readOrders_28 rfl 0 rfl ?_
        refine Sm_cVJ (As := []) (b := (G.1 100)) (st := [.int (u.1 18), .ref (G.1 125)]) (n := 0) E exOk wM_as (fun _ h => cM_SqlReaderModel_needNumber u h) gk_SqlReaderModel_488 dk_SqlReaderModel_needNumber rfl ⟨rfl, rfl⟩ ⟨Nat.le_of_ble_eq_true rfl, Nat.le_of_ble_eq_true rfl⟩ (rvW (q0 := 0) (ci := 1) E rfl rfl rfl) rfl (Nat.le_of_ble_eq_true rfl) d_SqlReaderModel_readOrders_29 fun r2 u3 _ => ?_
        refine Sm_gd fun hi => stM_25 E (inb_in hi) d_SqlReaderModel_readOrders_32 fun u4 _ => ?_
        refine Sm_aload_n E d_SqlReaderModel_readOrders_33 rfl 0 rfl ?_
        refine gfM_0_falls E fl_SqlReaderModel_87 d_SqlReaderModel_readOrders_34 ?_
        refine Sm_aload_n E d_SqlReaderModel_readOrders_37 rfl 0 rfl ?_
        refine gfM_0_orders E fl_SqlReaderModel_180 d_SqlReaderModel_readOrders_38 ?_
        refine Sm_aload_n E d_SqlReaderModel_readOrders_41 rfl 0 rfl ?_
        refine Sm_ldcS_w E sr_SqlReaderModel_492 d_SqlReaderModel_readOrders_42 ?_
        refine Sm_cVI (As := [.ref (G.2.2.1 118)]) (b := (G.1 100)) (st := [.int (u4.1 18), .ref (G.1 126)]) (n := 1) E exOk wM_as (fun _ h => cM_SqlReaderModel_takes 118 u4 h) gk_SqlReaderModel_421 dk_SqlReaderModel_takes rfl ⟨rfl, rfl⟩ ⟨Nat.le_of_ble_eq_true rfl, Nat.le_of_ble_eq_true rfl⟩ (rvW (q0 := 0) (ci := 1) E rfl rfl rfl) rfl (Nat.le_of_ble_eq_true rfl) d_SqlReaderModel_readOrders_45 fun r5 u6 _ => ?_
        refine Sm_gd fun hi => stM_26 E (inb_in hi) d_SqlReaderModel_readOrders_48 fun u7 _ => ?_
        refine Sm_aload_n E d_SqlReaderModel_readOrders_49 rfl 0 rfl ?_
        refine Sm_dup E d_SqlReaderModel_readOrders_50 rfl ?_
        refine gfM_0_orders E fl_SqlReaderModel_180 d_SqlReaderModel_readOrders_51 ?_
        refine Sm_iconst (v := 1) E d_SqlReaderModel_readOrders_54 (by decide) ?_
        refine Sm_iadd E d_SqlReaderModel_readOrders_55 ?_
        refine pfM_0_orders E fl_SqlReaderModel_180 d_SqlReaderModel_readOrders_56 fun u8 _ => ?_
        refine Sm_aload_n E d_SqlReaderModel_readOrders_59 rfl 0 rfl ?_
        refine Sm_ldcS_w E sr_SqlReaderModel_387 d_SqlReaderModel_readOrders_60 ?_
        refine Sm_cVI (As := [.ref (G.2.2.1 80)]) (b := (G.1 100)) (st := []) (n := 1) E exOk wM_as (fun _ h => cM_SqlReaderModel_takes 80 u8 h) gk_SqlReaderModel_421 dk_SqlReaderModel_takes rfl ⟨rfl, rfl⟩ ⟨Nat.le_of_ble_eq_true rfl, Nat.le_of_ble_eq_true rfl⟩ (rvW (q0 := 0) (ci := 1) E rfl rfl rfl) rfl (Nat.le_of_ble_eq_true rfl) d_SqlReaderModel_readOrders_63 fun r9 u10 _ => ?_
        refine Sm_istore_n (lv' := [(1, .int r9), (0, .ref (G.1 100))]) E d_SqlReaderModel_readOrders_66 rfl (by decide) rfl ?_
        refine Sm_goto (tgt := 9) E d_SqlReaderModel_readOrders_67 (by decide) ?_
        exact Sm_sub [1, 0] rfl (h9 _ _)
set_option maxRecDepth 100000 in
set_option maxHeartbeats 4000000 in
theorem cM_SqlReaderModel_readOrders {l : Launch} {D : va_G} {G : Gx} (u : St) {res : St} (hm : mM_SqlReaderModel_readOrders u = some res) : KM l D G y_SqlReaderModel_readOrders (.code y_SqlReaderModel_readOrders prog_11_method_56_code 2 none) { frames := 7, cells := 0, slots := 0, locals := 152 } [.ref (G.1 100)] u (qV D vwCl (wM G) (tyW G) (adsM G) res) := by
  refine Ct_V (by decide) wM_as (Nat.le_of_ble_eq_true rfl) hm (fun X _ _ E hR => ?_)
  refine Sm_lvs (lv' := [(0, .ref (G.1 100))]) rfl ?_
  rw [mM_SqlReaderModel_readOrders]
  refine Sm_aload_n E d_SqlReaderModel_readOrders_0 rfl 0 rfl ?_
  refine Sm_ldcS_w E sr_SqlReaderModel_486 d_SqlReaderModel_readOrders_1 ?_
  refine Sm_cVV (As := [.ref (G.2.2.1 117)]) (b := (G.1 100)) (st := []) (n := 1) E exOk wM_as (fun _ h => cM_SqlReaderModel_need 117 u h) gk_SqlReaderModel_450 dk_SqlReaderModel_need rfl ⟨rfl, rfl⟩ ⟨Nat.le_of_ble_eq_true rfl, Nat.le_of_ble_eq_true rfl⟩ (rvW (q0 := 0) (ci := 1) E rfl rfl rfl) rfl (Nat.le_of_ble_eq_true rfl) d_SqlReaderModel_readOrders_4 fun u1 _ => ?_
  refine Sm_iconst (v := 1) E d_SqlReaderModel_readOrders_7 (by decide) ?_
  refine Sm_istore_n (lv' := [(1, .int 1), (0, .ref (G.1 100))]) E d_SqlReaderModel_readOrders_8 rfl (by decide) rfl ?_
  exact Sm_sub [1, 0] rfl (tM_SqlReaderModel_readOrders_L9 E hR FU _ _)
set_option maxRecDepth 100000 in
set_option maxHeartbeats 4000000 in
theorem tM_SqlReaderModel_readQuery_J214 {X : Cx} {G : Gx} {res : St} (E : EM X G prog_11_method_57_code R_SqlReaderModel 4 { frames := 410, cells := 0, slots := 0, locals := 14223 }) (hR : RtV X vwCl (wM G) prog_11_method_57_code res) : ∀ (s1 : Int32) (u : St), SM X G 4 res (mM_SqlReaderModel_readQuery_J214 s1 u) u 214 [(0, .ref (G.1 100))] [.int s1, .ref (G.1 100)] := by
  intro s1 u
  rw [mM_SqlReaderModel_readQuery_J214]
  refine pfM_0_mode E fl_SqlReaderModel_152 d_SqlReaderModel_readQuery_214 fun u19 _ => ?_
  refine Sm_aload_n E d_SqlReaderModel_readQuery_217 rfl 0 rfl ?_
  refine Sm_aload_n E d_SqlReaderModel_readQuery_218 rfl 0 rfl ?_
  refine gfM_0_bad E fl_SqlReaderModel_226 d_SqlReaderModel_readQuery_219 ?_
  refine Sm_if_ne (tgt := 232) E d_SqlReaderModel_readQuery_222 (by decide) (fun _ => ?_) (fun _ => ?_)
  · refine Sm_iconst (v := 1) E d_SqlReaderModel_readQuery_232 (by decide) ?_
    refine Sm_goto (tgt := 237) E d_SqlReaderModel_readQuery_233 (by decide) ?_
    refine pfM_0_bad E fl_SqlReaderModel_226 d_SqlReaderModel_readQuery_237 (by decide) rfl fun u20 _ => ?_
    exact Sm_retV hR d_SqlReaderModel_readQuery_240
  · refine Sm_aload_n E d_SqlReaderModel_readQuery_225 rfl 0 rfl ?_
    refine gfM_0_mode E fl_SqlReaderModel_152 d_SqlReaderModel_readQuery_226 ?_
    refine Sm_if_ne (tgt := 236) E d_SqlReaderModel_readQuery_229 (by decide) (fun _ => ?_) (fun _ => ?_)
    · refine Sm_iconst (v := 0) E d_SqlReaderModel_readQuery_236 (by decide) ?_
      refine pfM_0_bad E fl_SqlReaderModel_226 d_SqlReaderModel_readQuery_237 (by decide) rfl fun u21 _ => ?_
      exact Sm_retV hR d_SqlReaderModel_readQuery_240
    · refine Sm_iconst (v := 1) E d_SqlReaderModel_readQuery_232 (by decide) ?_
      refine Sm_goto (tgt := 237) E d_SqlReaderModel_readQuery_233 (by decide) ?_
      refine pfM_0_bad E fl_SqlReaderModel_226 d_SqlReaderModel_readQuery_237 (by decide) rfl fun u22 _ => ?_
      exact Sm_retV hR d_SqlReaderModel_readQuery_240
set_option maxRecDepth 100000 in
set_option maxHeartbeats 4000000 in
theorem tM_SqlReaderModel_readQuery_J174 {X : Cx} {G : Gx} {res : St} (E : EM X G prog_11_method_57_code R_SqlReaderModel 4 { frames := 410, cells := 0, slots := 0, locals := 14223 }) (hR : RtV X vwCl (wM G) prog_11_method_57_code res) : ∀ (u : St), SM X G 4 res (mM_SqlReaderModel_readQuery_J174 u) u 174 [(0, .ref (G.1 100))] [] := by
  intro u
  rw [mM_SqlReaderModel_readQuery_J174]
  refine Sm_aload_n E d_SqlReaderModel_readQuery_174 rfl 0 rfl ?_
  refine Sm_ldcS_w E sr_SqlReaderModel_437 d_SqlReaderModel_readQuery_175 ?_
  refine Sm_cVI (As := [.ref (G.2.2.1 87)]) (b := (G.1 100)) (st := []) (n := 1) E exOk wM_as (fun _ h => cM_SqlReaderModel_takes 87 u h) gk_SqlReaderModel_421 dk_SqlReaderModel_takes rfl ⟨rfl, rfl⟩ ⟨Nat.le_of_ble_eq_true rfl, Nat.le_of_ble_eq_true rfl⟩ (rvW (q0 := 0) (ci := 1) E rfl rfl rfl) rfl (Nat.le_of_ble_eq_true rfl) d_SqlReaderModel_readQuery_178 fun r13 u14 _ => ?_
  refine Sm_if_eq (tgt := 240) E d_SqlReaderModel_readQuery_181 (by decide) (fun _ => ?_) (fun _ => ?_)
  · exact Sm_retV hR d_SqlReaderModel_readQuery_240
  · refine Sm_aload_n E d_SqlReaderModel_readQuery_184 rfl 0 rfl ?_
    refine Sm_aload_n E d_SqlReaderModel_readQuery_185 rfl 0 rfl ?_
    refine Sm_ldcS_w E sr_SqlReaderModel_507 d_SqlReaderModel_readQuery_186 ?_
    refine Sm_cVI (As := [.ref (G.2.2.1 119)]) (b := (G.1 100)) (st := [.ref (G.1 100)]) (n := 1) E exOk wM_as (fun _ h => cM_SqlReaderModel_takes 119 u14 h) gk_SqlReaderModel_421 dk_SqlReaderModel_takes rfl ⟨rfl, rfl⟩ ⟨Nat.le_of_ble_eq_true rfl, Nat.le_of_ble_eq_true rfl⟩ (rvW (q0 := 0) (ci := 1) E rfl rfl rfl) rfl (Nat.le_of_ble_eq_true rfl) d_SqlReaderModel_readQuery_189 fun r15 u16 _ => ?_
    refine Sm_if_eq (tgt := 199) E d_SqlReaderModel_readQuery_192 (by decide) (fun _ => ?_) (fun _ => ?_)
    · refine Sm_aload_n E d_SqlReaderModel_readQuery_199 rfl 0 rfl ?_
      refine Sm_ldcS_w E sr_SqlReaderModel_509 d_SqlReaderModel_readQuery_200 ?_
      refine Sm_cVI (As := [.ref (G.2.2.1 120)]) (b := (G.1 100)) (st := [.ref (G.1 100)]) (n := 1) E exOk wM_as (fun _ h => cM_SqlReaderModel_takes 120 u16 h) gk_SqlReaderModel_421 dk_SqlReaderModel_takes rfl ⟨rfl, rfl⟩ ⟨Nat.le_of_ble_eq_true rfl, Nat.le_of_ble_eq_true rfl⟩ (rvW (q0 := 0) (ci := 1) E rfl rfl rfl) rfl (Nat.le_of_ble_eq_true rfl) d_SqlReaderModel_readQuery_203 fun r17 u18 _ => ?_
      refine Sm_if_eq (tgt := 213) E d_SqlReaderModel_readQuery_206 (by decide) (fun _ => ?_) (fun _ => ?_)
      · refine Sm_iconst (v := 0) E d_SqlReaderModel_readQuery_213 (by decide) ?_
        exact Sm_sub [0] rfl (tM_SqlReaderModel_readQuery_J214 E hR _ _)
      · refine Sm_iconst (v := 1) E d_SqlReaderModel_readQuery_209 (by decide) ?_
        refine Sm_goto (tgt := 214) E d_SqlReaderModel_readQuery_210 (by decide) ?_
        exact Sm_sub [0] rfl (tM_SqlReaderModel_readQuery_J214 E hR _ _)
    · refine Sm_iconst (v := 2) E d_SqlReaderModel_readQuery_195 (by decide) ?_
      refine Sm_goto (tgt := 214) E d_SqlReaderModel_readQuery_196 (by decide) ?_
      exact Sm_sub [0] rfl (tM_SqlReaderModel_readQuery_J214 E hR _ _)
set_option maxRecDepth 100000 in
set_option maxHeartbeats 4000000 in
theorem tM_SqlReaderModel_readQuery_J131 {X : Cx} {G : Gx} {res : St} (E : EM X G prog_11_method_57_code R_SqlReaderModel 4 { frames := 410, cells := 0, slots := 0, locals := 14223 }) (hR : RtV X vwCl (wM G) prog_11_method_57_code res) : ∀ (u : St), SM X G 4 res (mM_SqlReaderModel_readQuery_J131 u) u 131 [(0, .ref (G.1 100))] [] := by
  intro u
  rw [mM_SqlReaderModel_readQuery_J131]
  refine Sm_aload_n E d_SqlReaderModel_readQuery_131 rfl 0 rfl ?_
  refine Sm_ldcS_w E sr_SqlReaderModel_435 d_SqlReaderModel_readQuery_132 ?_
  refine Sm_cVI (As := [.ref (G.2.2.1 86)]) (b := (G.1 100)) (st := []) (n := 1) E exOk wM_as (fun _ h => cM_SqlReaderModel_takes 86 u h) gk_SqlReaderModel_421 dk_SqlReaderModel_takes rfl ⟨rfl, rfl⟩ ⟨Nat.le_of_ble_eq_true rfl, Nat.le_of_ble_eq_true rfl⟩ (rvW (q0 := 0) (ci := 1) E rfl rfl rfl) rfl (Nat.le_of_ble_eq_true rfl) d_SqlReaderModel_readQuery_135 fun r11 u12 _ => ?_
  refine Sm_if_eq (tgt := 174) E d_SqlReaderModel_readQuery_138 (by decide) (fun _ => ?_) (fun _ => ?_)
  · exact Sm_sub [0] rfl (tM_SqlReaderModel_readQuery_J174 E hR _)
  · refine Sm_aload_n E d_SqlReaderModel_readQuery_141 rfl 0 rfl ?_
    refine Sm_aload_n E d_SqlReaderModel_readQuery_142 rfl 0 rfl ?_
    refine Sm_cVJ (As := []) (b := (G.1 100)) (st := [.ref (G.1 100)]) (n := 0) E exOk wM_as (fun _ h => cM_SqlReaderModel_needNumber u12 h) gk_SqlReaderModel_488 dk_SqlReaderModel_needNumber rfl ⟨rfl, rfl⟩ ⟨Nat.le_of_ble_eq_true rfl, Nat.le_of_ble_eq_true rfl⟩ (rvW (q0 := 0) (ci := 1) E rfl rfl rfl) rfl (Nat.le_of_ble_eq_true rfl) d_SqlReaderModel_readQuery_143 fun r23 u24 _ => ?_
    refine pfM_0_limit E fl_SqlReaderModel_167 d_SqlReaderModel_readQuery_146 fun u25 _ => ?_
    refine Sm_aload_n E d_SqlReaderModel_readQuery_149 rfl 0 rfl ?_
    refine Sm_aload_n E d_SqlReaderModel_readQuery_150 rfl 0 rfl ?_
    refine gfM_0_limit E fl_SqlReaderModel_167 d_SqlReaderModel_readQuery_151 ?_
    refine Sm_ldc2 (v := 2147483647) E kc_SqlReaderModel_505 d_SqlReaderModel_readQuery_154 ?_
    refine Sm_lcmp E d_SqlReaderModel_readQuery_157 ?_
    refine Sm_if_le (tgt := 167) E d_SqlReaderModel_readQuery_158 (by decide) (fun _ => ?_) (fun _ => ?_)
    · refine Sm_aload_n E d_SqlReaderModel_readQuery_167 rfl 0 rfl ?_
      refine gfM_0_limit E fl_SqlReaderModel_167 d_SqlReaderModel_readQuery_168 ?_
      refine pfM_0_limit E fl_SqlReaderModel_167 d_SqlReaderModel_readQuery_171 fun u26 _ => ?_
      exact Sm_sub [0] rfl (tM_SqlReaderModel_readQuery_J174 E hR _)
    · refine Sm_ldc2 (v := 2147483647) E kc_SqlReaderModel_505 d_SqlReaderModel_readQuery_161 ?_
      refine Sm_goto (tgt := 171) E d_SqlReaderModel_readQuery_164 (by decide) ?_
      refine pfM_0_limit E fl_SqlReaderModel_167 d_SqlReaderModel_readQuery_171 fun u27 _ => ?_
      exact Sm_sub [0] rfl (tM_SqlReaderModel_readQuery_J174 E hR _)
set_option maxRecDepth 100000 in
set_option maxHeartbeats 4000000 in
theorem tM_SqlReaderModel_readQuery_J99 {X : Cx} {G : Gx} {res : St} (E : EM X G prog_11_method_57_code R_SqlReaderModel 4 { frames := 410, cells := 0, slots := 0, locals := 14223 }) (hR : RtV X vwCl (wM G) prog_11_method_57_code res) : ∀ (u : St), SM X G 4 res (mM_SqlReaderModel_readQuery_J99 u) u 99 [(0, .ref (G.1 100))] [] := by
  intro u
  rw [mM_SqlReaderModel_readQuery_J99]
  refine Sm_aload_n E d_SqlReaderModel_readQuery_99 rfl 0 rfl ?_
  refine Sm_cVV (As := []) (b := (G.1 100)) (st := []) (n := 0) E exOk wM_as (fun _ h => cM_SqlReaderModel_readWhere u h) gk_SqlReaderModel_483 dk_SqlReaderModel_readWhere rfl ⟨rfl, rfl⟩ ⟨Nat.le_of_ble_eq_true rfl, Nat.le_of_ble_eq_true rfl⟩ (rvW (q0 := 0) (ci := 1) E rfl rfl rfl) rfl (Nat.le_of_ble_eq_true rfl) d_SqlReaderModel_readQuery_100 fun u6 _ => ?_
  refine Sm_aload_n E d_SqlReaderModel_readQuery_103 rfl 0 rfl ?_
  refine Sm_ldcS_w E sr_SqlReaderModel_431 d_SqlReaderModel_readQuery_104 ?_
  refine Sm_cVI (As := [.ref (G.2.2.1 84)]) (b := (G.1 100)) (st := []) (n := 1) E exOk wM_as (fun _ h => cM_SqlReaderModel_takes 84 u6 h) gk_SqlReaderModel_421 dk_SqlReaderModel_takes rfl ⟨rfl, rfl⟩ ⟨Nat.le_of_ble_eq_true rfl, Nat.le_of_ble_eq_true rfl⟩ (rvW (q0 := 0) (ci := 1) E rfl rfl rfl) rfl (Nat.le_of_ble_eq_true rfl) d_SqlReaderModel_readQuery_107 fun r7 u8 _ => ?_
  refine Sm_if_eq (tgt := 117) E d_SqlReaderModel_readQuery_110 (by decide) (fun _ => ?_) (fun _ => ?_)
  · refine Sm_aload_n E d_SqlReaderModel_readQuery_117 rfl 0 rfl ?_
    refine Sm_ldcS_w E sr_SqlReaderModel_433 d_SqlReaderModel_readQuery_118 ?_
    refine Sm_cVI (As := [.ref (G.2.2.1 85)]) (b := (G.1 100)) (st := []) (n := 1) E exOk wM_as (fun _ h => cM_SqlReaderModel_takes 85 u8 h) gk_SqlReaderModel_421 dk_SqlReaderModel_takes rfl ⟨rfl, rfl⟩ ⟨Nat.le_of_ble_eq_true rfl, Nat.le_of_ble_eq_true rfl⟩ (rvW (q0 := 0) (ci := 1) E rfl rfl rfl) rfl (Nat.le_of_ble_eq_true rfl) d_SqlReaderModel_readQuery_121 fun r9 u10 _ => ?_
    refine Sm_if_eq (tgt := 131) E d_SqlReaderModel_readQuery_124 (by decide) (fun _ => ?_) (fun _ => ?_)
    · exact Sm_sub [0] rfl (tM_SqlReaderModel_readQuery_J131 E hR _)
    · refine Sm_aload_n E d_SqlReaderModel_readQuery_127 rfl 0 rfl ?_
      refine Sm_cVV (As := []) (b := (G.1 100)) (st := []) (n := 0) E exOk wM_as (fun _ h => cM_SqlReaderModel_readOrders u10 h) gk_SqlReaderModel_502 dk_SqlReaderModel_readOrders rfl ⟨rfl, rfl⟩ ⟨Nat.le_of_ble_eq_true rfl, Nat.le_of_ble_eq_true rfl⟩ (rvW (q0 := 0) (ci := 1) E rfl rfl rfl) rfl (Nat.le_of_ble_eq_true rfl) d_SqlReaderModel_readQuery_128 fun u28 _ => ?_
      exact Sm_sub [0] rfl (tM_SqlReaderModel_readQuery_J131 E hR _)
  · refine Sm_aload_n E d_SqlReaderModel_readQuery_113 rfl 0 rfl ?_
    refine Sm_cVV (As := []) (b := (G.1 100)) (st := []) (n := 0) E exOk wM_as (fun _ h => cM_SqlReaderModel_readGroups u8 h) gk_SqlReaderModel_499 dk_SqlReaderModel_readGroups rfl ⟨rfl, rfl⟩ ⟨Nat.le_of_ble_eq_true rfl, Nat.le_of_ble_eq_true rfl⟩ (rvW (q0 := 0) (ci := 1) E rfl rfl rfl) rfl (Nat.le_of_ble_eq_true rfl) d_SqlReaderModel_readQuery_114 fun u29 _ => ?_
    refine Sm_aload_n E d_SqlReaderModel_readQuery_117 rfl 0 rfl ?_
    refine Sm_ldcS_w E sr_SqlReaderModel_433 d_SqlReaderModel_readQuery_118 ?_
    refine Sm_cVI (As := [.ref (G.2.2.1 85)]) (b := (G.1 100)) (st := []) (n := 1) E exOk wM_as (fun _ h => cM_SqlReaderModel_takes 85 u29 h) gk_SqlReaderModel_421 dk_SqlReaderModel_takes rfl ⟨rfl, rfl⟩ ⟨Nat.le_of_ble_eq_true rfl, Nat.le_of_ble_eq_true rfl⟩ (rvW (q0 := 0) (ci := 1) E rfl rfl rfl) rfl (Nat.le_of_ble_eq_true rfl) d_SqlReaderModel_readQuery_121 fun r30 u31 _ => ?_
    refine Sm_if_eq (tgt := 131) E d_SqlReaderModel_readQuery_124 (by decide) (fun _ => ?_) (fun _ => ?_)
    · exact Sm_sub [0] rfl (tM_SqlReaderModel_readQuery_J131 E hR _)
    · refine Sm_aload_n E d_SqlReaderModel_readQuery_127 rfl 0 rfl ?_
      refine Sm_cVV (As := []) (b := (G.1 100)) (st := []) (n := 0) E exOk wM_as (fun _ h => cM_SqlReaderModel_readOrders u31 h) gk_SqlReaderModel_502 dk_SqlReaderModel_readOrders rfl ⟨rfl, rfl⟩ ⟨Nat.le_of_ble_eq_true rfl, Nat.le_of_ble_eq_true rfl⟩ (rvW (q0 := 0) (ci := 1) E rfl rfl rfl) rfl (Nat.le_of_ble_eq_true rfl) d_SqlReaderModel_readQuery_128 fun u32 _ => ?_
      exact Sm_sub [0] rfl (tM_SqlReaderModel_readQuery_J131 E hR _)
set_option maxRecDepth 100000 in
set_option maxHeartbeats 4000000 in
theorem tM_SqlReaderModel_readQuery_J64 {X : Cx} {G : Gx} {res : St} (E : EM X G prog_11_method_57_code R_SqlReaderModel 4 { frames := 410, cells := 0, slots := 0, locals := 14223 }) (hR : RtV X vwCl (wM G) prog_11_method_57_code res) {q24 : Int32 → St → Option (St)} (h24 : ∀ (x1 : Int32) (u : St), SM X G 4 res (q24 x1 u) u 24 [(0, .ref (G.1 100)), (1, .int x1)] []) : ∀ (x3 : Int32) (s1 : Int32) (s2 : Int32) (u : St), SM X G 4 res (mM_SqlReaderModel_readQuery_J64 q24 x3 s1 s2 u) u 64 [(0, .ref (G.1 100)), (3, .int x3)] [.int s2, .int s1, .ref (G.1 100)] := by
  intro x3 s1 s2 u
  rw [mM_SqlReaderModel_readQuery_J64]
  refine Sm_cVV (As := [.int s1, .int s2]) (b := (G.1 100)) (st := []) (n := 2) E exOk wM_as (fun _ h => cM_SqlReaderModel_from s1 s2 u h) gk_SqlReaderModel_478 dk_SqlReaderModel_from rfl ⟨rfl, rfl⟩ ⟨Nat.le_of_ble_eq_true rfl, Nat.le_of_ble_eq_true rfl⟩ (rvW (q0 := 0) (ci := 1) E rfl rfl rfl) rfl (Nat.le_of_ble_eq_true rfl) d_SqlReaderModel_readQuery_64 fun u36 _ => ?_
  refine Sm_aload_n E d_SqlReaderModel_readQuery_67 rfl 0 rfl ?_
  refine Sm_iload_n E d_SqlReaderModel_readQuery_68 rfl 1 rfl ?_
  refine Sm_if_eq (tgt := 81) E d_SqlReaderModel_readQuery_69 (by decide) (fun _ => ?_) (fun _ => ?_)
  · refine Sm_aload_n E d_SqlReaderModel_readQuery_81 rfl 0 rfl ?_
    refine gfM_0_place E fl_SqlReaderModel_419 d_SqlReaderModel_readQuery_82 ?_
    refine pfM_0_place E fl_SqlReaderModel_419 d_SqlReaderModel_readQuery_85 fun u37 _ => ?_
    refine Sm_aload_n E d_SqlReaderModel_readQuery_88 rfl 0 rfl ?_
    refine Sm_ldcS_w E sr_SqlReaderModel_387 d_SqlReaderModel_readQuery_89 ?_
    refine Sm_cVI (As := [.ref (G.2.2.1 80)]) (b := (G.1 100)) (st := []) (n := 1) E exOk wM_as (fun _ h => cM_SqlReaderModel_takes 80 u37 h) gk_SqlReaderModel_421 dk_SqlReaderModel_takes rfl ⟨rfl, rfl⟩ ⟨Nat.le_of_ble_eq_true rfl, Nat.le_of_ble_eq_true rfl⟩ (rvW (q0 := 0) (ci := 1) E rfl rfl rfl) rfl (Nat.le_of_ble_eq_true rfl) d_SqlReaderModel_readQuery_92 fun r38 u39 _ => ?_
    refine Sm_istore_n (lv' := [(1, .int r38), (0, .ref (G.1 100)), (3, .int x3)]) E d_SqlReaderModel_readQuery_95 rfl (by decide) rfl ?_
    refine Sm_goto (tgt := 24) E d_SqlReaderModel_readQuery_96 (by decide) ?_
    exact Sm_sub [1, 0] rfl (h24 _ _)
  · refine Sm_aload_n E d_SqlReaderModel_readQuery_72 rfl 0 rfl ?_
    refine gfM_0_place E fl_SqlReaderModel_419 d_SqlReaderModel_readQuery_73 ?_
    refine Sm_iconst (v := 1) E d_SqlReaderModel_readQuery_76 (by decide) ?_
    refine Sm_iadd E d_SqlReaderModel_readQuery_77 ?_
    refine Sm_goto (tgt := 85) E d_SqlReaderModel_readQuery_78 (by decide) ?_
    refine pfM_0_place E fl_SqlReaderModel_419 d_SqlReaderModel_readQuery_85 fun u40 _ => ?_
    refine Sm_aload_n E d_SqlReaderModel_readQuery_88 rfl 0 rfl ?_
    refine Sm_ldcS_w E sr_SqlReaderModel_387 d_SqlReaderModel_readQuery_89 ?_
    refine Sm_cVI (As := [.ref (G.2.2.1 80)]) (b := (G.1 100)) (st := []) (n := 1) E exOk wM_as (fun _ h => cM_SqlReaderModel_takes 80 u40 h) gk_SqlReaderModel_421 dk_SqlReaderModel_takes rfl ⟨rfl, rfl⟩ ⟨Nat.le_of_ble_eq_true rfl, Nat.le_of_ble_eq_true rfl⟩ (rvW (q0 := 0) (ci := 1) E rfl rfl rfl) rfl (Nat.le_of_ble_eq_true rfl) d_SqlReaderModel_readQuery_92 fun r41 u42 _ => ?_
    refine Sm_istore_n (lv' := [(1, .int r41), (0, .ref (G.1 100)), (3, .int x3)]) E d_SqlReaderModel_readQuery_95 rfl (by decide) rfl ?_
    refine Sm_goto (tgt := 24) E d_SqlReaderModel_readQuery_96 (by decide) ?_
    exact Sm_sub [1, 0] rfl (h24 _ _)
set_option maxRecDepth 100000 in
set_option maxHeartbeats 4000000 in
theorem tM_SqlReaderModel_readQuery_L24 {X : Cx} {G : Gx} {res : St} (E : EM X G prog_11_method_57_code R_SqlReaderModel 4 { frames := 410, cells := 0, slots := 0, locals := 14223 }) (hR : RtV X vwCl (wM G) prog_11_method_57_code res) : ∀ (n : Nat) (x1 : Int32) (u : St), SM X G 4 res (mM_SqlReaderModel_readQuery_L24 n x1 u) u 24 [(0, .ref (G.1 100)), (1, .int x1)] [] := by
  intro n
  induction n with
  | zero => intro x1 u; exact Sm_none
  | succ n h24 =>
    intro x1 u
    rw [mM_SqlReaderModel_readQuery_L24]
    refine Sm_iload_n E d_SqlReaderModel_readQuery_24 rfl 1 rfl ?_
    refine Sm_if_eq (tgt := 99) E d_SqlReaderModel_readQuery_25 (by decide) (fun _ => ?_) (fun _ => ?_)
    · exact Sm_sub [0] rfl (tM_SqlReaderModel_readQuery_J99 E hR _)
    · refine Sm_aload_n E d_SqlReaderModel_readQuery_28 rfl 0 rfl ?_
      refine gfM_0_bad E fl_SqlReaderModel_226 d_SqlReaderModel_readQuery_29 ?_
      refine Sm_if_ne (tgt := 99) E d_SqlReaderModel_readQuery_32 (by decide) (fun _ => ?_) (fun _ => ?_)
      · exact Sm_sub [0] rfl (tM_SqlReaderModel_readQuery_J99 E hR _)
      · refine Sm_aload_n E d_SqlReaderModel_readQuery_35 rfl 0 rfl ?_
        refine Sm_cVI (As := []) (b := (G.1 100)) (st := []) (n := 0) E exOk wM_as (fun _ h => cM_SqlReaderModel_needName u h) gk_SqlReaderModel_447 dk_SqlReaderModel_needName rfl ⟨rfl, rfl⟩ ⟨Nat.le_of_ble_eq_true rfl, Nat.le_of_ble_eq_true rfl⟩ (rvW (q0 := 0) (ci := 1) E rfl rfl rfl) rfl (Nat.le_of_ble_eq_true rfl) d_SqlReaderModel_readQuery_36 fun r33 u34 _ => ?_
        refine Sm_istore_n (lv' := [(2, .int r33), (0, .ref (G.1 100)), (1, .int x1)]) E d_SqlReaderModel_readQuery_39 rfl (by decide) rfl ?_
        refine Sm_aload_n E d_SqlReaderModel_readQuery_40 rfl 1 rfl ?_
        refine Sm_aload_n E d_SqlReaderModel_readQuery_41 rfl 1 rfl ?_
        refine gfM_0_place E fl_SqlReaderModel_419 d_SqlReaderModel_readQuery_42 ?_
        refine Sm_iconst (v := 2) E d_SqlReaderModel_readQuery_45 (by decide) ?_
        refine Sm_cVi (As := [.int (u34.1 30), .int 2]) (b := (G.1 100)) (st := []) (n := 2) E exOk wM_as (fun _ h => cM_SqlReaderModel_isKind (u34.1 30) 2 u34 h) gk_SqlReaderModel_403 dk_SqlReaderModel_isKind rfl ⟨rfl, rfl⟩ ⟨Nat.le_of_ble_eq_true rfl, Nat.le_of_ble_eq_true rfl⟩ (rvW (q0 := 0) (ci := 1) E rfl rfl rfl) rfl (Nat.le_of_ble_eq_true rfl) d_SqlReaderModel_readQuery_46 fun r35 _ => ?_
        refine Sm_istore_n (lv' := [(3, .int r35), (2, .int r33), (0, .ref (G.1 100)), (1, .int x1)]) E d_SqlReaderModel_readQuery_49 rfl (by decide) rfl ?_
        refine Sm_aload_n E d_SqlReaderModel_readQuery_50 rfl 2 rfl ?_
        refine Sm_iload_n E d_SqlReaderModel_readQuery_51 rfl 1 rfl ?_
        refine Sm_iload_n E d_SqlReaderModel_readQuery_52 rfl 0 rfl ?_
        refine Sm_if_eq (tgt := 63) E d_SqlReaderModel_readQuery_53 (by decide) (fun _ => ?_) (fun _ => ?_)
        · refine Sm_iload_n E d_SqlReaderModel_readQuery_63 rfl 1 rfl ?_
          exact Sm_sub [2, 0] rfl (tM_SqlReaderModel_readQuery_J64 E hR h24 _ _ _ _)
        · refine Sm_aload_n E d_SqlReaderModel_readQuery_56 rfl 2 rfl ?_
          refine gfM_0_place E fl_SqlReaderModel_419 d_SqlReaderModel_readQuery_57 ?_
          refine Sm_goto (tgt := 64) E d_SqlReaderModel_readQuery_60 (by decide) ?_
          exact Sm_sub [2, 0] rfl (tM_SqlReaderModel_readQuery_J64 E hR h24 _ _ _ _)
set_option maxRecDepth 100000 in
set_option maxHeartbeats 4000000 in
theorem cM_SqlReaderModel_readQuery {l : Launch} {D : va_G} {G : Gx} (u : St) {res : St} (hm : mM_SqlReaderModel_readQuery u = some res) : KM l D G y_SqlReaderModel_readQuery (.code y_SqlReaderModel_readQuery prog_11_method_57_code 4 none) { frames := 410, cells := 0, slots := 0, locals := 14223 } [.ref (G.1 100)] u (qV D vwCl (wM G) (tyW G) (adsM G) res) := by
  refine Ct_V (by decide) wM_as (Nat.le_of_ble_eq_true rfl) hm (fun X _ _ E hR => ?_)
  refine Sm_lvs (lv' := [(0, .ref (G.1 100))]) rfl ?_
  rw [mM_SqlReaderModel_readQuery]
  refine Sm_aload_n E d_SqlReaderModel_readQuery_0 rfl 0 rfl ?_
  refine Sm_aload_n E d_SqlReaderModel_readQuery_1 rfl 0 rfl ?_
  refine Sm_ldcS_w E sr_SqlReaderModel_494 d_SqlReaderModel_readQuery_2 ?_
  refine Sm_cVI (As := [.ref (G.2.2.1 116)]) (b := (G.1 100)) (st := [.ref (G.1 100)]) (n := 1) E exOk wM_as (fun _ h => cM_SqlReaderModel_takes 116 u h) gk_SqlReaderModel_421 dk_SqlReaderModel_takes rfl ⟨rfl, rfl⟩ ⟨Nat.le_of_ble_eq_true rfl, Nat.le_of_ble_eq_true rfl⟩ (rvW (q0 := 0) (ci := 1) E rfl rfl rfl) rfl (Nat.le_of_ble_eq_true rfl) d_SqlReaderModel_readQuery_5 fun r1 u2 _ => ?_
  refine Sm_gd fun hz => pfM_0_distinct E fl_SqlReaderModel_162 d_SqlReaderModel_readQuery_8 (zb_n hz) (zb_f hz) fun u3 _ => ?_
  refine Sm_aload_n E d_SqlReaderModel_readQuery_11 rfl 0 rfl ?_
  refine Sm_cVV (As := []) (b := (G.1 100)) (st := []) (n := 0) E exOk wM_as (fun _ h => cM_SqlReaderModel_readItems u3 h) gk_SqlReaderModel_496 dk_SqlReaderModel_readItems rfl ⟨rfl, rfl⟩ ⟨Nat.le_of_ble_eq_true rfl, Nat.le_of_ble_eq_true rfl⟩ (rvW (q0 := 0) (ci := 1) E rfl rfl rfl) rfl (Nat.le_of_ble_eq_true rfl) d_SqlReaderModel_readQuery_12 fun u4 _ => ?_
  refine Sm_aload_n E d_SqlReaderModel_readQuery_15 rfl 0 rfl ?_
  refine Sm_ldcS_w E sr_SqlReaderModel_427 d_SqlReaderModel_readQuery_16 ?_
  refine Sm_cVV (As := [.ref (G.2.2.1 82)]) (b := (G.1 100)) (st := []) (n := 1) E exOk wM_as (fun _ h => cM_SqlReaderModel_need 82 u4 h) gk_SqlReaderModel_450 dk_SqlReaderModel_need rfl ⟨rfl, rfl⟩ ⟨Nat.le_of_ble_eq_true rfl, Nat.le_of_ble_eq_true rfl⟩ (rvW (q0 := 0) (ci := 1) E rfl rfl rfl) rfl (Nat.le_of_ble_eq_true rfl) d_SqlReaderModel_readQuery_19 fun u5 _ => ?_
  refine Sm_iconst (v := 1) E d_SqlReaderModel_readQuery_22 (by decide) ?_
  refine Sm_istore_n (lv' := [(1, .int 1), (0, .ref (G.1 100))]) E d_SqlReaderModel_readQuery_23 rfl (by decide) rfl ?_
  exact Sm_sub [1, 0] rfl (tM_SqlReaderModel_readQuery_L24 E hR FU _ _)
set_option maxRecDepth 100000 in
set_option maxHeartbeats 4000000 in
theorem cM_SqlReaderModel_readInsert {l : Launch} {D : va_G} {G : Gx} (u : St) {res : St} (hm : mM_SqlReaderModel_readInsert u = some res) : KM l D G y_SqlReaderModel_readInsert (.code y_SqlReaderModel_readInsert prog_11_method_50_code 1 none) { frames := 411, cells := 0, slots := 0, locals := 14246 } [.ref (G.1 100)] u (qV D vwCl (wM G) (tyW G) (adsM G) res) := by
  refine Ct_V (by decide) wM_as (Nat.le_of_ble_eq_true rfl) hm (fun X _ _ E hR => ?_)
  refine Sm_lvs (lv' := [(0, .ref (G.1 100))]) rfl ?_
  rw [mM_SqlReaderModel_readInsert]
  refine Sm_aload_n E d_SqlReaderModel_readInsert_0 rfl 0 rfl ?_
  refine Sm_ldcS_w E sr_SqlReaderModel_466 d_SqlReaderModel_readInsert_1 ?_
  refine Sm_cVV (As := [.ref (G.2.2.1 77)]) (b := (G.1 100)) (st := []) (n := 1) E exOk wM_as (fun _ h => cM_SqlReaderModel_need 77 u h) gk_SqlReaderModel_450 dk_SqlReaderModel_need rfl ⟨rfl, rfl⟩ ⟨Nat.le_of_ble_eq_true rfl, Nat.le_of_ble_eq_true rfl⟩ (rvW (q0 := 0) (ci := 1) E rfl rfl rfl) rfl (Nat.le_of_ble_eq_true rfl) d_SqlReaderModel_readInsert_4 fun u1 _ => ?_
  refine Sm_aload_n E d_SqlReaderModel_readInsert_7 rfl 0 rfl ?_
  refine Sm_aload_n E d_SqlReaderModel_readInsert_8 rfl 0 rfl ?_
  refine Sm_cVI (As := []) (b := (G.1 100)) (st := [.ref (G.1 100)]) (n := 0) E exOk wM_as (fun _ h => cM_SqlReaderModel_needName u1 h) gk_SqlReaderModel_447 dk_SqlReaderModel_needName rfl ⟨rfl, rfl⟩ ⟨Nat.le_of_ble_eq_true rfl, Nat.le_of_ble_eq_true rfl⟩ (rvW (q0 := 0) (ci := 1) E rfl rfl rfl) rfl (Nat.le_of_ble_eq_true rfl) d_SqlReaderModel_readInsert_9 fun r2 u3 _ => ?_
  refine pfM_0_targetToken E fl_SqlReaderModel_149 d_SqlReaderModel_readInsert_12 fun u4 _ => ?_
  refine Sm_aload_n E d_SqlReaderModel_readInsert_15 rfl 0 rfl ?_
  refine Sm_ldcS_w E sr_SqlReaderModel_468 d_SqlReaderModel_readInsert_16 ?_
  refine Sm_cVI (As := [.ref (G.2.2.1 78)]) (b := (G.1 100)) (st := []) (n := 1) E exOk wM_as (fun _ h => cM_SqlReaderModel_takes 78 u4 h) gk_SqlReaderModel_421 dk_SqlReaderModel_takes rfl ⟨rfl, rfl⟩ ⟨Nat.le_of_ble_eq_true rfl, Nat.le_of_ble_eq_true rfl⟩ (rvW (q0 := 0) (ci := 1) E rfl rfl rfl) rfl (Nat.le_of_ble_eq_true rfl) d_SqlReaderModel_readInsert_19 fun r5 u6 _ => ?_
  refine Sm_if_eq (tgt := 35) E d_SqlReaderModel_readInsert_22 (by decide) (fun _ => ?_) (fun _ => ?_)
  · refine Sm_aload_n E d_SqlReaderModel_readInsert_35 rfl 0 rfl ?_
    refine Sm_ldcS_w E sr_SqlReaderModel_473 d_SqlReaderModel_readInsert_36 ?_
    refine Sm_cVV (As := [.ref (G.2.2.1 115)]) (b := (G.1 100)) (st := []) (n := 1) E exOk wM_as (fun _ h => cM_SqlReaderModel_need 115 u6 h) gk_SqlReaderModel_450 dk_SqlReaderModel_need rfl ⟨rfl, rfl⟩ ⟨Nat.le_of_ble_eq_true rfl, Nat.le_of_ble_eq_true rfl⟩ (rvW (q0 := 0) (ci := 1) E rfl rfl rfl) rfl (Nat.le_of_ble_eq_true rfl) d_SqlReaderModel_readInsert_39 fun u7 _ => ?_
    refine Sm_aload_n E d_SqlReaderModel_readInsert_42 rfl 0 rfl ?_
    refine Sm_iconst (v := 5) E d_SqlReaderModel_readInsert_43 (by decide) ?_
    refine pfM_0_what E fl_SqlReaderModel_140 d_SqlReaderModel_readInsert_44 fun u8 _ => ?_
    refine Sm_aload_n E d_SqlReaderModel_readInsert_47 rfl 0 rfl ?_
    refine Sm_cVV (As := []) (b := (G.1 100)) (st := []) (n := 0) E exOk wM_as (fun _ h => cM_SqlReaderModel_readQuery u8 h) gk_SqlReaderModel_475 dk_SqlReaderModel_readQuery rfl ⟨rfl, rfl⟩ ⟨Nat.le_of_ble_eq_true rfl, Nat.le_of_ble_eq_true rfl⟩ (rvW (q0 := 0) (ci := 1) E rfl rfl rfl) rfl (Nat.le_of_ble_eq_true rfl) d_SqlReaderModel_readInsert_48 fun u9 _ => ?_
    exact Sm_retV hR d_SqlReaderModel_readInsert_51
  · refine Sm_aload_n E d_SqlReaderModel_readInsert_25 rfl 0 rfl ?_
    refine Sm_iconst (v := 4) E d_SqlReaderModel_readInsert_26 (by decide) ?_
    refine pfM_0_what E fl_SqlReaderModel_140 d_SqlReaderModel_readInsert_27 fun u10 _ => ?_
    refine Sm_aload_n E d_SqlReaderModel_readInsert_30 rfl 0 rfl ?_
    refine Sm_cVV (As := []) (b := (G.1 100)) (st := []) (n := 0) E exOk wM_as (fun _ h => cM_SqlReaderModel_readRows u10 h) gk_SqlReaderModel_470 dk_SqlReaderModel_readRows rfl ⟨rfl, rfl⟩ ⟨Nat.le_of_ble_eq_true rfl, Nat.le_of_ble_eq_true rfl⟩ (rvW (q0 := 0) (ci := 1) E rfl rfl rfl) rfl (Nat.le_of_ble_eq_true rfl) d_SqlReaderModel_readInsert_31 fun u11 _ => ?_
    exact Sm_retV hR d_SqlReaderModel_readInsert_34
set_option maxRecDepth 100000 in
set_option maxHeartbeats 4000000 in
theorem tM_SqlReaderModel_readUpdate_L35 {X : Cx} {G : Gx} {res : St} (E : EM X G prog_11_method_52_code R_SqlReaderModel 2 { frames := 410, cells := 0, slots := 0, locals := 14221 }) (hR : RtV X vwCl (wM G) prog_11_method_52_code res) : ∀ (n : Nat) (x1 : Int32) (u : St), SM X G 2 res (mM_SqlReaderModel_readUpdate_L35 n x1 u) u 35 [(0, .ref (G.1 100)), (1, .int x1)] [] := by
  intro n
  induction n with
  | zero => intro x1 u; exact Sm_none
  | succ n h35 =>
    intro x1 u
    rw [mM_SqlReaderModel_readUpdate_L35]
    refine Sm_iload_n E d_SqlReaderModel_readUpdate_35 rfl 1 rfl ?_
    refine Sm_if_eq (tgt := 120) E d_SqlReaderModel_readUpdate_36 (by decide) (fun _ => ?_) (fun _ => ?_)
    · refine Sm_aload_n E d_SqlReaderModel_readUpdate_120 rfl 0 rfl ?_
      refine Sm_cVV (As := []) (b := (G.1 100)) (st := []) (n := 0) E exOk wM_as (fun _ h => cM_SqlReaderModel_readWhere u h) gk_SqlReaderModel_483 dk_SqlReaderModel_readWhere rfl ⟨rfl, rfl⟩ ⟨Nat.le_of_ble_eq_true rfl, Nat.le_of_ble_eq_true rfl⟩ (rvW (q0 := 0) (ci := 1) E rfl rfl rfl) rfl (Nat.le_of_ble_eq_true rfl) d_SqlReaderModel_readUpdate_121 fun u7 _ => ?_
      exact Sm_retV hR d_SqlReaderModel_readUpdate_124
    · refine Sm_aload_n E d_SqlReaderModel_readUpdate_39 rfl 0 rfl ?_
      refine gfM_0_bad E fl_SqlReaderModel_226 d_SqlReaderModel_readUpdate_40 ?_
      refine Sm_if_ne (tgt := 120) E d_SqlReaderModel_readUpdate_43 (by decide) (fun _ => ?_) (fun _ => ?_)
      · refine Sm_aload_n E d_SqlReaderModel_readUpdate_120 rfl 0 rfl ?_
        refine Sm_cVV (As := []) (b := (G.1 100)) (st := []) (n := 0) E exOk wM_as (fun _ h => cM_SqlReaderModel_readWhere u h) gk_SqlReaderModel_483 dk_SqlReaderModel_readWhere rfl ⟨rfl, rfl⟩ ⟨Nat.le_of_ble_eq_true rfl, Nat.le_of_ble_eq_true rfl⟩ (rvW (q0 := 0) (ci := 1) E rfl rfl rfl) rfl (Nat.le_of_ble_eq_true rfl) d_SqlReaderModel_readUpdate_121 fun u8 _ => ?_
        exact Sm_retV hR d_SqlReaderModel_readUpdate_124
      · refine Sm_aload_n E d_SqlReaderModel_readUpdate_46 rfl 0 rfl ?_
        refine gfM_0_setToken E fl_SqlReaderModel_100 d_SqlReaderModel_readUpdate_47 ?_
        refine Sm_aload_n E d_SqlReaderModel_readUpdate_50 rfl 0 rfl ?_
        refine gfM_0_sets E fl_SqlReaderModel_186 d_SqlReaderModel_readUpdate_51 ?_
        refine Sm_aload_n E d_SqlReaderModel_readUpdate_54 rfl 0 rfl ?_
        refine Sm_cVI (As := []) (b := (G.1 100)) (st := [.int (u.1 20), .ref (G.1 130)]) (n := 0) E exOk wM_as (fun _ h => cM_SqlReaderModel_needName u h) gk_SqlReaderModel_447 dk_SqlReaderModel_needName rfl ⟨rfl, rfl⟩ ⟨Nat.le_of_ble_eq_true rfl, Nat.le_of_ble_eq_true rfl⟩ (rvW (q0 := 0) (ci := 1) E rfl rfl rfl) rfl (Nat.le_of_ble_eq_true rfl) d_SqlReaderModel_readUpdate_55 fun r9 u10 _ => ?_
        refine Sm_gd fun hi => stM_30 E (inb_in hi) d_SqlReaderModel_readUpdate_58 fun u11 _ => ?_
        refine Sm_aload_n E d_SqlReaderModel_readUpdate_59 rfl 0 rfl ?_
        refine Sm_iconst (v := 4) E d_SqlReaderModel_readUpdate_60 (by decide) ?_
        refine Sm_aload_n E d_SqlReaderModel_readUpdate_61 rfl 0 rfl ?_
        refine gfM_0_sets E fl_SqlReaderModel_186 d_SqlReaderModel_readUpdate_62 ?_
        refine Sm_iconst (v := 0) E d_SqlReaderModel_readUpdate_65 (by decide) ?_
        refine Sm_cVV (As := [.int 4, .int (u11.1 20), .int 0]) (b := (G.1 100)) (st := []) (n := 3) E exOk wM_as (fun _ h => cM_SqlReaderModel_note 4 (u11.1 20) 0 u11 h) gk_SqlReaderModel_283 dk_SqlReaderModel_note rfl ⟨rfl, rfl⟩ ⟨Nat.le_of_ble_eq_true rfl, Nat.le_of_ble_eq_true rfl⟩ (rvW (q0 := 0) (ci := 1) E rfl rfl rfl) rfl (Nat.le_of_ble_eq_true rfl) d_SqlReaderModel_readUpdate_66 fun u12 _ => ?_
        refine Sm_aload_n E d_SqlReaderModel_readUpdate_69 rfl 0 rfl ?_
        refine Sm_ldcS_w E sr_SqlReaderModel_352 d_SqlReaderModel_readUpdate_70 ?_
        refine Sm_cVV (As := [.ref (G.2.2.1 91)]) (b := (G.1 100)) (st := []) (n := 1) E exOk wM_as (fun _ h => cM_SqlReaderModel_need 91 u12 h) gk_SqlReaderModel_450 dk_SqlReaderModel_need rfl ⟨rfl, rfl⟩ ⟨Nat.le_of_ble_eq_true rfl, Nat.le_of_ble_eq_true rfl⟩ (rvW (q0 := 0) (ci := 1) E rfl rfl rfl) rfl (Nat.le_of_ble_eq_true rfl) d_SqlReaderModel_readUpdate_73 fun u13 _ => ?_
        refine Sm_aload_n E d_SqlReaderModel_readUpdate_76 rfl 0 rfl ?_
        refine gfM_0_setNode E fl_SqlReaderModel_106 d_SqlReaderModel_readUpdate_77 ?_
        refine Sm_aload_n E d_SqlReaderModel_readUpdate_80 rfl 0 rfl ?_
        refine gfM_0_sets E fl_SqlReaderModel_186 d_SqlReaderModel_readUpdate_81 ?_
        refine Sm_aload_n E d_SqlReaderModel_readUpdate_84 rfl 0 rfl ?_
        refine Sm_cVI (As := []) (b := (G.1 100)) (st := [.int (u13.1 20), .ref (G.1 132)]) (n := 0) E exOk wM_as (fun _ h => cM_SqlReaderModel_expression u13 h) gk_SqlReaderModel_442 dk_SqlReaderModel_expression rfl ⟨rfl, rfl⟩ ⟨Nat.le_of_ble_eq_true rfl, Nat.le_of_ble_eq_true rfl⟩ (rvW (q0 := 0) (ci := 1) E rfl rfl rfl) rfl (Nat.le_of_ble_eq_true rfl) d_SqlReaderModel_readUpdate_85 fun r14 u15 _ => ?_
        refine Sm_gd fun hi => stM_32 E (inb_in hi) d_SqlReaderModel_readUpdate_88 fun u16 _ => ?_
        refine Sm_aload_n E d_SqlReaderModel_readUpdate_89 rfl 0 rfl ?_
        refine Sm_iconst (v := 5) E d_SqlReaderModel_readUpdate_90 (by decide) ?_
        refine Sm_aload_n E d_SqlReaderModel_readUpdate_91 rfl 0 rfl ?_
        refine gfM_0_sets E fl_SqlReaderModel_186 d_SqlReaderModel_readUpdate_92 ?_
        refine Sm_iconst (v := 0) E d_SqlReaderModel_readUpdate_95 (by decide) ?_
        refine Sm_cVV (As := [.int 5, .int (u16.1 20), .int 0]) (b := (G.1 100)) (st := []) (n := 3) E exOk wM_as (fun _ h => cM_SqlReaderModel_note 5 (u16.1 20) 0 u16 h) gk_SqlReaderModel_283 dk_SqlReaderModel_note rfl ⟨rfl, rfl⟩ ⟨Nat.le_of_ble_eq_true rfl, Nat.le_of_ble_eq_true rfl⟩ (rvW (q0 := 0) (ci := 1) E rfl rfl rfl) rfl (Nat.le_of_ble_eq_true rfl) d_SqlReaderModel_readUpdate_96 fun u17 _ => ?_
        refine Sm_aload_n E d_SqlReaderModel_readUpdate_99 rfl 0 rfl ?_
        refine Sm_dup E d_SqlReaderModel_readUpdate_100 rfl ?_
        refine gfM_0_sets E fl_SqlReaderModel_186 d_SqlReaderModel_readUpdate_101 ?_
        refine Sm_iconst (v := 1) E d_SqlReaderModel_readUpdate_104 (by decide) ?_
        refine Sm_iadd E d_SqlReaderModel_readUpdate_105 ?_
        refine pfM_0_sets E fl_SqlReaderModel_186 d_SqlReaderModel_readUpdate_106 fun u18 _ => ?_
        refine Sm_aload_n E d_SqlReaderModel_readUpdate_109 rfl 0 rfl ?_
        refine Sm_ldcS_w E sr_SqlReaderModel_387 d_SqlReaderModel_readUpdate_110 ?_
        refine Sm_cVI (As := [.ref (G.2.2.1 80)]) (b := (G.1 100)) (st := []) (n := 1) E exOk wM_as (fun _ h => cM_SqlReaderModel_takes 80 u18 h) gk_SqlReaderModel_421 dk_SqlReaderModel_takes rfl ⟨rfl, rfl⟩ ⟨Nat.le_of_ble_eq_true rfl, Nat.le_of_ble_eq_true rfl⟩ (rvW (q0 := 0) (ci := 1) E rfl rfl rfl) rfl (Nat.le_of_ble_eq_true rfl) d_SqlReaderModel_readUpdate_113 fun r19 u20 _ => ?_
        refine Sm_istore_n (lv' := [(1, .int r19), (0, .ref (G.1 100))]) E d_SqlReaderModel_readUpdate_116 rfl (by decide) rfl ?_
        refine Sm_goto (tgt := 35) E d_SqlReaderModel_readUpdate_117 (by decide) ?_
        exact Sm_sub [1, 0] rfl (h35 _ _)
set_option maxRecDepth 100000 in
set_option maxHeartbeats 4000000 in
theorem cM_SqlReaderModel_readUpdate {l : Launch} {D : va_G} {G : Gx} (u : St) {res : St} (hm : mM_SqlReaderModel_readUpdate u = some res) : KM l D G y_SqlReaderModel_readUpdate (.code y_SqlReaderModel_readUpdate prog_11_method_52_code 2 none) { frames := 410, cells := 0, slots := 0, locals := 14221 } [.ref (G.1 100)] u (qV D vwCl (wM G) (tyW G) (adsM G) res) := by
  refine Ct_V (by decide) wM_as (Nat.le_of_ble_eq_true rfl) hm (fun X _ _ E hR => ?_)
  refine Sm_lvs (lv' := [(0, .ref (G.1 100))]) rfl ?_
  rw [mM_SqlReaderModel_readUpdate]
  refine Sm_aload_n E d_SqlReaderModel_readUpdate_0 rfl 0 rfl ?_
  refine Sm_bipush (v := 6) E d_SqlReaderModel_readUpdate_1 (by decide) ?_
  refine pfM_0_what E fl_SqlReaderModel_140 d_SqlReaderModel_readUpdate_3 fun u1 _ => ?_
  refine Sm_aload_n E d_SqlReaderModel_readUpdate_6 rfl 0 rfl ?_
  refine Sm_aload_n E d_SqlReaderModel_readUpdate_7 rfl 0 rfl ?_
  refine Sm_cVI (As := []) (b := (G.1 100)) (st := [.ref (G.1 100)]) (n := 0) E exOk wM_as (fun _ h => cM_SqlReaderModel_needName u1 h) gk_SqlReaderModel_447 dk_SqlReaderModel_needName rfl ⟨rfl, rfl⟩ ⟨Nat.le_of_ble_eq_true rfl, Nat.le_of_ble_eq_true rfl⟩ (rvW (q0 := 0) (ci := 1) E rfl rfl rfl) rfl (Nat.le_of_ble_eq_true rfl) d_SqlReaderModel_readUpdate_8 fun r2 u3 _ => ?_
  refine pfM_0_targetToken E fl_SqlReaderModel_149 d_SqlReaderModel_readUpdate_11 fun u4 _ => ?_
  refine Sm_aload_n E d_SqlReaderModel_readUpdate_14 rfl 0 rfl ?_
  refine Sm_aload_n E d_SqlReaderModel_readUpdate_15 rfl 0 rfl ?_
  refine gfM_0_targetToken E fl_SqlReaderModel_149 d_SqlReaderModel_readUpdate_16 ?_
  refine Sm_aload_n E d_SqlReaderModel_readUpdate_19 rfl 0 rfl ?_
  refine gfM_0_targetToken E fl_SqlReaderModel_149 d_SqlReaderModel_readUpdate_20 ?_
  refine Sm_cVV (As := [.int (u4.1 10), .int (u4.1 10)]) (b := (G.1 100)) (st := []) (n := 2) E exOk wM_as (fun _ h => cM_SqlReaderModel_from (u4.1 10) (u4.1 10) u4 h) gk_SqlReaderModel_478 dk_SqlReaderModel_from rfl ⟨rfl, rfl⟩ ⟨Nat.le_of_ble_eq_true rfl, Nat.le_of_ble_eq_true rfl⟩ (rvW (q0 := 0) (ci := 1) E rfl rfl rfl) rfl (Nat.le_of_ble_eq_true rfl) d_SqlReaderModel_readUpdate_23 fun u5 _ => ?_
  refine Sm_aload_n E d_SqlReaderModel_readUpdate_26 rfl 0 rfl ?_
  refine Sm_ldcS_w E sr_SqlReaderModel_481 d_SqlReaderModel_readUpdate_27 ?_
  refine Sm_cVV (As := [.ref (G.2.2.1 121)]) (b := (G.1 100)) (st := []) (n := 1) E exOk wM_as (fun _ h => cM_SqlReaderModel_need 121 u5 h) gk_SqlReaderModel_450 dk_SqlReaderModel_need rfl ⟨rfl, rfl⟩ ⟨Nat.le_of_ble_eq_true rfl, Nat.le_of_ble_eq_true rfl⟩ (rvW (q0 := 0) (ci := 1) E rfl rfl rfl) rfl (Nat.le_of_ble_eq_true rfl) d_SqlReaderModel_readUpdate_30 fun u6 _ => ?_
  refine Sm_iconst (v := 1) E d_SqlReaderModel_readUpdate_33 (by decide) ?_
  refine Sm_istore_n (lv' := [(1, .int 1), (0, .ref (G.1 100))]) E d_SqlReaderModel_readUpdate_34 rfl (by decide) rfl ?_
  exact Sm_sub [1, 0] rfl (tM_SqlReaderModel_readUpdate_L35 E hR FU _ _)
set_option maxRecDepth 100000 in
set_option maxHeartbeats 4000000 in
theorem cM_SqlReaderModel_readDeed {l : Launch} {D : va_G} {G : Gx} (u : St) {res : Int32 × St} (hm : mM_SqlReaderModel_readDeed u = some res) : KM l D G y_SqlReaderModel_readDeed (.code y_SqlReaderModel_readDeed prog_11_method_60_code 1 (some .boolean)) { frames := 412, cells := 0, slots := 0, locals := 14266 } [.ref (G.1 100)] u (qI D vwCl (wM G) (tyW G) (adsM G) res) := by
  refine Ct_Z (by decide) wM_as (Nat.le_of_ble_eq_true rfl) hm (fun X _ _ E hR => ?_)
  refine Sm_lvs (lv' := [(0, .ref (G.1 100))]) rfl ?_
  rw [mM_SqlReaderModel_readDeed]
  refine Sm_aload_n E d_SqlReaderModel_readDeed_0 rfl 0 rfl ?_
  refine Sm_ldcS_w E sr_SqlReaderModel_525 d_SqlReaderModel_readDeed_1 ?_
  refine Sm_cVI (As := [.ref (G.2.2.1 76)]) (b := (G.1 100)) (st := []) (n := 1) E exOk wM_as (fun _ h => cM_SqlReaderModel_takes 76 u h) gk_SqlReaderModel_421 dk_SqlReaderModel_takes rfl ⟨rfl, rfl⟩ ⟨Nat.le_of_ble_eq_true rfl, Nat.le_of_ble_eq_true rfl⟩ (rvW (q0 := 0) (ci := 1) E rfl rfl rfl) rfl (Nat.le_of_ble_eq_true rfl) d_SqlReaderModel_readDeed_4 fun r1 u2 _ => ?_
  refine Sm_if_eq (tgt := 17) E d_SqlReaderModel_readDeed_7 (by decide) (fun _ => ?_) (fun _ => ?_)
  · refine Sm_aload_n E d_SqlReaderModel_readDeed_17 rfl 0 rfl ?_
    refine Sm_ldcS_w E sr_SqlReaderModel_507 d_SqlReaderModel_readDeed_18 ?_
    refine Sm_cVI (As := [.ref (G.2.2.1 119)]) (b := (G.1 100)) (st := []) (n := 1) E exOk wM_as (fun _ h => cM_SqlReaderModel_takes 119 u2 h) gk_SqlReaderModel_421 dk_SqlReaderModel_takes rfl ⟨rfl, rfl⟩ ⟨Nat.le_of_ble_eq_true rfl, Nat.le_of_ble_eq_true rfl⟩ (rvW (q0 := 0) (ci := 1) E rfl rfl rfl) rfl (Nat.le_of_ble_eq_true rfl) d_SqlReaderModel_readDeed_21 fun r3 u4 _ => ?_
    refine Sm_if_eq (tgt := 34) E d_SqlReaderModel_readDeed_24 (by decide) (fun _ => ?_) (fun _ => ?_)
    · refine Sm_aload_n E d_SqlReaderModel_readDeed_34 rfl 0 rfl ?_
      refine Sm_ldcS_w E sr_SqlReaderModel_533 d_SqlReaderModel_readDeed_35 ?_
      refine Sm_cVI (As := [.ref (G.2.2.1 122)]) (b := (G.1 100)) (st := []) (n := 1) E exOk wM_as (fun _ h => cM_SqlReaderModel_takes 122 u4 h) gk_SqlReaderModel_421 dk_SqlReaderModel_takes rfl ⟨rfl, rfl⟩ ⟨Nat.le_of_ble_eq_true rfl, Nat.le_of_ble_eq_true rfl⟩ (rvW (q0 := 0) (ci := 1) E rfl rfl rfl) rfl (Nat.le_of_ble_eq_true rfl) d_SqlReaderModel_readDeed_38 fun r5 u6 _ => ?_
      refine Sm_if_eq (tgt := 84) E d_SqlReaderModel_readDeed_41 (by decide) (fun _ => ?_) (fun _ => ?_)
      · refine Sm_aload_n E d_SqlReaderModel_readDeed_84 rfl 0 rfl ?_
        refine Sm_ldcS_w E sr_SqlReaderModel_473 d_SqlReaderModel_readDeed_85 ?_
        refine Sm_cVI (As := [.ref (G.2.2.1 115)]) (b := (G.1 100)) (st := []) (n := 1) E exOk wM_as (fun _ h => cM_SqlReaderModel_takes 115 u6 h) gk_SqlReaderModel_421 dk_SqlReaderModel_takes rfl ⟨rfl, rfl⟩ ⟨Nat.le_of_ble_eq_true rfl, Nat.le_of_ble_eq_true rfl⟩ (rvW (q0 := 0) (ci := 1) E rfl rfl rfl) rfl (Nat.le_of_ble_eq_true rfl) d_SqlReaderModel_readDeed_88 fun r7 u8 _ => ?_
        refine Sm_if_eq (tgt := 107) E d_SqlReaderModel_readDeed_91 (by decide) (fun _ => ?_) (fun _ => ?_)
        · refine Sm_iconst (v := 0) E d_SqlReaderModel_readDeed_107 (by decide) ?_
          exact Sm_retZ hR (by decide) d_SqlReaderModel_readDeed_108
        · refine Sm_aload_n E d_SqlReaderModel_readDeed_94 rfl 0 rfl ?_
          refine Sm_bipush (v := 8) E d_SqlReaderModel_readDeed_95 (by decide) ?_
          refine pfM_0_what E fl_SqlReaderModel_140 d_SqlReaderModel_readDeed_97 fun u9 _ => ?_
          refine Sm_aload_n E d_SqlReaderModel_readDeed_100 rfl 0 rfl ?_
          refine Sm_cVV (As := []) (b := (G.1 100)) (st := []) (n := 0) E exOk wM_as (fun _ h => cM_SqlReaderModel_readQuery u9 h) gk_SqlReaderModel_475 dk_SqlReaderModel_readQuery rfl ⟨rfl, rfl⟩ ⟨Nat.le_of_ble_eq_true rfl, Nat.le_of_ble_eq_true rfl⟩ (rvW (q0 := 0) (ci := 1) E rfl rfl rfl) rfl (Nat.le_of_ble_eq_true rfl) d_SqlReaderModel_readDeed_101 fun u10 _ => ?_
          refine Sm_goto (tgt := 109) E d_SqlReaderModel_readDeed_104 (by decide) ?_
          refine Sm_iconst (v := 1) E d_SqlReaderModel_readDeed_109 (by decide) ?_
          exact Sm_retZ hR (by decide) d_SqlReaderModel_readDeed_110
      · refine Sm_aload_n E d_SqlReaderModel_readDeed_44 rfl 0 rfl ?_
        refine Sm_bipush (v := 7) E d_SqlReaderModel_readDeed_45 (by decide) ?_
        refine pfM_0_what E fl_SqlReaderModel_140 d_SqlReaderModel_readDeed_47 fun u11 _ => ?_
        refine Sm_aload_n E d_SqlReaderModel_readDeed_50 rfl 0 rfl ?_
        refine Sm_ldcS_w E sr_SqlReaderModel_427 d_SqlReaderModel_readDeed_51 ?_
        refine Sm_cVV (As := [.ref (G.2.2.1 82)]) (b := (G.1 100)) (st := []) (n := 1) E exOk wM_as (fun _ h => cM_SqlReaderModel_need 82 u11 h) gk_SqlReaderModel_450 dk_SqlReaderModel_need rfl ⟨rfl, rfl⟩ ⟨Nat.le_of_ble_eq_true rfl, Nat.le_of_ble_eq_true rfl⟩ (rvW (q0 := 0) (ci := 1) E rfl rfl rfl) rfl (Nat.le_of_ble_eq_true rfl) d_SqlReaderModel_readDeed_54 fun u12 _ => ?_
        refine Sm_aload_n E d_SqlReaderModel_readDeed_57 rfl 0 rfl ?_
        refine Sm_aload_n E d_SqlReaderModel_readDeed_58 rfl 0 rfl ?_
        refine Sm_cVI (As := []) (b := (G.1 100)) (st := [.ref (G.1 100)]) (n := 0) E exOk wM_as (fun _ h => cM_SqlReaderModel_needName u12 h) gk_SqlReaderModel_447 dk_SqlReaderModel_needName rfl ⟨rfl, rfl⟩ ⟨Nat.le_of_ble_eq_true rfl, Nat.le_of_ble_eq_true rfl⟩ (rvW (q0 := 0) (ci := 1) E rfl rfl rfl) rfl (Nat.le_of_ble_eq_true rfl) d_SqlReaderModel_readDeed_59 fun r13 u14 _ => ?_
        refine pfM_0_targetToken E fl_SqlReaderModel_149 d_SqlReaderModel_readDeed_62 fun u15 _ => ?_
        refine Sm_aload_n E d_SqlReaderModel_readDeed_65 rfl 0 rfl ?_
        refine Sm_aload_n E d_SqlReaderModel_readDeed_66 rfl 0 rfl ?_
        refine gfM_0_targetToken E fl_SqlReaderModel_149 d_SqlReaderModel_readDeed_67 ?_
        refine Sm_aload_n E d_SqlReaderModel_readDeed_70 rfl 0 rfl ?_
        refine gfM_0_targetToken E fl_SqlReaderModel_149 d_SqlReaderModel_readDeed_71 ?_
        refine Sm_cVV (As := [.int (u15.1 10), .int (u15.1 10)]) (b := (G.1 100)) (st := []) (n := 2) E exOk wM_as (fun _ h => cM_SqlReaderModel_from (u15.1 10) (u15.1 10) u15 h) gk_SqlReaderModel_478 dk_SqlReaderModel_from rfl ⟨rfl, rfl⟩ ⟨Nat.le_of_ble_eq_true rfl, Nat.le_of_ble_eq_true rfl⟩ (rvW (q0 := 0) (ci := 1) E rfl rfl rfl) rfl (Nat.le_of_ble_eq_true rfl) d_SqlReaderModel_readDeed_74 fun u16 _ => ?_
        refine Sm_aload_n E d_SqlReaderModel_readDeed_77 rfl 0 rfl ?_
        refine Sm_cVV (As := []) (b := (G.1 100)) (st := []) (n := 0) E exOk wM_as (fun _ h => cM_SqlReaderModel_readWhere u16 h) gk_SqlReaderModel_483 dk_SqlReaderModel_readWhere rfl ⟨rfl, rfl⟩ ⟨Nat.le_of_ble_eq_true rfl, Nat.le_of_ble_eq_true rfl⟩ (rvW (q0 := 0) (ci := 1) E rfl rfl rfl) rfl (Nat.le_of_ble_eq_true rfl) d_SqlReaderModel_readDeed_78 fun u17 _ => ?_
        refine Sm_goto (tgt := 109) E d_SqlReaderModel_readDeed_81 (by decide) ?_
        refine Sm_iconst (v := 1) E d_SqlReaderModel_readDeed_109 (by decide) ?_
        exact Sm_retZ hR (by decide) d_SqlReaderModel_readDeed_110
    · refine Sm_aload_n E d_SqlReaderModel_readDeed_27 rfl 0 rfl ?_
      refine Sm_cVV (As := []) (b := (G.1 100)) (st := []) (n := 0) E exOk wM_as (fun _ h => cM_SqlReaderModel_readUpdate u4 h) gk_SqlReaderModel_530 dk_SqlReaderModel_readUpdate rfl ⟨rfl, rfl⟩ ⟨Nat.le_of_ble_eq_true rfl, Nat.le_of_ble_eq_true rfl⟩ (rvW (q0 := 0) (ci := 1) E rfl rfl rfl) rfl (Nat.le_of_ble_eq_true rfl) d_SqlReaderModel_readDeed_28 fun u18 _ => ?_
      refine Sm_goto (tgt := 109) E d_SqlReaderModel_readDeed_31 (by decide) ?_
      refine Sm_iconst (v := 1) E d_SqlReaderModel_readDeed_109 (by decide) ?_
      exact Sm_retZ hR (by decide) d_SqlReaderModel_readDeed_110
  · refine Sm_aload_n E d_SqlReaderModel_readDeed_10 rfl 0 rfl ?_
    refine Sm_cVV (As := []) (b := (G.1 100)) (st := []) (n := 0) E exOk wM_as (fun _ h => cM_SqlReaderModel_readInsert u2 h) gk_SqlReaderModel_527 dk_SqlReaderModel_readInsert rfl ⟨rfl, rfl⟩ ⟨Nat.le_of_ble_eq_true rfl, Nat.le_of_ble_eq_true rfl⟩ (rvW (q0 := 0) (ci := 1) E rfl rfl rfl) rfl (Nat.le_of_ble_eq_true rfl) d_SqlReaderModel_readDeed_11 fun u19 _ => ?_
    refine Sm_goto (tgt := 109) E d_SqlReaderModel_readDeed_14 (by decide) ?_
    refine Sm_iconst (v := 1) E d_SqlReaderModel_readDeed_109 (by decide) ?_
    exact Sm_retZ hR (by decide) d_SqlReaderModel_readDeed_110
set_option maxRecDepth 100000 in
set_option maxHeartbeats 4000000 in
theorem tM_SqlReaderModel_readCreate_J168 {X : Cx} {G : Gx} {res : St} (E : EM X G prog_11_method_48_code R_SqlReaderModel 3 { frames := 7, cells := 0, slots := 0, locals := 152 }) (hR : RtV X vwCl (wM G) prog_11_method_48_code res) {q32 : Int32 → St → Option (St)} (h32 : ∀ (x1 : Int32) (u : St), SM X G 3 res (q32 x1 u) u 32 [(0, .ref (G.1 100)), (1, .int x1)] []) : ∀ (s1 : Int32) (s2 : Int32) (u : St), SM X G 3 res (mM_SqlReaderModel_readCreate_J168 q32 s1 s2 u) u 168 [(0, .ref (G.1 100))] [.int s2, .int s1, .ref (G.1 135)] := by
  intro s1 s2 u
  rw [mM_SqlReaderModel_readCreate_J168]
  refine Sm_gd fun hi => stM_35 E (inb_in hi) d_SqlReaderModel_readCreate_168 fun u39 _ => ?_
  refine Sm_aload_n E d_SqlReaderModel_readCreate_169 rfl 0 rfl ?_
  refine Sm_dup E d_SqlReaderModel_readCreate_170 rfl ?_
  refine gfM_0_columns E fl_SqlReaderModel_198 d_SqlReaderModel_readCreate_171 ?_
  refine Sm_iconst (v := 1) E d_SqlReaderModel_readCreate_174 (by decide) ?_
  refine Sm_iadd E d_SqlReaderModel_readCreate_175 ?_
  refine pfM_0_columns E fl_SqlReaderModel_198 d_SqlReaderModel_readCreate_176 fun u40 _ => ?_
  refine Sm_aload_n E d_SqlReaderModel_readCreate_179 rfl 0 rfl ?_
  refine Sm_ldcS_w E sr_SqlReaderModel_387 d_SqlReaderModel_readCreate_180 ?_
  refine Sm_cVI (As := [.ref (G.2.2.1 80)]) (b := (G.1 100)) (st := []) (n := 1) E exOk wM_as (fun _ h => cM_SqlReaderModel_takes 80 u40 h) gk_SqlReaderModel_421 dk_SqlReaderModel_takes rfl ⟨rfl, rfl⟩ ⟨Nat.le_of_ble_eq_true rfl, Nat.le_of_ble_eq_true rfl⟩ (rvW (q0 := 0) (ci := 1) E rfl rfl rfl) rfl (Nat.le_of_ble_eq_true rfl) d_SqlReaderModel_readCreate_183 fun r41 u42 _ => ?_
  refine Sm_istore_n (lv' := [(1, .int r41), (0, .ref (G.1 100))]) E d_SqlReaderModel_readCreate_186 rfl (by decide) rfl ?_
  refine Sm_goto (tgt := 32) E d_SqlReaderModel_readCreate_187 (by decide) ?_
  exact Sm_sub [1, 0] rfl (h32 _ _)
