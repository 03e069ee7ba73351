set_option maxRecDepth 100000 in
set_option maxHeartbeats 4000000 in
theorem tM_SqlReaderModel_spread_L66 {X : Cx} {G : Gx} {res : Int32 × St} (E : EM X G prog_11_method_77_code R_SqlReaderModel 5 { frames := 2, cells := 0, slots := 0, locals := 46 }) (hR : RtI X vwCl (wM G) prog_11_method_77_code res) {q56 : Int32 → St → Option (Int32 × St)} (h56 : ∀ (x2 : Int32) (u : St), SM X G 5 res (q56 x2 u) u 56 [(0, .ref (G.1 100)), (2, .int x2)] []) : ∀ (n : Nat) (x2 : Int32) (x3 : Int32) (u : St), SM X G 5 res (mM_SqlReaderModel_spread_L66 q56 n x2 x3 u) u 66 [(0, .ref (G.1 100)), (2, .int x2), (3, .int x3)] [] := by
  intro n
  induction n with
  | zero => intro x2 x3 u; exact Sm_none
  | succ n h66 =>
    intro x2 x3 u
    rw [mM_SqlReaderModel_spread_L66]
    refine Sm_iload_n E d_SqlReaderModel_spread_66 rfl 2 rfl ?_
    refine Sm_aload_n E d_SqlReaderModel_spread_67 rfl 0 rfl ?_
    refine gfM_0_width E fl_SqlReaderModel_29 d_SqlReaderModel_spread_68 ?_
    refine Sm_aload_n E d_SqlReaderModel_spread_71 rfl 0 rfl ?_
    refine gfM_0_fromTable E fl_SqlReaderModel_91 d_SqlReaderModel_spread_72 ?_
    refine Sm_iload_n E d_SqlReaderModel_spread_75 rfl 1 rfl ?_
    refine Sm_gd fun hi => ldM_27 E (inb_in hi) d_SqlReaderModel_spread_76 ?_
    refine Sm_gd fun hi => ldM_7 E (inb_in hi) d_SqlReaderModel_spread_77 ?_
    refine Sm_icmp_ge (tgt := 140) E d_SqlReaderModel_spread_78 (by decide) (fun _ => ?_) (fun _ => ?_)
    · refine Sm_iinc (k := 1) (d := 1) E d_SqlReaderModel_spread_140 rfl rfl (by decide) fun y1 _ => Sm_lvs (lv' := [(2, .int y1), (0, .ref (G.1 100)), (3, .int x3)]) rfl ?_
      refine Sm_goto (tgt := 56) E d_SqlReaderModel_spread_143 (by decide) ?_
      exact Sm_sub [1, 0] rfl (h56 _ _)
    · refine Sm_aload_n E d_SqlReaderModel_spread_81 rfl 0 rfl ?_
      refine Sm_iconst (v := 4) E d_SqlReaderModel_spread_82 (by decide) ?_
      refine Sm_iload_n E d_SqlReaderModel_spread_83 rfl 1 rfl ?_
      refine Sm_iload_n E d_SqlReaderModel_spread_84 rfl 2 rfl ?_
      refine Sm_cVI (As := [.int 4, .int x2, .int x3]) (b := (G.1 100)) (st := []) (n := 3) E exOk wM_as (fun _ h => cM_SqlReaderModel_add 4 x2 x3 u h) gk_SqlReaderModel_287 dk_SqlReaderModel_add rfl ⟨rfl, rfl⟩ ⟨Nat.le_of_ble_eq_true rfl, Nat.le_of_ble_eq_true rfl⟩ (rvW (q0 := 0) (ci := 1) E rfl rfl rfl) rfl (Nat.le_of_ble_eq_true rfl) d_SqlReaderModel_spread_85 fun r2 u3 _ => ?_
      refine Sm_istore (lv' := [(4, .int r2), (0, .ref (G.1 100)), (2, .int x2), (3, .int x3)]) E d_SqlReaderModel_spread_88 (by decide) rfl ?_
      refine Sm_aload_n E d_SqlReaderModel_spread_90 rfl 1 rfl ?_
      refine gfM_0_type E fl_SqlReaderModel_50 d_SqlReaderModel_spread_91 ?_
      refine Sm_iload E d_SqlReaderModel_spread_94 0 rfl ?_
      refine Sm_aload_n E d_SqlReaderModel_spread_96 rfl 1 rfl ?_
      refine gfM_0_columnType E fl_SqlReaderModel_38 d_SqlReaderModel_spread_97 ?_
      refine Sm_bipush (v := 8) E d_SqlReaderModel_spread_100 (by decide) ?_
      refine Sm_aload_n E d_SqlReaderModel_spread_102 rfl 1 rfl ?_
      refine gfM_0_fromTable E fl_SqlReaderModel_91 d_SqlReaderModel_spread_103 ?_
      refine Sm_iload_n E d_SqlReaderModel_spread_106 rfl 2 rfl ?_
      refine Sm_gd fun hi => ldM_27 E (inb_in hi) d_SqlReaderModel_spread_107 ?_
      refine Sm_imul E d_SqlReaderModel_spread_108 ?_
      refine Sm_iload_n E d_SqlReaderModel_spread_109 rfl 3 rfl ?_
      refine Sm_iadd E d_SqlReaderModel_spread_110 ?_
      refine Sm_gd fun hi => ldM_10 E (inb_in hi) d_SqlReaderModel_spread_111 ?_
      refine Sm_gd fun hi => stM_14 E (inb_in hi) d_SqlReaderModel_spread_112 fun u4 _ => ?_
      refine Sm_aload_n E d_SqlReaderModel_spread_113 rfl 1 rfl ?_
      refine gfM_0_item E fl_SqlReaderModel_78 d_SqlReaderModel_spread_114 ?_
      refine Sm_aload_n E d_SqlReaderModel_spread_117 rfl 1 rfl ?_
      refine gfM_0_items E fl_SqlReaderModel_174 d_SqlReaderModel_spread_118 ?_
      refine Sm_iload E d_SqlReaderModel_spread_121 0 rfl ?_
      refine Sm_gd fun hi => stM_23 E (inb_in hi) d_SqlReaderModel_spread_123 fun u5 _ => ?_
      refine Sm_aload_n E d_SqlReaderModel_spread_124 rfl 1 rfl ?_
      refine Sm_dup E d_SqlReaderModel_spread_125 rfl ?_
      refine gfM_0_items E fl_SqlReaderModel_174 d_SqlReaderModel_spread_126 ?_
      refine Sm_iconst (v := 1) E d_SqlReaderModel_spread_129 (by decide) ?_
      refine Sm_iadd E d_SqlReaderModel_spread_130 ?_
      refine pfM_0_items E fl_SqlReaderModel_174 d_SqlReaderModel_spread_131 fun u6 _ => ?_
      refine Sm_iinc (k := 3) (d := 1) E d_SqlReaderModel_spread_134 rfl rfl (by decide) fun y7 _ => Sm_lvs (lv' := [(3, .int y7), (4, .int r2), (0, .ref (G.1 100)), (2, .int x2)]) rfl ?_
      refine Sm_goto (tgt := 66) E d_SqlReaderModel_spread_137 (by decide) ?_
      exact Sm_sub [2, 3, 0] rfl (h66 _ _ _)
set_option maxRecDepth 100000 in
set_option maxHeartbeats 4000000 in
theorem tM_SqlReaderModel_spread_L56 {X : Cx} {G : Gx} {res : Int32 × St} (E : EM X G prog_11_method_77_code R_SqlReaderModel 5 { frames := 2, cells := 0, slots := 0, locals := 46 }) (hR : RtI X vwCl (wM G) prog_11_method_77_code res) : ∀ (n : Nat) (x2 : Int32) (u : St), SM X G 5 res (mM_SqlReaderModel_spread_L56 n x2 u) u 56 [(0, .ref (G.1 100)), (2, .int x2)] [] := by
  intro n
  induction n with
  | zero => intro x2 u; exact Sm_none
  | succ n h56 =>
    intro x2 u
    rw [mM_SqlReaderModel_spread_L56]
    refine Sm_iload_n E d_SqlReaderModel_spread_56 rfl 1 rfl ?_
    refine Sm_aload_n E d_SqlReaderModel_spread_57 rfl 0 rfl ?_
    refine gfM_0_froms E fl_SqlReaderModel_183 d_SqlReaderModel_spread_58 ?_
    refine Sm_icmp_ge (tgt := 146) E d_SqlReaderModel_spread_61 (by decide) (fun _ => ?_) (fun _ => ?_)
    · refine Sm_iconst (v := 0) E d_SqlReaderModel_spread_146 (by decide) ?_
      exact Sm_retI hR d_SqlReaderModel_spread_147
    · refine Sm_iconst (v := 0) E d_SqlReaderModel_spread_64 (by decide) ?_
      refine Sm_istore_n (lv' := [(3, .int 0), (0, .ref (G.1 100)), (2, .int x2)]) E d_SqlReaderModel_spread_65 rfl (by decide) rfl ?_
      exact Sm_sub [1, 2, 0] rfl (tM_SqlReaderModel_spread_L66 E hR h56 FU _ _ _)
set_option maxRecDepth 100000 in
set_option maxHeartbeats 4000000 in
theorem tM_SqlReaderModel_spread_L4 {X : Cx} {G : Gx} {res : Int32 × St} (E : EM X G prog_11_method_77_code R_SqlReaderModel 5 { frames := 2, cells := 0, slots := 0, locals := 46 }) (hR : RtI X vwCl (wM G) prog_11_method_77_code res) : ∀ (n : Nat) (x1 : Int32) (x2 : Int32) (u : St), SM X G 5 res (mM_SqlReaderModel_spread_L4 n x1 x2 u) u 4 [(0, .ref (G.1 100)), (1, .int x1), (2, .int x2)] [] := by
  intro n
  induction n with
  | zero => intro x1 x2 u; exact Sm_none
  | succ n h4 =>
    intro x1 x2 u
    rw [mM_SqlReaderModel_spread_L4]
    refine Sm_iload_n E d_SqlReaderModel_spread_4 rfl 2 rfl ?_
    refine Sm_aload_n E d_SqlReaderModel_spread_5 rfl 0 rfl ?_
    refine gfM_0_froms E fl_SqlReaderModel_183 d_SqlReaderModel_spread_6 ?_
    refine Sm_icmp_ge (tgt := 32) E d_SqlReaderModel_spread_9 (by decide) (fun _ => ?_) (fun _ => ?_)
    · refine Sm_iload_n E d_SqlReaderModel_spread_32 rfl 1 rfl ?_
      refine Sm_bipush (v := 8) E d_SqlReaderModel_spread_33 (by decide) ?_
      refine Sm_icmp_le (tgt := 40) E d_SqlReaderModel_spread_35 (by decide) (fun _ => ?_) (fun _ => ?_)
      · refine Sm_aload_n E d_SqlReaderModel_spread_40 rfl 0 rfl ?_
        refine gfM_0_nodes E fl_SqlReaderModel_133 d_SqlReaderModel_spread_41 ?_
        refine Sm_iload_n E d_SqlReaderModel_spread_44 rfl 1 rfl ?_
        refine Sm_iadd E d_SqlReaderModel_spread_45 ?_
        refine Sm_sipush (v := 200) E d_SqlReaderModel_spread_46 (by decide) ?_
        refine Sm_icmp_le (tgt := 54) E d_SqlReaderModel_spread_49 (by decide) (fun _ => ?_) (fun _ => ?_)
        · refine Sm_iconst (v := 0) E d_SqlReaderModel_spread_54 (by decide) ?_
          refine Sm_istore_n (lv' := [(2, .int 0), (0, .ref (G.1 100)), (1, .int x1)]) E d_SqlReaderModel_spread_55 rfl (by decide) rfl ?_
          exact Sm_sub [1, 0] rfl (tM_SqlReaderModel_spread_L56 E hR FU _ _)
        · refine Sm_iconst (v := 2) E d_SqlReaderModel_spread_52 (by decide) ?_
          exact Sm_retI hR d_SqlReaderModel_spread_53
      · refine Sm_iconst (v := 3) E d_SqlReaderModel_spread_38 (by decide) ?_
        exact Sm_retI hR d_SqlReaderModel_spread_39
    · refine Sm_iload_n E d_SqlReaderModel_spread_12 rfl 1 rfl ?_
      refine Sm_aload_n E d_SqlReaderModel_spread_13 rfl 0 rfl ?_
      refine gfM_0_width E fl_SqlReaderModel_29 d_SqlReaderModel_spread_14 ?_
      refine Sm_aload_n E d_SqlReaderModel_spread_17 rfl 0 rfl ?_
      refine gfM_0_fromTable E fl_SqlReaderModel_91 d_SqlReaderModel_spread_18 ?_
      refine Sm_iload_n E d_SqlReaderModel_spread_21 rfl 2 rfl ?_
      refine Sm_gd fun hi => ldM_27 E (inb_in hi) d_SqlReaderModel_spread_22 ?_
      refine Sm_gd fun hi => ldM_7 E (inb_in hi) d_SqlReaderModel_spread_23 ?_
      refine Sm_iadd E d_SqlReaderModel_spread_24 ?_
      refine Sm_leti fun y8 _ => ?_
      refine Sm_istore_n (lv' := [(1, .int y8), (0, .ref (G.1 100)), (2, .int x2)]) E d_SqlReaderModel_spread_25 rfl (by decide) rfl ?_
      refine Sm_iinc (k := 2) (d := 1) E d_SqlReaderModel_spread_26 rfl rfl (by decide) fun y9 _ => Sm_lvs (lv' := [(2, .int y9), (1, .int y8), (0, .ref (G.1 100))]) rfl ?_
      refine Sm_goto (tgt := 4) E d_SqlReaderModel_spread_29 (by decide) ?_
      exact Sm_sub [2, 1, 0] rfl (h4 _ _ _)
set_option maxRecDepth 100000 in
set_option maxHeartbeats 4000000 in
theorem cM_SqlReaderModel_spread {l : Launch} {D : va_G} {G : Gx} (u : St) {res : Int32 × St} (hm : mM_SqlReaderModel_spread u = some res) : KM l D G y_SqlReaderModel_spread (.code y_SqlReaderModel_spread prog_11_method_77_code 5 (some .int)) { frames := 2, cells := 0, slots := 0, locals := 46 } [.ref (G.1 100)] u (qI D vwCl (wM G) (tyW G) (adsM G) res) := by
  refine Ct_I (by decide) wM_as (Nat.le_of_ble_eq_true rfl) hm (fun X _ _ E hR => ?_)
  refine Sm_lvs (lv' := [(0, .ref (G.1 100))]) rfl ?_
  rw [mM_SqlReaderModel_spread]
  refine Sm_iconst (v := 0) E d_SqlReaderModel_spread_0 (by decide) ?_
  refine Sm_istore_n (lv' := [(1, .int 0), (0, .ref (G.1 100))]) E d_SqlReaderModel_spread_1 rfl (by decide) rfl ?_
  refine Sm_iconst (v := 0) E d_SqlReaderModel_spread_2 (by decide) ?_
  refine Sm_istore_n (lv' := [(2, .int 0), (1, .int 0), (0, .ref (G.1 100))]) E d_SqlReaderModel_spread_3 rfl (by decide) rfl ?_
  exact Sm_sub [2, 1, 0] rfl (tM_SqlReaderModel_spread_L4 E hR FU _ _ _)
set_option maxRecDepth 100000 in
set_option maxHeartbeats 4000000 in
theorem tM_SqlReaderModel_counts_L171 {X : Cx} {G : Gx} {res : Int32} {u : St} (E : EM X G prog_11_method_78_code R_SqlReaderModel 4 { frames := 1, cells := 0, slots := 0, locals := 24 }) (hR : RtZ X vwCl (wM G) prog_11_method_78_code .boolean (res, u)) {q161 : Int32 → Int32 → St → Option (Int32)} (h161 : ∀ (x1 : Int32) (x2 : Int32) , SM X G 4 res (q161 x1 x2 u) u 161 [(0, .ref (G.1 100)), (1, .int x1), (2, .int x2)] []) : ∀ (n : Nat) (x1 : Int32) (x2 : Int32) (x3 : Int32) , SM X G 4 res (mM_SqlReaderModel_counts_L171 q161 n x1 x2 x3 u) u 171 [(0, .ref (G.1 100)), (1, .int x1), (2, .int x2), (3, .int x3)] [] := by
  intro n
  induction n with
  | zero => intro x1 x2 x3; exact Sm_none
  | succ n h171 =>
    intro x1 x2 x3
    rw [mM_SqlReaderModel_counts_L171]
    refine Sm_iload_n E d_SqlReaderModel_counts_171 rfl 3 rfl ?_
    refine Sm_iload_n E d_SqlReaderModel_counts_172 rfl 2 rfl ?_
    refine Sm_icmp_ge (tgt := 211) E d_SqlReaderModel_counts_173 (by decide) (fun _ => ?_) (fun _ => ?_)
    · refine Sm_iinc (k := 2) (d := 1) E d_SqlReaderModel_counts_211 rfl rfl (by decide) fun y1 _ => Sm_lvs (lv' := [(2, .int y1), (0, .ref (G.1 100)), (1, .int x1), (3, .int x3)]) rfl ?_
      refine Sm_goto (tgt := 161) E d_SqlReaderModel_counts_214 (by decide) ?_
      exact Sm_sub [1, 2, 0] rfl (h161 _ _)
    · refine Sm_iload_n E d_SqlReaderModel_counts_176 rfl 1 rfl ?_
      refine Sm_if_eq (tgt := 203) E d_SqlReaderModel_counts_177 (by decide) (fun _ => ?_) (fun _ => ?_)
      · refine Sm_iconst (v := 0) E d_SqlReaderModel_counts_203 (by decide) ?_
        refine Sm_istore_n (lv' := [(1, .int 0), (0, .ref (G.1 100)), (2, .int x2), (3, .int x3)]) E d_SqlReaderModel_counts_204 rfl (by decide) rfl ?_
        refine Sm_iinc (k := 3) (d := 1) E d_SqlReaderModel_counts_205 rfl rfl (by decide) fun y2 _ => Sm_lvs (lv' := [(3, .int y2), (1, .int 0), (0, .ref (G.1 100)), (2, .int x2)]) rfl ?_
        refine Sm_goto (tgt := 171) E d_SqlReaderModel_counts_208 (by decide) ?_
        exact Sm_sub [2, 1, 3, 0] rfl (h171 _ _ _)
      · refine Sm_aload_n E d_SqlReaderModel_counts_180 rfl 0 rfl ?_
        refine Sm_aload_n E d_SqlReaderModel_counts_181 rfl 0 rfl ?_
        refine gfM_0_newToken E fl_SqlReaderModel_112 d_SqlReaderModel_counts_182 ?_
        refine Sm_iload_n E d_SqlReaderModel_counts_185 rfl 2 rfl ?_
        refine Sm_gd fun hi => ldM_34 E (inb_in hi) d_SqlReaderModel_counts_186 ?_
        refine Sm_aload_n E d_SqlReaderModel_counts_187 rfl 0 rfl ?_
        refine gfM_0_newToken E fl_SqlReaderModel_112 d_SqlReaderModel_counts_188 ?_
        refine Sm_iload_n E d_SqlReaderModel_counts_191 rfl 3 rfl ?_
        refine Sm_gd fun hi => ldM_34 E (inb_in hi) d_SqlReaderModel_counts_192 ?_
        refine Sm_cVi (As := [.int (ga u 31 x2), .int (ga u 31 x3)]) (b := (G.1 100)) (st := []) (n := 2) E exOk wM_as (fun _ h => cM_SqlReaderModel_sameToken (ga u 31 x2) (ga u 31 x3) u h) gk_SqlReaderModel_585 dk_SqlReaderModel_sameToken rfl ⟨rfl, rfl⟩ ⟨Nat.le_of_ble_eq_true rfl, Nat.le_of_ble_eq_true rfl⟩ (rvW (q0 := 0) (ci := 1) E rfl rfl rfl) rfl (Nat.le_of_ble_eq_true rfl) d_SqlReaderModel_counts_193 fun r3 _ => ?_
        refine Sm_if_ne (tgt := 203) E d_SqlReaderModel_counts_196 (by decide) (fun _ => ?_) (fun _ => ?_)
        · refine Sm_iconst (v := 0) E d_SqlReaderModel_counts_203 (by decide) ?_
          refine Sm_istore_n (lv' := [(1, .int 0), (0, .ref (G.1 100)), (2, .int x2), (3, .int x3)]) E d_SqlReaderModel_counts_204 rfl (by decide) rfl ?_
          refine Sm_iinc (k := 3) (d := 1) E d_SqlReaderModel_counts_205 rfl rfl (by decide) fun y4 _ => Sm_lvs (lv' := [(3, .int y4), (1, .int 0), (0, .ref (G.1 100)), (2, .int x2)]) rfl ?_
          refine Sm_goto (tgt := 171) E d_SqlReaderModel_counts_208 (by decide) ?_
          exact Sm_sub [2, 1, 3, 0] rfl (h171 _ _ _)
        · refine Sm_iconst (v := 1) E d_SqlReaderModel_counts_199 (by decide) ?_
          refine Sm_goto (tgt := 204) E d_SqlReaderModel_counts_200 (by decide) ?_
          refine Sm_istore_n (lv' := [(1, .int 1), (0, .ref (G.1 100)), (2, .int x2), (3, .int x3)]) E d_SqlReaderModel_counts_204 rfl (by decide) rfl ?_
          refine Sm_iinc (k := 3) (d := 1) E d_SqlReaderModel_counts_205 rfl rfl (by decide) fun y5 _ => Sm_lvs (lv' := [(3, .int y5), (1, .int 1), (0, .ref (G.1 100)), (2, .int x2)]) rfl ?_
          refine Sm_goto (tgt := 171) E d_SqlReaderModel_counts_208 (by decide) ?_
          exact Sm_sub [2, 1, 3, 0] rfl (h171 _ _ _)
set_option maxRecDepth 100000 in
set_option maxHeartbeats 4000000 in
theorem tM_SqlReaderModel_counts_L161 {X : Cx} {G : Gx} {res : Int32} {u : St} (E : EM X G prog_11_method_78_code R_SqlReaderModel 4 { frames := 1, cells := 0, slots := 0, locals := 24 }) (hR : RtZ X vwCl (wM G) prog_11_method_78_code .boolean (res, u)) : ∀ (n : Nat) (x1 : Int32) (x2 : Int32) , SM X G 4 res (mM_SqlReaderModel_counts_L161 n x1 x2 u) u 161 [(0, .ref (G.1 100)), (1, .int x1), (2, .int x2)] [] := by
  intro n
  induction n with
  | zero => intro x1 x2; exact Sm_none
  | succ n h161 =>
    intro x1 x2
    rw [mM_SqlReaderModel_counts_L161]
    refine Sm_iload_n E d_SqlReaderModel_counts_161 rfl 2 rfl ?_
    refine Sm_aload_n E d_SqlReaderModel_counts_162 rfl 0 rfl ?_
    refine gfM_0_columns E fl_SqlReaderModel_198 d_SqlReaderModel_counts_163 ?_
    refine Sm_icmp_ge (tgt := 217) E d_SqlReaderModel_counts_166 (by decide) (fun _ => ?_) (fun _ => ?_)
    · refine Sm_iload_n E d_SqlReaderModel_counts_217 rfl 1 rfl ?_
      exact Sm_gd fun hz => Sm_retz hR (zb_n hz) d_SqlReaderModel_counts_218
    · refine Sm_iconst (v := 0) E d_SqlReaderModel_counts_169 (by decide) ?_
      refine Sm_istore_n (lv' := [(3, .int 0), (0, .ref (G.1 100)), (1, .int x1), (2, .int x2)]) E d_SqlReaderModel_counts_170 rfl (by decide) rfl ?_
      exact Sm_sub [1, 2, 3, 0] rfl (tM_SqlReaderModel_counts_L171 E hR h161 FU _ _ _)
set_option maxRecDepth 100000 in
set_option maxHeartbeats 4000000 in
theorem tM_SqlReaderModel_counts_L109 {X : Cx} {G : Gx} {res : Int32} {u : St} (E : EM X G prog_11_method_78_code R_SqlReaderModel 4 { frames := 1, cells := 0, slots := 0, locals := 24 }) (hR : RtZ X vwCl (wM G) prog_11_method_78_code .boolean (res, u)) : ∀ (n : Nat) (x1 : Int32) (x2 : Int32) , SM X G 4 res (mM_SqlReaderModel_counts_L109 n x1 x2 u) u 109 [(0, .ref (G.1 100)), (1, .int x1), (2, .int x2)] [] := by
  intro n
  induction n with
  | zero => intro x1 x2; exact Sm_none
  | succ n h109 =>
    intro x1 x2
    rw [mM_SqlReaderModel_counts_L109]
    refine Sm_iload_n E d_SqlReaderModel_counts_109 rfl 2 rfl ?_
    refine Sm_aload_n E d_SqlReaderModel_counts_110 rfl 0 rfl ?_
    refine gfM_0_orders E fl_SqlReaderModel_180 d_SqlReaderModel_counts_111 ?_
    refine Sm_icmp_ge (tgt := 159) E d_SqlReaderModel_counts_114 (by decide) (fun _ => ?_) (fun _ => ?_)
    · refine Sm_iconst (v := 0) E d_SqlReaderModel_counts_159 (by decide) ?_
      refine Sm_istore_n (lv' := [(2, .int 0), (0, .ref (G.1 100)), (1, .int x1)]) E d_SqlReaderModel_counts_160 rfl (by decide) rfl ?_
      exact Sm_sub [1, 2, 0] rfl (tM_SqlReaderModel_counts_L161 E hR FU _ _)
    · refine Sm_iload_n E d_SqlReaderModel_counts_117 rfl 1 rfl ?_
      refine Sm_if_eq (tgt := 151) E d_SqlReaderModel_counts_118 (by decide) (fun _ => ?_) (fun _ => ?_)
      · refine Sm_iconst (v := 0) E d_SqlReaderModel_counts_151 (by decide) ?_
        refine Sm_istore_n (lv' := [(1, .int 0), (0, .ref (G.1 100)), (2, .int x2)]) E d_SqlReaderModel_counts_152 rfl (by decide) rfl ?_
        refine Sm_iinc (k := 2) (d := 1) E d_SqlReaderModel_counts_153 rfl rfl (by decide) fun y6 _ => Sm_lvs (lv' := [(2, .int y6), (1, .int 0), (0, .ref (G.1 100))]) rfl ?_
        refine Sm_goto (tgt := 109) E d_SqlReaderModel_counts_156 (by decide) ?_
        exact Sm_sub [2, 1, 0] rfl (h109 _ _)
      · refine Sm_aload_n E d_SqlReaderModel_counts_121 rfl 0 rfl ?_
        refine gfM_0_order E fl_SqlReaderModel_84 d_SqlReaderModel_counts_122 ?_
        refine Sm_iload_n E d_SqlReaderModel_counts_125 rfl 2 rfl ?_
        refine Sm_gd fun hi => ldM_25 E (inb_in hi) d_SqlReaderModel_counts_126 ?_
        refine Sm_lconst (v := 1) E d_SqlReaderModel_counts_127 (by decide) ?_
        refine Sm_lcmp E d_SqlReaderModel_counts_128 ?_
        refine Sm_if_lt (tgt := 151) E d_SqlReaderModel_counts_129 (by decide) (fun _ => ?_) (fun _ => ?_)
        · refine Sm_iconst (v := 0) E d_SqlReaderModel_counts_151 (by decide) ?_
          refine Sm_istore_n (lv' := [(1, .int 0), (0, .ref (G.1 100)), (2, .int x2)]) E d_SqlReaderModel_counts_152 rfl (by decide) rfl ?_
          refine Sm_iinc (k := 2) (d := 1) E d_SqlReaderModel_counts_153 rfl rfl (by decide) fun y7 _ => Sm_lvs (lv' := [(2, .int y7), (1, .int 0), (0, .ref (G.1 100))]) rfl ?_
          refine Sm_goto (tgt := 109) E d_SqlReaderModel_counts_156 (by decide) ?_
          exact Sm_sub [2, 1, 0] rfl (h109 _ _)
        · refine Sm_aload_n E d_SqlReaderModel_counts_132 rfl 0 rfl ?_
          refine gfM_0_order E fl_SqlReaderModel_84 d_SqlReaderModel_counts_133 ?_
          refine Sm_iload_n E d_SqlReaderModel_counts_136 rfl 2 rfl ?_
          refine Sm_gd fun hi => ldM_25 E (inb_in hi) d_SqlReaderModel_counts_137 ?_
          refine Sm_aload_n E d_SqlReaderModel_counts_138 rfl 0 rfl ?_
          refine gfM_0_items E fl_SqlReaderModel_174 d_SqlReaderModel_counts_139 ?_
          refine Sm_i2l E d_SqlReaderModel_counts_142 ?_
          refine Sm_lcmp E d_SqlReaderModel_counts_143 ?_
          refine Sm_if_gt (tgt := 151) E d_SqlReaderModel_counts_144 (by decide) (fun _ => ?_) (fun _ => ?_)
          · refine Sm_iconst (v := 0) E d_SqlReaderModel_counts_151 (by decide) ?_
            refine Sm_istore_n (lv' := [(1, .int 0), (0, .ref (G.1 100)), (2, .int x2)]) E d_SqlReaderModel_counts_152 rfl (by decide) rfl ?_
            refine Sm_iinc (k := 2) (d := 1) E d_SqlReaderModel_counts_153 rfl rfl (by decide) fun y8 _ => Sm_lvs (lv' := [(2, .int y8), (1, .int 0), (0, .ref (G.1 100))]) rfl ?_
            refine Sm_goto (tgt := 109) E d_SqlReaderModel_counts_156 (by decide) ?_
            exact Sm_sub [2, 1, 0] rfl (h109 _ _)
          · refine Sm_iconst (v := 1) E d_SqlReaderModel_counts_147 (by decide) ?_
            refine Sm_goto (tgt := 152) E d_SqlReaderModel_counts_148 (by decide) ?_
            refine Sm_istore_n (lv' := [(1, .int 1), (0, .ref (G.1 100)), (2, .int x2)]) E d_SqlReaderModel_counts_152 rfl (by decide) rfl ?_
            refine Sm_iinc (k := 2) (d := 1) E d_SqlReaderModel_counts_153 rfl rfl (by decide) fun y9 _ => Sm_lvs (lv' := [(2, .int y9), (1, .int 1), (0, .ref (G.1 100))]) rfl ?_
            refine Sm_goto (tgt := 109) E d_SqlReaderModel_counts_156 (by decide) ?_
            exact Sm_sub [2, 1, 0] rfl (h109 _ _)
set_option maxRecDepth 100000 in
set_option maxHeartbeats 4000000 in
theorem tM_SqlReaderModel_counts_L65 {X : Cx} {G : Gx} {res : Int32} {u : St} (E : EM X G prog_11_method_78_code R_SqlReaderModel 4 { frames := 1, cells := 0, slots := 0, locals := 24 }) (hR : RtZ X vwCl (wM G) prog_11_method_78_code .boolean (res, u)) {q55 : Int32 → Int32 → St → Option (Int32)} (h55 : ∀ (x1 : Int32) (x2 : Int32) , SM X G 4 res (q55 x1 x2 u) u 55 [(0, .ref (G.1 100)), (1, .int x1), (2, .int x2)] []) : ∀ (n : Nat) (x1 : Int32) (x2 : Int32) (x3 : Int32) , SM X G 4 res (mM_SqlReaderModel_counts_L65 q55 n x1 x2 x3 u) u 65 [(0, .ref (G.1 100)), (1, .int x1), (2, .int x2), (3, .int x3)] [] := by
  intro n
  induction n with
  | zero => intro x1 x2 x3; exact Sm_none
  | succ n h65 =>
    intro x1 x2 x3
    rw [mM_SqlReaderModel_counts_L65]
    refine Sm_iload_n E d_SqlReaderModel_counts_65 rfl 3 rfl ?_
    refine Sm_iload_n E d_SqlReaderModel_counts_66 rfl 2 rfl ?_
    refine Sm_icmp_ge (tgt := 101) E d_SqlReaderModel_counts_67 (by decide) (fun _ => ?_) (fun _ => ?_)
    · refine Sm_iinc (k := 2) (d := 1) E d_SqlReaderModel_counts_101 rfl rfl (by decide) fun y10 _ => Sm_lvs (lv' := [(2, .int y10), (0, .ref (G.1 100)), (1, .int x1), (3, .int x3)]) rfl ?_
      refine Sm_goto (tgt := 55) E d_SqlReaderModel_counts_104 (by decide) ?_
      exact Sm_sub [1, 2, 0] rfl (h55 _ _)
    · refine Sm_iload_n E d_SqlReaderModel_counts_70 rfl 1 rfl ?_
      refine Sm_if_eq (tgt := 93) E d_SqlReaderModel_counts_71 (by decide) (fun _ => ?_) (fun _ => ?_)
      · refine Sm_iconst (v := 0) E d_SqlReaderModel_counts_93 (by decide) ?_
        refine Sm_istore_n (lv' := [(1, .int 0), (0, .ref (G.1 100)), (2, .int x2), (3, .int x3)]) E d_SqlReaderModel_counts_94 rfl (by decide) rfl ?_
        refine Sm_iinc (k := 3) (d := 1) E d_SqlReaderModel_counts_95 rfl rfl (by decide) fun y11 _ => Sm_lvs (lv' := [(3, .int y11), (1, .int 0), (0, .ref (G.1 100)), (2, .int x2)]) rfl ?_
        refine Sm_goto (tgt := 65) E d_SqlReaderModel_counts_98 (by decide) ?_
        exact Sm_sub [2, 1, 3, 0] rfl (h65 _ _ _)
      · refine Sm_aload_n E d_SqlReaderModel_counts_74 rfl 0 rfl ?_
        refine gfM_0_setColumn E fl_SqlReaderModel_103 d_SqlReaderModel_counts_75 ?_
        refine Sm_iload_n E d_SqlReaderModel_counts_78 rfl 2 rfl ?_
        refine Sm_gd fun hi => ldM_31 E (inb_in hi) d_SqlReaderModel_counts_79 ?_
        refine Sm_aload_n E d_SqlReaderModel_counts_80 rfl 0 rfl ?_
        refine gfM_0_setColumn E fl_SqlReaderModel_103 d_SqlReaderModel_counts_81 ?_
        refine Sm_iload_n E d_SqlReaderModel_counts_84 rfl 3 rfl ?_
        refine Sm_gd fun hi => ldM_31 E (inb_in hi) d_SqlReaderModel_counts_85 ?_
        refine Sm_icmp_eq (tgt := 93) E d_SqlReaderModel_counts_86 (by decide) (fun _ => ?_) (fun _ => ?_)
        · refine Sm_iconst (v := 0) E d_SqlReaderModel_counts_93 (by decide) ?_
          refine Sm_istore_n (lv' := [(1, .int 0), (0, .ref (G.1 100)), (2, .int x2), (3, .int x3)]) E d_SqlReaderModel_counts_94 rfl (by decide) rfl ?_
          refine Sm_iinc (k := 3) (d := 1) E d_SqlReaderModel_counts_95 rfl rfl (by decide) fun y12 _ => Sm_lvs (lv' := [(3, .int y12), (1, .int 0), (0, .ref (G.1 100)), (2, .int x2)]) rfl ?_
          refine Sm_goto (tgt := 65) E d_SqlReaderModel_counts_98 (by decide) ?_
          exact Sm_sub [2, 1, 3, 0] rfl (h65 _ _ _)
        · refine Sm_iconst (v := 1) E d_SqlReaderModel_counts_89 (by decide) ?_
          refine Sm_goto (tgt := 94) E d_SqlReaderModel_counts_90 (by decide) ?_
          refine Sm_istore_n (lv' := [(1, .int 1), (0, .ref (G.1 100)), (2, .int x2), (3, .int x3)]) E d_SqlReaderModel_counts_94 rfl (by decide) rfl ?_
          refine Sm_iinc (k := 3) (d := 1) E d_SqlReaderModel_counts_95 rfl rfl (by decide) fun y13 _ => Sm_lvs (lv' := [(3, .int y13), (1, .int 1), (0, .ref (G.1 100)), (2, .int x2)]) rfl ?_
          refine Sm_goto (tgt := 65) E d_SqlReaderModel_counts_98 (by decide) ?_
          exact Sm_sub [2, 1, 3, 0] rfl (h65 _ _ _)
set_option maxRecDepth 100000 in
set_option maxHeartbeats 4000000 in
theorem tM_SqlReaderModel_counts_L55 {X : Cx} {G : Gx} {res : Int32} {u : St} (E : EM X G prog_11_method_78_code R_SqlReaderModel 4 { frames := 1, cells := 0, slots := 0, locals := 24 }) (hR : RtZ X vwCl (wM G) prog_11_method_78_code .boolean (res, u)) : ∀ (n : Nat) (x1 : Int32) (x2 : Int32) , SM X G 4 res (mM_SqlReaderModel_counts_L55 n x1 x2 u) u 55 [(0, .ref (G.1 100)), (1, .int x1), (2, .int x2)] [] := by
  intro n
  induction n with
  | zero => intro x1 x2; exact Sm_none
  | succ n h55 =>
    intro x1 x2
    rw [mM_SqlReaderModel_counts_L55]
    refine Sm_iload_n E d_SqlReaderModel_counts_55 rfl 2 rfl ?_
    refine Sm_aload_n E d_SqlReaderModel_counts_56 rfl 0 rfl ?_
    refine gfM_0_sets E fl_SqlReaderModel_186 d_SqlReaderModel_counts_57 ?_
    refine Sm_icmp_ge (tgt := 107) E d_SqlReaderModel_counts_60 (by decide) (fun _ => ?_) (fun _ => ?_)
    · refine Sm_iconst (v := 0) E d_SqlReaderModel_counts_107 (by decide) ?_
      refine Sm_istore_n (lv' := [(2, .int 0), (0, .ref (G.1 100)), (1, .int x1)]) E d_SqlReaderModel_counts_108 rfl (by decide) rfl ?_
      exact Sm_sub [1, 2, 0] rfl (tM_SqlReaderModel_counts_L109 E hR FU _ _)
    · refine Sm_iconst (v := 0) E d_SqlReaderModel_counts_63 (by decide) ?_
      refine Sm_istore_n (lv' := [(3, .int 0), (0, .ref (G.1 100)), (1, .int x1), (2, .int x2)]) E d_SqlReaderModel_counts_64 rfl (by decide) rfl ?_
      exact Sm_sub [1, 2, 3, 0] rfl (tM_SqlReaderModel_counts_L65 E hR h55 FU _ _ _)
set_option maxRecDepth 100000 in
set_option maxHeartbeats 4000000 in
theorem tM_SqlReaderModel_counts_J31 {X : Cx} {G : Gx} {res : Int32} {u : St} (E : EM X G prog_11_method_78_code R_SqlReaderModel 4 { frames := 1, cells := 0, slots := 0, locals := 24 }) (hR : RtZ X vwCl (wM G) prog_11_method_78_code .boolean (res, u)) : SM X G 4 res (mM_SqlReaderModel_counts_J31 u) u 31 [(0, .ref (G.1 100))] [] := by
  rw [mM_SqlReaderModel_counts_J31]
  refine Sm_aload_n E d_SqlReaderModel_counts_31 rfl 0 rfl ?_
  refine gfM_0_highest E fl_SqlReaderModel_210 d_SqlReaderModel_counts_32 ?_
  refine Sm_if_eq (tgt := 47) E d_SqlReaderModel_counts_35 (by decide) (fun _ => ?_) (fun _ => ?_)
  · refine Sm_iconst (v := 1) E d_SqlReaderModel_counts_47 (by decide) ?_
    refine Sm_goto (tgt := 52) E d_SqlReaderModel_counts_48 (by decide) ?_
    refine Sm_istore_n (lv' := [(1, .int 1), (0, .ref (G.1 100))]) E d_SqlReaderModel_counts_52 rfl (by decide) rfl ?_
    refine Sm_iconst (v := 0) E d_SqlReaderModel_counts_53 (by decide) ?_
    refine Sm_istore_n (lv' := [(2, .int 0), (1, .int 1), (0, .ref (G.1 100))]) E d_SqlReaderModel_counts_54 rfl (by decide) rfl ?_
    exact Sm_sub [2, 1, 0] rfl (tM_SqlReaderModel_counts_L55 E hR FU _ _)
  · refine Sm_aload_n E d_SqlReaderModel_counts_38 rfl 0 rfl ?_
    refine gfM_0_what E fl_SqlReaderModel_140 d_SqlReaderModel_counts_39 ?_
    refine Sm_bipush (v := 16) E d_SqlReaderModel_counts_42 (by decide) ?_
    refine Sm_icmp_ne (tgt := 51) E d_SqlReaderModel_counts_44 (by decide) (fun _ => ?_) (fun _ => ?_)
    · refine Sm_iconst (v := 0) E d_SqlReaderModel_counts_51 (by decide) ?_
      refine Sm_istore_n (lv' := [(1, .int 0), (0, .ref (G.1 100))]) E d_SqlReaderModel_counts_52 rfl (by decide) rfl ?_
      refine Sm_iconst (v := 0) E d_SqlReaderModel_counts_53 (by decide) ?_
      refine Sm_istore_n (lv' := [(2, .int 0), (1, .int 0), (0, .ref (G.1 100))]) E d_SqlReaderModel_counts_54 rfl (by decide) rfl ?_
      exact Sm_sub [2, 1, 0] rfl (tM_SqlReaderModel_counts_L55 E hR FU _ _)
    · refine Sm_iconst (v := 1) E d_SqlReaderModel_counts_47 (by decide) ?_
      refine Sm_goto (tgt := 52) E d_SqlReaderModel_counts_48 (by decide) ?_
      refine Sm_istore_n (lv' := [(1, .int 1), (0, .ref (G.1 100))]) E d_SqlReaderModel_counts_52 rfl (by decide) rfl ?_
      refine Sm_iconst (v := 0) E d_SqlReaderModel_counts_53 (by decide) ?_
      refine Sm_istore_n (lv' := [(2, .int 0), (1, .int 1), (0, .ref (G.1 100))]) E d_SqlReaderModel_counts_54 rfl (by decide) rfl ?_
      exact Sm_sub [2, 1, 0] rfl (tM_SqlReaderModel_counts_L55 E hR FU _ _)
set_option maxRecDepth 100000 in
set_option maxHeartbeats 4000000 in
theorem cM_SqlReaderModel_counts {l : Launch} {D : va_G} {G : Gx} (u : St) {res : Int32} (hm : mM_SqlReaderModel_counts u = some res) : KM l D G y_SqlReaderModel_counts (.code y_SqlReaderModel_counts prog_11_method_78_code 4 (some .boolean)) { frames := 1, cells := 0, slots := 0, locals := 24 } [.ref (G.1 100)] u (qI D vwCl (wM G) (tyW G) (adsM G) (res, u)) := by
  refine Ct_z (by decide) wM_as (Nat.le_of_ble_eq_true rfl) hm (fun X _ _ E hR => ?_)
  refine Sm_lvs (lv' := [(0, .ref (G.1 100))]) rfl ?_
  rw [mM_SqlReaderModel_counts]
  refine Sm_aload_n E d_SqlReaderModel_counts_0 rfl 0 rfl ?_
  refine gfM_0_uneven E fl_SqlReaderModel_192 d_SqlReaderModel_counts_1 ?_
  refine Sm_if_ne (tgt := 51) E d_SqlReaderModel_counts_4 (by decide) (fun _ => ?_) (fun _ => ?_)
  · refine Sm_iconst (v := 0) E d_SqlReaderModel_counts_51 (by decide) ?_
    refine Sm_istore_n (lv' := [(1, .int 0), (0, .ref (G.1 100))]) E d_SqlReaderModel_counts_52 rfl (by decide) rfl ?_
    refine Sm_iconst (v := 0) E d_SqlReaderModel_counts_53 (by decide) ?_
    refine Sm_istore_n (lv' := [(2, .int 0), (1, .int 0), (0, .ref (G.1 100))]) E d_SqlReaderModel_counts_54 rfl (by decide) rfl ?_
    exact Sm_sub [2, 1, 0] rfl (tM_SqlReaderModel_counts_L55 E hR FU _ _)
  · refine Sm_aload_n E d_SqlReaderModel_counts_7 rfl 0 rfl ?_
    refine Sm_cVi (As := []) (b := (G.1 100)) (st := []) (n := 0) E exOk wM_as (fun _ h => cM_SqlReaderModel_deed u h) gk_SqlReaderModel_607 dk_SqlReaderModel_deed rfl ⟨rfl, rfl⟩ ⟨Nat.le_of_ble_eq_true rfl, Nat.le_of_ble_eq_true rfl⟩ (rvW (q0 := 0) (ci := 1) E rfl rfl rfl) rfl (Nat.le_of_ble_eq_true rfl) d_SqlReaderModel_counts_8 fun r14 _ => ?_
    refine Sm_iconst (v := 5) E d_SqlReaderModel_counts_11 (by decide) ?_
    refine Sm_icmp_ne (tgt := 31) E d_SqlReaderModel_counts_12 (by decide) (fun _ => ?_) (fun _ => ?_)
    · exact Sm_sub [0] rfl (tM_SqlReaderModel_counts_J31 E hR )
    · refine Sm_aload_n E d_SqlReaderModel_counts_15 rfl 0 rfl ?_
      refine gfM_0_items E fl_SqlReaderModel_174 d_SqlReaderModel_counts_16 ?_
      refine Sm_aload_n E d_SqlReaderModel_counts_19 rfl 0 rfl ?_
      refine gfM_0_width E fl_SqlReaderModel_29 d_SqlReaderModel_counts_20 ?_
      refine Sm_aload_n E d_SqlReaderModel_counts_23 rfl 0 rfl ?_
      refine gfM_0_target E fl_SqlReaderModel_146 d_SqlReaderModel_counts_24 ?_
      refine Sm_gd fun hi => ldM_7 E (inb_in hi) d_SqlReaderModel_counts_27 ?_
      refine Sm_icmp_ne (tgt := 51) E d_SqlReaderModel_counts_28 (by decide) (fun _ => ?_) (fun _ => ?_)
      · refine Sm_iconst (v := 0) E d_SqlReaderModel_counts_51 (by decide) ?_
        refine Sm_istore_n (lv' := [(1, .int 0), (0, .ref (G.1 100))]) E d_SqlReaderModel_counts_52 rfl (by decide) rfl ?_
        refine Sm_iconst (v := 0) E d_SqlReaderModel_counts_53 (by decide) ?_
        refine Sm_istore_n (lv' := [(2, .int 0), (1, .int 0), (0, .ref (G.1 100))]) E d_SqlReaderModel_counts_54 rfl (by decide) rfl ?_
        exact Sm_sub [2, 1, 0] rfl (tM_SqlReaderModel_counts_L55 E hR FU _ _)
      · exact Sm_sub [0] rfl (tM_SqlReaderModel_counts_J31 E hR )
set_option maxRecDepth 100000 in
set_option maxHeartbeats 4000000 in
theorem tM_SqlReaderModel_hasAggregate_J116 {X : Cx} {G : Gx} {res : Int32 × St} (E : EM X G prog_11_method_79_code R_SqlReaderModel 5 { frames := 0, cells := 0, slots := 0, locals := 0 }) (hR : RtZ X vwCl (wM G) prog_11_method_79_code .boolean res) {q31 : Int32 → Int32 → St → Option (Int32 × St)} (h31 : ∀ (x2 : Int32) (x3 : Int32) (u : St), SM X G 5 res (q31 x2 x3 u) u 31 [(0, .ref (G.1 100)), (2, .int x2), (3, .int x3)] []) : ∀ (x2 : Int32) (x3 : Int32) (u : St), SM X G 5 res (mM_SqlReaderModel_hasAggregate_J116 q31 x2 x3 u) u 116 [(0, .ref (G.1 100)), (2, .int x2), (3, .int x3)] [] := by
  intro x2 x3 u
  rw [mM_SqlReaderModel_hasAggregate_J116]
  refine Sm_iload_n E d_SqlReaderModel_hasAggregate_116 rfl 1 rfl ?_
  refine Sm_if_ne (tgt := 150) E d_SqlReaderModel_hasAggregate_117 (by decide) (fun _ => ?_) (fun _ => ?_)
  · refine Sm_iconst (v := 1) E d_SqlReaderModel_hasAggregate_150 (by decide) ?_
    refine Sm_goto (tgt := 155) E d_SqlReaderModel_hasAggregate_151 (by decide) ?_
    refine Sm_istore_n (lv' := [(2, .int 1), (0, .ref (G.1 100)), (3, .int x3)]) E d_SqlReaderModel_hasAggregate_155 rfl (by decide) rfl ?_
    refine Sm_iinc (k := 2) (d := (-1)) E d_SqlReaderModel_hasAggregate_156 rfl rfl (by decide) fun y2 _ => Sm_lvs (lv' := [(3, .int y2), (2, .int 1), (0, .ref (G.1 100))]) rfl ?_
    refine Sm_goto (tgt := 31) E d_SqlReaderModel_hasAggregate_159 (by decide) ?_
    exact Sm_sub [2, 1, 0] rfl (h31 _ _ _)
  · refine Sm_aload_n E d_SqlReaderModel_hasAggregate_120 rfl 0 rfl ?_
    refine gfM_0_in E fl_SqlReaderModel_121 d_SqlReaderModel_hasAggregate_121 ?_
    refine Sm_iload_n E d_SqlReaderModel_hasAggregate_124 rfl 2 rfl ?_
    refine Sm_gd fun hi => ldM_37 E (inb_in hi) d_SqlReaderModel_hasAggregate_125 ?_
    refine Sm_if_eq (tgt := 154) E d_SqlReaderModel_hasAggregate_126 (by decide) (fun _ => ?_) (fun _ => ?_)
    · refine Sm_iconst (v := 0) E d_SqlReaderModel_hasAggregate_154 (by decide) ?_
      refine Sm_istore_n (lv' := [(2, .int 0), (0, .ref (G.1 100)), (3, .int x3)]) E d_SqlReaderModel_hasAggregate_155 rfl (by decide) rfl ?_
      refine Sm_iinc (k := 2) (d := (-1)) E d_SqlReaderModel_hasAggregate_156 rfl rfl (by decide) fun y3 _ => Sm_lvs (lv' := [(3, .int y3), (2, .int 0), (0, .ref (G.1 100))]) rfl ?_
      refine Sm_goto (tgt := 31) E d_SqlReaderModel_hasAggregate_159 (by decide) ?_
      exact Sm_sub [2, 1, 0] rfl (h31 _ _ _)
    · refine Sm_aload_n E d_SqlReaderModel_hasAggregate_129 rfl 0 rfl ?_
      refine gfM_0_kind E fl_SqlReaderModel_41 d_SqlReaderModel_hasAggregate_130 ?_
      refine Sm_iload_n E d_SqlReaderModel_hasAggregate_133 rfl 2 rfl ?_
      refine Sm_gd fun hi => ldM_11 E (inb_in hi) d_SqlReaderModel_hasAggregate_134 ?_
      refine Sm_iconst (v := 4) E d_SqlReaderModel_hasAggregate_135 (by decide) ?_
      refine Sm_icmp_le (tgt := 154) E d_SqlReaderModel_hasAggregate_136 (by decide) (fun _ => ?_) (fun _ => ?_)
      · refine Sm_iconst (v := 0) E d_SqlReaderModel_hasAggregate_154 (by decide) ?_
        refine Sm_istore_n (lv' := [(2, .int 0), (0, .ref (G.1 100)), (3, .int x3)]) E d_SqlReaderModel_hasAggregate_155 rfl (by decide) rfl ?_
        refine Sm_iinc (k := 2) (d := (-1)) E d_SqlReaderModel_hasAggregate_156 rfl rfl (by decide) fun y4 _ => Sm_lvs (lv' := [(3, .int y4), (2, .int 0), (0, .ref (G.1 100))]) rfl ?_
        refine Sm_goto (tgt := 31) E d_SqlReaderModel_hasAggregate_159 (by decide) ?_
        exact Sm_sub [2, 1, 0] rfl (h31 _ _ _)
      · refine Sm_aload_n E d_SqlReaderModel_hasAggregate_139 rfl 0 rfl ?_
        refine gfM_0_kind E fl_SqlReaderModel_41 d_SqlReaderModel_hasAggregate_140 ?_
        refine Sm_iload_n E d_SqlReaderModel_hasAggregate_143 rfl 2 rfl ?_
        refine Sm_gd fun hi => ldM_11 E (inb_in hi) d_SqlReaderModel_hasAggregate_144 ?_
        refine Sm_bipush (v := 10) E d_SqlReaderModel_hasAggregate_145 (by decide) ?_
        refine Sm_icmp_ge (tgt := 154) E d_SqlReaderModel_hasAggregate_147 (by decide) (fun _ => ?_) (fun _ => ?_)
        · refine Sm_iconst (v := 0) E d_SqlReaderModel_hasAggregate_154 (by decide) ?_
          refine Sm_istore_n (lv' := [(2, .int 0), (0, .ref (G.1 100)), (3, .int x3)]) E d_SqlReaderModel_hasAggregate_155 rfl (by decide) rfl ?_
          refine Sm_iinc (k := 2) (d := (-1)) E d_SqlReaderModel_hasAggregate_156 rfl rfl (by decide) fun y5 _ => Sm_lvs (lv' := [(3, .int y5), (2, .int 0), (0, .ref (G.1 100))]) rfl ?_
          refine Sm_goto (tgt := 31) E d_SqlReaderModel_hasAggregate_159 (by decide) ?_
          exact Sm_sub [2, 1, 0] rfl (h31 _ _ _)
        · refine Sm_iconst (v := 1) E d_SqlReaderModel_hasAggregate_150 (by decide) ?_
          refine Sm_goto (tgt := 155) E d_SqlReaderModel_hasAggregate_151 (by decide) ?_
          refine Sm_istore_n (lv' := [(2, .int 1), (0, .ref (G.1 100)), (3, .int x3)]) E d_SqlReaderModel_hasAggregate_155 rfl (by decide) rfl ?_
          refine Sm_iinc (k := 2) (d := (-1)) E d_SqlReaderModel_hasAggregate_156 rfl rfl (by decide) fun y6 _ => Sm_lvs (lv' := [(3, .int y6), (2, .int 1), (0, .ref (G.1 100))]) rfl ?_
          refine Sm_goto (tgt := 31) E d_SqlReaderModel_hasAggregate_159 (by decide) ?_
          exact Sm_sub [2, 1, 0] rfl (h31 _ _ _)
set_option maxRecDepth 100000 in
set_option maxHeartbeats 4000000 in
theorem tM_SqlReaderModel_hasAggregate_J70 {X : Cx} {G : Gx} {res : Int32 × St} (E : EM X G prog_11_method_79_code R_SqlReaderModel 5 { frames := 0, cells := 0, slots := 0, locals := 0 }) (hR : RtZ X vwCl (wM G) prog_11_method_79_code .boolean res) {q31 : Int32 → Int32 → St → Option (Int32 × St)} (h31 : ∀ (x2 : Int32) (x3 : Int32) (u : St), SM X G 5 res (q31 x2 x3 u) u 31 [(0, .ref (G.1 100)), (2, .int x2), (3, .int x3)] []) : ∀ (x2 : Int32) (x3 : Int32) (s0 : Int32) (u : St), SM X G 5 res (mM_SqlReaderModel_hasAggregate_J70 q31 x2 x3 s0 u) u 70 [(0, .ref (G.1 100)), (2, .int x2), (3, .int x3)] [.int s0] := by
  intro x2 x3 s0 u
  rw [mM_SqlReaderModel_hasAggregate_J70]
  refine Sm_istore (lv' := [(4, .int s0), (0, .ref (G.1 100)), (2, .int x2), (3, .int x3)]) E d_SqlReaderModel_hasAggregate_70 (by decide) rfl ?_
  refine Sm_iload E d_SqlReaderModel_hasAggregate_72 0 rfl ?_
  refine Sm_if_eq (tgt := 116) E d_SqlReaderModel_hasAggregate_74 (by decide) (fun _ => ?_) (fun _ => ?_)
  · exact Sm_sub [1, 2, 3] rfl (tM_SqlReaderModel_hasAggregate_J116 E hR h31 _ _ _)
  · refine Sm_aload_n E d_SqlReaderModel_hasAggregate_77 rfl 1 rfl ?_
    refine gfM_0_in E fl_SqlReaderModel_121 d_SqlReaderModel_hasAggregate_78 ?_
    refine Sm_aload_n E d_SqlReaderModel_hasAggregate_81 rfl 1 rfl ?_
    refine gfM_0_left E fl_SqlReaderModel_44 d_SqlReaderModel_hasAggregate_82 ?_
    refine Sm_iload_n E d_SqlReaderModel_hasAggregate_85 rfl 3 rfl ?_
    refine Sm_gd fun hi => ldM_12 E (inb_in hi) d_SqlReaderModel_hasAggregate_86 ?_
    refine Sm_iconst (v := 1) E d_SqlReaderModel_hasAggregate_87 (by decide) ?_
    refine Sm_gd fun hi => stM_37 E (inb_in hi) d_SqlReaderModel_hasAggregate_88 fun u7 _ => ?_
    refine Sm_aload_n E d_SqlReaderModel_hasAggregate_89 rfl 1 rfl ?_
    refine gfM_0_in E fl_SqlReaderModel_121 d_SqlReaderModel_hasAggregate_90 ?_
    refine Sm_aload_n E d_SqlReaderModel_hasAggregate_93 rfl 1 rfl ?_
    refine gfM_0_right E fl_SqlReaderModel_47 d_SqlReaderModel_hasAggregate_94 ?_
    refine Sm_iload_n E d_SqlReaderModel_hasAggregate_97 rfl 3 rfl ?_
    refine Sm_gd fun hi => ldM_13 E (inb_in hi) d_SqlReaderModel_hasAggregate_98 ?_
    refine Sm_if_ge (tgt := 108) E d_SqlReaderModel_hasAggregate_99 (by decide) (fun _ => ?_) (fun _ => ?_)
    · refine Sm_aload_n E d_SqlReaderModel_hasAggregate_108 rfl 1 rfl ?_
      refine gfM_0_right E fl_SqlReaderModel_47 d_SqlReaderModel_hasAggregate_109 ?_
      refine Sm_iload_n E d_SqlReaderModel_hasAggregate_112 rfl 3 rfl ?_
      refine Sm_gd fun hi => ldM_13 E (inb_in hi) d_SqlReaderModel_hasAggregate_113 ?_
      refine Sm_iconst (v := 1) E d_SqlReaderModel_hasAggregate_114 (by decide) ?_
      refine Sm_gd fun hi => stM_37 E (inb_in hi) d_SqlReaderModel_hasAggregate_115 fun u8 _ => ?_
      exact Sm_sub [1, 2, 3] rfl (tM_SqlReaderModel_hasAggregate_J116 E hR h31 _ _ _)
    · refine Sm_sipush (v := 200) E d_SqlReaderModel_hasAggregate_102 (by decide) ?_
      refine Sm_goto (tgt := 114) E d_SqlReaderModel_hasAggregate_105 (by decide) ?_
      refine Sm_iconst (v := 1) E d_SqlReaderModel_hasAggregate_114 (by decide) ?_
      refine Sm_gd fun hi => stM_37 E (inb_in hi) d_SqlReaderModel_hasAggregate_115 fun u9 _ => ?_
      exact Sm_sub [1, 2, 3] rfl (tM_SqlReaderModel_hasAggregate_J116 E hR h31 _ _ _)
set_option maxRecDepth 100000 in
set_option maxHeartbeats 4000000 in
theorem tM_SqlReaderModel_hasAggregate_L31 {X : Cx} {G : Gx} {res : Int32 × St} (E : EM X G prog_11_method_79_code R_SqlReaderModel 5 { frames := 0, cells := 0, slots := 0, locals := 0 }) (hR : RtZ X vwCl (wM G) prog_11_method_79_code .boolean res) : ∀ (n : Nat) (x2 : Int32) (x3 : Int32) (u : St), SM X G 5 res (mM_SqlReaderModel_hasAggregate_L31 n x2 x3 u) u 31 [(0, .ref (G.1 100)), (2, .int x2), (3, .int x3)] [] := by
  intro n
  induction n with
  | zero => intro x2 x3 u; exact Sm_none
  | succ n h31 =>
    intro x2 x3 u
    rw [mM_SqlReaderModel_hasAggregate_L31]
    refine Sm_iload_n E d_SqlReaderModel_hasAggregate_31 rfl 2 rfl ?_
    refine Sm_if_lt (tgt := 162) E d_SqlReaderModel_hasAggregate_32 (by decide) (fun _ => ?_) (fun _ => ?_)
    · refine Sm_iload_n E d_SqlReaderModel_hasAggregate_162 rfl 1 rfl ?_
      exact Sm_gd fun hz => Sm_retZ hR (zb_n hz) d_SqlReaderModel_hasAggregate_163
    · refine Sm_aload_n E d_SqlReaderModel_hasAggregate_35 rfl 0 rfl ?_
      refine gfM_0_in E fl_SqlReaderModel_121 d_SqlReaderModel_hasAggregate_36 ?_
      refine Sm_iload_n E d_SqlReaderModel_hasAggregate_39 rfl 2 rfl ?_
      refine Sm_gd fun hi => ldM_37 E (inb_in hi) d_SqlReaderModel_hasAggregate_40 ?_
      refine Sm_if_eq (tgt := 69) E d_SqlReaderModel_hasAggregate_41 (by decide) (fun _ => ?_) (fun _ => ?_)
      · refine Sm_iconst (v := 0) E d_SqlReaderModel_hasAggregate_69 (by decide) ?_
        exact Sm_sub [0, 1, 2] rfl (tM_SqlReaderModel_hasAggregate_J70 E hR h31 _ _ _ _)
      · refine Sm_aload_n E d_SqlReaderModel_hasAggregate_44 rfl 0 rfl ?_
        refine gfM_0_kind E fl_SqlReaderModel_41 d_SqlReaderModel_hasAggregate_45 ?_
        refine Sm_iload_n E d_SqlReaderModel_hasAggregate_48 rfl 2 rfl ?_
        refine Sm_gd fun hi => ldM_11 E (inb_in hi) d_SqlReaderModel_hasAggregate_49 ?_
        refine Sm_iconst (v := 5) E d_SqlReaderModel_hasAggregate_50 (by decide) ?_
        refine Sm_icmp_le (tgt := 69) E d_SqlReaderModel_hasAggregate_51 (by decide) (fun _ => ?_) (fun _ => ?_)
        · refine Sm_iconst (v := 0) E d_SqlReaderModel_hasAggregate_69 (by decide) ?_
          exact Sm_sub [0, 1, 2] rfl (tM_SqlReaderModel_hasAggregate_J70 E hR h31 _ _ _ _)
        · refine Sm_aload_n E d_SqlReaderModel_hasAggregate_54 rfl 0 rfl ?_
          refine gfM_0_kind E fl_SqlReaderModel_41 d_SqlReaderModel_hasAggregate_55 ?_
          refine Sm_iload_n E d_SqlReaderModel_hasAggregate_58 rfl 2 rfl ?_
          refine Sm_gd fun hi => ldM_11 E (inb_in hi) d_SqlReaderModel_hasAggregate_59 ?_
          refine Sm_bipush (v := 28) E d_SqlReaderModel_hasAggregate_60 (by decide) ?_
          refine Sm_icmp_ge (tgt := 69) E d_SqlReaderModel_hasAggregate_62 (by decide) (fun _ => ?_) (fun _ => ?_)
          · refine Sm_iconst (v := 0) E d_SqlReaderModel_hasAggregate_69 (by decide) ?_
            exact Sm_sub [0, 1, 2] rfl (tM_SqlReaderModel_hasAggregate_J70 E hR h31 _ _ _ _)
          · refine Sm_iconst (v := 1) E d_SqlReaderModel_hasAggregate_65 (by decide) ?_
            refine Sm_goto (tgt := 70) E d_SqlReaderModel_hasAggregate_66 (by decide) ?_
            exact Sm_sub [0, 1, 2] rfl (tM_SqlReaderModel_hasAggregate_J70 E hR h31 _ _ _ _)
set_option maxRecDepth 100000 in
set_option maxHeartbeats 4000000 in
theorem tM_SqlReaderModel_hasAggregate_L4 {X : Cx} {G : Gx} {res : Int32 × St} (E : EM X G prog_11_method_79_code R_SqlReaderModel 5 { frames := 0, cells := 0, slots := 0, locals := 0 }) (hR : RtZ X vwCl (wM G) prog_11_method_79_code .boolean res) : ∀ (n : Nat) (x1 : Int32) (x2 : Int32) (x3 : Int32) (u : St), SM X G 5 res (mM_SqlReaderModel_hasAggregate_L4 n x1 x2 x3 u) u 4 [(0, .ref (G.1 100)), (1, .int x1), (2, .int x2), (3, .int x3)] [] := by
  intro n
  induction n with
  | zero => intro x1 x2 x3 u; exact Sm_none
  | succ n h4 =>
    intro x1 x2 x3 u
    rw [mM_SqlReaderModel_hasAggregate_L4]
    refine Sm_iload_n E d_SqlReaderModel_hasAggregate_4 rfl 3 rfl ?_
    refine Sm_iload_n E d_SqlReaderModel_hasAggregate_5 rfl 1 rfl ?_
    refine Sm_icmp_ge (tgt := 22) E d_SqlReaderModel_hasAggregate_6 (by decide) (fun _ => ?_) (fun _ => ?_)
    · refine Sm_aload_n E d_SqlReaderModel_hasAggregate_22 rfl 0 rfl ?_
      refine gfM_0_in E fl_SqlReaderModel_121 d_SqlReaderModel_hasAggregate_23 ?_
      refine Sm_iload_n E d_SqlReaderModel_hasAggregate_26 rfl 1 rfl ?_
      refine Sm_iconst (v := 1) E d_SqlReaderModel_hasAggregate_27 (by decide) ?_
      refine Sm_gd fun hi => stM_37 E (inb_in hi) d_SqlReaderModel_hasAggregate_28 fun u1 _ => ?_
      refine Sm_iload_n E d_SqlReaderModel_hasAggregate_29 rfl 1 rfl ?_
      refine Sm_istore_n (lv' := [(3, .int x1), (0, .ref (G.1 100)), (1, .int x1), (2, .int x2)]) E d_SqlReaderModel_hasAggregate_30 rfl (by decide) rfl ?_
      exact Sm_sub [1, 3, 0] rfl (tM_SqlReaderModel_hasAggregate_L31 E hR FU _ _ _)
    · refine Sm_aload_n E d_SqlReaderModel_hasAggregate_9 rfl 0 rfl ?_
      refine gfM_0_in E fl_SqlReaderModel_121 d_SqlReaderModel_hasAggregate_10 ?_
      refine Sm_iload_n E d_SqlReaderModel_hasAggregate_13 rfl 3 rfl ?_
      refine Sm_iconst (v := 0) E d_SqlReaderModel_hasAggregate_14 (by decide) ?_
      refine Sm_gd fun hi => stM_37 E (inb_in hi) d_SqlReaderModel_hasAggregate_15 fun u10 _ => ?_
      refine Sm_iinc (k := 3) (d := 1) E d_SqlReaderModel_hasAggregate_16 rfl rfl (by decide) fun y11 _ => Sm_lvs (lv' := [(3, .int y11), (0, .ref (G.1 100)), (1, .int x1), (2, .int x2)]) rfl ?_
      refine Sm_goto (tgt := 4) E d_SqlReaderModel_hasAggregate_19 (by decide) ?_
      exact Sm_sub [1, 2, 3, 0] rfl (h4 _ _ _ _)
set_option maxRecDepth 100000 in
set_option maxHeartbeats 4000000 in
theorem cM_SqlReaderModel_hasAggregate {l : Launch} {D : va_G} {G : Gx} (x1 : Int32) (u : St) {res : Int32 × St} (hm : mM_SqlReaderModel_hasAggregate x1 u = some res) : KM l D G y_SqlReaderModel_hasAggregate (.code y_SqlReaderModel_hasAggregate prog_11_method_79_code 5 (some .boolean)) { frames := 0, cells := 0, slots := 0, locals := 0 } [.ref (G.1 100), .int x1] u (qI D vwCl (wM G) (tyW G) (adsM G) res) := by
  refine Ct_Z (by decide) wM_as (Nat.le_of_ble_eq_true rfl) hm (fun X _ _ E hR => ?_)
  refine Sm_lvs (lv' := [(0, .ref (G.1 100)), (1, .int x1)]) rfl ?_
  rw [mM_SqlReaderModel_hasAggregate]
  refine Sm_iconst (v := 0) E d_SqlReaderModel_hasAggregate_0 (by decide) ?_
  refine Sm_istore_n (lv' := [(2, .int 0), (0, .ref (G.1 100)), (1, .int x1)]) E d_SqlReaderModel_hasAggregate_1 rfl (by decide) rfl ?_
  refine Sm_iconst (v := 0) E d_SqlReaderModel_hasAggregate_2 (by decide) ?_
  refine Sm_istore_n (lv' := [(3, .int 0), (2, .int 0), (0, .ref (G.1 100)), (1, .int x1)]) E d_SqlReaderModel_hasAggregate_3 rfl (by decide) rfl ?_
  exact Sm_sub [2, 3, 1, 0] rfl (tM_SqlReaderModel_hasAggregate_L4 E hR FU _ _ _ _)
set_option maxRecDepth 100000 in
set_option maxHeartbeats 4000000 in
theorem tM_SqlReaderModel_gathered_L15 {X : Cx} {G : Gx} {res : Int32 × St} (E : EM X G prog_11_method_82_code R_SqlReaderModel 3 { frames := 1, cells := 0, slots := 0, locals := 24 }) (hR : RtZ X vwCl (wM G) prog_11_method_82_code .boolean res) : ∀ (n : Nat) (x1 : Int32) (x2 : Int32) (u : St), SM X G 3 res (mM_SqlReaderModel_gathered_L15 n x1 x2 u) u 15 [(0, .ref (G.1 100)), (1, .int x1), (2, .int x2)] [] := by
  intro n
  induction n with
  | zero => intro x1 x2 u; exact Sm_none
  | succ n h15 =>
    intro x1 x2 u
    rw [mM_SqlReaderModel_gathered_L15]
    refine Sm_iload_n E d_SqlReaderModel_gathered_15 rfl 2 rfl ?_
    refine Sm_aload_n E d_SqlReaderModel_gathered_16 rfl 0 rfl ?_
    refine gfM_0_items E fl_SqlReaderModel_174 d_SqlReaderModel_gathered_17 ?_
    refine Sm_icmp_ge (tgt := 52) E d_SqlReaderModel_gathered_20 (by decide) (fun _ => ?_) (fun _ => ?_)
    · refine Sm_iload_n E d_SqlReaderModel_gathered_52 rfl 1 rfl ?_
      exact Sm_gd fun hz => Sm_retZ hR (zb_n hz) d_SqlReaderModel_gathered_53
    · refine Sm_iload_n E d_SqlReaderModel_gathered_23 rfl 1 rfl ?_
      refine Sm_if_ne (tgt := 40) E d_SqlReaderModel_gathered_24 (by decide) (fun _ => ?_) (fun _ => ?_)
      · refine Sm_iconst (v := 1) E d_SqlReaderModel_gathered_40 (by decide) ?_
        refine Sm_goto (tgt := 45) E d_SqlReaderModel_gathered_41 (by decide) ?_
        refine Sm_istore_n (lv' := [(1, .int 1), (0, .ref (G.1 100)), (2, .int x2)]) E d_SqlReaderModel_gathered_45 rfl (by decide) rfl ?_
        refine Sm_iinc (k := 2) (d := 1) E d_SqlReaderModel_gathered_46 rfl rfl (by decide) fun y1 _ => Sm_lvs (lv' := [(2, .int y1), (1, .int 1), (0, .ref (G.1 100))]) rfl ?_
        refine Sm_goto (tgt := 15) E d_SqlReaderModel_gathered_49 (by decide) ?_
        exact Sm_sub [2, 1, 0] rfl (h15 _ _ _)
      · refine Sm_aload_n E d_SqlReaderModel_gathered_27 rfl 0 rfl ?_
        refine Sm_aload_n E d_SqlReaderModel_gathered_28 rfl 0 rfl ?_
        refine gfM_0_item E fl_SqlReaderModel_78 d_SqlReaderModel_gathered_29 ?_
        refine Sm_iload_n E d_SqlReaderModel_gathered_32 rfl 2 rfl ?_
        refine Sm_gd fun hi => ldM_23 E (inb_in hi) d_SqlReaderModel_gathered_33 ?_
        refine Sm_cVI (As := [.int (ga u 21 x2)]) (b := (G.1 100)) (st := []) (n := 1) E exOk wM_as (fun _ h => cM_SqlReaderModel_hasAggregate (ga u 21 x2) u h) gk_SqlReaderModel_622 dk_SqlReaderModel_hasAggregate rfl ⟨rfl, rfl⟩ ⟨Nat.le_of_ble_eq_true rfl, Nat.le_of_ble_eq_true rfl⟩ (rvW (q0 := 0) (ci := 1) E rfl rfl rfl) rfl (Nat.le_of_ble_eq_true rfl) d_SqlReaderModel_gathered_34 fun r2 u3 _ => ?_
        refine Sm_if_eq (tgt := 44) E d_SqlReaderModel_gathered_37 (by decide) (fun _ => ?_) (fun _ => ?_)
        · refine Sm_iconst (v := 0) E d_SqlReaderModel_gathered_44 (by decide) ?_
          refine Sm_istore_n (lv' := [(1, .int 0), (0, .ref (G.1 100)), (2, .int x2)]) E d_SqlReaderModel_gathered_45 rfl (by decide) rfl ?_
          refine Sm_iinc (k := 2) (d := 1) E d_SqlReaderModel_gathered_46 rfl rfl (by decide) fun y4 _ => Sm_lvs (lv' := [(2, .int y4), (1, .int 0), (0, .ref (G.1 100))]) rfl ?_
          refine Sm_goto (tgt := 15) E d_SqlReaderModel_gathered_49 (by decide) ?_
          exact Sm_sub [2, 1, 0] rfl (h15 _ _ _)
        · refine Sm_iconst (v := 1) E d_SqlReaderModel_gathered_40 (by decide) ?_
          refine Sm_goto (tgt := 45) E d_SqlReaderModel_gathered_41 (by decide) ?_
          refine Sm_istore_n (lv' := [(1, .int 1), (0, .ref (G.1 100)), (2, .int x2)]) E d_SqlReaderModel_gathered_45 rfl (by decide) rfl ?_
          refine Sm_iinc (k := 2) (d := 1) E d_SqlReaderModel_gathered_46 rfl rfl (by decide) fun y5 _ => Sm_lvs (lv' := [(2, .int y5), (1, .int 1), (0, .ref (G.1 100))]) rfl ?_
          refine Sm_goto (tgt := 15) E d_SqlReaderModel_gathered_49 (by decide) ?_
          exact Sm_sub [2, 1, 0] rfl (h15 _ _ _)
set_option maxRecDepth 100000 in
set_option maxHeartbeats 4000000 in
theorem cM_SqlReaderModel_gathered {l : Launch} {D : va_G} {G : Gx} (u : St) {res : Int32 × St} (hm : mM_SqlReaderModel_gathered u = some res) : KM l D G y_SqlReaderModel_gathered (.code y_SqlReaderModel_gathered prog_11_method_82_code 3 (some .boolean)) { frames := 1, cells := 0, slots := 0, locals := 24 } [.ref (G.1 100)] u (qI D vwCl (wM G) (tyW G) (adsM G) res) := by
  refine Ct_Z (by decide) wM_as (Nat.le_of_ble_eq_true rfl) hm (fun X _ _ E hR => ?_)
  refine Sm_lvs (lv' := [(0, .ref (G.1 100))]) rfl ?_
  rw [mM_SqlReaderModel_gathered]
  refine Sm_aload_n E d_SqlReaderModel_gathered_0 rfl 0 rfl ?_
  refine gfM_0_groups E fl_SqlReaderModel_177 d_SqlReaderModel_gathered_1 ?_
  refine Sm_if_le (tgt := 11) E d_SqlReaderModel_gathered_4 (by decide) (fun _ => ?_) (fun _ => ?_)
  · refine Sm_iconst (v := 0) E d_SqlReaderModel_gathered_11 (by decide) ?_
    refine Sm_istore_n (lv' := [(1, .int 0), (0, .ref (G.1 100))]) E d_SqlReaderModel_gathered_12 rfl (by decide) rfl ?_
    refine Sm_iconst (v := 0) E d_SqlReaderModel_gathered_13 (by decide) ?_
    refine Sm_istore_n (lv' := [(2, .int 0), (1, .int 0), (0, .ref (G.1 100))]) E d_SqlReaderModel_gathered_14 rfl (by decide) rfl ?_
    exact Sm_sub [2, 1, 0] rfl (tM_SqlReaderModel_gathered_L15 E hR FU _ _ _)
  · refine Sm_iconst (v := 1) E d_SqlReaderModel_gathered_7 (by decide) ?_
    refine Sm_goto (tgt := 12) E d_SqlReaderModel_gathered_8 (by decide) ?_
    refine Sm_istore_n (lv' := [(1, .int 1), (0, .ref (G.1 100))]) E d_SqlReaderModel_gathered_12 rfl (by decide) rfl ?_
    refine Sm_iconst (v := 0) E d_SqlReaderModel_gathered_13 (by decide) ?_
    refine Sm_istore_n (lv' := [(2, .int 0), (1, .int 1), (0, .ref (G.1 100))]) E d_SqlReaderModel_gathered_14 rfl (by decide) rfl ?_
    exact Sm_sub [2, 1, 0] rfl (tM_SqlReaderModel_gathered_L15 E hR FU _ _ _)
set_option maxRecDepth 100000 in
set_option maxHeartbeats 4000000 in
theorem tM_SqlReaderModel_isGrouped_L4 {X : Cx} {G : Gx} {res : Int32} {u : St} (E : EM X G prog_11_method_80_code R_SqlReaderModel 4 { frames := 0, cells := 0, slots := 0, locals := 0 }) (hR : RtZ X vwCl (wM G) prog_11_method_80_code .boolean (res, u)) : ∀ (n : Nat) (x1 : Int32) (x2 : Int32) (x3 : Int32) , SM X G 4 res (mM_SqlReaderModel_isGrouped_L4 n x1 x2 x3 u) u 4 [(0, .ref (G.1 100)), (1, .int x1), (2, .int x2), (3, .int x3)] [] := by
  intro n
  induction n with
  | zero => intro x1 x2 x3; exact Sm_none
  | succ n h4 =>
    intro x1 x2 x3
    rw [mM_SqlReaderModel_isGrouped_L4]
    refine Sm_iload_n E d_SqlReaderModel_isGrouped_4 rfl 3 rfl ?_
    refine Sm_aload_n E d_SqlReaderModel_isGrouped_5 rfl 0 rfl ?_
    refine gfM_0_groups E fl_SqlReaderModel_177 d_SqlReaderModel_isGrouped_6 ?_
    refine Sm_icmp_ge (tgt := 68) E d_SqlReaderModel_isGrouped_9 (by decide) (fun _ => ?_) (fun _ => ?_)
    · refine Sm_iload_n E d_SqlReaderModel_isGrouped_68 rfl 2 rfl ?_
      exact Sm_gd fun hz => Sm_retz hR (zb_n hz) d_SqlReaderModel_isGrouped_69
    · refine Sm_iload_n E d_SqlReaderModel_isGrouped_12 rfl 2 rfl ?_
      refine Sm_if_ne (tgt := 56) E d_SqlReaderModel_isGrouped_13 (by decide) (fun _ => ?_) (fun _ => ?_)
      · refine Sm_iconst (v := 1) E d_SqlReaderModel_isGrouped_56 (by decide) ?_
        refine Sm_goto (tgt := 61) E d_SqlReaderModel_isGrouped_57 (by decide) ?_
        refine Sm_istore_n (lv' := [(2, .int 1), (0, .ref (G.1 100)), (1, .int x1), (3, .int x3)]) E d_SqlReaderModel_isGrouped_61 rfl (by decide) rfl ?_
        refine Sm_iinc (k := 3) (d := 1) E d_SqlReaderModel_isGrouped_62 rfl rfl (by decide) fun y1 _ => Sm_lvs (lv' := [(3, .int y1), (2, .int 1), (0, .ref (G.1 100)), (1, .int x1)]) rfl ?_
        refine Sm_goto (tgt := 4) E d_SqlReaderModel_isGrouped_65 (by decide) ?_
        exact Sm_sub [2, 3, 1, 0] rfl (h4 _ _ _)
      · refine Sm_aload_n E d_SqlReaderModel_isGrouped_16 rfl 0 rfl ?_
        refine gfM_0_left E fl_SqlReaderModel_44 d_SqlReaderModel_isGrouped_17 ?_
        refine Sm_aload_n E d_SqlReaderModel_isGrouped_20 rfl 0 rfl ?_
        refine gfM_0_group E fl_SqlReaderModel_81 d_SqlReaderModel_isGrouped_21 ?_
        refine Sm_iload_n E d_SqlReaderModel_isGrouped_24 rfl 3 rfl ?_
        refine Sm_gd fun hi => ldM_24 E (inb_in hi) d_SqlReaderModel_isGrouped_25 ?_
        refine Sm_gd fun hi => ldM_12 E (inb_in hi) d_SqlReaderModel_isGrouped_26 ?_
        refine Sm_aload_n E d_SqlReaderModel_isGrouped_27 rfl 0 rfl ?_
        refine gfM_0_left E fl_SqlReaderModel_44 d_SqlReaderModel_isGrouped_28 ?_
        refine Sm_iload_n E d_SqlReaderModel_isGrouped_31 rfl 1 rfl ?_
        refine Sm_gd fun hi => ldM_12 E (inb_in hi) d_SqlReaderModel_isGrouped_32 ?_
        refine Sm_icmp_ne (tgt := 60) E d_SqlReaderModel_isGrouped_33 (by decide) (fun _ => ?_) (fun _ => ?_)
        · refine Sm_iconst (v := 0) E d_SqlReaderModel_isGrouped_60 (by decide) ?_
          refine Sm_istore_n (lv' := [(2, .int 0), (0, .ref (G.1 100)), (1, .int x1), (3, .int x3)]) E d_SqlReaderModel_isGrouped_61 rfl (by decide) rfl ?_
          refine Sm_iinc (k := 3) (d := 1) E d_SqlReaderModel_isGrouped_62 rfl rfl (by decide) fun y2 _ => Sm_lvs (lv' := [(3, .int y2), (2, .int 0), (0, .ref (G.1 100)), (1, .int x1)]) rfl ?_
          refine Sm_goto (tgt := 4) E d_SqlReaderModel_isGrouped_65 (by decide) ?_
          exact Sm_sub [2, 3, 1, 0] rfl (h4 _ _ _)
        · refine Sm_aload_n E d_SqlReaderModel_isGrouped_36 rfl 0 rfl ?_
          refine gfM_0_right E fl_SqlReaderModel_47 d_SqlReaderModel_isGrouped_37 ?_
          refine Sm_aload_n E d_SqlReaderModel_isGrouped_40 rfl 0 rfl ?_
          refine gfM_0_group E fl_SqlReaderModel_81 d_SqlReaderModel_isGrouped_41 ?_
          refine Sm_iload_n E d_SqlReaderModel_isGrouped_44 rfl 3 rfl ?_
          refine Sm_gd fun hi => ldM_24 E (inb_in hi) d_SqlReaderModel_isGrouped_45 ?_
          refine Sm_gd fun hi => ldM_13 E (inb_in hi) d_SqlReaderModel_isGrouped_46 ?_
          refine Sm_aload_n E d_SqlReaderModel_isGrouped_47 rfl 0 rfl ?_
          refine gfM_0_right E fl_SqlReaderModel_47 d_SqlReaderModel_isGrouped_48 ?_
          refine Sm_iload_n E d_SqlReaderModel_isGrouped_51 rfl 1 rfl ?_
          refine Sm_gd fun hi => ldM_13 E (inb_in hi) d_SqlReaderModel_isGrouped_52 ?_
          refine Sm_icmp_ne (tgt := 60) E d_SqlReaderModel_isGrouped_53 (by decide) (fun _ => ?_) (fun _ => ?_)
          · refine Sm_iconst (v := 0) E d_SqlReaderModel_isGrouped_60 (by decide) ?_
            refine Sm_istore_n (lv' := [(2, .int 0), (0, .ref (G.1 100)), (1, .int x1), (3, .int x3)]) E d_SqlReaderModel_isGrouped_61 rfl (by decide) rfl ?_
            refine Sm_iinc (k := 3) (d := 1) E d_SqlReaderModel_isGrouped_62 rfl rfl (by decide) fun y3 _ => Sm_lvs (lv' := [(3, .int y3), (2, .int 0), (0, .ref (G.1 100)), (1, .int x1)]) rfl ?_
            refine Sm_goto (tgt := 4) E d_SqlReaderModel_isGrouped_65 (by decide) ?_
            exact Sm_sub [2, 3, 1, 0] rfl (h4 _ _ _)
          · refine Sm_iconst (v := 1) E d_SqlReaderModel_isGrouped_56 (by decide) ?_
            refine Sm_goto (tgt := 61) E d_SqlReaderModel_isGrouped_57 (by decide) ?_
            refine Sm_istore_n (lv' := [(2, .int 1), (0, .ref (G.1 100)), (1, .int x1), (3, .int x3)]) E d_SqlReaderModel_isGrouped_61 rfl (by decide) rfl ?_
            refine Sm_iinc (k := 3) (d := 1) E d_SqlReaderModel_isGrouped_62 rfl rfl (by decide) fun y4 _ => Sm_lvs (lv' := [(3, .int y4), (2, .int 1), (0, .ref (G.1 100)), (1, .int x1)]) rfl ?_
            refine Sm_goto (tgt := 4) E d_SqlReaderModel_isGrouped_65 (by decide) ?_
            exact Sm_sub [2, 3, 1, 0] rfl (h4 _ _ _)
set_option maxRecDepth 100000 in
set_option maxHeartbeats 4000000 in
theorem cM_SqlReaderModel_isGrouped {l : Launch} {D : va_G} {G : Gx} (x1 : Int32) (u : St) {res : Int32} (hm : mM_SqlReaderModel_isGrouped x1 u = some res) : KM l D G y_SqlReaderModel_isGrouped (.code y_SqlReaderModel_isGrouped prog_11_method_80_code 4 (some .boolean)) { frames := 0, cells := 0, slots := 0, locals := 0 } [.ref (G.1 100), .int x1] u (qI D vwCl (wM G) (tyW G) (adsM G) (res, u)) := by
  refine Ct_z (by decide) wM_as (Nat.le_of_ble_eq_true rfl) hm (fun X _ _ E hR => ?_)
  refine Sm_lvs (lv' := [(0, .ref (G.1 100)), (1, .int x1)]) rfl ?_
  rw [mM_SqlReaderModel_isGrouped]
  refine Sm_iconst (v := 0) E d_SqlReaderModel_isGrouped_0 (by decide) ?_
  refine Sm_istore_n (lv' := [(2, .int 0), (0, .ref (G.1 100)), (1, .int x1)]) E d_SqlReaderModel_isGrouped_1 rfl (by decide) rfl ?_
  refine Sm_iconst (v := 0) E d_SqlReaderModel_isGrouped_2 (by decide) ?_
  refine Sm_istore_n (lv' := [(3, .int 0), (2, .int 0), (0, .ref (G.1 100)), (1, .int x1)]) E d_SqlReaderModel_isGrouped_3 rfl (by decide) rfl ?_
  exact Sm_sub [2, 3, 1, 0] rfl (tM_SqlReaderModel_isGrouped_L4 E hR FU _ _ _)
set_option maxRecDepth 100000 in
set_option maxHeartbeats 4000000 in
theorem tM_SqlReaderModel_isLoose_J117 {X : Cx} {G : Gx} {res : Int32 × St} (E : EM X G prog_11_method_81_code R_SqlReaderModel 5 { frames := 1, cells := 0, slots := 0, locals := 23 }) (hR : RtZ X vwCl (wM G) prog_11_method_81_code .boolean res) {q31 : Int32 → Int32 → St → Option (Int32 × St)} (h31 : ∀ (x2 : Int32) (x3 : Int32) (u : St), SM X G 5 res (q31 x2 x3 u) u 31 [(0, .ref (G.1 100)), (2, .int x2), (3, .int x3)] []) : ∀ (x2 : Int32) (x3 : Int32) (u : St), SM X G 5 res (mM_SqlReaderModel_isLoose_J117 q31 x2 x3 u) u 117 [(0, .ref (G.1 100)), (2, .int x2), (3, .int x3)] [] := by
  intro x2 x3 u
  rw [mM_SqlReaderModel_isLoose_J117]
  refine Sm_iload_n E d_SqlReaderModel_isLoose_117 rfl 1 rfl ?_
  refine Sm_if_ne (tgt := 148) E d_SqlReaderModel_isLoose_118 (by decide) (fun _ => ?_) (fun _ => ?_)
  · refine Sm_iconst (v := 1) E d_SqlReaderModel_isLoose_148 (by decide) ?_
    refine Sm_goto (tgt := 153) E d_SqlReaderModel_isLoose_149 (by decide) ?_
    refine Sm_istore_n (lv' := [(2, .int 1), (0, .ref (G.1 100)), (3, .int x3)]) E d_SqlReaderModel_isLoose_153 rfl (by decide) rfl ?_
    refine Sm_iinc (k := 2) (d := (-1)) E d_SqlReaderModel_isLoose_154 rfl rfl (by decide) fun y2 _ => Sm_lvs (lv' := [(3, .int y2), (2, .int 1), (0, .ref (G.1 100))]) rfl ?_
    refine Sm_goto (tgt := 31) E d_SqlReaderModel_isLoose_157 (by decide) ?_
    exact Sm_sub [2, 1, 0] rfl (h31 _ _ _)
  · refine Sm_aload_n E d_SqlReaderModel_isLoose_121 rfl 0 rfl ?_
    refine gfM_0_in E fl_SqlReaderModel_121 d_SqlReaderModel_isLoose_122 ?_
    refine Sm_iload_n E d_SqlReaderModel_isLoose_125 rfl 2 rfl ?_
    refine Sm_gd fun hi => ldM_37 E (inb_in hi) d_SqlReaderModel_isLoose_126 ?_
    refine Sm_if_eq (tgt := 152) E d_SqlReaderModel_isLoose_127 (by decide) (fun _ => ?_) (fun _ => ?_)
    · refine Sm_iconst (v := 0) E d_SqlReaderModel_isLoose_152 (by decide) ?_
      refine Sm_istore_n (lv' := [(2, .int 0), (0, .ref (G.1 100)), (3, .int x3)]) E d_SqlReaderModel_isLoose_153 rfl (by decide) rfl ?_
      refine Sm_iinc (k := 2) (d := (-1)) E d_SqlReaderModel_isLoose_154 rfl rfl (by decide) fun y3 _ => Sm_lvs (lv' := [(3, .int y3), (2, .int 0), (0, .ref (G.1 100))]) rfl ?_
      refine Sm_goto (tgt := 31) E d_SqlReaderModel_isLoose_157 (by decide) ?_
      exact Sm_sub [2, 1, 0] rfl (h31 _ _ _)
    · refine Sm_aload_n E d_SqlReaderModel_isLoose_130 rfl 0 rfl ?_
      refine gfM_0_kind E fl_SqlReaderModel_41 d_SqlReaderModel_isLoose_131 ?_
      refine Sm_iload_n E d_SqlReaderModel_isLoose_134 rfl 2 rfl ?_
      refine Sm_gd fun hi => ldM_11 E (inb_in hi) d_SqlReaderModel_isLoose_135 ?_
      refine Sm_iconst (v := 4) E d_SqlReaderModel_isLoose_136 (by decide) ?_
      refine Sm_icmp_ne (tgt := 152) E d_SqlReaderModel_isLoose_137 (by decide) (fun _ => ?_) (fun _ => ?_)
      · refine Sm_iconst (v := 0) E d_SqlReaderModel_isLoose_152 (by decide) ?_
        refine Sm_istore_n (lv' := [(2, .int 0), (0, .ref (G.1 100)), (3, .int x3)]) E d_SqlReaderModel_isLoose_153 rfl (by decide) rfl ?_
        refine Sm_iinc (k := 2) (d := (-1)) E d_SqlReaderModel_isLoose_154 rfl rfl (by decide) fun y4 _ => Sm_lvs (lv' := [(3, .int y4), (2, .int 0), (0, .ref (G.1 100))]) rfl ?_
        refine Sm_goto (tgt := 31) E d_SqlReaderModel_isLoose_157 (by decide) ?_
        exact Sm_sub [2, 1, 0] rfl (h31 _ _ _)
      · refine Sm_aload_n E d_SqlReaderModel_isLoose_140 rfl 0 rfl ?_
        refine Sm_iload_n E d_SqlReaderModel_isLoose_141 rfl 2 rfl ?_
        refine Sm_cVi (As := [.int x3]) (b := (G.1 100)) (st := []) (n := 1) E exOk wM_as (fun _ h => cM_SqlReaderModel_isGrouped x3 u h) gk_SqlReaderModel_619 dk_SqlReaderModel_isGrouped rfl ⟨rfl, rfl⟩ ⟨Nat.le_of_ble_eq_true rfl, Nat.le_of_ble_eq_true rfl⟩ (rvW (q0 := 0) (ci := 1) E rfl rfl rfl) rfl (Nat.le_of_ble_eq_true rfl) d_SqlReaderModel_isLoose_142 fun r5 _ => ?_
        refine Sm_if_ne (tgt := 152) E d_SqlReaderModel_isLoose_145 (by decide) (fun _ => ?_) (fun _ => ?_)
        · refine Sm_iconst (v := 0) E d_SqlReaderModel_isLoose_152 (by decide) ?_
          refine Sm_istore_n (lv' := [(2, .int 0), (0, .ref (G.1 100)), (3, .int x3)]) E d_SqlReaderModel_isLoose_153 rfl (by decide) rfl ?_
          refine Sm_iinc (k := 2) (d := (-1)) E d_SqlReaderModel_isLoose_154 rfl rfl (by decide) fun y6 _ => Sm_lvs (lv' := [(3, .int y6), (2, .int 0), (0, .ref (G.1 100))]) rfl ?_
          refine Sm_goto (tgt := 31) E d_SqlReaderModel_isLoose_157 (by decide) ?_
          exact Sm_sub [2, 1, 0] rfl (h31 _ _ _)
        · refine Sm_iconst (v := 1) E d_SqlReaderModel_isLoose_148 (by decide) ?_
          refine Sm_goto (tgt := 153) E d_SqlReaderModel_isLoose_149 (by decide) ?_
          refine Sm_istore_n (lv' := [(2, .int 1), (0, .ref (G.1 100)), (3, .int x3)]) E d_SqlReaderModel_isLoose_153 rfl (by decide) rfl ?_
          refine Sm_iinc (k := 2) (d := (-1)) E d_SqlReaderModel_isLoose_154 rfl rfl (by decide) fun y7 _ => Sm_lvs (lv' := [(3, .int y7), (2, .int 1), (0, .ref (G.1 100))]) rfl ?_
          refine Sm_goto (tgt := 31) E d_SqlReaderModel_isLoose_157 (by decide) ?_
          exact Sm_sub [2, 1, 0] rfl (h31 _ _ _)
set_option maxRecDepth 100000 in
set_option maxHeartbeats 4000000 in
theorem tM_SqlReaderModel_isLoose_J71 {X : Cx} {G : Gx} {res : Int32 × St} (E : EM X G prog_11_method_81_code R_SqlReaderModel 5 { frames := 1, cells := 0, slots := 0, locals := 23 }) (hR : RtZ X vwCl (wM G) prog_11_method_81_code .boolean res) {q31 : Int32 → Int32 → St → Option (Int32 × St)} (h31 : ∀ (x2 : Int32) (x3 : Int32) (u : St), SM X G 5 res (q31 x2 x3 u) u 31 [(0, .ref (G.1 100)), (2, .int x2), (3, .int x3)] []) : ∀ (x2 : Int32) (x3 : Int32) (s0 : Int32) (u : St), SM X G 5 res (mM_SqlReaderModel_isLoose_J71 q31 x2 x3 s0 u) u 71 [(0, .ref (G.1 100)), (2, .int x2), (3, .int x3)] [.int s0] := by
  intro x2 x3 s0 u
  rw [mM_SqlReaderModel_isLoose_J71]
  refine Sm_istore (lv' := [(4, .int s0), (0, .ref (G.1 100)), (2, .int x2), (3, .int x3)]) E d_SqlReaderModel_isLoose_71 (by decide) rfl ?_
  refine Sm_iload E d_SqlReaderModel_isLoose_73 0 rfl ?_
  refine Sm_if_eq (tgt := 117) E d_SqlReaderModel_isLoose_75 (by decide) (fun _ => ?_) (fun _ => ?_)
  · exact Sm_sub [1, 2, 3] rfl (tM_SqlReaderModel_isLoose_J117 E hR h31 _ _ _)
  · refine Sm_aload_n E d_SqlReaderModel_isLoose_78 rfl 1 rfl ?_
    refine gfM_0_in E fl_SqlReaderModel_121 d_SqlReaderModel_isLoose_79 ?_
    refine Sm_aload_n E d_SqlReaderModel_isLoose_82 rfl 1 rfl ?_
    refine gfM_0_left E fl_SqlReaderModel_44 d_SqlReaderModel_isLoose_83 ?_
    refine Sm_iload_n E d_SqlReaderModel_isLoose_86 rfl 3 rfl ?_
    refine Sm_gd fun hi => ldM_12 E (inb_in hi) d_SqlReaderModel_isLoose_87 ?_
    refine Sm_iconst (v := 1) E d_SqlReaderModel_isLoose_88 (by decide) ?_
    refine Sm_gd fun hi => stM_37 E (inb_in hi) d_SqlReaderModel_isLoose_89 fun u8 _ => ?_
    refine Sm_aload_n E d_SqlReaderModel_isLoose_90 rfl 1 rfl ?_
    refine gfM_0_in E fl_SqlReaderModel_121 d_SqlReaderModel_isLoose_91 ?_
    refine Sm_aload_n E d_SqlReaderModel_isLoose_94 rfl 1 rfl ?_
    refine gfM_0_right E fl_SqlReaderModel_47 d_SqlReaderModel_isLoose_95 ?_
    refine Sm_iload_n E d_SqlReaderModel_isLoose_98 rfl 3 rfl ?_
    refine Sm_gd fun hi => ldM_13 E (inb_in hi) d_SqlReaderModel_isLoose_99 ?_
    refine Sm_if_ge (tgt := 109) E d_SqlReaderModel_isLoose_100 (by decide) (fun _ => ?_) (fun _ => ?_)
    · refine Sm_aload_n E d_SqlReaderModel_isLoose_109 rfl 1 rfl ?_
      refine gfM_0_right E fl_SqlReaderModel_47 d_SqlReaderModel_isLoose_110 ?_
      refine Sm_iload_n E d_SqlReaderModel_isLoose_113 rfl 3 rfl ?_
      refine Sm_gd fun hi => ldM_13 E (inb_in hi) d_SqlReaderModel_isLoose_114 ?_
      refine Sm_iconst (v := 1) E d_SqlReaderModel_isLoose_115 (by decide) ?_
      refine Sm_gd fun hi => stM_37 E (inb_in hi) d_SqlReaderModel_isLoose_116 fun u9 _ => ?_
      exact Sm_sub [1, 2, 3] rfl (tM_SqlReaderModel_isLoose_J117 E hR h31 _ _ _)
    · refine Sm_sipush (v := 200) E d_SqlReaderModel_isLoose_103 (by decide) ?_
      refine Sm_goto (tgt := 115) E d_SqlReaderModel_isLoose_106 (by decide) ?_
      refine Sm_iconst (v := 1) E d_SqlReaderModel_isLoose_115 (by decide) ?_
      refine Sm_gd fun hi => stM_37 E (inb_in hi) d_SqlReaderModel_isLoose_116 fun u10 _ => ?_
      exact Sm_sub [1, 2, 3] rfl (tM_SqlReaderModel_isLoose_J117 E hR h31 _ _ _)
set_option maxRecDepth 100000 in
set_option maxHeartbeats 4000000 in
theorem tM_SqlReaderModel_isLoose_L31 {X : Cx} {G : Gx} {res : Int32 × St} (E : EM X G prog_11_method_81_code R_SqlReaderModel 5 { frames := 1, cells := 0, slots := 0, locals := 23 }) (hR : RtZ X vwCl (wM G) prog_11_method_81_code .boolean res) : ∀ (n : Nat) (x2 : Int32) (x3 : Int32) (u : St), SM X G 5 res (mM_SqlReaderModel_isLoose_L31 n x2 x3 u) u 31 [(0, .ref (G.1 100)), (2, .int x2), (3, .int x3)] [] := by
  intro n
  induction n with
  | zero => intro x2 x3 u; exact Sm_none
  | succ n h31 =>
    intro x2 x3 u
    rw [mM_SqlReaderModel_isLoose_L31]
    refine Sm_iload_n E d_SqlReaderModel_isLoose_31 rfl 2 rfl ?_
    refine Sm_if_lt (tgt := 160) E d_SqlReaderModel_isLoose_32 (by decide) (fun _ => ?_) (fun _ => ?_)
    · refine Sm_iload_n E d_SqlReaderModel_isLoose_160 rfl 1 rfl ?_
      exact Sm_gd fun hz => Sm_retZ hR (zb_n hz) d_SqlReaderModel_isLoose_161
    · refine Sm_aload_n E d_SqlReaderModel_isLoose_35 rfl 0 rfl ?_
      refine gfM_0_in E fl_SqlReaderModel_121 d_SqlReaderModel_isLoose_36 ?_
      refine Sm_iload_n E d_SqlReaderModel_isLoose_39 rfl 2 rfl ?_
      refine Sm_gd fun hi => ldM_37 E (inb_in hi) d_SqlReaderModel_isLoose_40 ?_
      refine Sm_if_eq (tgt := 70) E d_SqlReaderModel_isLoose_41 (by decide) (fun _ => ?_) (fun _ => ?_)
      · refine Sm_iconst (v := 0) E d_SqlReaderModel_isLoose_70 (by decide) ?_
        exact Sm_sub [0, 1, 2] rfl (tM_SqlReaderModel_isLoose_J71 E hR h31 _ _ _ _)
      · refine Sm_aload_n E d_SqlReaderModel_isLoose_44 rfl 0 rfl ?_
        refine gfM_0_kind E fl_SqlReaderModel_41 d_SqlReaderModel_isLoose_45 ?_
        refine Sm_iload_n E d_SqlReaderModel_isLoose_48 rfl 2 rfl ?_
        refine Sm_gd fun hi => ldM_11 E (inb_in hi) d_SqlReaderModel_isLoose_49 ?_
        refine Sm_bipush (v := 9) E d_SqlReaderModel_isLoose_50 (by decide) ?_
        refine Sm_icmp_le (tgt := 70) E d_SqlReaderModel_isLoose_52 (by decide) (fun _ => ?_) (fun _ => ?_)
        · refine Sm_iconst (v := 0) E d_SqlReaderModel_isLoose_70 (by decide) ?_
          exact Sm_sub [0, 1, 2] rfl (tM_SqlReaderModel_isLoose_J71 E hR h31 _ _ _ _)
        · refine Sm_aload_n E d_SqlReaderModel_isLoose_55 rfl 0 rfl ?_
          refine gfM_0_kind E fl_SqlReaderModel_41 d_SqlReaderModel_isLoose_56 ?_
          refine Sm_iload_n E d_SqlReaderModel_isLoose_59 rfl 2 rfl ?_
          refine Sm_gd fun hi => ldM_11 E (inb_in hi) d_SqlReaderModel_isLoose_60 ?_
          refine Sm_bipush (v := 28) E d_SqlReaderModel_isLoose_61 (by decide) ?_
          refine Sm_icmp_ge (tgt := 70) E d_SqlReaderModel_isLoose_63 (by decide) (fun _ => ?_) (fun _ => ?_)
          · refine Sm_iconst (v := 0) E d_SqlReaderModel_isLoose_70 (by decide) ?_
            exact Sm_sub [0, 1, 2] rfl (tM_SqlReaderModel_isLoose_J71 E hR h31 _ _ _ _)
          · refine Sm_iconst (v := 1) E d_SqlReaderModel_isLoose_66 (by decide) ?_
            refine Sm_goto (tgt := 71) E d_SqlReaderModel_isLoose_67 (by decide) ?_
            exact Sm_sub [0, 1, 2] rfl (tM_SqlReaderModel_isLoose_J71 E hR h31 _ _ _ _)
set_option maxRecDepth 100000 in
set_option maxHeartbeats 4000000 in
theorem tM_SqlReaderModel_isLoose_L4 {X : Cx} {G : Gx} {res : Int32 × St} (E : EM X G prog_11_method_81_code R_SqlReaderModel 5 { frames := 1, cells := 0, slots := 0, locals := 23 }) (hR : RtZ X vwCl (wM G) prog_11_method_81_code .boolean res) : ∀ (n : Nat) (x1 : Int32) (x2 : Int32) (x3 : Int32) (u : St), SM X G 5 res (mM_SqlReaderModel_isLoose_L4 n x1 x2 x3 u) u 4 [(0, .ref (G.1 100)), (1, .int x1), (2, .int x2), (3, .int x3)] [] := by
  intro n
  induction n with
  | zero => intro x1 x2 x3 u; exact Sm_none
  | succ n h4 =>
    intro x1 x2 x3 u
    rw [mM_SqlReaderModel_isLoose_L4]
    refine Sm_iload_n E d_SqlReaderModel_isLoose_4 rfl 3 rfl ?_
    refine Sm_iload_n E d_SqlReaderModel_isLoose_5 rfl 1 rfl ?_
    refine Sm_icmp_ge (tgt := 22) E d_SqlReaderModel_isLoose_6 (by decide) (fun _ => ?_) (fun _ => ?_)
    · refine Sm_aload_n E d_SqlReaderModel_isLoose_22 rfl 0 rfl ?_
      refine gfM_0_in E fl_SqlReaderModel_121 d_SqlReaderModel_isLoose_23 ?_
      refine Sm_iload_n E d_SqlReaderModel_isLoose_26 rfl 1 rfl ?_
      refine Sm_iconst (v := 1) E d_SqlReaderModel_isLoose_27 (by decide) ?_
      refine Sm_gd fun hi => stM_37 E (inb_in hi) d_SqlReaderModel_isLoose_28 fun u1 _ => ?_
      refine Sm_iload_n E d_SqlReaderModel_isLoose_29 rfl 1 rfl ?_
      refine Sm_istore_n (lv' := [(3, .int x1), (0, .ref (G.1 100)), (1, .int x1), (2, .int x2)]) E d_SqlReaderModel_isLoose_30 rfl (by decide) rfl ?_
      exact Sm_sub [1, 3, 0] rfl (tM_SqlReaderModel_isLoose_L31 E hR FU _ _ _)
    · refine Sm_aload_n E d_SqlReaderModel_isLoose_9 rfl 0 rfl ?_
      refine gfM_0_in E fl_SqlReaderModel_121 d_SqlReaderModel_isLoose_10 ?_
      refine Sm_iload_n E d_SqlReaderModel_isLoose_13 rfl 3 rfl ?_
      refine Sm_iconst (v := 0) E d_SqlReaderModel_isLoose_14 (by decide) ?_
      refine Sm_gd fun hi => stM_37 E (inb_in hi) d_SqlReaderModel_isLoose_15 fun u11 _ => ?_
      refine Sm_iinc (k := 3) (d := 1) E d_SqlReaderModel_isLoose_16 rfl rfl (by decide) fun y12 _ => Sm_lvs (lv' := [(3, .int y12), (0, .ref (G.1 100)), (1, .int x1), (2, .int x2)]) rfl ?_
      refine Sm_goto (tgt := 4) E d_SqlReaderModel_isLoose_19 (by decide) ?_
      exact Sm_sub [1, 2, 3, 0] rfl (h4 _ _ _ _)
set_option maxRecDepth 100000 in
set_option maxHeartbeats 4000000 in
theorem cM_SqlReaderModel_isLoose {l : Launch} {D : va_G} {G : Gx} (x1 : Int32) (u : St) {res : Int32 × St} (hm : mM_SqlReaderModel_isLoose x1 u = some res) : KM l D G y_SqlReaderModel_isLoose (.code y_SqlReaderModel_isLoose prog_11_method_81_code 5 (some .boolean)) { frames := 1, cells := 0, slots := 0, locals := 23 } [.ref (G.1 100), .int x1] u (qI D vwCl (wM G) (tyW G) (adsM G) res) := by
  refine Ct_Z (by decide) wM_as (Nat.le_of_ble_eq_true rfl) hm (fun X _ _ E hR => ?_)
  refine Sm_lvs (lv' := [(0, .ref (G.1 100)), (1, .int x1)]) rfl ?_
  rw [mM_SqlReaderModel_isLoose]
  refine Sm_iconst (v := 0) E d_SqlReaderModel_isLoose_0 (by decide) ?_
  refine Sm_istore_n (lv' := [(2, .int 0), (0, .ref (G.1 100)), (1, .int x1)]) E d_SqlReaderModel_isLoose_1 rfl (by decide) rfl ?_
  refine Sm_iconst (v := 0) E d_SqlReaderModel_isLoose_2 (by decide) ?_
  refine Sm_istore_n (lv' := [(3, .int 0), (2, .int 0), (0, .ref (G.1 100)), (1, .int x1)]) E d_SqlReaderModel_isLoose_3 rfl (by decide) rfl ?_
  exact Sm_sub [2, 3, 1, 0] rfl (tM_SqlReaderModel_isLoose_L4 E hR FU _ _ _ _)
set_option maxRecDepth 100000 in
set_option maxHeartbeats 4000000 in
theorem tM_SqlReaderModel_checkGroups_J127 {X : Cx} {G : Gx} {res : Int32 × St} (E : EM X G prog_11_method_83_code R_SqlReaderModel 3 { frames := 2, cells := 0, slots := 0, locals := 47 }) (hR : RtI X vwCl (wM G) prog_11_method_83_code res) : ∀ (s0 : Int32) (u : St), SM X G 3 res (mM_SqlReaderModel_checkGroups_J127 s0 u) u 127 [(0, .ref (G.1 100))] [.int s0] := by
  intro s0 u
  rw [mM_SqlReaderModel_checkGroups_J127]
  refine Sm_istore_n (lv' := [(2, .int s0), (0, .ref (G.1 100))]) E d_SqlReaderModel_checkGroups_127 rfl (by decide) rfl ?_
  refine Sm_aload_n E d_SqlReaderModel_checkGroups_128 rfl 1 rfl ?_
  refine gfM_0_mode E fl_SqlReaderModel_152 d_SqlReaderModel_checkGroups_129 ?_
  refine Sm_if_le (tgt := 162) E d_SqlReaderModel_checkGroups_132 (by decide) (fun _ => ?_) (fun _ => ?_)
  · refine Sm_iconst (v := 0) E d_SqlReaderModel_checkGroups_162 (by decide) ?_
    exact Sm_retI hR d_SqlReaderModel_checkGroups_163
  · refine Sm_aload_n E d_SqlReaderModel_checkGroups_135 rfl 1 rfl ?_
    refine Sm_cVi (As := []) (b := (G.1 100)) (st := []) (n := 0) E exOk wM_as (fun _ h => cM_SqlReaderModel_deed u h) gk_SqlReaderModel_607 dk_SqlReaderModel_deed rfl ⟨rfl, rfl⟩ ⟨Nat.le_of_ble_eq_true rfl, Nat.le_of_ble_eq_true rfl⟩ (rvW (q0 := 0) (ci := 1) E rfl rfl rfl) rfl (Nat.le_of_ble_eq_true rfl) d_SqlReaderModel_checkGroups_136 fun r3 _ => ?_
    refine Sm_bipush (v := 9) E d_SqlReaderModel_checkGroups_139 (by decide) ?_
    refine Sm_icmp_eq (tgt := 162) E d_SqlReaderModel_checkGroups_141 (by decide) (fun _ => ?_) (fun _ => ?_)
    · refine Sm_iconst (v := 0) E d_SqlReaderModel_checkGroups_162 (by decide) ?_
      exact Sm_retI hR d_SqlReaderModel_checkGroups_163
    · refine Sm_aload_n E d_SqlReaderModel_checkGroups_144 rfl 1 rfl ?_
      refine Sm_cVi (As := []) (b := (G.1 100)) (st := []) (n := 0) E exOk wM_as (fun _ h => cM_SqlReaderModel_deed u h) gk_SqlReaderModel_607 dk_SqlReaderModel_deed rfl ⟨rfl, rfl⟩ ⟨Nat.le_of_ble_eq_true rfl, Nat.le_of_ble_eq_true rfl⟩ (rvW (q0 := 0) (ci := 1) E rfl rfl rfl) rfl (Nat.le_of_ble_eq_true rfl) d_SqlReaderModel_checkGroups_145 fun r4 _ => ?_
      refine Sm_bipush (v := 15) E d_SqlReaderModel_checkGroups_148 (by decide) ?_
      refine Sm_icmp_eq (tgt := 162) E d_SqlReaderModel_checkGroups_150 (by decide) (fun _ => ?_) (fun _ => ?_)
      · refine Sm_iconst (v := 0) E d_SqlReaderModel_checkGroups_162 (by decide) ?_
        exact Sm_retI hR d_SqlReaderModel_checkGroups_163
      · refine Sm_iload_n E d_SqlReaderModel_checkGroups_153 rfl 0 rfl ?_
        refine Sm_if_ne (tgt := 162) E d_SqlReaderModel_checkGroups_154 (by decide) (fun _ => ?_) (fun _ => ?_)
        · refine Sm_iconst (v := 0) E d_SqlReaderModel_checkGroups_162 (by decide) ?_
          exact Sm_retI hR d_SqlReaderModel_checkGroups_163
        · refine Sm_bipush (v := 10) E d_SqlReaderModel_checkGroups_157 (by decide) ?_
          refine Sm_goto (tgt := 163) E d_SqlReaderModel_checkGroups_159 (by decide) ?_
          exact Sm_retI hR d_SqlReaderModel_checkGroups_163
set_option maxRecDepth 100000 in
set_option maxHeartbeats 4000000 in
theorem tM_SqlReaderModel_checkGroups_L60 {X : Cx} {G : Gx} {res : Int32 × St} (E : EM X G prog_11_method_83_code R_SqlReaderModel 3 { frames := 2, cells := 0, slots := 0, locals := 47 }) (hR : RtI X vwCl (wM G) prog_11_method_83_code res) : ∀ (n : Nat) (x1 : Int32) (x2 : Int32) (u : St), SM X G 3 res (mM_SqlReaderModel_checkGroups_L60 n x1 x2 u) u 60 [(0, .ref (G.1 100)), (1, .int x1), (2, .int x2)] [] := by
  intro n
  induction n with
  | zero => intro x1 x2 u; exact Sm_none
  | succ n h60 =>
    intro x1 x2 u
    rw [mM_SqlReaderModel_checkGroups_L60]
    refine Sm_iload_n E d_SqlReaderModel_checkGroups_60 rfl 2 rfl ?_
    refine Sm_aload_n E d_SqlReaderModel_checkGroups_61 rfl 0 rfl ?_
    refine gfM_0_items E fl_SqlReaderModel_174 d_SqlReaderModel_checkGroups_62 ?_
    refine Sm_icmp_ge (tgt := 94) E d_SqlReaderModel_checkGroups_65 (by decide) (fun _ => ?_) (fun _ => ?_)
    · refine Sm_aload_n E d_SqlReaderModel_checkGroups_94 rfl 0 rfl ?_
      refine gfM_0_froms E fl_SqlReaderModel_183 d_SqlReaderModel_checkGroups_95 ?_
      refine Sm_iconst (v := 2) E d_SqlReaderModel_checkGroups_98 (by decide) ?_
      refine Sm_icmp_ge (tgt := 126) E d_SqlReaderModel_checkGroups_99 (by decide) (fun _ => ?_) (fun _ => ?_)
      · refine Sm_iconst (v := 0) E d_SqlReaderModel_checkGroups_126 (by decide) ?_
        exact Sm_sub [0] rfl (tM_SqlReaderModel_checkGroups_J127 E hR _ _)
      · refine Sm_aload_n E d_SqlReaderModel_checkGroups_102 rfl 0 rfl ?_
        refine gfM_0_distinct E fl_SqlReaderModel_162 d_SqlReaderModel_checkGroups_103 ?_
        refine Sm_if_ne (tgt := 126) E d_SqlReaderModel_checkGroups_106 (by decide) (fun _ => ?_) (fun _ => ?_)
        · refine Sm_iconst (v := 0) E d_SqlReaderModel_checkGroups_126 (by decide) ?_
          exact Sm_sub [0] rfl (tM_SqlReaderModel_checkGroups_J127 E hR _ _)
        · refine Sm_iload_n E d_SqlReaderModel_checkGroups_109 rfl 1 rfl ?_
          refine Sm_if_ne (tgt := 126) E d_SqlReaderModel_checkGroups_110 (by decide) (fun _ => ?_) (fun _ => ?_)
          · refine Sm_iconst (v := 0) E d_SqlReaderModel_checkGroups_126 (by decide) ?_
            exact Sm_sub [0] rfl (tM_SqlReaderModel_checkGroups_J127 E hR _ _)
          · refine Sm_aload_n E d_SqlReaderModel_checkGroups_113 rfl 0 rfl ?_
            refine Sm_cVi (As := []) (b := (G.1 100)) (st := []) (n := 0) E exOk wM_as (fun _ h => cM_SqlReaderModel_deed u h) gk_SqlReaderModel_607 dk_SqlReaderModel_deed rfl ⟨rfl, rfl⟩ ⟨Nat.le_of_ble_eq_true rfl, Nat.le_of_ble_eq_true rfl⟩ (rvW (q0 := 0) (ci := 1) E rfl rfl rfl) rfl (Nat.le_of_ble_eq_true rfl) d_SqlReaderModel_checkGroups_114 fun r5 _ => ?_
            refine Sm_bipush (v := 8) E d_SqlReaderModel_checkGroups_117 (by decide) ?_
            refine Sm_icmp_ne (tgt := 126) E d_SqlReaderModel_checkGroups_119 (by decide) (fun _ => ?_) (fun _ => ?_)
            · refine Sm_iconst (v := 0) E d_SqlReaderModel_checkGroups_126 (by decide) ?_
              exact Sm_sub [0] rfl (tM_SqlReaderModel_checkGroups_J127 E hR _ _)
            · refine Sm_iconst (v := 1) E d_SqlReaderModel_checkGroups_122 (by decide) ?_
              refine Sm_goto (tgt := 127) E d_SqlReaderModel_checkGroups_123 (by decide) ?_
              exact Sm_sub [0] rfl (tM_SqlReaderModel_checkGroups_J127 E hR _ _)
    · refine Sm_iload_n E d_SqlReaderModel_checkGroups_68 rfl 1 rfl ?_
      refine Sm_if_eq (tgt := 88) E d_SqlReaderModel_checkGroups_69 (by decide) (fun _ => ?_) (fun _ => ?_)
      · refine Sm_iinc (k := 2) (d := 1) E d_SqlReaderModel_checkGroups_88 rfl rfl (by decide) fun y6 _ => Sm_lvs (lv' := [(2, .int y6), (0, .ref (G.1 100)), (1, .int x1)]) rfl ?_
        refine Sm_goto (tgt := 60) E d_SqlReaderModel_checkGroups_91 (by decide) ?_
        exact Sm_sub [1, 2, 0] rfl (h60 _ _ _)
      · refine Sm_aload_n E d_SqlReaderModel_checkGroups_72 rfl 0 rfl ?_
        refine Sm_aload_n E d_SqlReaderModel_checkGroups_73 rfl 0 rfl ?_
        refine gfM_0_item E fl_SqlReaderModel_78 d_SqlReaderModel_checkGroups_74 ?_
        refine Sm_iload_n E d_SqlReaderModel_checkGroups_77 rfl 2 rfl ?_
        refine Sm_gd fun hi => ldM_23 E (inb_in hi) d_SqlReaderModel_checkGroups_78 ?_
        refine Sm_cVI (As := [.int (ga u 21 x2)]) (b := (G.1 100)) (st := []) (n := 1) E exOk wM_as (fun _ h => cM_SqlReaderModel_isLoose (ga u 21 x2) u h) gk_SqlReaderModel_628 dk_SqlReaderModel_isLoose rfl ⟨rfl, rfl⟩ ⟨Nat.le_of_ble_eq_true rfl, Nat.le_of_ble_eq_true rfl⟩ (rvW (q0 := 0) (ci := 1) E rfl rfl rfl) rfl (Nat.le_of_ble_eq_true rfl) d_SqlReaderModel_checkGroups_79 fun r7 u8 _ => ?_
        refine Sm_if_eq (tgt := 88) E d_SqlReaderModel_checkGroups_82 (by decide) (fun _ => ?_) (fun _ => ?_)
        · refine Sm_iinc (k := 2) (d := 1) E d_SqlReaderModel_checkGroups_88 rfl rfl (by decide) fun y9 _ => Sm_lvs (lv' := [(2, .int y9), (0, .ref (G.1 100)), (1, .int x1)]) rfl ?_
          refine Sm_goto (tgt := 60) E d_SqlReaderModel_checkGroups_91 (by decide) ?_
          exact Sm_sub [1, 2, 0] rfl (h60 _ _ _)
        · refine Sm_bipush (v := 9) E d_SqlReaderModel_checkGroups_85 (by decide) ?_
          exact Sm_retI hR d_SqlReaderModel_checkGroups_87
set_option maxRecDepth 100000 in
set_option maxHeartbeats 4000000 in
theorem tM_SqlReaderModel_checkGroups_L2 {X : Cx} {G : Gx} {res : Int32 × St} (E : EM X G prog_11_method_83_code R_SqlReaderModel 3 { frames := 2, cells := 0, slots := 0, locals := 47 }) (hR : RtI X vwCl (wM G) prog_11_method_83_code res) : ∀ (n : Nat) (x1 : Int32) (u : St), SM X G 3 res (mM_SqlReaderModel_checkGroups_L2 n x1 u) u 2 [(0, .ref (G.1 100)), (1, .int x1)] [] := by
  intro n
  induction n with
  | zero => intro x1 u; exact Sm_none
  | succ n h2 =>
    intro x1 u
    rw [mM_SqlReaderModel_checkGroups_L2]
    refine Sm_iload_n E d_SqlReaderModel_checkGroups_2 rfl 1 rfl ?_
    refine Sm_aload_n E d_SqlReaderModel_checkGroups_3 rfl 0 rfl ?_
    refine gfM_0_nodes E fl_SqlReaderModel_133 d_SqlReaderModel_checkGroups_4 ?_
    refine Sm_icmp_ge (tgt := 53) E d_SqlReaderModel_checkGroups_7 (by decide) (fun _ => ?_) (fun _ => ?_)
    · refine Sm_aload_n E d_SqlReaderModel_checkGroups_53 rfl 0 rfl ?_
      refine Sm_cVI (As := []) (b := (G.1 100)) (st := []) (n := 0) E exOk wM_as (fun _ h => cM_SqlReaderModel_gathered u h) gk_SqlReaderModel_625 dk_SqlReaderModel_gathered rfl ⟨rfl, rfl⟩ ⟨Nat.le_of_ble_eq_true rfl, Nat.le_of_ble_eq_true rfl⟩ (rvW (q0 := 0) (ci := 1) E rfl rfl rfl) rfl (Nat.le_of_ble_eq_true rfl) d_SqlReaderModel_checkGroups_54 fun r1 u2 _ => ?_
      refine Sm_istore_n (lv' := [(1, .int r1), (0, .ref (G.1 100))]) E d_SqlReaderModel_checkGroups_57 rfl (by decide) rfl ?_
      refine Sm_iconst (v := 0) E d_SqlReaderModel_checkGroups_58 (by decide) ?_
      refine Sm_istore_n (lv' := [(2, .int 0), (1, .int r1), (0, .ref (G.1 100))]) E d_SqlReaderModel_checkGroups_59 rfl (by decide) rfl ?_
      exact Sm_sub [2, 1, 0] rfl (tM_SqlReaderModel_checkGroups_L60 E hR FU _ _ _)
    · refine Sm_aload_n E d_SqlReaderModel_checkGroups_10 rfl 0 rfl ?_
      refine gfM_0_kind E fl_SqlReaderModel_41 d_SqlReaderModel_checkGroups_11 ?_
      refine Sm_iload_n E d_SqlReaderModel_checkGroups_14 rfl 1 rfl ?_
      refine Sm_gd fun hi => ldM_11 E (inb_in hi) d_SqlReaderModel_checkGroups_15 ?_
      refine Sm_iconst (v := 5) E d_SqlReaderModel_checkGroups_16 (by decide) ?_
      refine Sm_icmp_le (tgt := 47) E d_SqlReaderModel_checkGroups_17 (by decide) (fun _ => ?_) (fun _ => ?_)
      · refine Sm_iinc (k := 1) (d := 1) E d_SqlReaderModel_checkGroups_47 rfl rfl (by decide) fun y10 _ => Sm_lvs (lv' := [(1, .int y10), (0, .ref (G.1 100))]) rfl ?_
        refine Sm_goto (tgt := 2) E d_SqlReaderModel_checkGroups_50 (by decide) ?_
        exact Sm_sub [1, 0] rfl (h2 _ _)
      · refine Sm_aload_n E d_SqlReaderModel_checkGroups_20 rfl 0 rfl ?_
        refine gfM_0_kind E fl_SqlReaderModel_41 d_SqlReaderModel_checkGroups_21 ?_
        refine Sm_iload_n E d_SqlReaderModel_checkGroups_24 rfl 1 rfl ?_
        refine Sm_gd fun hi => ldM_11 E (inb_in hi) d_SqlReaderModel_checkGroups_25 ?_
        refine Sm_bipush (v := 10) E d_SqlReaderModel_checkGroups_26 (by decide) ?_
        refine Sm_icmp_ge (tgt := 47) E d_SqlReaderModel_checkGroups_28 (by decide) (fun _ => ?_) (fun _ => ?_)
        · refine Sm_iinc (k := 1) (d := 1) E d_SqlReaderModel_checkGroups_47 rfl rfl (by decide) fun y11 _ => Sm_lvs (lv' := [(1, .int y11), (0, .ref (G.1 100))]) rfl ?_
          refine Sm_goto (tgt := 2) E d_SqlReaderModel_checkGroups_50 (by decide) ?_
          exact Sm_sub [1, 0] rfl (h2 _ _)
        · refine Sm_aload_n E d_SqlReaderModel_checkGroups_31 rfl 0 rfl ?_
          refine Sm_aload_n E d_SqlReaderModel_checkGroups_32 rfl 0 rfl ?_
          refine gfM_0_left E fl_SqlReaderModel_44 d_SqlReaderModel_checkGroups_33 ?_
          refine Sm_iload_n E d_SqlReaderModel_checkGroups_36 rfl 1 rfl ?_
          refine Sm_gd fun hi => ldM_12 E (inb_in hi) d_SqlReaderModel_checkGroups_37 ?_
          refine Sm_cVI (As := [.int (ga u 11 x1)]) (b := (G.1 100)) (st := []) (n := 1) E exOk wM_as (fun _ h => cM_SqlReaderModel_hasAggregate (ga u 11 x1) u h) gk_SqlReaderModel_622 dk_SqlReaderModel_hasAggregate rfl ⟨rfl, rfl⟩ ⟨Nat.le_of_ble_eq_true rfl, Nat.le_of_ble_eq_true rfl⟩ (rvW (q0 := 0) (ci := 1) E rfl rfl rfl) rfl (Nat.le_of_ble_eq_true rfl) d_SqlReaderModel_checkGroups_38 fun r12 u13 _ => ?_
          refine Sm_if_eq (tgt := 47) E d_SqlReaderModel_checkGroups_41 (by decide) (fun _ => ?_) (fun _ => ?_)
          · refine Sm_iinc (k := 1) (d := 1) E d_SqlReaderModel_checkGroups_47 rfl rfl (by decide) fun y14 _ => Sm_lvs (lv' := [(1, .int y14), (0, .ref (G.1 100))]) rfl ?_
            refine Sm_goto (tgt := 2) E d_SqlReaderModel_checkGroups_50 (by decide) ?_
            exact Sm_sub [1, 0] rfl (h2 _ _)
          · refine Sm_bipush (v := 9) E d_SqlReaderModel_checkGroups_44 (by decide) ?_
            exact Sm_retI hR d_SqlReaderModel_checkGroups_46
set_option maxRecDepth 100000 in
set_option maxHeartbeats 4000000 in
theorem cM_SqlReaderModel_checkGroups {l : Launch} {D : va_G} {G : Gx} (u : St) {res : Int32 × St} (hm : mM_SqlReaderModel_checkGroups u = some res) : KM l D G y_SqlReaderModel_checkGroups (.code y_SqlReaderModel_checkGroups prog_11_method_83_code 3 (some .int)) { frames := 2, cells := 0, slots := 0, locals := 47 } [.ref (G.1 100)] u (qI D vwCl (wM G) (tyW G) (adsM G) res) := by
  refine Ct_I (by decide) wM_as (Nat.le_of_ble_eq_true rfl) hm (fun X _ _ E hR => ?_)
  refine Sm_lvs (lv' := [(0, .ref (G.1 100))]) rfl ?_
  rw [mM_SqlReaderModel_checkGroups]
  refine Sm_iconst (v := 0) E d_SqlReaderModel_checkGroups_0 (by decide) ?_
  refine Sm_istore_n (lv' := [(1, .int 0), (0, .ref (G.1 100))]) E d_SqlReaderModel_checkGroups_1 rfl (by decide) rfl ?_
  exact Sm_sub [1, 0] rfl (tM_SqlReaderModel_checkGroups_L2 E hR FU _ _)
set_option maxRecDepth 100000 in
set_option maxHeartbeats 4000000 in
theorem tM_SqlReaderModel_fault_J170 {X : Cx} {G : Gx} {res : Int32 × St} (E : EM X G prog_11_method_84_code R_SqlReaderModel 4 { frames := 414, cells := 0, slots := 0, locals := 14307 }) (hR : RtI X vwCl (wM G) prog_11_method_84_code res) : ∀ (s0 : Int32) (u : St), SM X G 4 res (mM_SqlReaderModel_fault_J170 s0 u) u 170 [(0, .ref (G.1 100))] [.int s0] := by
  intro s0 u
  rw [mM_SqlReaderModel_fault_J170]
  refine Sm_istore_n (lv' := [(2, .int s0), (0, .ref (G.1 100))]) E d_SqlReaderModel_fault_170 rfl (by decide) rfl ?_
  refine Sm_iload_n E d_SqlReaderModel_fault_171 rfl 0 rfl ?_
  refine Sm_if_eq (tgt := 179) E d_SqlReaderModel_fault_172 (by decide) (fun _ => ?_) (fun _ => ?_)
  · refine Sm_aload_n E d_SqlReaderModel_fault_179 rfl 1 rfl ?_
    refine Sm_cVi (As := []) (b := (G.1 100)) (st := []) (n := 0) E exOk wM_as (fun _ h => cM_SqlReaderModel_counts u h) gk_SqlReaderModel_643 dk_SqlReaderModel_counts rfl ⟨rfl, rfl⟩ ⟨Nat.le_of_ble_eq_true rfl, Nat.le_of_ble_eq_true rfl⟩ (rvW (q0 := 0) (ci := 1) E rfl rfl rfl) rfl (Nat.le_of_ble_eq_true rfl) d_SqlReaderModel_fault_180 fun r7 _ => ?_
    refine Sm_if_ne (tgt := 190) E d_SqlReaderModel_fault_183 (by decide) (fun _ => ?_) (fun _ => ?_)
    · refine Sm_aload_n E d_SqlReaderModel_fault_190 rfl 1 rfl ?_
      refine Sm_cVI (As := []) (b := (G.1 100)) (st := []) (n := 0) E exOk wM_as (fun _ h => cM_SqlReaderModel_checkGroups u h) gk_SqlReaderModel_646 dk_SqlReaderModel_checkGroups rfl ⟨rfl, rfl⟩ ⟨Nat.le_of_ble_eq_true rfl, Nat.le_of_ble_eq_true rfl⟩ (rvW (q0 := 0) (ci := 1) E rfl rfl rfl) rfl (Nat.le_of_ble_eq_true rfl) d_SqlReaderModel_fault_191 fun r8 u9 _ => ?_
      exact Sm_retI hR d_SqlReaderModel_fault_194
    · refine Sm_iconst (v := 1) E d_SqlReaderModel_fault_186 (by decide) ?_
      refine Sm_goto (tgt := 194) E d_SqlReaderModel_fault_187 (by decide) ?_
      exact Sm_retI hR d_SqlReaderModel_fault_194
  · refine Sm_iload_n E d_SqlReaderModel_fault_175 rfl 0 rfl ?_
    refine Sm_goto (tgt := 194) E d_SqlReaderModel_fault_176 (by decide) ?_
    exact Sm_retI hR d_SqlReaderModel_fault_194
set_option maxRecDepth 100000 in
set_option maxHeartbeats 4000000 in
theorem tM_SqlReaderModel_fault_J151 {X : Cx} {G : Gx} {res : Int32 × St} (E : EM X G prog_11_method_84_code R_SqlReaderModel 4 { frames := 414, cells := 0, slots := 0, locals := 14307 }) (hR : RtI X vwCl (wM G) prog_11_method_84_code res) : ∀ (x2 : Int32) (u : St), SM X G 4 res (mM_SqlReaderModel_fault_J151 x2 u) u 151 [(0, .ref (G.1 100)), (2, .int x2)] [] := by
  intro x2 u
  rw [mM_SqlReaderModel_fault_J151]
  refine Sm_iload_n E d_SqlReaderModel_fault_151 rfl 1 rfl ?_
  refine Sm_if_ne (tgt := 169) E d_SqlReaderModel_fault_152 (by decide) (fun _ => ?_) (fun _ => ?_)
  · refine Sm_iload_n E d_SqlReaderModel_fault_169 rfl 1 rfl ?_
    exact Sm_sub [0] rfl (tM_SqlReaderModel_fault_J170 E hR _ _)
  · refine Sm_aload_n E d_SqlReaderModel_fault_155 rfl 0 rfl ?_
    refine gfM_0_star E fl_SqlReaderModel_158 d_SqlReaderModel_fault_156 ?_
    refine Sm_if_eq (tgt := 169) E d_SqlReaderModel_fault_159 (by decide) (fun _ => ?_) (fun _ => ?_)
    · refine Sm_iload_n E d_SqlReaderModel_fault_169 rfl 1 rfl ?_
      exact Sm_sub [0] rfl (tM_SqlReaderModel_fault_J170 E hR _ _)
    · refine Sm_aload_n E d_SqlReaderModel_fault_162 rfl 0 rfl ?_
      refine Sm_cVI (As := []) (b := (G.1 100)) (st := []) (n := 0) E exOk wM_as (fun _ h => cM_SqlReaderModel_spread u h) gk_SqlReaderModel_640 dk_SqlReaderModel_spread rfl ⟨rfl, rfl⟩ ⟨Nat.le_of_ble_eq_true rfl, Nat.le_of_ble_eq_true rfl⟩ (rvW (q0 := 0) (ci := 1) E rfl rfl rfl) rfl (Nat.le_of_ble_eq_true rfl) d_SqlReaderModel_fault_163 fun r10 u11 _ => ?_
      refine Sm_goto (tgt := 170) E d_SqlReaderModel_fault_166 (by decide) ?_
      exact Sm_sub [0] rfl (tM_SqlReaderModel_fault_J170 E hR _ _)
set_option maxRecDepth 100000 in
set_option maxHeartbeats 4000000 in
theorem tM_SqlReaderModel_fault_L127 {X : Cx} {G : Gx} {res : Int32 × St} (E : EM X G prog_11_method_84_code R_SqlReaderModel 4 { frames := 414, cells := 0, slots := 0, locals := 14307 }) (hR : RtI X vwCl (wM G) prog_11_method_84_code res) : ∀ (n : Nat) (x2 : Int32) (x3 : Int32) (u : St), SM X G 4 res (mM_SqlReaderModel_fault_L127 n x2 x3 u) u 127 [(0, .ref (G.1 100)), (2, .int x2), (3, .int x3)] [] := by
  intro n
  induction n with
  | zero => intro x2 x3 u; exact Sm_none
  | succ n h127 =>
    intro x2 x3 u
    rw [mM_SqlReaderModel_fault_L127]
    refine Sm_iload_n E d_SqlReaderModel_fault_127 rfl 2 rfl ?_
    refine Sm_aload_n E d_SqlReaderModel_fault_128 rfl 0 rfl ?_
    refine gfM_0_checks E fl_SqlReaderModel_137 d_SqlReaderModel_fault_129 ?_
    refine Sm_icmp_ge (tgt := 151) E d_SqlReaderModel_fault_132 (by decide) (fun _ => ?_) (fun _ => ?_)
    · exact Sm_sub [0, 1] rfl (tM_SqlReaderModel_fault_J151 E hR _ _)
    · refine Sm_iload_n E d_SqlReaderModel_fault_135 rfl 1 rfl ?_
      refine Sm_if_ne (tgt := 151) E d_SqlReaderModel_fault_136 (by decide) (fun _ => ?_) (fun _ => ?_)
      · exact Sm_sub [0, 1] rfl (tM_SqlReaderModel_fault_J151 E hR _ _)
      · refine Sm_aload_n E d_SqlReaderModel_fault_139 rfl 0 rfl ?_
        refine Sm_iload_n E d_SqlReaderModel_fault_140 rfl 2 rfl ?_
        refine Sm_cVI (As := [.int x3]) (b := (G.1 100)) (st := []) (n := 1) E exOk wM_as (fun _ h => cM_SqlReaderModel_checkOne x3 u h) gk_SqlReaderModel_637 dk_SqlReaderModel_checkOne rfl ⟨rfl, rfl⟩ ⟨Nat.le_of_ble_eq_true rfl, Nat.le_of_ble_eq_true rfl⟩ (rvW (q0 := 0) (ci := 1) E rfl rfl rfl) rfl (Nat.le_of_ble_eq_true rfl) d_SqlReaderModel_fault_141 fun r12 u13 _ => ?_
        refine Sm_istore_n (lv' := [(2, .int r12), (0, .ref (G.1 100)), (3, .int x3)]) E d_SqlReaderModel_fault_144 rfl (by decide) rfl ?_
        refine Sm_iinc (k := 2) (d := 1) E d_SqlReaderModel_fault_145 rfl rfl (by decide) fun y14 _ => Sm_lvs (lv' := [(3, .int y14), (2, .int r12), (0, .ref (G.1 100))]) rfl ?_
        refine Sm_goto (tgt := 127) E d_SqlReaderModel_fault_148 (by decide) ?_
        exact Sm_sub [2, 1, 0] rfl (h127 _ _ _)
set_option maxRecDepth 100000 in
set_option maxHeartbeats 4000000 in
theorem tM_SqlReaderModel_fault_J27 {X : Cx} {G : Gx} {res : Int32 × St} (E : EM X G prog_11_method_84_code R_SqlReaderModel 4 { frames := 414, cells := 0, slots := 0, locals := 14307 }) (hR : RtI X vwCl (wM G) prog_11_method_84_code res) : ∀ (u : St), SM X G 4 res (mM_SqlReaderModel_fault_J27 u) u 27 [(0, .ref (G.1 100))] [] := by
  intro u
  rw [mM_SqlReaderModel_fault_J27]
  refine Sm_aload_n E d_SqlReaderModel_fault_27 rfl 0 rfl ?_
  refine Sm_ldcS_w E sr_SqlReaderModel_425 d_SqlReaderModel_fault_28 ?_
  refine Sm_cVI (As := [.ref (G.2.2.1 81)]) (b := (G.1 100)) (st := []) (n := 1) E exOk wM_as (fun _ h => cM_SqlReaderModel_takes 81 u h) gk_SqlReaderModel_421 dk_SqlReaderModel_takes rfl ⟨rfl, rfl⟩ ⟨Nat.le_of_ble_eq_true rfl, Nat.le_of_ble_eq_true rfl⟩ (rvW (q0 := 0) (ci := 1) E rfl rfl rfl) rfl (Nat.le_of_ble_eq_true rfl) d_SqlReaderModel_fault_31 fun r3 u4 _ => ?_
  refine Sm_istore_n (lv' := [(1, .int r3), (0, .ref (G.1 100))]) E d_SqlReaderModel_fault_34 rfl (by decide) rfl ?_
  refine Sm_aload_n E d_SqlReaderModel_fault_35 rfl 1 rfl ?_
  refine gfM_0_bad E fl_SqlReaderModel_226 d_SqlReaderModel_fault_36 ?_
  refine Sm_if_ne (tgt := 53) E d_SqlReaderModel_fault_39 (by decide) (fun _ => ?_) (fun _ => ?_)
  · refine Sm_iconst (v := 1) E d_SqlReaderModel_fault_53 (by decide) ?_
    exact Sm_retI hR d_SqlReaderModel_fault_54
  · refine Sm_aload_n E d_SqlReaderModel_fault_42 rfl 1 rfl ?_
    refine gfM_0_place E fl_SqlReaderModel_419 d_SqlReaderModel_fault_43 ?_
    refine Sm_aload_n E d_SqlReaderModel_fault_46 rfl 1 rfl ?_
    refine gfM_0_tokens E fl_SqlReaderModel_223 d_SqlReaderModel_fault_47 ?_
    refine Sm_icmp_eq (tgt := 55) E d_SqlReaderModel_fault_50 (by decide) (fun _ => ?_) (fun _ => ?_)
    · refine Sm_aload_n E d_SqlReaderModel_fault_55 rfl 1 rfl ?_
      refine gfM_0_nodes E fl_SqlReaderModel_133 d_SqlReaderModel_fault_56 ?_
      refine Sm_sipush (v := 200) E d_SqlReaderModel_fault_59 (by decide) ?_
      refine Sm_icmp_le (tgt := 67) E d_SqlReaderModel_fault_62 (by decide) (fun _ => ?_) (fun _ => ?_)
      · refine Sm_aload_n E d_SqlReaderModel_fault_67 rfl 1 rfl ?_
        refine gfM_0_froms E fl_SqlReaderModel_183 d_SqlReaderModel_fault_68 ?_
        refine Sm_iconst (v := 3) E d_SqlReaderModel_fault_71 (by decide) ?_
        refine Sm_icmp_gt (tgt := 118) E d_SqlReaderModel_fault_72 (by decide) (fun _ => ?_) (fun _ => ?_)
        · refine Sm_iconst (v := 3) E d_SqlReaderModel_fault_118 (by decide) ?_
          exact Sm_retI hR d_SqlReaderModel_fault_119
        · refine Sm_aload_n E d_SqlReaderModel_fault_75 rfl 1 rfl ?_
          refine gfM_0_items E fl_SqlReaderModel_174 d_SqlReaderModel_fault_76 ?_
          refine Sm_bipush (v := 8) E d_SqlReaderModel_fault_79 (by decide) ?_
          refine Sm_icmp_gt (tgt := 118) E d_SqlReaderModel_fault_81 (by decide) (fun _ => ?_) (fun _ => ?_)
          · refine Sm_iconst (v := 3) E d_SqlReaderModel_fault_118 (by decide) ?_
            exact Sm_retI hR d_SqlReaderModel_fault_119
          · refine Sm_aload_n E d_SqlReaderModel_fault_84 rfl 1 rfl ?_
            refine gfM_0_groups E fl_SqlReaderModel_177 d_SqlReaderModel_fault_85 ?_
            refine Sm_iconst (v := 4) E d_SqlReaderModel_fault_88 (by decide) ?_
            refine Sm_icmp_gt (tgt := 118) E d_SqlReaderModel_fault_89 (by decide) (fun _ => ?_) (fun _ => ?_)
            · refine Sm_iconst (v := 3) E d_SqlReaderModel_fault_118 (by decide) ?_
              exact Sm_retI hR d_SqlReaderModel_fault_119
            · refine Sm_aload_n E d_SqlReaderModel_fault_92 rfl 1 rfl ?_
              refine gfM_0_orders E fl_SqlReaderModel_180 d_SqlReaderModel_fault_93 ?_
              refine Sm_iconst (v := 4) E d_SqlReaderModel_fault_96 (by decide) ?_
              refine Sm_icmp_gt (tgt := 118) E d_SqlReaderModel_fault_97 (by decide) (fun _ => ?_) (fun _ => ?_)
              · refine Sm_iconst (v := 3) E d_SqlReaderModel_fault_118 (by decide) ?_
                exact Sm_retI hR d_SqlReaderModel_fault_119
              · refine Sm_aload_n E d_SqlReaderModel_fault_100 rfl 1 rfl ?_
                refine gfM_0_columns E fl_SqlReaderModel_198 d_SqlReaderModel_fault_101 ?_
                refine Sm_bipush (v := 8) E d_SqlReaderModel_fault_104 (by decide) ?_
                refine Sm_icmp_gt (tgt := 118) E d_SqlReaderModel_fault_106 (by decide) (fun _ => ?_) (fun _ => ?_)
                · refine Sm_iconst (v := 3) E d_SqlReaderModel_fault_118 (by decide) ?_
                  exact Sm_retI hR d_SqlReaderModel_fault_119
                · refine Sm_aload_n E d_SqlReaderModel_fault_109 rfl 1 rfl ?_
                  refine gfM_0_sets E fl_SqlReaderModel_186 d_SqlReaderModel_fault_110 ?_
                  refine Sm_bipush (v := 8) E d_SqlReaderModel_fault_113 (by decide) ?_
                  refine Sm_icmp_le (tgt := 120) E d_SqlReaderModel_fault_115 (by decide) (fun _ => ?_) (fun _ => ?_)
                  · refine Sm_aload_n E d_SqlReaderModel_fault_120 rfl 1 rfl ?_
                    refine Sm_cVI (As := []) (b := (G.1 100)) (st := []) (n := 0) E exOk wM_as (fun _ h => cM_SqlReaderModel_checkTables u4 h) gk_SqlReaderModel_634 dk_SqlReaderModel_checkTables rfl ⟨rfl, rfl⟩ ⟨Nat.le_of_ble_eq_true rfl, Nat.le_of_ble_eq_true rfl⟩ (rvW (q0 := 0) (ci := 1) E rfl rfl rfl) rfl (Nat.le_of_ble_eq_true rfl) d_SqlReaderModel_fault_121 fun r5 u6 _ => ?_
                    refine Sm_istore_n (lv' := [(2, .int r5), (1, .int r3), (0, .ref (G.1 100))]) E d_SqlReaderModel_fault_124 rfl (by decide) rfl ?_
                    refine Sm_iconst (v := 0) E d_SqlReaderModel_fault_125 (by decide) ?_
                    refine Sm_istore_n (lv' := [(3, .int 0), (2, .int r5), (1, .int r3), (0, .ref (G.1 100))]) E d_SqlReaderModel_fault_126 rfl (by decide) rfl ?_
                    exact Sm_sub [3, 1, 0] rfl (tM_SqlReaderModel_fault_L127 E hR FU _ _ _)
                  · refine Sm_iconst (v := 3) E d_SqlReaderModel_fault_118 (by decide) ?_
                    exact Sm_retI hR d_SqlReaderModel_fault_119
      · refine Sm_iconst (v := 2) E d_SqlReaderModel_fault_65 (by decide) ?_
        exact Sm_retI hR d_SqlReaderModel_fault_66
    · refine Sm_iconst (v := 1) E d_SqlReaderModel_fault_53 (by decide) ?_
      exact Sm_retI hR d_SqlReaderModel_fault_54
set_option maxRecDepth 100000 in
set_option maxHeartbeats 4000000 in
theorem cM_SqlReaderModel_fault {l : Launch} {D : va_G} {G : Gx} (u : St) {res : Int32 × St} (hm : mM_SqlReaderModel_fault u = some res) : KM l D G y_SqlReaderModel_fault (.code y_SqlReaderModel_fault prog_11_method_84_code 4 (some .int)) { frames := 414, cells := 0, slots := 0, locals := 14307 } [.ref (G.1 100)] u (qI D vwCl (wM G) (tyW G) (adsM G) res) := by
  refine Ct_I (by decide) wM_as (Nat.le_of_ble_eq_true rfl) hm (fun X _ _ E hR => ?_)
  refine Sm_lvs (lv' := [(0, .ref (G.1 100))]) rfl ?_
  rw [mM_SqlReaderModel_fault]
  refine Sm_aload_n E d_SqlReaderModel_fault_0 rfl 0 rfl ?_
  refine Sm_cVV (As := []) (b := (G.1 100)) (st := []) (n := 0) E exOk wM_as (fun _ h => cM_SqlReaderModel_cut u h) gk_SqlReaderModel_262 dk_SqlReaderModel_cut rfl ⟨rfl, rfl⟩ ⟨Nat.le_of_ble_eq_true rfl, Nat.le_of_ble_eq_true rfl⟩ (rvW (q0 := 0) (ci := 1) E rfl rfl rfl) rfl (Nat.le_of_ble_eq_true rfl) d_SqlReaderModel_fault_1 fun u1 _ => ?_
  refine Sm_aload_n E d_SqlReaderModel_fault_4 rfl 0 rfl ?_
  refine Sm_iconst (v := 0) E d_SqlReaderModel_fault_5 (by decide) ?_
  refine pfM_0_place E fl_SqlReaderModel_419 d_SqlReaderModel_fault_6 fun u2 _ => ?_
  refine Sm_aload_n E d_SqlReaderModel_fault_9 rfl 0 rfl ?_
  refine gfM_0_bad E fl_SqlReaderModel_226 d_SqlReaderModel_fault_10 ?_
  refine Sm_if_ne (tgt := 27) E d_SqlReaderModel_fault_13 (by decide) (fun _ => ?_) (fun _ => ?_)
  · exact Sm_sub [0] rfl (tM_SqlReaderModel_fault_J27 E hR _)
  · refine Sm_aload_n E d_SqlReaderModel_fault_16 rfl 0 rfl ?_
    refine Sm_cVI (As := []) (b := (G.1 100)) (st := []) (n := 0) E exOk wM_as (fun _ h => cM_SqlReaderModel_readDeed u2 h) gk_SqlReaderModel_570 dk_SqlReaderModel_readDeed rfl ⟨rfl, rfl⟩ ⟨Nat.le_of_ble_eq_true rfl, Nat.le_of_ble_eq_true rfl⟩ (rvW (q0 := 0) (ci := 1) E rfl rfl rfl) rfl (Nat.le_of_ble_eq_true rfl) d_SqlReaderModel_fault_17 fun r15 u16 _ => ?_
    refine Sm_if_ne (tgt := 27) E d_SqlReaderModel_fault_20 (by decide) (fun _ => ?_) (fun _ => ?_)
    · exact Sm_sub [0] rfl (tM_SqlReaderModel_fault_J27 E hR _)
    · refine Sm_aload_n E d_SqlReaderModel_fault_23 rfl 0 rfl ?_
      refine Sm_cVV (As := []) (b := (G.1 100)) (st := []) (n := 0) E exOk wM_as (fun _ h => cM_SqlReaderModel_readOther u16 h) gk_SqlReaderModel_631 dk_SqlReaderModel_readOther rfl ⟨rfl, rfl⟩ ⟨Nat.le_of_ble_eq_true rfl, Nat.le_of_ble_eq_true rfl⟩ (rvW (q0 := 0) (ci := 1) E rfl rfl rfl) rfl (Nat.le_of_ble_eq_true rfl) d_SqlReaderModel_fault_24 fun u17 _ => ?_
      exact Sm_sub [0] rfl (tM_SqlReaderModel_fault_J27 E hR _)
set_option maxRecDepth 100000 in
set_option maxHeartbeats 4000000 in
theorem tM_SqlReaderModel_keep_L29 {X : Cx} {G : Gx} {res : St} (E : EM X G prog_11_method_85_code R_SqlReaderModel 4 { frames := 0, cells := 0, slots := 0, locals := 0 }) (hR : RtV X vwCl (wM G) prog_11_method_85_code res) : ∀ (n : Nat) (x1 : Int32) (x2 : Int32) (x3 : Int32) (u : St), SM X G 4 res (mM_SqlReaderModel_keep_L29 n x1 x2 x3 u) u 29 [(0, .ref (G.1 100)), (1, .int x1), (2, .int x2), (3, .int x3)] [] := by
  intro n
  induction n with
  | zero => intro x1 x2 x3 u; exact Sm_none
  | succ n h29 =>
    intro x1 x2 x3 u
    rw [mM_SqlReaderModel_keep_L29]
    refine Sm_iload_n E d_SqlReaderModel_keep_29 rfl 3 rfl ?_
    refine Sm_aload_n E d_SqlReaderModel_keep_30 rfl 0 rfl ?_
    refine gfM_0_keptSize E fl_SqlReaderModel_127 d_SqlReaderModel_keep_31 ?_
    refine Sm_iload_n E d_SqlReaderModel_keep_34 rfl 1 rfl ?_
    refine Sm_gd fun hi => ldM_39 E (inb_in hi) d_SqlReaderModel_keep_35 ?_
    refine Sm_icmp_ge (tgt := 69) E d_SqlReaderModel_keep_36 (by decide) (fun _ => ?_) (fun _ => ?_)
    · exact Sm_retV hR d_SqlReaderModel_keep_69
    · refine Sm_aload_n E d_SqlReaderModel_keep_39 rfl 0 rfl ?_
      refine gfM_0_kept E fl_SqlReaderModel_124 d_SqlReaderModel_keep_40 ?_
      refine Sm_bipush (v := 16) E d_SqlReaderModel_keep_43 (by decide) ?_
      refine Sm_iload_n E d_SqlReaderModel_keep_45 rfl 1 rfl ?_
      refine Sm_imul E d_SqlReaderModel_keep_46 ?_
      refine Sm_iload_n E d_SqlReaderModel_keep_47 rfl 3 rfl ?_
      refine Sm_iadd E d_SqlReaderModel_keep_48 ?_
      refine Sm_aload_n E d_SqlReaderModel_keep_49 rfl 0 rfl ?_
      refine gfM_0_text E fl_SqlReaderModel_7 d_SqlReaderModel_keep_50 ?_
      refine Sm_aload_n E d_SqlReaderModel_keep_53 rfl 0 rfl ?_
      refine gfM_0_from E fl_SqlReaderModel_17 d_SqlReaderModel_keep_54 ?_
      refine Sm_iload_n E d_SqlReaderModel_keep_57 rfl 2 rfl ?_
      refine Sm_gd fun hi => ldM_3 E (inb_in hi) d_SqlReaderModel_keep_58 ?_
      refine Sm_iload_n E d_SqlReaderModel_keep_59 rfl 3 rfl ?_
      refine Sm_iadd E d_SqlReaderModel_keep_60 ?_
      refine Sm_gd fun hi => ldM_1 E (inb_in hi) d_SqlReaderModel_keep_61 ?_
      refine Sm_gd fun hi => stM_38 E (inb_in hi) d_SqlReaderModel_keep_62 fun u2 _ => ?_
      refine Sm_iinc (k := 3) (d := 1) E d_SqlReaderModel_keep_63 rfl rfl (by decide) fun y3 _ => Sm_lvs (lv' := [(3, .int y3), (0, .ref (G.1 100)), (1, .int x1), (2, .int x2)]) rfl ?_
      refine Sm_goto (tgt := 29) E d_SqlReaderModel_keep_66 (by decide) ?_
      exact Sm_sub [1, 2, 3, 0] rfl (h29 _ _ _ _)
set_option maxRecDepth 100000 in
set_option maxHeartbeats 4000000 in
theorem cM_SqlReaderModel_keep {l : Launch} {D : va_G} {G : Gx} (x1 : Int32) (x2 : Int32) (u : St) {res : St} (hm : mM_SqlReaderModel_keep x1 x2 u = some res) : KM l D G y_SqlReaderModel_keep (.code y_SqlReaderModel_keep prog_11_method_85_code 4 none) { frames := 0, cells := 0, slots := 0, locals := 0 } [.ref (G.1 100), .int x1, .int x2] u (qV D vwCl (wM G) (tyW G) (adsM G) res) := by
  refine Ct_V (by decide) wM_as (Nat.le_of_ble_eq_true rfl) hm (fun X _ _ E hR => ?_)
  refine Sm_lvs (lv' := [(0, .ref (G.1 100)), (1, .int x1), (2, .int x2)]) rfl ?_
  rw [mM_SqlReaderModel_keep]
  refine Sm_aload_n E d_SqlReaderModel_keep_0 rfl 0 rfl ?_
  refine gfM_0_keptSize E fl_SqlReaderModel_127 d_SqlReaderModel_keep_1 ?_
  refine Sm_iload_n E d_SqlReaderModel_keep_4 rfl 1 rfl ?_
  refine Sm_iload_n E d_SqlReaderModel_keep_5 rfl 2 rfl ?_
  refine Sm_if_ge (tgt := 13) E d_SqlReaderModel_keep_6 (by decide) (fun _ => ?_) (fun _ => ?_)
  · refine Sm_aload_n E d_SqlReaderModel_keep_13 rfl 0 rfl ?_
    refine gfM_0_to E fl_SqlReaderModel_20 d_SqlReaderModel_keep_14 ?_
    refine Sm_iload_n E d_SqlReaderModel_keep_17 rfl 2 rfl ?_
    refine Sm_gd fun hi => ldM_4 E (inb_in hi) d_SqlReaderModel_keep_18 ?_
    refine Sm_aload_n E d_SqlReaderModel_keep_19 rfl 0 rfl ?_
    refine gfM_0_from E fl_SqlReaderModel_17 d_SqlReaderModel_keep_20 ?_
    refine Sm_iload_n E d_SqlReaderModel_keep_23 rfl 2 rfl ?_
    refine Sm_gd fun hi => ldM_3 E (inb_in hi) d_SqlReaderModel_keep_24 ?_
    refine Sm_isub E d_SqlReaderModel_keep_25 ?_
    refine Sm_gd fun hi => stM_39 E (inb_in hi) d_SqlReaderModel_keep_26 fun u1 _ => ?_
    refine Sm_iconst (v := 0) E d_SqlReaderModel_keep_27 (by decide) ?_
    refine Sm_istore_n (lv' := [(3, .int 0), (0, .ref (G.1 100)), (1, .int x1), (2, .int x2)]) E d_SqlReaderModel_keep_28 rfl (by decide) rfl ?_
    exact Sm_sub [1, 2, 3, 0] rfl (tM_SqlReaderModel_keep_L29 E hR FU _ _ _ _)
  · refine Sm_iconst (v := 0) E d_SqlReaderModel_keep_9 (by decide) ?_
    refine Sm_goto (tgt := 26) E d_SqlReaderModel_keep_10 (by decide) ?_
    refine Sm_gd fun hi => stM_39 E (inb_in hi) d_SqlReaderModel_keep_26 fun u4 _ => ?_
    refine Sm_iconst (v := 0) E d_SqlReaderModel_keep_27 (by decide) ?_
    refine Sm_istore_n (lv' := [(3, .int 0), (0, .ref (G.1 100)), (1, .int x1), (2, .int x2)]) E d_SqlReaderModel_keep_28 rfl (by decide) rfl ?_
    exact Sm_sub [1, 2, 3, 0] rfl (tM_SqlReaderModel_keep_L29 E hR FU _ _ _ _)
set_option maxRecDepth 100000 in
set_option maxHeartbeats 4000000 in
theorem tM_SqlReaderModel_read_L39 {X : Cx} {G : Gx} {res : Int32 × St} (E : EM X G prog_11_method_86_code R_SqlReaderModel 2 { frames := 415, cells := 0, slots := 0, locals := 14330 }) (hR : RtI X vwCl (wM G) prog_11_method_86_code res) : ∀ (n : Nat) (x1 : Int32) (u : St), SM X G 2 res (mM_SqlReaderModel_read_L39 n x1 u) u 39 [(0, .ref (G.1 100)), (1, .int x1)] [] := by
  intro n
  induction n with
  | zero => intro x1 u; exact Sm_none
  | succ n h39 =>
    intro x1 u
    rw [mM_SqlReaderModel_read_L39]
    refine Sm_iload_n E d_SqlReaderModel_read_39 rfl 1 rfl ?_
    refine Sm_bipush (v := 8) E d_SqlReaderModel_read_40 (by decide) ?_
    refine Sm_icmp_ge (tgt := 76) E d_SqlReaderModel_read_42 (by decide) (fun _ => ?_) (fun _ => ?_)
    · refine Sm_aload_n E d_SqlReaderModel_read_76 rfl 0 rfl ?_
      refine gfM_0_error E fl_SqlReaderModel_652 d_SqlReaderModel_read_77 ?_
      refine Sm_if_le (tgt := 91) E d_SqlReaderModel_read_80 (by decide) (fun _ => ?_) (fun _ => ?_)
      · refine Sm_aload_n E d_SqlReaderModel_read_91 rfl 0 rfl ?_
        refine gfM_0_what E fl_SqlReaderModel_140 d_SqlReaderModel_read_92 ?_
        exact Sm_retI hR d_SqlReaderModel_read_95
      · refine Sm_aload_n E d_SqlReaderModel_read_83 rfl 0 rfl ?_
        refine gfM_0_error E fl_SqlReaderModel_652 d_SqlReaderModel_read_84 ?_
        refine Sm_ineg E d_SqlReaderModel_read_87 ?_
        refine Sm_goto (tgt := 95) E d_SqlReaderModel_read_88 (by decide) ?_
        exact Sm_retI hR d_SqlReaderModel_read_95
    · refine Sm_aload_n E d_SqlReaderModel_read_45 rfl 0 rfl ?_
      refine Sm_iload_n E d_SqlReaderModel_read_46 rfl 1 rfl ?_
      refine Sm_iconst (v := 1) E d_SqlReaderModel_read_47 (by decide) ?_
      refine Sm_iadd E d_SqlReaderModel_read_48 ?_
      refine Sm_iload_n E d_SqlReaderModel_read_49 rfl 1 rfl ?_
      refine Sm_aload_n E d_SqlReaderModel_read_50 rfl 0 rfl ?_
      refine gfM_0_columns E fl_SqlReaderModel_198 d_SqlReaderModel_read_51 ?_
      refine Sm_icmp_ge (tgt := 66) E d_SqlReaderModel_read_54 (by decide) (fun _ => ?_) (fun _ => ?_)
      · refine Sm_iconst (v := (-1)) E d_SqlReaderModel_read_66 (by decide) ?_
        refine Sm_cVV (As := [.int (x1 + 1), .int (-1)]) (b := (G.1 100)) (st := []) (n := 2) E exOk wM_as (fun _ h => cM_SqlReaderModel_keep (x1 + 1) (-1) u h) gk_SqlReaderModel_654 dk_SqlReaderModel_keep rfl ⟨rfl, rfl⟩ ⟨Nat.le_of_ble_eq_true rfl, Nat.le_of_ble_eq_true rfl⟩ (rvW (q0 := 0) (ci := 1) E rfl rfl rfl) rfl (Nat.le_of_ble_eq_true rfl) d_SqlReaderModel_read_67 fun u7 _ => ?_
        refine Sm_iinc (k := 1) (d := 1) E d_SqlReaderModel_read_70 rfl rfl (by decide) fun y8 _ => Sm_lvs (lv' := [(1, .int y8), (0, .ref (G.1 100))]) rfl ?_
        refine Sm_goto (tgt := 39) E d_SqlReaderModel_read_73 (by decide) ?_
        exact Sm_sub [1, 0] rfl (h39 _ _)
      · refine Sm_aload_n E d_SqlReaderModel_read_57 rfl 0 rfl ?_
        refine gfM_0_newToken E fl_SqlReaderModel_112 d_SqlReaderModel_read_58 ?_
        refine Sm_iload_n E d_SqlReaderModel_read_61 rfl 1 rfl ?_
        refine Sm_gd fun hi => ldM_34 E (inb_in hi) d_SqlReaderModel_read_62 ?_
        refine Sm_goto (tgt := 67) E d_SqlReaderModel_read_63 (by decide) ?_
        refine Sm_cVV (As := [.int (x1 + 1), .int (ga u 31 x1)]) (b := (G.1 100)) (st := []) (n := 2) E exOk wM_as (fun _ h => cM_SqlReaderModel_keep (x1 + 1) (ga u 31 x1) u h) gk_SqlReaderModel_654 dk_SqlReaderModel_keep rfl ⟨rfl, rfl⟩ ⟨Nat.le_of_ble_eq_true rfl, Nat.le_of_ble_eq_true rfl⟩ (rvW (q0 := 0) (ci := 1) E rfl rfl rfl) rfl (Nat.le_of_ble_eq_true rfl) d_SqlReaderModel_read_67 fun u9 _ => ?_
        refine Sm_iinc (k := 1) (d := 1) E d_SqlReaderModel_read_70 rfl rfl (by decide) fun y10 _ => Sm_lvs (lv' := [(1, .int y10), (0, .ref (G.1 100))]) rfl ?_
        refine Sm_goto (tgt := 39) E d_SqlReaderModel_read_73 (by decide) ?_
        exact Sm_sub [1, 0] rfl (h39 _ _)
set_option maxRecDepth 100000 in
set_option maxHeartbeats 4000000 in
theorem cM_SqlReaderModel_read {l : Launch} {D : va_G} {G : Gx} (u : St) {res : Int32 × St} (hm : mM_SqlReaderModel_read u = some res) : KM l D G y_SqlReaderModel_read (.code y_SqlReaderModel_read prog_11_method_86_code 2 (some .int)) { frames := 415, cells := 0, slots := 0, locals := 14330 } [.ref (G.1 100)] u (qI D vwCl (wM G) (tyW G) (adsM G) res) := by
  refine Ct_I (by decide) wM_as (Nat.le_of_ble_eq_true rfl) hm (fun X _ _ E hR => ?_)
  refine Sm_lvs (lv' := [(0, .ref (G.1 100))]) rfl ?_
  rw [mM_SqlReaderModel_read]
  refine Sm_aload_n E d_SqlReaderModel_read_0 rfl 0 rfl ?_
  refine Sm_cVV (As := []) (b := (G.1 100)) (st := []) (n := 0) E exOk wM_as (fun _ h => cM_SqlReaderModel_forget u h) gk_SqlReaderModel_130 dk_SqlReaderModel_forget rfl ⟨rfl, rfl⟩ ⟨Nat.le_of_ble_eq_true rfl, Nat.le_of_ble_eq_true rfl⟩ (rvW (q0 := 0) (ci := 1) E rfl rfl rfl) rfl (Nat.le_of_ble_eq_true rfl) d_SqlReaderModel_read_1 fun u1 _ => ?_
  refine Sm_aload_n E d_SqlReaderModel_read_4 rfl 0 rfl ?_
  refine Sm_aload_n E d_SqlReaderModel_read_5 rfl 0 rfl ?_
  refine Sm_cVI (As := []) (b := (G.1 100)) (st := [.ref (G.1 100)]) (n := 0) E exOk wM_as (fun _ h => cM_SqlReaderModel_fault u1 h) gk_SqlReaderModel_649 dk_SqlReaderModel_fault rfl ⟨rfl, rfl⟩ ⟨Nat.le_of_ble_eq_true rfl, Nat.le_of_ble_eq_true rfl⟩ (rvW (q0 := 0) (ci := 1) E rfl rfl rfl) rfl (Nat.le_of_ble_eq_true rfl) d_SqlReaderModel_read_6 fun r2 u3 _ => ?_
  refine pfM_0_error E fl_SqlReaderModel_652 d_SqlReaderModel_read_9 fun u4 _ => ?_
  refine Sm_aload_n E d_SqlReaderModel_read_12 rfl 0 rfl ?_
  refine Sm_iconst (v := 0) E d_SqlReaderModel_read_13 (by decide) ?_
  refine pfM_0_size E fl_SqlReaderModel_213 d_SqlReaderModel_read_14 fun u5 _ => ?_
  refine Sm_aload_n E d_SqlReaderModel_read_17 rfl 0 rfl ?_
  refine gfM_0_error E fl_SqlReaderModel_652 d_SqlReaderModel_read_18 ?_
  refine Sm_if_le (tgt := 28) E d_SqlReaderModel_read_21 (by decide) (fun _ => ?_) (fun _ => ?_)
  · refine Sm_aload_n E d_SqlReaderModel_read_28 rfl 0 rfl ?_
    refine Sm_iconst (v := 0) E d_SqlReaderModel_read_29 (by decide) ?_
    refine Sm_aload_n E d_SqlReaderModel_read_30 rfl 0 rfl ?_
    refine gfM_0_named0 E fl_SqlReaderModel_155 d_SqlReaderModel_read_31 ?_
    refine Sm_cVV (As := [.int 0, .int (u5.1 12)]) (b := (G.1 100)) (st := []) (n := 2) E exOk wM_as (fun _ h => cM_SqlReaderModel_keep 0 (u5.1 12) u5 h) gk_SqlReaderModel_654 dk_SqlReaderModel_keep rfl ⟨rfl, rfl⟩ ⟨Nat.le_of_ble_eq_true rfl, Nat.le_of_ble_eq_true rfl⟩ (rvW (q0 := 0) (ci := 1) E rfl rfl rfl) rfl (Nat.le_of_ble_eq_true rfl) d_SqlReaderModel_read_34 fun u6 _ => ?_
    refine Sm_iconst (v := 0) E d_SqlReaderModel_read_37 (by decide) ?_
    refine Sm_istore_n (lv' := [(1, .int 0), (0, .ref (G.1 100))]) E d_SqlReaderModel_read_38 rfl (by decide) rfl ?_
    exact Sm_sub [1, 0] rfl (tM_SqlReaderModel_read_L39 E hR FU _ _)
  · refine Sm_aload_n E d_SqlReaderModel_read_24 rfl 0 rfl ?_
    refine Sm_cVV (As := []) (b := (G.1 100)) (st := []) (n := 0) E exOk wM_as (fun _ h => cM_SqlReaderModel_forget u5 h) gk_SqlReaderModel_130 dk_SqlReaderModel_forget rfl ⟨rfl, rfl⟩ ⟨Nat.le_of_ble_eq_true rfl, Nat.le_of_ble_eq_true rfl⟩ (rvW (q0 := 0) (ci := 1) E rfl rfl rfl) rfl (Nat.le_of_ble_eq_true rfl) d_SqlReaderModel_read_25 fun u11 _ => ?_
    refine Sm_aload_n E d_SqlReaderModel_read_28 rfl 0 rfl ?_
    refine Sm_iconst (v := 0) E d_SqlReaderModel_read_29 (by decide) ?_
    refine Sm_aload_n E d_SqlReaderModel_read_30 rfl 0 rfl ?_
    refine gfM_0_named0 E fl_SqlReaderModel_155 d_SqlReaderModel_read_31 ?_
    refine Sm_cVV (As := [.int 0, .int (u11.1 12)]) (b := (G.1 100)) (st := []) (n := 2) E exOk wM_as (fun _ h => cM_SqlReaderModel_keep 0 (u11.1 12) u11 h) gk_SqlReaderModel_654 dk_SqlReaderModel_keep rfl ⟨rfl, rfl⟩ ⟨Nat.le_of_ble_eq_true rfl, Nat.le_of_ble_eq_true rfl⟩ (rvW (q0 := 0) (ci := 1) E rfl rfl rfl) rfl (Nat.le_of_ble_eq_true rfl) d_SqlReaderModel_read_34 fun u12 _ => ?_
    refine Sm_iconst (v := 0) E d_SqlReaderModel_read_37 (by decide) ?_
    refine Sm_istore_n (lv' := [(1, .int 0), (0, .ref (G.1 100))]) E d_SqlReaderModel_read_38 rfl (by decide) rfl ?_
    exact Sm_sub [1, 0] rfl (tM_SqlReaderModel_read_L39 E hR FU _ _)
set_option maxRecDepth 100000 in
set_option maxHeartbeats 4000000 in
theorem cM_SqlReaderModel_node {l : Launch} {D : va_G} {G : Gx} (x1 : Int32) (x2 : Int32) (u : St) {res : Int32} (hm : mM_SqlReaderModel_node x1 x2 u = some res) : KM l D G y_SqlReaderModel_node (.code y_SqlReaderModel_node prog_11_method_87_code 3 (some .int)) { frames := 1, cells := 0, slots := 0, locals := 21 } [.ref (G.1 100), .int x1, .int x2] u (qI D vwCl (wM G) (tyW G) (adsM G) (res, u)) := by
  refine Ct_i (by decide) wM_as (Nat.le_of_ble_eq_true rfl) hm (fun X _ _ E hR => ?_)
  refine Sm_lvs (lv' := [(0, .ref (G.1 100)), (1, .int x1), (2, .int x2)]) rfl ?_
  rw [mM_SqlReaderModel_node]
  refine Sm_iload_n E d_SqlReaderModel_node_0 rfl 1 rfl ?_
  refine Sm_if_lt (tgt := 12) E d_SqlReaderModel_node_1 (by decide) (fun _ => ?_) (fun _ => ?_)
  · refine Sm_iconst (v := (-1)) E d_SqlReaderModel_node_12 (by decide) ?_
    exact Sm_reti hR d_SqlReaderModel_node_13
  · refine Sm_iload_n E d_SqlReaderModel_node_4 rfl 1 rfl ?_
    refine Sm_aload_n E d_SqlReaderModel_node_5 rfl 0 rfl ?_
    refine gfM_0_nodes E fl_SqlReaderModel_133 d_SqlReaderModel_node_6 ?_
    refine Sm_icmp_lt (tgt := 14) E d_SqlReaderModel_node_9 (by decide) (fun _ => ?_) (fun _ => ?_)
    · refine Sm_iload_n E d_SqlReaderModel_node_14 rfl 2 rfl ?_
      refine Sm_if_ne (tgt := 27) E d_SqlReaderModel_node_15 (by decide) (fun _ => ?_) (fun _ => ?_)
      · refine Sm_iload_n E d_SqlReaderModel_node_27 rfl 2 rfl ?_
        refine Sm_iconst (v := 1) E d_SqlReaderModel_node_28 (by decide) ?_
        refine Sm_icmp_ne (tgt := 41) E d_SqlReaderModel_node_29 (by decide) (fun _ => ?_) (fun _ => ?_)
        · refine Sm_iload_n E d_SqlReaderModel_node_41 rfl 2 rfl ?_
          refine Sm_iconst (v := 2) E d_SqlReaderModel_node_42 (by decide) ?_
          refine Sm_icmp_ne (tgt := 55) E d_SqlReaderModel_node_43 (by decide) (fun _ => ?_) (fun _ => ?_)
          · refine Sm_iload_n E d_SqlReaderModel_node_55 rfl 2 rfl ?_
            refine Sm_iconst (v := 3) E d_SqlReaderModel_node_56 (by decide) ?_
            refine Sm_icmp_ne (tgt := 68) E d_SqlReaderModel_node_57 (by decide) (fun _ => ?_) (fun _ => ?_)
            · refine Sm_iconst (v := (-1)) E d_SqlReaderModel_node_68 (by decide) ?_
              exact Sm_reti hR d_SqlReaderModel_node_69
            · refine Sm_aload_n E d_SqlReaderModel_node_60 rfl 0 rfl ?_
              refine Sm_iload_n E d_SqlReaderModel_node_61 rfl 1 rfl ?_
              refine Sm_cVi (As := [.int x1]) (b := (G.1 100)) (st := []) (n := 1) E exOk wM_as (fun _ h => cM_SqlReaderModel_typeOf x1 u h) gk_SqlReaderModel_582 dk_SqlReaderModel_typeOf rfl ⟨rfl, rfl⟩ ⟨Nat.le_of_ble_eq_true rfl, Nat.le_of_ble_eq_true rfl⟩ (rvW (q0 := 0) (ci := 1) E rfl rfl rfl) rfl (Nat.le_of_ble_eq_true rfl) d_SqlReaderModel_node_62 fun r1 _ => ?_
              refine Sm_goto (tgt := 69) E d_SqlReaderModel_node_65 (by decide) ?_
              exact Sm_reti hR d_SqlReaderModel_node_69
          · refine Sm_aload_n E d_SqlReaderModel_node_46 rfl 0 rfl ?_
            refine gfM_0_right E fl_SqlReaderModel_47 d_SqlReaderModel_node_47 ?_
            refine Sm_iload_n E d_SqlReaderModel_node_50 rfl 1 rfl ?_
            refine Sm_gd fun hi => ldM_13 E (inb_in hi) d_SqlReaderModel_node_51 ?_
            refine Sm_goto (tgt := 69) E d_SqlReaderModel_node_52 (by decide) ?_
            exact Sm_reti hR d_SqlReaderModel_node_69
        · refine Sm_aload_n E d_SqlReaderModel_node_32 rfl 0 rfl ?_
          refine gfM_0_left E fl_SqlReaderModel_44 d_SqlReaderModel_node_33 ?_
          refine Sm_iload_n E d_SqlReaderModel_node_36 rfl 1 rfl ?_
          refine Sm_gd fun hi => ldM_12 E (inb_in hi) d_SqlReaderModel_node_37 ?_
          refine Sm_goto (tgt := 69) E d_SqlReaderModel_node_38 (by decide) ?_
          exact Sm_reti hR d_SqlReaderModel_node_69
      · refine Sm_aload_n E d_SqlReaderModel_node_18 rfl 0 rfl ?_
        refine gfM_0_kind E fl_SqlReaderModel_41 d_SqlReaderModel_node_19 ?_
        refine Sm_iload_n E d_SqlReaderModel_node_22 rfl 1 rfl ?_
        refine Sm_gd fun hi => ldM_11 E (inb_in hi) d_SqlReaderModel_node_23 ?_
        refine Sm_goto (tgt := 69) E d_SqlReaderModel_node_24 (by decide) ?_
        exact Sm_reti hR d_SqlReaderModel_node_69
    · refine Sm_iconst (v := (-1)) E d_SqlReaderModel_node_12 (by decide) ?_
      exact Sm_reti hR d_SqlReaderModel_node_13
set_option maxRecDepth 100000 in
set_option maxHeartbeats 4000000 in
theorem cM_SqlReaderModel_value {l : Launch} {D : va_G} {G : Gx} (x1 : Int32) (u : St) {res : Int64} (hm : mM_SqlReaderModel_value x1 u = some res) : KM l D G y_SqlReaderModel_value (.code y_SqlReaderModel_value prog_11_method_88_code 2 (some .long)) { frames := 0, cells := 0, slots := 0, locals := 0 } [.ref (G.1 100), .int x1] u (qJ D vwCl (wM G) (tyW G) (adsM G) (res, u)) := by
  refine Ct_j (by decide) wM_as (Nat.le_of_ble_eq_true rfl) hm (fun X _ _ E hR => ?_)
  refine Sm_lvs (lv' := [(0, .ref (G.1 100)), (1, .int x1)]) rfl ?_
  rw [mM_SqlReaderModel_value]
  refine Sm_iload_n E d_SqlReaderModel_value_0 rfl 1 rfl ?_
  refine Sm_if_lt (tgt := 12) E d_SqlReaderModel_value_1 (by decide) (fun _ => ?_) (fun _ => ?_)
  · refine Sm_lconst (v := 0) E d_SqlReaderModel_value_12 (by decide) ?_
    refine Sm_goto (tgt := 56) E d_SqlReaderModel_value_13 (by decide) ?_
    exact Sm_retj hR d_SqlReaderModel_value_56
  · refine Sm_iload_n E d_SqlReaderModel_value_4 rfl 1 rfl ?_
    refine Sm_aload_n E d_SqlReaderModel_value_5 rfl 0 rfl ?_
    refine gfM_0_nodes E fl_SqlReaderModel_133 d_SqlReaderModel_value_6 ?_
    refine Sm_icmp_lt (tgt := 16) E d_SqlReaderModel_value_9 (by decide) (fun _ => ?_) (fun _ => ?_)
    · refine Sm_aload_n E d_SqlReaderModel_value_16 rfl 0 rfl ?_
      refine gfM_0_kind E fl_SqlReaderModel_41 d_SqlReaderModel_value_17 ?_
      refine Sm_iload_n E d_SqlReaderModel_value_20 rfl 1 rfl ?_
      refine Sm_gd fun hi => ldM_11 E (inb_in hi) d_SqlReaderModel_value_21 ?_
      refine Sm_iconst (v := 1) E d_SqlReaderModel_value_22 (by decide) ?_
      refine Sm_icmp_ne (tgt := 35) E d_SqlReaderModel_value_23 (by decide) (fun _ => ?_) (fun _ => ?_)
      · refine Sm_aload_n E d_SqlReaderModel_value_35 rfl 0 rfl ?_
        refine gfM_0_kind E fl_SqlReaderModel_41 d_SqlReaderModel_value_36 ?_
        refine Sm_iload_n E d_SqlReaderModel_value_39 rfl 1 rfl ?_
        refine Sm_gd fun hi => ldM_11 E (inb_in hi) d_SqlReaderModel_value_40 ?_
        refine Sm_iconst (v := 2) E d_SqlReaderModel_value_41 (by decide) ?_
        refine Sm_icmp_ne (tgt := 55) E d_SqlReaderModel_value_42 (by decide) (fun _ => ?_) (fun _ => ?_)
        · refine Sm_lconst (v := 0) E d_SqlReaderModel_value_55 (by decide) ?_
          exact Sm_retj hR d_SqlReaderModel_value_56
        · refine Sm_aload_n E d_SqlReaderModel_value_45 rfl 0 rfl ?_
          refine gfM_0_length E fl_SqlReaderModel_66 d_SqlReaderModel_value_46 ?_
          refine Sm_iload_n E d_SqlReaderModel_value_49 rfl 1 rfl ?_
          refine Sm_gd fun hi => ldM_19 E (inb_in hi) d_SqlReaderModel_value_50 ?_
          refine Sm_i2l E d_SqlReaderModel_value_51 ?_
          refine Sm_goto (tgt := 56) E d_SqlReaderModel_value_52 (by decide) ?_
          exact Sm_retj hR d_SqlReaderModel_value_56
      · refine Sm_aload_n E d_SqlReaderModel_value_26 rfl 0 rfl ?_
        refine gfM_0_number E fl_SqlReaderModel_59 d_SqlReaderModel_value_27 ?_
        refine Sm_iload_n E d_SqlReaderModel_value_30 rfl 1 rfl ?_
        refine Sm_gd fun hi => ldM_17 E (inb_in hi) d_SqlReaderModel_value_31 ?_
        refine Sm_goto (tgt := 56) E d_SqlReaderModel_value_32 (by decide) ?_
        exact Sm_retj hR d_SqlReaderModel_value_56
    · refine Sm_lconst (v := 0) E d_SqlReaderModel_value_12 (by decide) ?_
      refine Sm_goto (tgt := 56) E d_SqlReaderModel_value_13 (by decide) ?_
      exact Sm_retj hR d_SqlReaderModel_value_56
set_option maxRecDepth 100000 in
set_option maxHeartbeats 4000000 in
theorem cM_SqlReaderModel_letter {l : Launch} {D : va_G} {G : Gx} (x1 : Int32) (x2 : Int32) (u : St) {res : Int32} (hm : mM_SqlReaderModel_letter x1 x2 u = some res) : KM l D G y_SqlReaderModel_letter (.code y_SqlReaderModel_letter prog_11_method_89_code 3 (some .int)) { frames := 0, cells := 0, slots := 0, locals := 0 } [.ref (G.1 100), .int x1, .int x2] u (qI D vwCl (wM G) (tyW G) (adsM G) (res, u)) := by
  refine Ct_i (by decide) wM_as (Nat.le_of_ble_eq_true rfl) hm (fun X _ _ E hR => ?_)
  refine Sm_lvs (lv' := [(0, .ref (G.1 100)), (1, .int x1), (2, .int x2)]) rfl ?_
  rw [mM_SqlReaderModel_letter]
  refine Sm_iload_n E d_SqlReaderModel_letter_0 rfl 1 rfl ?_
  refine Sm_if_lt (tgt := 36) E d_SqlReaderModel_letter_1 (by decide) (fun _ => ?_) (fun _ => ?_)
  · refine Sm_iconst (v := (-1)) E d_SqlReaderModel_letter_36 (by decide) ?_
    refine Sm_goto (tgt := 51) E d_SqlReaderModel_letter_37 (by decide) ?_
    exact Sm_reti hR d_SqlReaderModel_letter_51
  · refine Sm_iload_n E d_SqlReaderModel_letter_4 rfl 1 rfl ?_
    refine Sm_aload_n E d_SqlReaderModel_letter_5 rfl 0 rfl ?_
    refine gfM_0_nodes E fl_SqlReaderModel_133 d_SqlReaderModel_letter_6 ?_
    refine Sm_icmp_ge (tgt := 36) E d_SqlReaderModel_letter_9 (by decide) (fun _ => ?_) (fun _ => ?_)
    · refine Sm_iconst (v := (-1)) E d_SqlReaderModel_letter_36 (by decide) ?_
      refine Sm_goto (tgt := 51) E d_SqlReaderModel_letter_37 (by decide) ?_
      exact Sm_reti hR d_SqlReaderModel_letter_51
    · refine Sm_aload_n E d_SqlReaderModel_letter_12 rfl 0 rfl ?_
      refine gfM_0_kind E fl_SqlReaderModel_41 d_SqlReaderModel_letter_13 ?_
      refine Sm_iload_n E d_SqlReaderModel_letter_16 rfl 1 rfl ?_
      refine Sm_gd fun hi => ldM_11 E (inb_in hi) d_SqlReaderModel_letter_17 ?_
      refine Sm_iconst (v := 2) E d_SqlReaderModel_letter_18 (by decide) ?_
      refine Sm_icmp_ne (tgt := 36) E d_SqlReaderModel_letter_19 (by decide) (fun _ => ?_) (fun _ => ?_)
      · refine Sm_iconst (v := (-1)) E d_SqlReaderModel_letter_36 (by decide) ?_
        refine Sm_goto (tgt := 51) E d_SqlReaderModel_letter_37 (by decide) ?_
        exact Sm_reti hR d_SqlReaderModel_letter_51
      · refine Sm_iload_n E d_SqlReaderModel_letter_22 rfl 2 rfl ?_
        refine Sm_if_lt (tgt := 36) E d_SqlReaderModel_letter_23 (by decide) (fun _ => ?_) (fun _ => ?_)
        · refine Sm_iconst (v := (-1)) E d_SqlReaderModel_letter_36 (by decide) ?_
          refine Sm_goto (tgt := 51) E d_SqlReaderModel_letter_37 (by decide) ?_
          exact Sm_reti hR d_SqlReaderModel_letter_51
        · refine Sm_iload_n E d_SqlReaderModel_letter_26 rfl 2 rfl ?_
          refine Sm_aload_n E d_SqlReaderModel_letter_27 rfl 0 rfl ?_
          refine gfM_0_length E fl_SqlReaderModel_66 d_SqlReaderModel_letter_28 ?_
          refine Sm_iload_n E d_SqlReaderModel_letter_31 rfl 1 rfl ?_
          refine Sm_gd fun hi => ldM_19 E (inb_in hi) d_SqlReaderModel_letter_32 ?_
          refine Sm_icmp_lt (tgt := 40) E d_SqlReaderModel_letter_33 (by decide) (fun _ => ?_) (fun _ => ?_)
          · refine Sm_aload_n E d_SqlReaderModel_letter_40 rfl 0 rfl ?_
            refine gfM_0_letters E fl_SqlReaderModel_63 d_SqlReaderModel_letter_41 ?_
            refine Sm_bipush (v := 31) E d_SqlReaderModel_letter_44 (by decide) ?_
            refine Sm_iload_n E d_SqlReaderModel_letter_46 rfl 1 rfl ?_
            refine Sm_imul E d_SqlReaderModel_letter_47 ?_
            refine Sm_iload_n E d_SqlReaderModel_letter_48 rfl 2 rfl ?_
            refine Sm_iadd E d_SqlReaderModel_letter_49 ?_
            refine Sm_gd fun hi => ldM_18 E (inb_in hi) d_SqlReaderModel_letter_50 ?_
            exact Sm_reti hR d_SqlReaderModel_letter_51
          · refine Sm_iconst (v := (-1)) E d_SqlReaderModel_letter_36 (by decide) ?_
            refine Sm_goto (tgt := 51) E d_SqlReaderModel_letter_37 (by decide) ?_
            exact Sm_reti hR d_SqlReaderModel_letter_51
set_option maxRecDepth 100000 in
set_option maxHeartbeats 4000000 in
theorem tM_SqlReaderModel_sizeOf_J26 {X : Cx} {G : Gx} {res : Int32} {u : St} (E : EM X G prog_11_method_91_code R_SqlReaderModel 2 { frames := 0, cells := 0, slots := 0, locals := 0 }) (hR : RtI X vwCl (wM G) prog_11_method_91_code (res, u)) : ∀ (x1 : Int32) (s0 : Int32) , SM X G 2 res (mM_SqlReaderModel_sizeOf_J26 x1 s0 u) u 26 [(0, .ref (G.1 100)), (1, .int x1)] [.int s0] := by
  intro x1 s0
  rw [mM_SqlReaderModel_sizeOf_J26]
  refine Sm_iload_n E d_SqlReaderModel_sizeOf_26 rfl 1 rfl ?_
  refine Sm_bipush (v := 9) E d_SqlReaderModel_sizeOf_27 (by decide) ?_
  refine Sm_icmp_ne (tgt := 36) E d_SqlReaderModel_sizeOf_29 (by decide) (fun _ => ?_) (fun _ => ?_)
  · refine Sm_iconst (v := 0) E d_SqlReaderModel_sizeOf_36 (by decide) ?_
    refine Sm_icmp_ne (tgt := 47) E d_SqlReaderModel_sizeOf_37 (by decide) (fun _ => ?_) (fun _ => ?_)
    · refine Sm_iconst (v := 0) E d_SqlReaderModel_sizeOf_47 (by decide) ?_
      exact Sm_reti hR d_SqlReaderModel_sizeOf_48
    · refine Sm_aload_n E d_SqlReaderModel_sizeOf_40 rfl 0 rfl ?_
      refine gfM_0_values E fl_SqlReaderModel_195 d_SqlReaderModel_sizeOf_41 ?_
      refine Sm_goto (tgt := 48) E d_SqlReaderModel_sizeOf_44 (by decide) ?_
      exact Sm_reti hR d_SqlReaderModel_sizeOf_48
  · refine Sm_iconst (v := 1) E d_SqlReaderModel_sizeOf_32 (by decide) ?_
    refine Sm_goto (tgt := 37) E d_SqlReaderModel_sizeOf_33 (by decide) ?_
    refine Sm_icmp_ne (tgt := 47) E d_SqlReaderModel_sizeOf_37 (by decide) (fun _ => ?_) (fun _ => ?_)
    · refine Sm_iconst (v := 0) E d_SqlReaderModel_sizeOf_47 (by decide) ?_
      exact Sm_reti hR d_SqlReaderModel_sizeOf_48
    · refine Sm_aload_n E d_SqlReaderModel_sizeOf_40 rfl 0 rfl ?_
      refine gfM_0_values E fl_SqlReaderModel_195 d_SqlReaderModel_sizeOf_41 ?_
      refine Sm_goto (tgt := 48) E d_SqlReaderModel_sizeOf_44 (by decide) ?_
      exact Sm_reti hR d_SqlReaderModel_sizeOf_48
set_option maxRecDepth 100000 in
set_option maxHeartbeats 4000000 in
theorem tM_SqlReaderModel_sizeOf_J12 {X : Cx} {G : Gx} {res : Int32} {u : St} (E : EM X G prog_11_method_91_code R_SqlReaderModel 2 { frames := 0, cells := 0, slots := 0, locals := 0 }) (hR : RtI X vwCl (wM G) prog_11_method_91_code (res, u)) : ∀ (x1 : Int32) , SM X G 2 res (mM_SqlReaderModel_sizeOf_J12 x1 u) u 12 [(0, .ref (G.1 100)), (1, .int x1)] [] := by
  intro x1
  rw [mM_SqlReaderModel_sizeOf_J12]
  refine Sm_aload_n E d_SqlReaderModel_sizeOf_12 rfl 0 rfl ?_
  refine gfM_0_what E fl_SqlReaderModel_140 d_SqlReaderModel_sizeOf_13 ?_
  refine Sm_bipush (v := 17) E d_SqlReaderModel_sizeOf_16 (by decide) ?_
  refine Sm_icmp_ne (tgt := 25) E d_SqlReaderModel_sizeOf_18 (by decide) (fun _ => ?_) (fun _ => ?_)
  · refine Sm_iconst (v := 0) E d_SqlReaderModel_sizeOf_25 (by decide) ?_
    exact Sm_sub [0, 1] rfl (tM_SqlReaderModel_sizeOf_J26 E hR _ _)
  · refine Sm_iconst (v := 1) E d_SqlReaderModel_sizeOf_21 (by decide) ?_
    refine Sm_goto (tgt := 26) E d_SqlReaderModel_sizeOf_22 (by decide) ?_
    exact Sm_sub [0, 1] rfl (tM_SqlReaderModel_sizeOf_J26 E hR _ _)
set_option maxRecDepth 100000 in
set_option maxHeartbeats 4000000 in
theorem cM_SqlReaderModel_sizeOf {l : Launch} {D : va_G} {G : Gx} (x1 : Int32) (u : St) {res : Int32} (hm : mM_SqlReaderModel_sizeOf x1 u = some res) : KM l D G y_SqlReaderModel_sizeOf (.code y_SqlReaderModel_sizeOf prog_11_method_91_code 2 (some .int)) { frames := 0, cells := 0, slots := 0, locals := 0 } [.ref (G.1 100), .int x1] u (qI D vwCl (wM G) (tyW G) (adsM G) (res, u)) := by
  refine Ct_i (by decide) wM_as (Nat.le_of_ble_eq_true rfl) hm (fun X _ _ E hR => ?_)
  refine Sm_lvs (lv' := [(0, .ref (G.1 100)), (1, .int x1)]) rfl ?_
  rw [mM_SqlReaderModel_sizeOf]
  refine Sm_iload_n E d_SqlReaderModel_sizeOf_0 rfl 1 rfl ?_
  refine Sm_bipush (v := 6) E d_SqlReaderModel_sizeOf_1 (by decide) ?_
  refine Sm_icmp_eq (tgt := 12) E d_SqlReaderModel_sizeOf_3 (by decide) (fun _ => ?_) (fun _ => ?_)
  · exact Sm_sub [0, 1] rfl (tM_SqlReaderModel_sizeOf_J12 E hR _)
  · refine Sm_iload_n E d_SqlReaderModel_sizeOf_6 rfl 1 rfl ?_
    refine Sm_bipush (v := 9) E d_SqlReaderModel_sizeOf_7 (by decide) ?_
    refine Sm_icmp_ne (tgt := 49) E d_SqlReaderModel_sizeOf_9 (by decide) (fun _ => ?_) (fun _ => ?_)
    · refine Sm_iload_n E d_SqlReaderModel_sizeOf_49 rfl 1 rfl ?_
      refine Sm_if_ne (tgt := 60) E d_SqlReaderModel_sizeOf_50 (by decide) (fun _ => ?_) (fun _ => ?_)
      · refine Sm_iload_n E d_SqlReaderModel_sizeOf_60 rfl 1 rfl ?_
        refine Sm_iconst (v := 1) E d_SqlReaderModel_sizeOf_61 (by decide) ?_
        refine Sm_icmp_ne (tgt := 72) E d_SqlReaderModel_sizeOf_62 (by decide) (fun _ => ?_) (fun _ => ?_)
        · refine Sm_iload_n E d_SqlReaderModel_sizeOf_72 rfl 1 rfl ?_
          refine Sm_iconst (v := 2) E d_SqlReaderModel_sizeOf_73 (by decide) ?_
          refine Sm_icmp_ne (tgt := 84) E d_SqlReaderModel_sizeOf_74 (by decide) (fun _ => ?_) (fun _ => ?_)
          · refine Sm_iload_n E d_SqlReaderModel_sizeOf_84 rfl 1 rfl ?_
            refine Sm_iconst (v := 3) E d_SqlReaderModel_sizeOf_85 (by decide) ?_
            refine Sm_icmp_ne (tgt := 96) E d_SqlReaderModel_sizeOf_86 (by decide) (fun _ => ?_) (fun _ => ?_)
            · refine Sm_iload_n E d_SqlReaderModel_sizeOf_96 rfl 1 rfl ?_
              refine Sm_iconst (v := 4) E d_SqlReaderModel_sizeOf_97 (by decide) ?_
              refine Sm_icmp_eq (tgt := 106) E d_SqlReaderModel_sizeOf_98 (by decide) (fun _ => ?_) (fun _ => ?_)
              · refine Sm_aload_n E d_SqlReaderModel_sizeOf_106 rfl 0 rfl ?_
                refine gfM_0_sets E fl_SqlReaderModel_186 d_SqlReaderModel_sizeOf_107 ?_
                refine Sm_goto (tgt := 140) E d_SqlReaderModel_sizeOf_110 (by decide) ?_
                exact Sm_reti hR d_SqlReaderModel_sizeOf_140
              · refine Sm_iload_n E d_SqlReaderModel_sizeOf_101 rfl 1 rfl ?_
                refine Sm_iconst (v := 5) E d_SqlReaderModel_sizeOf_102 (by decide) ?_
                refine Sm_icmp_ne (tgt := 113) E d_SqlReaderModel_sizeOf_103 (by decide) (fun _ => ?_) (fun _ => ?_)
                · refine Sm_iload_n E d_SqlReaderModel_sizeOf_113 rfl 1 rfl ?_
                  refine Sm_bipush (v := 7) E d_SqlReaderModel_sizeOf_114 (by decide) ?_
                  refine Sm_icmp_ne (tgt := 126) E d_SqlReaderModel_sizeOf_116 (by decide) (fun _ => ?_) (fun _ => ?_)
                  · refine Sm_iload_n E d_SqlReaderModel_sizeOf_126 rfl 1 rfl ?_
                    refine Sm_bipush (v := 8) E d_SqlReaderModel_sizeOf_127 (by decide) ?_
                    refine Sm_icmp_ne (tgt := 139) E d_SqlReaderModel_sizeOf_129 (by decide) (fun _ => ?_) (fun _ => ?_)
                    · refine Sm_iconst (v := 0) E d_SqlReaderModel_sizeOf_139 (by decide) ?_
                      exact Sm_reti hR d_SqlReaderModel_sizeOf_140
                    · refine Sm_aload_n E d_SqlReaderModel_sizeOf_132 rfl 0 rfl ?_
                      refine gfM_0_highest E fl_SqlReaderModel_210 d_SqlReaderModel_sizeOf_133 ?_
                      refine Sm_goto (tgt := 140) E d_SqlReaderModel_sizeOf_136 (by decide) ?_
                      exact Sm_reti hR d_SqlReaderModel_sizeOf_140
                  · refine Sm_aload_n E d_SqlReaderModel_sizeOf_119 rfl 0 rfl ?_
                    refine gfM_0_columns E fl_SqlReaderModel_198 d_SqlReaderModel_sizeOf_120 ?_
                    refine Sm_goto (tgt := 140) E d_SqlReaderModel_sizeOf_123 (by decide) ?_
                    exact Sm_reti hR d_SqlReaderModel_sizeOf_140
                · refine Sm_aload_n E d_SqlReaderModel_sizeOf_106 rfl 0 rfl ?_
                  refine gfM_0_sets E fl_SqlReaderModel_186 d_SqlReaderModel_sizeOf_107 ?_
                  refine Sm_goto (tgt := 140) E d_SqlReaderModel_sizeOf_110 (by decide) ?_
                  exact Sm_reti hR d_SqlReaderModel_sizeOf_140
            · refine Sm_aload_n E d_SqlReaderModel_sizeOf_89 rfl 0 rfl ?_
              refine gfM_0_froms E fl_SqlReaderModel_183 d_SqlReaderModel_sizeOf_90 ?_
              refine Sm_goto (tgt := 140) E d_SqlReaderModel_sizeOf_93 (by decide) ?_
              exact Sm_reti hR d_SqlReaderModel_sizeOf_140
          · refine Sm_aload_n E d_SqlReaderModel_sizeOf_77 rfl 0 rfl ?_
            refine gfM_0_orders E fl_SqlReaderModel_180 d_SqlReaderModel_sizeOf_78 ?_
            refine Sm_goto (tgt := 140) E d_SqlReaderModel_sizeOf_81 (by decide) ?_
            exact Sm_reti hR d_SqlReaderModel_sizeOf_140
        · refine Sm_aload_n E d_SqlReaderModel_sizeOf_65 rfl 0 rfl ?_
          refine gfM_0_groups E fl_SqlReaderModel_177 d_SqlReaderModel_sizeOf_66 ?_
          refine Sm_goto (tgt := 140) E d_SqlReaderModel_sizeOf_69 (by decide) ?_
          exact Sm_reti hR d_SqlReaderModel_sizeOf_140
      · refine Sm_aload_n E d_SqlReaderModel_sizeOf_53 rfl 0 rfl ?_
        refine gfM_0_items E fl_SqlReaderModel_174 d_SqlReaderModel_sizeOf_54 ?_
        refine Sm_goto (tgt := 140) E d_SqlReaderModel_sizeOf_57 (by decide) ?_
        exact Sm_reti hR d_SqlReaderModel_sizeOf_140
    · exact Sm_sub [0, 1] rfl (tM_SqlReaderModel_sizeOf_J12 E hR _)
set_option maxRecDepth 100000 in
set_option maxHeartbeats 4000000 in
theorem cM_SqlReaderModel_count {l : Launch} {D : va_G} {G : Gx} (x1 : Int32) (u : St) {res : Int32} (hm : mM_SqlReaderModel_count x1 u = some res) : KM l D G y_SqlReaderModel_count (.code y_SqlReaderModel_count prog_11_method_90_code 2 (some .int)) { frames := 1, cells := 0, slots := 0, locals := 21 } [.ref (G.1 100), .int x1] u (qI D vwCl (wM G) (tyW G) (adsM G) (res, u)) := by
  refine Ct_i (by decide) wM_as (Nat.le_of_ble_eq_true rfl) hm (fun X _ _ E hR => ?_)
  refine Sm_lvs (lv' := [(0, .ref (G.1 100)), (1, .int x1)]) rfl ?_
  rw [mM_SqlReaderModel_count]
  refine Sm_iload_n E d_SqlReaderModel_count_0 rfl 1 rfl ?_
  refine Sm_bipush (v := 9) E d_SqlReaderModel_count_1 (by decide) ?_
  refine Sm_icmp_ge (tgt := 118) E d_SqlReaderModel_count_3 (by decide) (fun _ => ?_) (fun _ => ?_)
  · refine Sm_iload_n E d_SqlReaderModel_count_118 rfl 1 rfl ?_
    refine Sm_bipush (v := 14) E d_SqlReaderModel_count_119 (by decide) ?_
    refine Sm_icmp_ge (tgt := 192) E d_SqlReaderModel_count_121 (by decide) (fun _ => ?_) (fun _ => ?_)
    · refine Sm_iload_n E d_SqlReaderModel_count_192 rfl 1 rfl ?_
      refine Sm_bipush (v := 14) E d_SqlReaderModel_count_193 (by decide) ?_
      refine Sm_icmp_ne (tgt := 205) E d_SqlReaderModel_count_195 (by decide) (fun _ => ?_) (fun _ => ?_)
      · refine Sm_iload_n E d_SqlReaderModel_count_205 rfl 1 rfl ?_
        refine Sm_bipush (v := 15) E d_SqlReaderModel_count_206 (by decide) ?_
        refine Sm_icmp_ne (tgt := 218) E d_SqlReaderModel_count_208 (by decide) (fun _ => ?_) (fun _ => ?_)
        · refine Sm_iload_n E d_SqlReaderModel_count_218 rfl 1 rfl ?_
          refine Sm_bipush (v := 16) E d_SqlReaderModel_count_219 (by decide) ?_
          refine Sm_icmp_ne (tgt := 231) E d_SqlReaderModel_count_221 (by decide) (fun _ => ?_) (fun _ => ?_)
          · refine Sm_iload_n E d_SqlReaderModel_count_231 rfl 1 rfl ?_
            refine Sm_bipush (v := 17) E d_SqlReaderModel_count_232 (by decide) ?_
            refine Sm_icmp_ne (tgt := 252) E d_SqlReaderModel_count_234 (by decide) (fun _ => ?_) (fun _ => ?_)
            · refine Sm_iconst (v := (-1)) E d_SqlReaderModel_count_252 (by decide) ?_
              exact Sm_reti hR d_SqlReaderModel_count_253
            · refine Sm_aload_n E d_SqlReaderModel_count_237 rfl 0 rfl ?_
              refine gfM_0_unique E fl_SqlReaderModel_207 d_SqlReaderModel_count_238 ?_
              refine Sm_if_eq (tgt := 248) E d_SqlReaderModel_count_241 (by decide) (fun _ => ?_) (fun _ => ?_)
              · refine Sm_iconst (v := 0) E d_SqlReaderModel_count_248 (by decide) ?_
                refine Sm_goto (tgt := 253) E d_SqlReaderModel_count_249 (by decide) ?_
                exact Sm_reti hR d_SqlReaderModel_count_253
              · refine Sm_iconst (v := 1) E d_SqlReaderModel_count_244 (by decide) ?_
                refine Sm_goto (tgt := 253) E d_SqlReaderModel_count_245 (by decide) ?_
                exact Sm_reti hR d_SqlReaderModel_count_253
          · refine Sm_aload_n E d_SqlReaderModel_count_224 rfl 0 rfl ?_
            refine gfM_0_indexed E fl_SqlReaderModel_201 d_SqlReaderModel_count_225 ?_
            refine Sm_goto (tgt := 253) E d_SqlReaderModel_count_228 (by decide) ?_
            exact Sm_reti hR d_SqlReaderModel_count_253
        · refine Sm_aload_n E d_SqlReaderModel_count_211 rfl 0 rfl ?_
          refine gfM_0_target E fl_SqlReaderModel_146 d_SqlReaderModel_count_212 ?_
          refine Sm_goto (tgt := 253) E d_SqlReaderModel_count_215 (by decide) ?_
          exact Sm_reti hR d_SqlReaderModel_count_253
      · refine Sm_aload_n E d_SqlReaderModel_count_198 rfl 0 rfl ?_
        refine gfM_0_inner E fl_SqlReaderModel_143 d_SqlReaderModel_count_199 ?_
        refine Sm_goto (tgt := 253) E d_SqlReaderModel_count_202 (by decide) ?_
        exact Sm_reti hR d_SqlReaderModel_count_253
    · refine Sm_iload_n E d_SqlReaderModel_count_124 rfl 1 rfl ?_
      refine Sm_bipush (v := 9) E d_SqlReaderModel_count_125 (by decide) ?_
      refine Sm_icmp_ne (tgt := 139) E d_SqlReaderModel_count_127 (by decide) (fun _ => ?_) (fun _ => ?_)
      · refine Sm_iload_n E d_SqlReaderModel_count_139 rfl 1 rfl ?_
        refine Sm_bipush (v := 10) E d_SqlReaderModel_count_140 (by decide) ?_
        refine Sm_icmp_ne (tgt := 152) E d_SqlReaderModel_count_142 (by decide) (fun _ => ?_) (fun _ => ?_)
        · refine Sm_iload_n E d_SqlReaderModel_count_152 rfl 1 rfl ?_
          refine Sm_bipush (v := 11) E d_SqlReaderModel_count_153 (by decide) ?_
          refine Sm_icmp_ne (tgt := 173) E d_SqlReaderModel_count_155 (by decide) (fun _ => ?_) (fun _ => ?_)
          · refine Sm_iload_n E d_SqlReaderModel_count_173 rfl 1 rfl ?_
            refine Sm_bipush (v := 12) E d_SqlReaderModel_count_174 (by decide) ?_
            refine Sm_icmp_ne (tgt := 187) E d_SqlReaderModel_count_176 (by decide) (fun _ => ?_) (fun _ => ?_)
            · refine Sm_aload_n E d_SqlReaderModel_count_187 rfl 0 rfl ?_
              refine gfM_0_where E fl_SqlReaderModel_171 d_SqlReaderModel_count_188 ?_
              exact Sm_reti hR d_SqlReaderModel_count_191
            · refine Sm_aload_n E d_SqlReaderModel_count_179 rfl 0 rfl ?_
              refine gfM_0_limit E fl_SqlReaderModel_167 d_SqlReaderModel_count_180 ?_
              refine Sm_l2i E d_SqlReaderModel_count_183 ?_
              refine Sm_goto (tgt := 191) E d_SqlReaderModel_count_184 (by decide) ?_
              exact Sm_reti hR d_SqlReaderModel_count_191
          · refine Sm_aload_n E d_SqlReaderModel_count_158 rfl 0 rfl ?_
            refine gfM_0_distinct E fl_SqlReaderModel_162 d_SqlReaderModel_count_159 ?_
            refine Sm_if_eq (tgt := 169) E d_SqlReaderModel_count_162 (by decide) (fun _ => ?_) (fun _ => ?_)
            · refine Sm_iconst (v := 0) E d_SqlReaderModel_count_169 (by decide) ?_
              refine Sm_goto (tgt := 191) E d_SqlReaderModel_count_170 (by decide) ?_
              exact Sm_reti hR d_SqlReaderModel_count_191
            · refine Sm_iconst (v := 1) E d_SqlReaderModel_count_165 (by decide) ?_
              refine Sm_goto (tgt := 191) E d_SqlReaderModel_count_166 (by decide) ?_
              exact Sm_reti hR d_SqlReaderModel_count_191
        · refine Sm_aload_n E d_SqlReaderModel_count_145 rfl 0 rfl ?_
          refine gfM_0_mode E fl_SqlReaderModel_152 d_SqlReaderModel_count_146 ?_
          refine Sm_goto (tgt := 191) E d_SqlReaderModel_count_149 (by decide) ?_
          exact Sm_reti hR d_SqlReaderModel_count_191
      · refine Sm_aload_n E d_SqlReaderModel_count_130 rfl 0 rfl ?_
        refine Sm_bipush (v := 9) E d_SqlReaderModel_count_131 (by decide) ?_
        refine Sm_cVi (As := [.int 9]) (b := (G.1 100)) (st := []) (n := 1) E exOk wM_as (fun _ h => cM_SqlReaderModel_sizeOf 9 u h) gk_SqlReaderModel_657 dk_SqlReaderModel_sizeOf rfl ⟨rfl, rfl⟩ ⟨Nat.le_of_ble_eq_true rfl, Nat.le_of_ble_eq_true rfl⟩ (rvW (q0 := 0) (ci := 1) E rfl rfl rfl) rfl (Nat.le_of_ble_eq_true rfl) d_SqlReaderModel_count_133 fun r1 _ => ?_
        refine Sm_goto (tgt := 191) E d_SqlReaderModel_count_136 (by decide) ?_
        exact Sm_reti hR d_SqlReaderModel_count_191
  · refine Sm_iload_n E d_SqlReaderModel_count_6 rfl 1 rfl ?_
    refine Sm_if_ne (tgt := 17) E d_SqlReaderModel_count_7 (by decide) (fun _ => ?_) (fun _ => ?_)
    · refine Sm_iload_n E d_SqlReaderModel_count_17 rfl 1 rfl ?_
      refine Sm_iconst (v := 1) E d_SqlReaderModel_count_18 (by decide) ?_
      refine Sm_icmp_ne (tgt := 29) E d_SqlReaderModel_count_19 (by decide) (fun _ => ?_) (fun _ => ?_)
      · refine Sm_iload_n E d_SqlReaderModel_count_29 rfl 1 rfl ?_
        refine Sm_iconst (v := 2) E d_SqlReaderModel_count_30 (by decide) ?_
        refine Sm_icmp_ne (tgt := 41) E d_SqlReaderModel_count_31 (by decide) (fun _ => ?_) (fun _ => ?_)
        · refine Sm_iload_n E d_SqlReaderModel_count_41 rfl 1 rfl ?_
          refine Sm_iconst (v := 3) E d_SqlReaderModel_count_42 (by decide) ?_
          refine Sm_icmp_ne (tgt := 53) E d_SqlReaderModel_count_43 (by decide) (fun _ => ?_) (fun _ => ?_)
          · refine Sm_iload_n E d_SqlReaderModel_count_53 rfl 1 rfl ?_
            refine Sm_iconst (v := 4) E d_SqlReaderModel_count_54 (by decide) ?_
            refine Sm_icmp_ne (tgt := 65) E d_SqlReaderModel_count_55 (by decide) (fun _ => ?_) (fun _ => ?_)
            · refine Sm_iload_n E d_SqlReaderModel_count_65 rfl 1 rfl ?_
              refine Sm_iconst (v := 5) E d_SqlReaderModel_count_66 (by decide) ?_
              refine Sm_icmp_ne (tgt := 77) E d_SqlReaderModel_count_67 (by decide) (fun _ => ?_) (fun _ => ?_)
              · refine Sm_iload_n E d_SqlReaderModel_count_77 rfl 1 rfl ?_
                refine Sm_bipush (v := 6) E d_SqlReaderModel_count_78 (by decide) ?_
                refine Sm_icmp_ne (tgt := 90) E d_SqlReaderModel_count_80 (by decide) (fun _ => ?_) (fun _ => ?_)
                · refine Sm_iload_n E d_SqlReaderModel_count_90 rfl 1 rfl ?_
                  refine Sm_bipush (v := 7) E d_SqlReaderModel_count_91 (by decide) ?_
                  refine Sm_icmp_ne (tgt := 103) E d_SqlReaderModel_count_93 (by decide) (fun _ => ?_) (fun _ => ?_)
                  · refine Sm_iload_n E d_SqlReaderModel_count_103 rfl 1 rfl ?_
                    refine Sm_bipush (v := 8) E d_SqlReaderModel_count_104 (by decide) ?_
                    refine Sm_icmp_ne (tgt := 116) E d_SqlReaderModel_count_106 (by decide) (fun _ => ?_) (fun _ => ?_)
                    · refine Sm_iconst (v := (-1)) E d_SqlReaderModel_count_116 (by decide) ?_
                      exact Sm_reti hR d_SqlReaderModel_count_117
                    · refine Sm_aload_n E d_SqlReaderModel_count_109 rfl 0 rfl ?_
                      refine gfM_0_highest E fl_SqlReaderModel_210 d_SqlReaderModel_count_110 ?_
                      refine Sm_goto (tgt := 117) E d_SqlReaderModel_count_113 (by decide) ?_
                      exact Sm_reti hR d_SqlReaderModel_count_117
                  · refine Sm_aload_n E d_SqlReaderModel_count_96 rfl 0 rfl ?_
                    refine gfM_0_columns E fl_SqlReaderModel_198 d_SqlReaderModel_count_97 ?_
                    refine Sm_goto (tgt := 117) E d_SqlReaderModel_count_100 (by decide) ?_
                    exact Sm_reti hR d_SqlReaderModel_count_117
                · refine Sm_aload_n E d_SqlReaderModel_count_83 rfl 0 rfl ?_
                  refine gfM_0_rows E fl_SqlReaderModel_189 d_SqlReaderModel_count_84 ?_
                  refine Sm_goto (tgt := 117) E d_SqlReaderModel_count_87 (by decide) ?_
                  exact Sm_reti hR d_SqlReaderModel_count_117
              · refine Sm_aload_n E d_SqlReaderModel_count_70 rfl 0 rfl ?_
                refine gfM_0_sets E fl_SqlReaderModel_186 d_SqlReaderModel_count_71 ?_
                refine Sm_goto (tgt := 117) E d_SqlReaderModel_count_74 (by decide) ?_
                exact Sm_reti hR d_SqlReaderModel_count_117
            · refine Sm_aload_n E d_SqlReaderModel_count_58 rfl 0 rfl ?_
              refine gfM_0_froms E fl_SqlReaderModel_183 d_SqlReaderModel_count_59 ?_
              refine Sm_goto (tgt := 117) E d_SqlReaderModel_count_62 (by decide) ?_
              exact Sm_reti hR d_SqlReaderModel_count_117
          · refine Sm_aload_n E d_SqlReaderModel_count_46 rfl 0 rfl ?_
            refine gfM_0_orders E fl_SqlReaderModel_180 d_SqlReaderModel_count_47 ?_
            refine Sm_goto (tgt := 117) E d_SqlReaderModel_count_50 (by decide) ?_
            exact Sm_reti hR d_SqlReaderModel_count_117
        · refine Sm_aload_n E d_SqlReaderModel_count_34 rfl 0 rfl ?_
          refine gfM_0_groups E fl_SqlReaderModel_177 d_SqlReaderModel_count_35 ?_
          refine Sm_goto (tgt := 117) E d_SqlReaderModel_count_38 (by decide) ?_
          exact Sm_reti hR d_SqlReaderModel_count_117
      · refine Sm_aload_n E d_SqlReaderModel_count_22 rfl 0 rfl ?_
        refine gfM_0_items E fl_SqlReaderModel_174 d_SqlReaderModel_count_23 ?_
        refine Sm_goto (tgt := 117) E d_SqlReaderModel_count_26 (by decide) ?_
        exact Sm_reti hR d_SqlReaderModel_count_117
    · refine Sm_aload_n E d_SqlReaderModel_count_10 rfl 0 rfl ?_
      refine gfM_0_nodes E fl_SqlReaderModel_133 d_SqlReaderModel_count_11 ?_
      refine Sm_goto (tgt := 117) E d_SqlReaderModel_count_14 (by decide) ?_
      exact Sm_reti hR d_SqlReaderModel_count_117
set_option maxRecDepth 100000 in
set_option maxHeartbeats 4000000 in
theorem cM_SqlReaderModel_list {l : Launch} {D : va_G} {G : Gx} (x1 : Int32) (x2 : Int32) (u : St) {res : Int32} (hm : mM_SqlReaderModel_list x1 x2 u = some res) : KM l D G y_SqlReaderModel_list (.code y_SqlReaderModel_list prog_11_method_92_code 3 (some .int)) { frames := 1, cells := 0, slots := 0, locals := 21 } [.ref (G.1 100), .int x1, .int x2] u (qI D vwCl (wM G) (tyW G) (adsM G) (res, u)) := by
  refine Ct_i (by decide) wM_as (Nat.le_of_ble_eq_true rfl) hm (fun X _ _ E hR => ?_)
  refine Sm_lvs (lv' := [(0, .ref (G.1 100)), (1, .int x1), (2, .int x2)]) rfl ?_
  rw [mM_SqlReaderModel_list]
  refine Sm_iload_n E d_SqlReaderModel_list_0 rfl 2 rfl ?_
  refine Sm_if_lt (tgt := 13) E d_SqlReaderModel_list_1 (by decide) (fun _ => ?_) (fun _ => ?_)
  · refine Sm_iconst (v := (-1)) E d_SqlReaderModel_list_13 (by decide) ?_
    exact Sm_reti hR d_SqlReaderModel_list_14
  · refine Sm_iload_n E d_SqlReaderModel_list_4 rfl 2 rfl ?_
    refine Sm_aload_n E d_SqlReaderModel_list_5 rfl 0 rfl ?_
    refine Sm_iload_n E d_SqlReaderModel_list_6 rfl 1 rfl ?_
    refine Sm_cVi (As := [.int x1]) (b := (G.1 100)) (st := [.int x2]) (n := 1) E exOk wM_as (fun _ h => cM_SqlReaderModel_sizeOf x1 u h) gk_SqlReaderModel_657 dk_SqlReaderModel_sizeOf rfl ⟨rfl, rfl⟩ ⟨Nat.le_of_ble_eq_true rfl, Nat.le_of_ble_eq_true rfl⟩ (rvW (q0 := 0) (ci := 1) E rfl rfl rfl) rfl (Nat.le_of_ble_eq_true rfl) d_SqlReaderModel_list_7 fun r1 _ => ?_
    refine Sm_icmp_lt (tgt := 15) E d_SqlReaderModel_list_10 (by decide) (fun _ => ?_) (fun _ => ?_)
    · refine Sm_iload_n E d_SqlReaderModel_list_15 rfl 1 rfl ?_
      refine Sm_iconst (v := 2) E d_SqlReaderModel_list_16 (by decide) ?_
      refine Sm_icmp_ne (tgt := 50) E d_SqlReaderModel_list_17 (by decide) (fun _ => ?_) (fun _ => ?_)
      · refine Sm_iload_n E d_SqlReaderModel_list_50 rfl 1 rfl ?_
        refine Sm_if_ne (tgt := 63) E d_SqlReaderModel_list_51 (by decide) (fun _ => ?_) (fun _ => ?_)
        · refine Sm_iload_n E d_SqlReaderModel_list_63 rfl 1 rfl ?_
          refine Sm_iconst (v := 1) E d_SqlReaderModel_list_64 (by decide) ?_
          refine Sm_icmp_ne (tgt := 77) E d_SqlReaderModel_list_65 (by decide) (fun _ => ?_) (fun _ => ?_)
          · refine Sm_iload_n E d_SqlReaderModel_list_77 rfl 1 rfl ?_
            refine Sm_iconst (v := 3) E d_SqlReaderModel_list_78 (by decide) ?_
            refine Sm_icmp_ne (tgt := 91) E d_SqlReaderModel_list_79 (by decide) (fun _ => ?_) (fun _ => ?_)
            · refine Sm_iload_n E d_SqlReaderModel_list_91 rfl 1 rfl ?_
              refine Sm_iconst (v := 4) E d_SqlReaderModel_list_92 (by decide) ?_
              refine Sm_icmp_ne (tgt := 105) E d_SqlReaderModel_list_93 (by decide) (fun _ => ?_) (fun _ => ?_)
              · refine Sm_iload_n E d_SqlReaderModel_list_105 rfl 1 rfl ?_
                refine Sm_iconst (v := 5) E d_SqlReaderModel_list_106 (by decide) ?_
                refine Sm_icmp_ne (tgt := 119) E d_SqlReaderModel_list_107 (by decide) (fun _ => ?_) (fun _ => ?_)
                · refine Sm_iload_n E d_SqlReaderModel_list_119 rfl 1 rfl ?_
                  refine Sm_bipush (v := 7) E d_SqlReaderModel_list_120 (by decide) ?_
                  refine Sm_icmp_ne (tgt := 134) E d_SqlReaderModel_list_122 (by decide) (fun _ => ?_) (fun _ => ?_)
                  · refine Sm_iload_n E d_SqlReaderModel_list_134 rfl 1 rfl ?_
                    refine Sm_bipush (v := 8) E d_SqlReaderModel_list_135 (by decide) ?_
                    refine Sm_icmp_ne (tgt := 151) E d_SqlReaderModel_list_137 (by decide) (fun _ => ?_) (fun _ => ?_)
                    · refine Sm_aload_n E d_SqlReaderModel_list_151 rfl 0 rfl ?_
                      refine gfM_0_value E fl_SqlReaderModel_109 d_SqlReaderModel_list_152 ?_
                      refine Sm_iload_n E d_SqlReaderModel_list_155 rfl 2 rfl ?_
                      refine Sm_gd fun hi => ldM_33 E (inb_in hi) d_SqlReaderModel_list_156 ?_
                      exact Sm_reti hR d_SqlReaderModel_list_157
                    · refine Sm_aload_n E d_SqlReaderModel_list_140 rfl 0 rfl ?_
                      refine gfM_0_needed E fl_SqlReaderModel_118 d_SqlReaderModel_list_141 ?_
                      refine Sm_iload_n E d_SqlReaderModel_list_144 rfl 2 rfl ?_
                      refine Sm_iconst (v := 1) E d_SqlReaderModel_list_145 (by decide) ?_
                      refine Sm_iadd E d_SqlReaderModel_list_146 ?_
                      refine Sm_gd fun hi => ldM_36 E (inb_in hi) d_SqlReaderModel_list_147 ?_
                      refine Sm_goto (tgt := 157) E d_SqlReaderModel_list_148 (by decide) ?_
                      exact Sm_reti hR d_SqlReaderModel_list_157
                  · refine Sm_aload_n E d_SqlReaderModel_list_125 rfl 0 rfl ?_
                    refine gfM_0_newType E fl_SqlReaderModel_115 d_SqlReaderModel_list_126 ?_
                    refine Sm_iload_n E d_SqlReaderModel_list_129 rfl 2 rfl ?_
                    refine Sm_gd fun hi => ldM_35 E (inb_in hi) d_SqlReaderModel_list_130 ?_
                    refine Sm_goto (tgt := 157) E d_SqlReaderModel_list_131 (by decide) ?_
                    exact Sm_reti hR d_SqlReaderModel_list_157
                · refine Sm_aload_n E d_SqlReaderModel_list_110 rfl 0 rfl ?_
                  refine gfM_0_setNode E fl_SqlReaderModel_106 d_SqlReaderModel_list_111 ?_
                  refine Sm_iload_n E d_SqlReaderModel_list_114 rfl 2 rfl ?_
                  refine Sm_gd fun hi => ldM_32 E (inb_in hi) d_SqlReaderModel_list_115 ?_
                  refine Sm_goto (tgt := 157) E d_SqlReaderModel_list_116 (by decide) ?_
                  exact Sm_reti hR d_SqlReaderModel_list_157
              · refine Sm_aload_n E d_SqlReaderModel_list_96 rfl 0 rfl ?_
                refine gfM_0_setColumn E fl_SqlReaderModel_103 d_SqlReaderModel_list_97 ?_
                refine Sm_iload_n E d_SqlReaderModel_list_100 rfl 2 rfl ?_
                refine Sm_gd fun hi => ldM_31 E (inb_in hi) d_SqlReaderModel_list_101 ?_
                refine Sm_goto (tgt := 157) E d_SqlReaderModel_list_102 (by decide) ?_
                exact Sm_reti hR d_SqlReaderModel_list_157
            · refine Sm_aload_n E d_SqlReaderModel_list_82 rfl 0 rfl ?_
              refine gfM_0_fromTable E fl_SqlReaderModel_91 d_SqlReaderModel_list_83 ?_
              refine Sm_iload_n E d_SqlReaderModel_list_86 rfl 2 rfl ?_
              refine Sm_gd fun hi => ldM_27 E (inb_in hi) d_SqlReaderModel_list_87 ?_
              refine Sm_goto (tgt := 157) E d_SqlReaderModel_list_88 (by decide) ?_
              exact Sm_reti hR d_SqlReaderModel_list_157
          · refine Sm_aload_n E d_SqlReaderModel_list_68 rfl 0 rfl ?_
            refine gfM_0_group E fl_SqlReaderModel_81 d_SqlReaderModel_list_69 ?_
            refine Sm_iload_n E d_SqlReaderModel_list_72 rfl 2 rfl ?_
            refine Sm_gd fun hi => ldM_24 E (inb_in hi) d_SqlReaderModel_list_73 ?_
            refine Sm_goto (tgt := 157) E d_SqlReaderModel_list_74 (by decide) ?_
            exact Sm_reti hR d_SqlReaderModel_list_157
        · refine Sm_aload_n E d_SqlReaderModel_list_54 rfl 0 rfl ?_
          refine gfM_0_item E fl_SqlReaderModel_78 d_SqlReaderModel_list_55 ?_
          refine Sm_iload_n E d_SqlReaderModel_list_58 rfl 2 rfl ?_
          refine Sm_gd fun hi => ldM_23 E (inb_in hi) d_SqlReaderModel_list_59 ?_
          refine Sm_goto (tgt := 157) E d_SqlReaderModel_list_60 (by decide) ?_
          exact Sm_reti hR d_SqlReaderModel_list_157
      · refine Sm_aload_n E d_SqlReaderModel_list_20 rfl 0 rfl ?_
        refine gfM_0_falls E fl_SqlReaderModel_87 d_SqlReaderModel_list_21 ?_
        refine Sm_iload_n E d_SqlReaderModel_list_24 rfl 2 rfl ?_
        refine Sm_gd fun hi => ldM_26 E (inb_in hi) d_SqlReaderModel_list_25 ?_
        refine Sm_if_eq (tgt := 40) E d_SqlReaderModel_list_26 (by decide) (fun _ => ?_) (fun _ => ?_)
        · refine Sm_aload_n E d_SqlReaderModel_list_40 rfl 0 rfl ?_
          refine gfM_0_order E fl_SqlReaderModel_84 d_SqlReaderModel_list_41 ?_
          refine Sm_iload_n E d_SqlReaderModel_list_44 rfl 2 rfl ?_
          refine Sm_gd fun hi => ldM_25 E (inb_in hi) d_SqlReaderModel_list_45 ?_
          refine Sm_l2i E d_SqlReaderModel_list_46 ?_
          refine Sm_iconst (v := 1) E d_SqlReaderModel_list_47 (by decide) ?_
          refine Sm_isub E d_SqlReaderModel_list_48 ?_
          exact Sm_reti hR d_SqlReaderModel_list_49
        · refine Sm_aload_n E d_SqlReaderModel_list_29 rfl 0 rfl ?_
          refine gfM_0_order E fl_SqlReaderModel_84 d_SqlReaderModel_list_30 ?_
          refine Sm_iload_n E d_SqlReaderModel_list_33 rfl 2 rfl ?_
          refine Sm_gd fun hi => ldM_25 E (inb_in hi) d_SqlReaderModel_list_34 ?_
          refine Sm_lneg E d_SqlReaderModel_list_35 ?_
          refine Sm_l2i E d_SqlReaderModel_list_36 ?_
          refine Sm_goto (tgt := 49) E d_SqlReaderModel_list_37 (by decide) ?_
          exact Sm_reti hR d_SqlReaderModel_list_49
    · refine Sm_iconst (v := (-1)) E d_SqlReaderModel_list_13 (by decide) ?_
      exact Sm_reti hR d_SqlReaderModel_list_14
set_option maxRecDepth 100000 in
set_option maxHeartbeats 4000000 in
theorem tM_SqlReaderModel_name_J32 {X : Cx} {G : Gx} {res : Int32} {u : St} (E : EM X G prog_11_method_93_code R_SqlReaderModel 4 { frames := 0, cells := 0, slots := 0, locals := 0 }) (hR : RtI X vwCl (wM G) prog_11_method_93_code (res, u)) : ∀ (x1 : Int32) (x2 : Int32) (s0 : Int32) , SM X G 4 res (mM_SqlReaderModel_name_J32 x1 x2 s0 u) u 32 [(0, .ref (G.1 100)), (1, .int x1), (2, .int x2)] [.int s0] := by
  intro x1 x2 s0
  rw [mM_SqlReaderModel_name_J32]
  refine Sm_istore_n (lv' := [(3, .int s0), (0, .ref (G.1 100)), (1, .int x1), (2, .int x2)]) E d_SqlReaderModel_name_32 rfl (by decide) rfl ?_
  refine Sm_iload_n E d_SqlReaderModel_name_33 rfl 0 rfl ?_
  refine Sm_if_eq (tgt := 53) E d_SqlReaderModel_name_34 (by decide) (fun _ => ?_) (fun _ => ?_)
  · refine Sm_iconst (v := (-1)) E d_SqlReaderModel_name_53 (by decide) ?_
    exact Sm_reti hR d_SqlReaderModel_name_54
  · refine Sm_aload_n E d_SqlReaderModel_name_37 rfl 1 rfl ?_
    refine gfM_0_kept E fl_SqlReaderModel_124 d_SqlReaderModel_name_38 ?_
    refine Sm_bipush (v := 16) E d_SqlReaderModel_name_41 (by decide) ?_
    refine Sm_iload_n E d_SqlReaderModel_name_43 rfl 2 rfl ?_
    refine Sm_iconst (v := 1) E d_SqlReaderModel_name_44 (by decide) ?_
    refine Sm_iadd E d_SqlReaderModel_name_45 ?_
    refine Sm_imul E d_SqlReaderModel_name_46 ?_
    refine Sm_iload_n E d_SqlReaderModel_name_47 rfl 3 rfl ?_
    refine Sm_iadd E d_SqlReaderModel_name_48 ?_
    refine Sm_gd fun hi => ldM_38 E (inb_in hi) d_SqlReaderModel_name_49 ?_
    refine Sm_goto (tgt := 54) E d_SqlReaderModel_name_50 (by decide) ?_
    exact Sm_reti hR d_SqlReaderModel_name_54
set_option maxRecDepth 100000 in
set_option maxHeartbeats 4000000 in
theorem cM_SqlReaderModel_name {l : Launch} {D : va_G} {G : Gx} (x1 : Int32) (x2 : Int32) (u : St) {res : Int32} (hm : mM_SqlReaderModel_name x1 x2 u = some res) : KM l D G y_SqlReaderModel_name (.code y_SqlReaderModel_name prog_11_method_93_code 4 (some .int)) { frames := 0, cells := 0, slots := 0, locals := 0 } [.ref (G.1 100), .int x1, .int x2] u (qI D vwCl (wM G) (tyW G) (adsM G) (res, u)) := by
  refine Ct_i (by decide) wM_as (Nat.le_of_ble_eq_true rfl) hm (fun X _ _ E hR => ?_)
  refine Sm_lvs (lv' := [(0, .ref (G.1 100)), (1, .int x1), (2, .int x2)]) rfl ?_
  rw [mM_SqlReaderModel_name]
  refine Sm_iload_n E d_SqlReaderModel_name_0 rfl 1 rfl ?_
  refine Sm_iconst (v := (-1)) E d_SqlReaderModel_name_1 (by decide) ?_
  refine Sm_icmp_lt (tgt := 31) E d_SqlReaderModel_name_2 (by decide) (fun _ => ?_) (fun _ => ?_)
  · refine Sm_iconst (v := 0) E d_SqlReaderModel_name_31 (by decide) ?_
    exact Sm_sub [0, 1, 2] rfl (tM_SqlReaderModel_name_J32 E hR _ _ _)
  · refine Sm_iload_n E d_SqlReaderModel_name_5 rfl 1 rfl ?_
    refine Sm_bipush (v := 8) E d_SqlReaderModel_name_6 (by decide) ?_
    refine Sm_icmp_ge (tgt := 31) E d_SqlReaderModel_name_8 (by decide) (fun _ => ?_) (fun _ => ?_)
    · refine Sm_iconst (v := 0) E d_SqlReaderModel_name_31 (by decide) ?_
      exact Sm_sub [0, 1, 2] rfl (tM_SqlReaderModel_name_J32 E hR _ _ _)
    · refine Sm_iload_n E d_SqlReaderModel_name_11 rfl 2 rfl ?_
      refine Sm_if_lt (tgt := 31) E d_SqlReaderModel_name_12 (by decide) (fun _ => ?_) (fun _ => ?_)
      · refine Sm_iconst (v := 0) E d_SqlReaderModel_name_31 (by decide) ?_
        exact Sm_sub [0, 1, 2] rfl (tM_SqlReaderModel_name_J32 E hR _ _ _)
      · refine Sm_iload_n E d_SqlReaderModel_name_15 rfl 2 rfl ?_
        refine Sm_aload_n E d_SqlReaderModel_name_16 rfl 0 rfl ?_
        refine gfM_0_keptSize E fl_SqlReaderModel_127 d_SqlReaderModel_name_17 ?_
        refine Sm_iload_n E d_SqlReaderModel_name_20 rfl 1 rfl ?_
        refine Sm_iconst (v := 1) E d_SqlReaderModel_name_21 (by decide) ?_
        refine Sm_iadd E d_SqlReaderModel_name_22 ?_
        refine Sm_gd fun hi => ldM_39 E (inb_in hi) d_SqlReaderModel_name_23 ?_
        refine Sm_icmp_ge (tgt := 31) E d_SqlReaderModel_name_24 (by decide) (fun _ => ?_) (fun _ => ?_)
        · refine Sm_iconst (v := 0) E d_SqlReaderModel_name_31 (by decide) ?_
          exact Sm_sub [0, 1, 2] rfl (tM_SqlReaderModel_name_J32 E hR _ _ _)
        · refine Sm_iconst (v := 1) E d_SqlReaderModel_name_27 (by decide) ?_
          refine Sm_goto (tgt := 32) E d_SqlReaderModel_name_28 (by decide) ?_
          exact Sm_sub [0, 1, 2] rfl (tM_SqlReaderModel_name_J32 E hR _ _ _)
