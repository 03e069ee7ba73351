set_option maxRecDepth 100000 in
set_option maxHeartbeats 4000000 in
theorem tM_SqlReaderModel_type_L30 {X : Cx} {G : Gx} {res : Int32 × St} (E : EM X G prog_11_method_3_code R_SqlReaderModel 5 { frames := 0, cells := 0, slots := 0, locals := 0 }) (hR : RtZ X vwCl (wM G) prog_11_method_3_code .boolean res) : ∀ (n : Nat) (x1 : Int64) (x4 : Int32) (u : St), SM X G 5 res (mM_SqlReaderModel_type_L30 n x1 x4 u) u 30 [(0, .ref (G.1 100)), (1, .long x1), (4, .int x4)] [] := by
  intro n
  induction n with
  | zero => intro x1 x4 u; exact Sm_none
  | succ n h30 =>
    intro x1 x4 u
    rw [mM_SqlReaderModel_type_L30]
    refine Sm_iload E d_SqlReaderModel_type_30 2 rfl ?_
    refine Sm_if_lt (tgt := 69) E d_SqlReaderModel_type_32 (by decide) (fun _ => ?_) (fun _ => ?_)
    · refine Sm_iconst (v := 1) E d_SqlReaderModel_type_69 (by decide) ?_
      exact Sm_retZ hR (by decide) d_SqlReaderModel_type_70
    · refine Sm_aload_n E d_SqlReaderModel_type_35 rfl 0 rfl ?_
      refine gfM_0_text E fl_SqlReaderModel_7 d_SqlReaderModel_type_36 ?_
      refine Sm_aload_n E d_SqlReaderModel_type_39 rfl 0 rfl ?_
      refine gfM_0_size E fl_SqlReaderModel_213 d_SqlReaderModel_type_40 ?_
      refine Sm_lload_n E d_SqlReaderModel_type_43 rfl 1 rfl ?_
      refine Sm_bipush (v := 8) E d_SqlReaderModel_type_44 (by decide) ?_
      refine Sm_iload E d_SqlReaderModel_type_46 2 rfl ?_
      refine Sm_imul E d_SqlReaderModel_type_48 ?_
      refine Sm_lshr E d_SqlReaderModel_type_49 ?_
      refine Sm_l2i E d_SqlReaderModel_type_50 ?_
      refine Sm_i2b E d_SqlReaderModel_type_51 ?_
      refine Sm_gd fun hi => stM_1 E (inb_in hi) d_SqlReaderModel_type_52 fun u2 _ => ?_
      refine Sm_aload_n E d_SqlReaderModel_type_53 rfl 0 rfl ?_
      refine Sm_dup E d_SqlReaderModel_type_54 rfl ?_
      refine gfM_0_size E fl_SqlReaderModel_213 d_SqlReaderModel_type_55 ?_
      refine Sm_iconst (v := 1) E d_SqlReaderModel_type_58 (by decide) ?_
      refine Sm_iadd E d_SqlReaderModel_type_59 ?_
      refine pfM_0_size E fl_SqlReaderModel_213 d_SqlReaderModel_type_60 fun u3 _ => ?_
      refine Sm_iinc (k := 2) (d := (-1)) E d_SqlReaderModel_type_63 rfl rfl (by decide) fun y4 _ => Sm_lvs (lv' := [(4, .int y4), (0, .ref (G.1 100)), (1, .long x1)]) rfl ?_
      refine Sm_goto (tgt := 30) E d_SqlReaderModel_type_66 (by decide) ?_
      exact Sm_sub [1, 2, 0] rfl (h30 _ _ _)
set_option maxRecDepth 100000 in
set_option maxHeartbeats 4000000 in
theorem cM_SqlReaderModel_type {l : Launch} {D : va_G} {G : Gx} (x1 : Int64) (x3 : Int32) (u : St) {res : Int32 × St} (hm : mM_SqlReaderModel_type x1 x3 u = some res) : KM l D G y_SqlReaderModel_type (.code y_SqlReaderModel_type prog_11_method_3_code 5 (some .boolean)) { frames := 0, cells := 0, slots := 0, locals := 0 } [.ref (G.1 100), .long x1, .int x3] u (qI D vwCl (wM G) (tyW G) (adsM G) res) := by
  refine Ct_Z (by decide) wM_as (Nat.le_of_ble_eq_true rfl) hm (fun X _ _ E hR => ?_)
  refine Sm_lvs (lv' := [(0, .ref (G.1 100)), (1, .long x1), (3, .int x3)]) rfl ?_
  rw [mM_SqlReaderModel_type]
  refine Sm_iload_n E d_SqlReaderModel_type_0 rfl 2 rfl ?_
  refine Sm_iconst (v := 1) E d_SqlReaderModel_type_1 (by decide) ?_
  refine Sm_icmp_lt (tgt := 23) E d_SqlReaderModel_type_2 (by decide) (fun _ => ?_) (fun _ => ?_)
  · refine Sm_iconst (v := 0) E d_SqlReaderModel_type_23 (by decide) ?_
    exact Sm_retZ hR (by decide) d_SqlReaderModel_type_24
  · refine Sm_iload_n E d_SqlReaderModel_type_5 rfl 2 rfl ?_
    refine Sm_bipush (v := 8) E d_SqlReaderModel_type_6 (by decide) ?_
    refine Sm_icmp_gt (tgt := 23) E d_SqlReaderModel_type_8 (by decide) (fun _ => ?_) (fun _ => ?_)
    · refine Sm_iconst (v := 0) E d_SqlReaderModel_type_23 (by decide) ?_
      exact Sm_retZ hR (by decide) d_SqlReaderModel_type_24
    · refine Sm_aload_n E d_SqlReaderModel_type_11 rfl 0 rfl ?_
      refine gfM_0_size E fl_SqlReaderModel_213 d_SqlReaderModel_type_12 ?_
      refine Sm_iload_n E d_SqlReaderModel_type_15 rfl 2 rfl ?_
      refine Sm_iadd E d_SqlReaderModel_type_16 ?_
      refine Sm_sipush (v := 2000) E d_SqlReaderModel_type_17 (by decide) ?_
      refine Sm_icmp_le (tgt := 25) E d_SqlReaderModel_type_20 (by decide) (fun _ => ?_) (fun _ => ?_)
      · refine Sm_iload_n E d_SqlReaderModel_type_25 rfl 2 rfl ?_
        refine Sm_iconst (v := 1) E d_SqlReaderModel_type_26 (by decide) ?_
        refine Sm_isub E d_SqlReaderModel_type_27 ?_
        refine Sm_leti fun y1 _ => ?_
        refine Sm_istore (lv' := [(4, .int y1), (0, .ref (G.1 100)), (1, .long x1), (3, .int x3)]) E d_SqlReaderModel_type_28 (by decide) rfl ?_
        exact Sm_sub [1, 2, 0] rfl (tM_SqlReaderModel_type_L30 E hR FU _ _ _)
      · refine Sm_iconst (v := 0) E d_SqlReaderModel_type_23 (by decide) ?_
        exact Sm_retZ hR (by decide) d_SqlReaderModel_type_24
set_option maxRecDepth 100000 in
set_option maxHeartbeats 4000000 in
theorem cM_SqlReaderModel_at {l : Launch} {D : va_G} {G : Gx} (x1 : Int32) (u : St) {res : Int32} (hm : mM_SqlReaderModel_at x1 u = some res) : KM l D G y_SqlReaderModel_at (.code y_SqlReaderModel_at prog_11_method_8_code 2 (some .int)) { frames := 0, cells := 0, slots := 0, locals := 0 } [.ref (G.1 100), .int x1] u (qI D vwCl (wM G) (tyW G) (adsM G) (res, u)) := by
  refine Ct_i (by decide) wM_as (Nat.le_of_ble_eq_true rfl) hm (fun X _ _ E hR => ?_)
  refine Sm_lvs (lv' := [(0, .ref (G.1 100)), (1, .int x1)]) rfl ?_
  rw [mM_SqlReaderModel_at]
  refine Sm_iload_n E d_SqlReaderModel_at_0 rfl 1 rfl ?_
  refine Sm_aload_n E d_SqlReaderModel_at_1 rfl 0 rfl ?_
  refine gfM_0_size E fl_SqlReaderModel_213 d_SqlReaderModel_at_2 ?_
  refine Sm_icmp_ge (tgt := 17) E d_SqlReaderModel_at_5 (by decide) (fun _ => ?_) (fun _ => ?_)
  · refine Sm_iconst (v := 0) E d_SqlReaderModel_at_17 (by decide) ?_
    exact Sm_reti hR d_SqlReaderModel_at_18
  · refine Sm_aload_n E d_SqlReaderModel_at_8 rfl 0 rfl ?_
    refine gfM_0_text E fl_SqlReaderModel_7 d_SqlReaderModel_at_9 ?_
    refine Sm_iload_n E d_SqlReaderModel_at_12 rfl 1 rfl ?_
    refine Sm_gd fun hi => ldM_1 E (inb_in hi) d_SqlReaderModel_at_13 ?_
    refine Sm_goto (tgt := 18) E d_SqlReaderModel_at_14 (by decide) ?_
    exact Sm_reti hR d_SqlReaderModel_at_18
set_option maxRecDepth 100000 in
set_option maxHeartbeats 4000000 in
theorem cM_SqlReaderModel_token {l : Launch} {D : va_G} {G : Gx} (x1 : Int32) (x2 : Int32) (x3 : Int32) (u : St) {res : St} (hm : mM_SqlReaderModel_token x1 x2 x3 u = some res) : KM l D G y_SqlReaderModel_token (.code y_SqlReaderModel_token prog_11_method_9_code 4 none) { frames := 0, cells := 0, slots := 0, locals := 0 } [.ref (G.1 100), .int x1, .int x2, .int x3] u (qV D vwCl (wM G) (tyW G) (adsM G) res) := by
  refine Ct_V (by decide) wM_as (Nat.le_of_ble_eq_true rfl) hm (fun X _ _ E hR => ?_)
  refine Sm_lvs (lv' := [(0, .ref (G.1 100)), (1, .int x1), (2, .int x2), (3, .int x3)]) rfl ?_
  rw [mM_SqlReaderModel_token]
  refine Sm_aload_n E d_SqlReaderModel_token_0 rfl 0 rfl ?_
  refine gfM_0_tokenKind E fl_SqlReaderModel_13 d_SqlReaderModel_token_1 ?_
  refine Sm_aload_n E d_SqlReaderModel_token_4 rfl 0 rfl ?_
  refine gfM_0_tokens E fl_SqlReaderModel_223 d_SqlReaderModel_token_5 ?_
  refine Sm_iload_n E d_SqlReaderModel_token_8 rfl 1 rfl ?_
  refine Sm_gd fun hi => stM_2 E (inb_in hi) d_SqlReaderModel_token_9 fun u1 _ => ?_
  refine Sm_aload_n E d_SqlReaderModel_token_10 rfl 0 rfl ?_
  refine gfM_0_from E fl_SqlReaderModel_17 d_SqlReaderModel_token_11 ?_
  refine Sm_aload_n E d_SqlReaderModel_token_14 rfl 0 rfl ?_
  refine gfM_0_tokens E fl_SqlReaderModel_223 d_SqlReaderModel_token_15 ?_
  refine Sm_iload_n E d_SqlReaderModel_token_18 rfl 2 rfl ?_
  refine Sm_gd fun hi => stM_3 E (inb_in hi) d_SqlReaderModel_token_19 fun u2 _ => ?_
  refine Sm_aload_n E d_SqlReaderModel_token_20 rfl 0 rfl ?_
  refine gfM_0_to E fl_SqlReaderModel_20 d_SqlReaderModel_token_21 ?_
  refine Sm_aload_n E d_SqlReaderModel_token_24 rfl 0 rfl ?_
  refine gfM_0_tokens E fl_SqlReaderModel_223 d_SqlReaderModel_token_25 ?_
  refine Sm_iload_n E d_SqlReaderModel_token_28 rfl 3 rfl ?_
  refine Sm_gd fun hi => stM_4 E (inb_in hi) d_SqlReaderModel_token_29 fun u3 _ => ?_
  refine Sm_aload_n E d_SqlReaderModel_token_30 rfl 0 rfl ?_
  refine Sm_dup E d_SqlReaderModel_token_31 rfl ?_
  refine gfM_0_tokens E fl_SqlReaderModel_223 d_SqlReaderModel_token_32 ?_
  refine Sm_iconst (v := 1) E d_SqlReaderModel_token_35 (by decide) ?_
  refine Sm_iadd E d_SqlReaderModel_token_36 ?_
  refine pfM_0_tokens E fl_SqlReaderModel_223 d_SqlReaderModel_token_37 fun u4 _ => ?_
  exact Sm_retV hR d_SqlReaderModel_token_40
set_option maxRecDepth 100000 in
set_option maxHeartbeats 4000000 in
theorem tM_SqlReaderModel_cutText_J135 {X : Cx} {G : Gx} {res : Int32 × St} (E : EM X G prog_11_method_12_code R_SqlReaderModel 6 { frames := 1, cells := 0, slots := 0, locals := 23 }) (hR : RtI X vwCl (wM G) prog_11_method_12_code res) : ∀ (x1 : Int32) (x2 : Int32) (x3 : Int32) (u : St), SM X G 6 res (mM_SqlReaderModel_cutText_J135 x1 x2 x3 u) u 135 [(0, .ref (G.1 100)), (1, .int x1), (2, .int x2), (3, .int x3)] [] := by
  intro x1 x2 x3 u
  rw [mM_SqlReaderModel_cutText_J135]
  refine Sm_aload_n E d_SqlReaderModel_cutText_135 rfl 0 rfl ?_
  refine Sm_aload_n E d_SqlReaderModel_cutText_136 rfl 0 rfl ?_
  refine gfM_0_bad E fl_SqlReaderModel_226 d_SqlReaderModel_cutText_137 ?_
  refine Sm_if_ne (tgt := 149) E d_SqlReaderModel_cutText_140 (by decide) (fun _ => ?_) (fun _ => ?_)
  · refine Sm_iconst (v := 1) E d_SqlReaderModel_cutText_149 (by decide) ?_
    refine Sm_goto (tgt := 154) E d_SqlReaderModel_cutText_150 (by decide) ?_
    refine pfM_0_bad E fl_SqlReaderModel_226 d_SqlReaderModel_cutText_154 (by decide) rfl fun u2 _ => ?_
    refine Sm_aload_n E d_SqlReaderModel_cutText_157 rfl 0 rfl ?_
    refine Sm_iconst (v := 4) E d_SqlReaderModel_cutText_158 (by decide) ?_
    refine Sm_iload_n E d_SqlReaderModel_cutText_159 rfl 1 rfl ?_
    refine Sm_iload_n E d_SqlReaderModel_cutText_160 rfl 3 rfl ?_
    refine Sm_cVV (As := [.int 4, .int x1, .int x3]) (b := (G.1 100)) (st := []) (n := 3) E exOk wM_as (fun _ h => cM_SqlReaderModel_token 4 x1 x3 u2 h) gk_SqlReaderModel_245 dk_SqlReaderModel_token rfl ⟨rfl, rfl⟩ ⟨Nat.le_of_ble_eq_true rfl, Nat.le_of_ble_eq_true rfl⟩ (rvW (q0 := 0) (ci := 1) E rfl rfl rfl) rfl (Nat.le_of_ble_eq_true rfl) d_SqlReaderModel_cutText_161 fun u3 _ => ?_
    refine Sm_iload_n E d_SqlReaderModel_cutText_164 rfl 3 rfl ?_
    exact Sm_retI hR d_SqlReaderModel_cutText_165
  · refine Sm_iload_n E d_SqlReaderModel_cutText_143 rfl 2 rfl ?_
    refine Sm_bipush (v := 31) E d_SqlReaderModel_cutText_144 (by decide) ?_
    refine Sm_icmp_le (tgt := 153) E d_SqlReaderModel_cutText_146 (by decide) (fun _ => ?_) (fun _ => ?_)
    · refine Sm_iconst (v := 0) E d_SqlReaderModel_cutText_153 (by decide) ?_
      refine pfM_0_bad E fl_SqlReaderModel_226 d_SqlReaderModel_cutText_154 (by decide) rfl fun u4 _ => ?_
      refine Sm_aload_n E d_SqlReaderModel_cutText_157 rfl 0 rfl ?_
      refine Sm_iconst (v := 4) E d_SqlReaderModel_cutText_158 (by decide) ?_
      refine Sm_iload_n E d_SqlReaderModel_cutText_159 rfl 1 rfl ?_
      refine Sm_iload_n E d_SqlReaderModel_cutText_160 rfl 3 rfl ?_
      refine Sm_cVV (As := [.int 4, .int x1, .int x3]) (b := (G.1 100)) (st := []) (n := 3) E exOk wM_as (fun _ h => cM_SqlReaderModel_token 4 x1 x3 u4 h) gk_SqlReaderModel_245 dk_SqlReaderModel_token rfl ⟨rfl, rfl⟩ ⟨Nat.le_of_ble_eq_true rfl, Nat.le_of_ble_eq_true rfl⟩ (rvW (q0 := 0) (ci := 1) E rfl rfl rfl) rfl (Nat.le_of_ble_eq_true rfl) d_SqlReaderModel_cutText_161 fun u5 _ => ?_
      refine Sm_iload_n E d_SqlReaderModel_cutText_164 rfl 3 rfl ?_
      exact Sm_retI hR d_SqlReaderModel_cutText_165
    · refine Sm_iconst (v := 1) E d_SqlReaderModel_cutText_149 (by decide) ?_
      refine Sm_goto (tgt := 154) E d_SqlReaderModel_cutText_150 (by decide) ?_
      refine pfM_0_bad E fl_SqlReaderModel_226 d_SqlReaderModel_cutText_154 (by decide) rfl fun u6 _ => ?_
      refine Sm_aload_n E d_SqlReaderModel_cutText_157 rfl 0 rfl ?_
      refine Sm_iconst (v := 4) E d_SqlReaderModel_cutText_158 (by decide) ?_
      refine Sm_iload_n E d_SqlReaderModel_cutText_159 rfl 1 rfl ?_
      refine Sm_iload_n E d_SqlReaderModel_cutText_160 rfl 3 rfl ?_
      refine Sm_cVV (As := [.int 4, .int x1, .int x3]) (b := (G.1 100)) (st := []) (n := 3) E exOk wM_as (fun _ h => cM_SqlReaderModel_token 4 x1 x3 u6 h) gk_SqlReaderModel_245 dk_SqlReaderModel_token rfl ⟨rfl, rfl⟩ ⟨Nat.le_of_ble_eq_true rfl, Nat.le_of_ble_eq_true rfl⟩ (rvW (q0 := 0) (ci := 1) E rfl rfl rfl) rfl (Nat.le_of_ble_eq_true rfl) d_SqlReaderModel_cutText_161 fun u7 _ => ?_
      refine Sm_iload_n E d_SqlReaderModel_cutText_164 rfl 3 rfl ?_
      exact Sm_retI hR d_SqlReaderModel_cutText_165
set_option maxRecDepth 100000 in
set_option maxHeartbeats 4000000 in
theorem tM_SqlReaderModel_cutText_J111 {X : Cx} {G : Gx} {res : Int32 × St} (E : EM X G prog_11_method_12_code R_SqlReaderModel 6 { frames := 1, cells := 0, slots := 0, locals := 23 }) (hR : RtI X vwCl (wM G) prog_11_method_12_code res) {q9 : Int32 → Int32 → Int32 → Int32 → St → Option (Int32 × St)} (h9 : ∀ (x1 : Int32) (x2 : Int32) (x3 : Int32) (x4 : Int32) (u : St), SM X G 6 res (q9 x1 x2 x3 x4 u) u 9 [(0, .ref (G.1 100)), (1, .int x1), (2, .int x2), (3, .int x3), (4, .int x4)] []) : ∀ (x1 : Int32) (x3 : Int32) (x4 : Int32) (x5 : Int32) (s0 : Int32) (u : St), SM X G 6 res (mM_SqlReaderModel_cutText_J111 q9 x1 x3 x4 x5 s0 u) u 111 [(0, .ref (G.1 100)), (1, .int x1), (3, .int x3), (4, .int x4), (5, .int x5)] [.int s0] := by
  intro x1 x3 x4 x5 s0 u
  rw [mM_SqlReaderModel_cutText_J111]
  refine Sm_istore_n (lv' := [(2, .int s0), (0, .ref (G.1 100)), (1, .int x1), (3, .int x3), (4, .int x4), (5, .int x5)]) E d_SqlReaderModel_cutText_111 rfl (by decide) rfl ?_
  refine Sm_iload E d_SqlReaderModel_cutText_112 5 rfl ?_
  refine Sm_if_eq (tgt := 128) E d_SqlReaderModel_cutText_114 (by decide) (fun _ => ?_) (fun _ => ?_)
  · refine Sm_iload_n E d_SqlReaderModel_cutText_128 rfl 3 rfl ?_
    refine Sm_iconst (v := 1) E d_SqlReaderModel_cutText_129 (by decide) ?_
    refine Sm_iadd E d_SqlReaderModel_cutText_130 ?_
    refine Sm_leti fun y10 _ => ?_
    refine Sm_istore_n (lv' := [(3, .int y10), (2, .int s0), (0, .ref (G.1 100)), (1, .int x1), (4, .int x4), (5, .int x5)]) E d_SqlReaderModel_cutText_131 rfl (by decide) rfl ?_
    refine Sm_goto (tgt := 9) E d_SqlReaderModel_cutText_132 (by decide) ?_
    exact Sm_sub [2, 3, 1, 0, 4] rfl (h9 _ _ _ _ _)
  · refine Sm_iload E d_SqlReaderModel_cutText_117 4 rfl ?_
    refine Sm_if_eq (tgt := 128) E d_SqlReaderModel_cutText_119 (by decide) (fun _ => ?_) (fun _ => ?_)
    · refine Sm_iload_n E d_SqlReaderModel_cutText_128 rfl 3 rfl ?_
      refine Sm_iconst (v := 1) E d_SqlReaderModel_cutText_129 (by decide) ?_
      refine Sm_iadd E d_SqlReaderModel_cutText_130 ?_
      refine Sm_leti fun y11 _ => ?_
      refine Sm_istore_n (lv' := [(3, .int y11), (2, .int s0), (0, .ref (G.1 100)), (1, .int x1), (4, .int x4), (5, .int x5)]) E d_SqlReaderModel_cutText_131 rfl (by decide) rfl ?_
      refine Sm_goto (tgt := 9) E d_SqlReaderModel_cutText_132 (by decide) ?_
      exact Sm_sub [2, 3, 1, 0, 4] rfl (h9 _ _ _ _ _)
    · refine Sm_iload_n E d_SqlReaderModel_cutText_122 rfl 3 rfl ?_
      refine Sm_iconst (v := 2) E d_SqlReaderModel_cutText_123 (by decide) ?_
      refine Sm_iadd E d_SqlReaderModel_cutText_124 ?_
      refine Sm_goto (tgt := 131) E d_SqlReaderModel_cutText_125 (by decide) ?_
      refine Sm_leti fun y12 _ => ?_
      refine Sm_istore_n (lv' := [(3, .int y12), (2, .int s0), (0, .ref (G.1 100)), (1, .int x1), (4, .int x4), (5, .int x5)]) E d_SqlReaderModel_cutText_131 rfl (by decide) rfl ?_
      refine Sm_goto (tgt := 9) E d_SqlReaderModel_cutText_132 (by decide) ?_
      exact Sm_sub [2, 3, 1, 0, 4] rfl (h9 _ _ _ _ _)
set_option maxRecDepth 100000 in
set_option maxHeartbeats 4000000 in
theorem tM_SqlReaderModel_cutText_J96 {X : Cx} {G : Gx} {res : Int32 × St} (E : EM X G prog_11_method_12_code R_SqlReaderModel 6 { frames := 1, cells := 0, slots := 0, locals := 23 }) (hR : RtI X vwCl (wM G) prog_11_method_12_code res) {q9 : Int32 → Int32 → Int32 → Int32 → St → Option (Int32 × St)} (h9 : ∀ (x1 : Int32) (x2 : Int32) (x3 : Int32) (x4 : Int32) (u : St), SM X G 6 res (q9 x1 x2 x3 x4 u) u 9 [(0, .ref (G.1 100)), (1, .int x1), (2, .int x2), (3, .int x3), (4, .int x4)] []) : ∀ (x1 : Int32) (x2 : Int32) (x3 : Int32) (x4 : Int32) (x5 : Int32) (s1 : Int32) (u : St), SM X G 6 res (mM_SqlReaderModel_cutText_J96 q9 x1 x2 x3 x4 x5 s1 u) u 96 [(0, .ref (G.1 100)), (1, .int x1), (2, .int x2), (3, .int x3), (4, .int x4), (5, .int x5)] [.int s1, .ref (G.1 100)] := by
  intro x1 x2 x3 x4 x5 s1 u
  rw [mM_SqlReaderModel_cutText_J96]
  refine Sm_gd fun hz => pfM_0_bad E fl_SqlReaderModel_226 d_SqlReaderModel_cutText_96 (zb_n hz) (zb_f hz) fun u9 _ => ?_
  refine Sm_iload E d_SqlReaderModel_cutText_99 4 rfl ?_
  refine Sm_if_eq (tgt := 110) E d_SqlReaderModel_cutText_101 (by decide) (fun _ => ?_) (fun _ => ?_)
  · refine Sm_iload_n E d_SqlReaderModel_cutText_110 rfl 2 rfl ?_
    exact Sm_sub [0, 1, 3, 4, 5] rfl (tM_SqlReaderModel_cutText_J111 E hR h9 _ _ _ _ _ _)
  · refine Sm_iload_n E d_SqlReaderModel_cutText_104 rfl 2 rfl ?_
    refine Sm_iconst (v := 1) E d_SqlReaderModel_cutText_105 (by decide) ?_
    refine Sm_iadd E d_SqlReaderModel_cutText_106 ?_
    refine Sm_goto (tgt := 111) E d_SqlReaderModel_cutText_107 (by decide) ?_
    exact Sm_sub [0, 1, 3, 4, 5] rfl (tM_SqlReaderModel_cutText_J111 E hR h9 _ _ _ _ _ _)
set_option maxRecDepth 100000 in
set_option maxHeartbeats 4000000 in
theorem tM_SqlReaderModel_cutText_J60 {X : Cx} {G : Gx} {res : Int32 × St} (E : EM X G prog_11_method_12_code R_SqlReaderModel 6 { frames := 1, cells := 0, slots := 0, locals := 23 }) (hR : RtI X vwCl (wM G) prog_11_method_12_code res) {q9 : Int32 → Int32 → Int32 → Int32 → St → Option (Int32 × St)} (h9 : ∀ (x1 : Int32) (x2 : Int32) (x3 : Int32) (x4 : Int32) (u : St), SM X G 6 res (q9 x1 x2 x3 x4 u) u 9 [(0, .ref (G.1 100)), (1, .int x1), (2, .int x2), (3, .int x3), (4, .int x4)] []) : ∀ (x1 : Int32) (x2 : Int32) (x3 : Int32) (x5 : Int32) (s0 : Int32) (u : St), SM X G 6 res (mM_SqlReaderModel_cutText_J60 q9 x1 x2 x3 x5 s0 u) u 60 [(0, .ref (G.1 100)), (1, .int x1), (2, .int x2), (3, .int x3), (5, .int x5)] [.int s0] := by
  intro x1 x2 x3 x5 s0 u
  rw [mM_SqlReaderModel_cutText_J60]
  refine Sm_istore (lv' := [(4, .int s0), (0, .ref (G.1 100)), (1, .int x1), (2, .int x2), (3, .int x3), (5, .int x5)]) E d_SqlReaderModel_cutText_60 (by decide) rfl ?_
  refine Sm_aload_n E d_SqlReaderModel_cutText_62 rfl 1 rfl ?_
  refine Sm_iload_n E d_SqlReaderModel_cutText_63 rfl 4 rfl ?_
  refine Sm_aload_n E d_SqlReaderModel_cutText_64 rfl 1 rfl ?_
  refine gfM_0_size E fl_SqlReaderModel_213 d_SqlReaderModel_cutText_65 ?_
  refine Sm_icmp_ge (tgt := 91) E d_SqlReaderModel_cutText_68 (by decide) (fun _ => ?_) (fun _ => ?_)
  · refine Sm_iconst (v := 1) E d_SqlReaderModel_cutText_91 (by decide) ?_
    refine Sm_goto (tgt := 96) E d_SqlReaderModel_cutText_92 (by decide) ?_
    exact Sm_sub [1, 2, 3, 4, 0, 5] rfl (tM_SqlReaderModel_cutText_J96 E hR h9 _ _ _ _ _ _ _)
  · refine Sm_aload_n E d_SqlReaderModel_cutText_71 rfl 1 rfl ?_
    refine Sm_iload_n E d_SqlReaderModel_cutText_72 rfl 4 rfl ?_
    refine Sm_cVi (As := [.int x3]) (b := (G.1 100)) (st := [.ref (G.1 100)]) (n := 1) E exOk wM_as (fun _ h => cM_SqlReaderModel_at x3 u h) gk_SqlReaderModel_236 dk_SqlReaderModel_at rfl ⟨rfl, rfl⟩ ⟨Nat.le_of_ble_eq_true rfl, Nat.le_of_ble_eq_true rfl⟩ (rvW (q0 := 0) (ci := 1) E rfl rfl rfl) rfl (Nat.le_of_ble_eq_true rfl) d_SqlReaderModel_cutText_73 fun r13 _ => ?_
    refine Sm_bipush (v := 32) E d_SqlReaderModel_cutText_76 (by decide) ?_
    refine Sm_icmp_lt (tgt := 91) E d_SqlReaderModel_cutText_78 (by decide) (fun _ => ?_) (fun _ => ?_)
    · refine Sm_iconst (v := 1) E d_SqlReaderModel_cutText_91 (by decide) ?_
      refine Sm_goto (tgt := 96) E d_SqlReaderModel_cutText_92 (by decide) ?_
      exact Sm_sub [1, 2, 3, 4, 0, 5] rfl (tM_SqlReaderModel_cutText_J96 E hR h9 _ _ _ _ _ _ _)
    · refine Sm_aload_n E d_SqlReaderModel_cutText_81 rfl 1 rfl ?_
      refine Sm_iload_n E d_SqlReaderModel_cutText_82 rfl 4 rfl ?_
      refine Sm_cVi (As := [.int x3]) (b := (G.1 100)) (st := [.ref (G.1 100)]) (n := 1) E exOk wM_as (fun _ h => cM_SqlReaderModel_at x3 u h) gk_SqlReaderModel_236 dk_SqlReaderModel_at rfl ⟨rfl, rfl⟩ ⟨Nat.le_of_ble_eq_true rfl, Nat.le_of_ble_eq_true rfl⟩ (rvW (q0 := 0) (ci := 1) E rfl rfl rfl) rfl (Nat.le_of_ble_eq_true rfl) d_SqlReaderModel_cutText_83 fun r14 _ => ?_
      refine Sm_bipush (v := 126) E d_SqlReaderModel_cutText_86 (by decide) ?_
      refine Sm_icmp_le (tgt := 95) E d_SqlReaderModel_cutText_88 (by decide) (fun _ => ?_) (fun _ => ?_)
      · refine Sm_iconst (v := 0) E d_SqlReaderModel_cutText_95 (by decide) ?_
        exact Sm_sub [1, 2, 3, 4, 0, 5] rfl (tM_SqlReaderModel_cutText_J96 E hR h9 _ _ _ _ _ _ _)
      · refine Sm_iconst (v := 1) E d_SqlReaderModel_cutText_91 (by decide) ?_
        refine Sm_goto (tgt := 96) E d_SqlReaderModel_cutText_92 (by decide) ?_
        exact Sm_sub [1, 2, 3, 4, 0, 5] rfl (tM_SqlReaderModel_cutText_J96 E hR h9 _ _ _ _ _ _ _)
set_option maxRecDepth 100000 in
set_option maxHeartbeats 4000000 in
theorem tM_SqlReaderModel_cutText_J36 {X : Cx} {G : Gx} {res : Int32 × St} (E : EM X G prog_11_method_12_code R_SqlReaderModel 6 { frames := 1, cells := 0, slots := 0, locals := 23 }) (hR : RtI X vwCl (wM G) prog_11_method_12_code res) {q9 : Int32 → Int32 → Int32 → Int32 → St → Option (Int32 × St)} (h9 : ∀ (x1 : Int32) (x2 : Int32) (x3 : Int32) (x4 : Int32) (u : St), SM X G 6 res (q9 x1 x2 x3 x4 u) u 9 [(0, .ref (G.1 100)), (1, .int x1), (2, .int x2), (3, .int x3), (4, .int x4)] []) : ∀ (x1 : Int32) (x2 : Int32) (x3 : Int32) (s0 : Int32) (u : St), SM X G 6 res (mM_SqlReaderModel_cutText_J36 q9 x1 x2 x3 s0 u) u 36 [(0, .ref (G.1 100)), (1, .int x1), (2, .int x2), (3, .int x3)] [.int s0] := by
  intro x1 x2 x3 s0 u
  rw [mM_SqlReaderModel_cutText_J36]
  refine Sm_istore (lv' := [(5, .int s0), (0, .ref (G.1 100)), (1, .int x1), (2, .int x2), (3, .int x3)]) E d_SqlReaderModel_cutText_36 (by decide) rfl ?_
  refine Sm_iload E d_SqlReaderModel_cutText_38 0 rfl ?_
  refine Sm_if_eq (tgt := 55) E d_SqlReaderModel_cutText_40 (by decide) (fun _ => ?_) (fun _ => ?_)
  · refine Sm_iconst (v := 1) E d_SqlReaderModel_cutText_55 (by decide) ?_
    refine Sm_goto (tgt := 60) E d_SqlReaderModel_cutText_56 (by decide) ?_
    exact Sm_sub [1, 2, 3, 4, 0] rfl (tM_SqlReaderModel_cutText_J60 E hR h9 _ _ _ _ _ _)
  · refine Sm_aload_n E d_SqlReaderModel_cutText_43 rfl 1 rfl ?_
    refine Sm_iload_n E d_SqlReaderModel_cutText_44 rfl 4 rfl ?_
    refine Sm_iconst (v := 1) E d_SqlReaderModel_cutText_45 (by decide) ?_
    refine Sm_iadd E d_SqlReaderModel_cutText_46 ?_
    refine Sm_cVi (As := [.int (x3 + 1)]) (b := (G.1 100)) (st := []) (n := 1) E exOk wM_as (fun _ h => cM_SqlReaderModel_at (x3 + 1) u h) gk_SqlReaderModel_236 dk_SqlReaderModel_at rfl ⟨rfl, rfl⟩ ⟨Nat.le_of_ble_eq_true rfl, Nat.le_of_ble_eq_true rfl⟩ (rvW (q0 := 0) (ci := 1) E rfl rfl rfl) rfl (Nat.le_of_ble_eq_true rfl) d_SqlReaderModel_cutText_47 fun r15 _ => ?_
    refine Sm_bipush (v := 39) E d_SqlReaderModel_cutText_50 (by decide) ?_
    refine Sm_icmp_ne (tgt := 59) E d_SqlReaderModel_cutText_52 (by decide) (fun _ => ?_) (fun _ => ?_)
    · refine Sm_iconst (v := 0) E d_SqlReaderModel_cutText_59 (by decide) ?_
      exact Sm_sub [1, 2, 3, 4, 0] rfl (tM_SqlReaderModel_cutText_J60 E hR h9 _ _ _ _ _ _)
    · refine Sm_iconst (v := 1) E d_SqlReaderModel_cutText_55 (by decide) ?_
      refine Sm_goto (tgt := 60) E d_SqlReaderModel_cutText_56 (by decide) ?_
      exact Sm_sub [1, 2, 3, 4, 0] rfl (tM_SqlReaderModel_cutText_J60 E hR h9 _ _ _ _ _ _)
set_option maxRecDepth 100000 in
set_option maxHeartbeats 4000000 in
theorem tM_SqlReaderModel_cutText_L9 {X : Cx} {G : Gx} {res : Int32 × St} (E : EM X G prog_11_method_12_code R_SqlReaderModel 6 { frames := 1, cells := 0, slots := 0, locals := 23 }) (hR : RtI X vwCl (wM G) prog_11_method_12_code res) : ∀ (n : Nat) (x1 : Int32) (x2 : Int32) (x3 : Int32) (x4 : Int32) (u : St), SM X G 6 res (mM_SqlReaderModel_cutText_L9 n x1 x2 x3 x4 u) u 9 [(0, .ref (G.1 100)), (1, .int x1), (2, .int x2), (3, .int x3), (4, .int x4)] [] := by
  intro n
  induction n with
  | zero => intro x1 x2 x3 x4 u; exact Sm_none
  | succ n h9 =>
    intro x1 x2 x3 x4 u
    rw [mM_SqlReaderModel_cutText_L9]
    refine Sm_iload E d_SqlReaderModel_cutText_9 4 rfl ?_
    refine Sm_if_eq (tgt := 135) E d_SqlReaderModel_cutText_11 (by decide) (fun _ => ?_) (fun _ => ?_)
    · exact Sm_sub [0, 1, 2, 3] rfl (tM_SqlReaderModel_cutText_J135 E hR _ _ _ _)
    · refine Sm_aload_n E d_SqlReaderModel_cutText_14 rfl 0 rfl ?_
      refine gfM_0_bad E fl_SqlReaderModel_226 d_SqlReaderModel_cutText_15 ?_
      refine Sm_if_ne (tgt := 135) E d_SqlReaderModel_cutText_18 (by decide) (fun _ => ?_) (fun _ => ?_)
      · exact Sm_sub [0, 1, 2, 3] rfl (tM_SqlReaderModel_cutText_J135 E hR _ _ _ _)
      · refine Sm_aload_n E d_SqlReaderModel_cutText_21 rfl 0 rfl ?_
        refine Sm_iload_n E d_SqlReaderModel_cutText_22 rfl 3 rfl ?_
        refine Sm_cVi (As := [.int x3]) (b := (G.1 100)) (st := []) (n := 1) E exOk wM_as (fun _ h => cM_SqlReaderModel_at x3 u h) gk_SqlReaderModel_236 dk_SqlReaderModel_at rfl ⟨rfl, rfl⟩ ⟨Nat.le_of_ble_eq_true rfl, Nat.le_of_ble_eq_true rfl⟩ (rvW (q0 := 0) (ci := 1) E rfl rfl rfl) rfl (Nat.le_of_ble_eq_true rfl) d_SqlReaderModel_cutText_23 fun r8 _ => ?_
        refine Sm_bipush (v := 39) E d_SqlReaderModel_cutText_26 (by decide) ?_
        refine Sm_icmp_ne (tgt := 35) E d_SqlReaderModel_cutText_28 (by decide) (fun _ => ?_) (fun _ => ?_)
        · refine Sm_iconst (v := 0) E d_SqlReaderModel_cutText_35 (by decide) ?_
          exact Sm_sub [0, 1, 2, 3] rfl (tM_SqlReaderModel_cutText_J36 E hR h9 _ _ _ _ _)
        · refine Sm_iconst (v := 1) E d_SqlReaderModel_cutText_31 (by decide) ?_
          refine Sm_goto (tgt := 36) E d_SqlReaderModel_cutText_32 (by decide) ?_
          exact Sm_sub [0, 1, 2, 3] rfl (tM_SqlReaderModel_cutText_J36 E hR h9 _ _ _ _ _)
set_option maxRecDepth 100000 in
set_option maxHeartbeats 4000000 in
theorem cM_SqlReaderModel_cutText {l : Launch} {D : va_G} {G : Gx} (x1 : Int32) (u : St) {res : Int32 × St} (hm : mM_SqlReaderModel_cutText x1 u = some res) : KM l D G y_SqlReaderModel_cutText (.code y_SqlReaderModel_cutText prog_11_method_12_code 6 (some .int)) { frames := 1, cells := 0, slots := 0, locals := 23 } [.ref (G.1 100), .int x1] u (qI D vwCl (wM G) (tyW G) (adsM G) res) := by
  refine Ct_I (by decide) wM_as (Nat.le_of_ble_eq_true rfl) hm (fun X _ _ E hR => ?_)
  refine Sm_lvs (lv' := [(0, .ref (G.1 100)), (1, .int x1)]) rfl ?_
  rw [mM_SqlReaderModel_cutText]
  refine Sm_iconst (v := 0) E d_SqlReaderModel_cutText_0 (by decide) ?_
  refine Sm_istore_n (lv' := [(2, .int 0), (0, .ref (G.1 100)), (1, .int x1)]) E d_SqlReaderModel_cutText_1 rfl (by decide) rfl ?_
  refine Sm_iload_n E d_SqlReaderModel_cutText_2 rfl 2 rfl ?_
  refine Sm_iconst (v := 1) E d_SqlReaderModel_cutText_3 (by decide) ?_
  refine Sm_iadd E d_SqlReaderModel_cutText_4 ?_
  refine Sm_leti fun y1 _ => ?_
  refine Sm_istore_n (lv' := [(3, .int y1), (2, .int 0), (0, .ref (G.1 100)), (1, .int x1)]) E d_SqlReaderModel_cutText_5 rfl (by decide) rfl ?_
  refine Sm_iconst (v := 1) E d_SqlReaderModel_cutText_6 (by decide) ?_
  refine Sm_istore (lv' := [(4, .int 1), (3, .int y1), (2, .int 0), (0, .ref (G.1 100)), (1, .int x1)]) E d_SqlReaderModel_cutText_7 (by decide) rfl ?_
  exact Sm_sub [3, 4, 2, 1, 0] rfl (tM_SqlReaderModel_cutText_L9 E hR FU _ _ _ _ _)
set_option maxRecDepth 100000 in
set_option maxHeartbeats 4000000 in
theorem cM_SqlReaderModel_isCapital {l : Launch} {D : va_G} {G : Gx} (x0 : Int32) (u : St) {res : Int32} (hm : mM_SqlReaderModel_isCapital x0 u = some res) : KM l D G y_SqlReaderModel_isCapital (.code y_SqlReaderModel_isCapital prog_11_method_4_code 1 (some .boolean)) { frames := 0, cells := 0, slots := 0, locals := 0 } [.int x0] u (qI D vwCl (wM G) (tyW G) (adsM G) (res, u)) := by
  refine Ct_z (by decide) wM_as (Nat.le_of_ble_eq_true rfl) hm (fun X _ _ E hR => ?_)
  refine Sm_lvs (lv' := [(0, .int x0)]) rfl ?_
  rw [mM_SqlReaderModel_isCapital]
  refine Sm_iload_n E d_SqlReaderModel_isCapital_0 rfl 0 rfl ?_
  refine Sm_bipush (v := 65) E d_SqlReaderModel_isCapital_1 (by decide) ?_
  refine Sm_icmp_lt (tgt := 16) E d_SqlReaderModel_isCapital_3 (by decide) (fun _ => ?_) (fun _ => ?_)
  · refine Sm_iconst (v := 0) E d_SqlReaderModel_isCapital_16 (by decide) ?_
    exact Sm_retz hR (by decide) d_SqlReaderModel_isCapital_17
  · refine Sm_iload_n E d_SqlReaderModel_isCapital_6 rfl 0 rfl ?_
    refine Sm_bipush (v := 90) E d_SqlReaderModel_isCapital_7 (by decide) ?_
    refine Sm_icmp_gt (tgt := 16) E d_SqlReaderModel_isCapital_9 (by decide) (fun _ => ?_) (fun _ => ?_)
    · refine Sm_iconst (v := 0) E d_SqlReaderModel_isCapital_16 (by decide) ?_
      exact Sm_retz hR (by decide) d_SqlReaderModel_isCapital_17
    · refine Sm_iconst (v := 1) E d_SqlReaderModel_isCapital_12 (by decide) ?_
      refine Sm_goto (tgt := 17) E d_SqlReaderModel_isCapital_13 (by decide) ?_
      exact Sm_retz hR (by decide) d_SqlReaderModel_isCapital_17
set_option maxRecDepth 100000 in
set_option maxHeartbeats 4000000 in
theorem cM_SqlReaderModel_isSmall {l : Launch} {D : va_G} {G : Gx} (x0 : Int32) (u : St) {res : Int32} (hm : mM_SqlReaderModel_isSmall x0 u = some res) : KM l D G y_SqlReaderModel_isSmall (.code y_SqlReaderModel_isSmall prog_11_method_5_code 1 (some .boolean)) { frames := 0, cells := 0, slots := 0, locals := 0 } [.int x0] u (qI D vwCl (wM G) (tyW G) (adsM G) (res, u)) := by
  refine Ct_z (by decide) wM_as (Nat.le_of_ble_eq_true rfl) hm (fun X _ _ E hR => ?_)
  refine Sm_lvs (lv' := [(0, .int x0)]) rfl ?_
  rw [mM_SqlReaderModel_isSmall]
  refine Sm_iload_n E d_SqlReaderModel_isSmall_0 rfl 0 rfl ?_
  refine Sm_bipush (v := 97) E d_SqlReaderModel_isSmall_1 (by decide) ?_
  refine Sm_icmp_lt (tgt := 16) E d_SqlReaderModel_isSmall_3 (by decide) (fun _ => ?_) (fun _ => ?_)
  · refine Sm_iconst (v := 0) E d_SqlReaderModel_isSmall_16 (by decide) ?_
    exact Sm_retz hR (by decide) d_SqlReaderModel_isSmall_17
  · refine Sm_iload_n E d_SqlReaderModel_isSmall_6 rfl 0 rfl ?_
    refine Sm_bipush (v := 122) E d_SqlReaderModel_isSmall_7 (by decide) ?_
    refine Sm_icmp_gt (tgt := 16) E d_SqlReaderModel_isSmall_9 (by decide) (fun _ => ?_) (fun _ => ?_)
    · refine Sm_iconst (v := 0) E d_SqlReaderModel_isSmall_16 (by decide) ?_
      exact Sm_retz hR (by decide) d_SqlReaderModel_isSmall_17
    · refine Sm_iconst (v := 1) E d_SqlReaderModel_isSmall_12 (by decide) ?_
      refine Sm_goto (tgt := 17) E d_SqlReaderModel_isSmall_13 (by decide) ?_
      exact Sm_retz hR (by decide) d_SqlReaderModel_isSmall_17
set_option maxRecDepth 100000 in
set_option maxHeartbeats 4000000 in
theorem cM_SqlReaderModel_isDigit {l : Launch} {D : va_G} {G : Gx} (x0 : Int32) (u : St) {res : Int32} (hm : mM_SqlReaderModel_isDigit x0 u = some res) : KM l D G y_SqlReaderModel_isDigit (.code y_SqlReaderModel_isDigit prog_11_method_6_code 1 (some .boolean)) { frames := 0, cells := 0, slots := 0, locals := 0 } [.int x0] u (qI D vwCl (wM G) (tyW G) (adsM G) (res, u)) := by
  refine Ct_z (by decide) wM_as (Nat.le_of_ble_eq_true rfl) hm (fun X _ _ E hR => ?_)
  refine Sm_lvs (lv' := [(0, .int x0)]) rfl ?_
  rw [mM_SqlReaderModel_isDigit]
  refine Sm_iload_n E d_SqlReaderModel_isDigit_0 rfl 0 rfl ?_
  refine Sm_bipush (v := 48) E d_SqlReaderModel_isDigit_1 (by decide) ?_
  refine Sm_icmp_lt (tgt := 16) E d_SqlReaderModel_isDigit_3 (by decide) (fun _ => ?_) (fun _ => ?_)
  · refine Sm_iconst (v := 0) E d_SqlReaderModel_isDigit_16 (by decide) ?_
    exact Sm_retz hR (by decide) d_SqlReaderModel_isDigit_17
  · refine Sm_iload_n E d_SqlReaderModel_isDigit_6 rfl 0 rfl ?_
    refine Sm_bipush (v := 57) E d_SqlReaderModel_isDigit_7 (by decide) ?_
    refine Sm_icmp_gt (tgt := 16) E d_SqlReaderModel_isDigit_9 (by decide) (fun _ => ?_) (fun _ => ?_)
    · refine Sm_iconst (v := 0) E d_SqlReaderModel_isDigit_16 (by decide) ?_
      exact Sm_retz hR (by decide) d_SqlReaderModel_isDigit_17
    · refine Sm_iconst (v := 1) E d_SqlReaderModel_isDigit_12 (by decide) ?_
      refine Sm_goto (tgt := 17) E d_SqlReaderModel_isDigit_13 (by decide) ?_
      exact Sm_retz hR (by decide) d_SqlReaderModel_isDigit_17
set_option maxRecDepth 100000 in
set_option maxHeartbeats 4000000 in
theorem cM_SqlReaderModel_isInName {l : Launch} {D : va_G} {G : Gx} (x0 : Int32) (u : St) {res : Int32} (hm : mM_SqlReaderModel_isInName x0 u = some res) : KM l D G y_SqlReaderModel_isInName (.code y_SqlReaderModel_isInName prog_11_method_7_code 1 (some .boolean)) { frames := 1, cells := 0, slots := 0, locals := 20 } [.int x0] u (qI D vwCl (wM G) (tyW G) (adsM G) (res, u)) := by
  refine Ct_z (by decide) wM_as (Nat.le_of_ble_eq_true rfl) hm (fun X _ _ E hR => ?_)
  refine Sm_lvs (lv' := [(0, .int x0)]) rfl ?_
  rw [mM_SqlReaderModel_isInName]
  refine Sm_iload_n E d_SqlReaderModel_isInName_0 rfl 0 rfl ?_
  refine Sm_cSi (As := [.int x0]) (st := []) (n := 1) E exOk wM_as (fun _ h => cM_SqlReaderModel_isSmall x0 u h) gk_SqlReaderModel_216 dk_SqlReaderModel_isSmall rfl ⟨rfl, rfl⟩ ⟨Nat.le_of_ble_eq_true rfl, Nat.le_of_ble_eq_true rfl⟩ rfl (Nat.le_of_ble_eq_true rfl) d_SqlReaderModel_isInName_1 fun r1 _ => ?_
  refine Sm_if_ne (tgt := 20) E d_SqlReaderModel_isInName_4 (by decide) (fun _ => ?_) (fun _ => ?_)
  · refine Sm_iconst (v := 1) E d_SqlReaderModel_isInName_20 (by decide) ?_
    refine Sm_goto (tgt := 25) E d_SqlReaderModel_isInName_21 (by decide) ?_
    exact Sm_retz hR (by decide) d_SqlReaderModel_isInName_25
  · refine Sm_iload_n E d_SqlReaderModel_isInName_7 rfl 0 rfl ?_
    refine Sm_cSi (As := [.int x0]) (st := []) (n := 1) E exOk wM_as (fun _ h => cM_SqlReaderModel_isDigit x0 u h) gk_SqlReaderModel_220 dk_SqlReaderModel_isDigit rfl ⟨rfl, rfl⟩ ⟨Nat.le_of_ble_eq_true rfl, Nat.le_of_ble_eq_true rfl⟩ rfl (Nat.le_of_ble_eq_true rfl) d_SqlReaderModel_isInName_8 fun r2 _ => ?_
    refine Sm_if_ne (tgt := 20) E d_SqlReaderModel_isInName_11 (by decide) (fun _ => ?_) (fun _ => ?_)
    · refine Sm_iconst (v := 1) E d_SqlReaderModel_isInName_20 (by decide) ?_
      refine Sm_goto (tgt := 25) E d_SqlReaderModel_isInName_21 (by decide) ?_
      exact Sm_retz hR (by decide) d_SqlReaderModel_isInName_25
    · refine Sm_iload_n E d_SqlReaderModel_isInName_14 rfl 0 rfl ?_
      refine Sm_bipush (v := 95) E d_SqlReaderModel_isInName_15 (by decide) ?_
      refine Sm_icmp_ne (tgt := 24) E d_SqlReaderModel_isInName_17 (by decide) (fun _ => ?_) (fun _ => ?_)
      · refine Sm_iconst (v := 0) E d_SqlReaderModel_isInName_24 (by decide) ?_
        exact Sm_retz hR (by decide) d_SqlReaderModel_isInName_25
      · refine Sm_iconst (v := 1) E d_SqlReaderModel_isInName_20 (by decide) ?_
        refine Sm_goto (tgt := 25) E d_SqlReaderModel_isInName_21 (by decide) ?_
        exact Sm_retz hR (by decide) d_SqlReaderModel_isInName_25
set_option maxRecDepth 100000 in
set_option maxHeartbeats 4000000 in
theorem tM_SqlReaderModel_signEnd_J139 {X : Cx} {G : Gx} {res : Int32} {u : St} (E : EM X G prog_11_method_11_code R_SqlReaderModel 5 { frames := 1, cells := 0, slots := 0, locals := 21 }) (hR : RtI X vwCl (wM G) prog_11_method_11_code (res, u)) : ∀ (x1 : Int32) , SM X G 5 res (mM_SqlReaderModel_signEnd_J139 x1 u) u 139 [(1, .int x1)] [] := by
  intro x1
  rw [mM_SqlReaderModel_signEnd_J139]
  refine Sm_iconst (v := 1) E d_SqlReaderModel_signEnd_139 (by decide) ?_
  refine Sm_goto (tgt := 144) E d_SqlReaderModel_signEnd_140 (by decide) ?_
  refine Sm_istore (lv' := [(4, .int 1), (1, .int x1)]) E d_SqlReaderModel_signEnd_144 (by decide) rfl ?_
  refine Sm_iload E d_SqlReaderModel_signEnd_146 0 rfl ?_
  refine Sm_if_eq_f (tgt := 157) E d_SqlReaderModel_signEnd_148 (by decide) (by decide) ?_
  refine Sm_iload_n E d_SqlReaderModel_signEnd_151 rfl 1 rfl ?_
  refine Sm_iconst (v := 1) E d_SqlReaderModel_signEnd_152 (by decide) ?_
  refine Sm_iadd E d_SqlReaderModel_signEnd_153 ?_
  refine Sm_goto (tgt := 158) E d_SqlReaderModel_signEnd_154 (by decide) ?_
  exact Sm_reti hR d_SqlReaderModel_signEnd_158
set_option maxRecDepth 100000 in
set_option maxHeartbeats 4000000 in
theorem tM_SqlReaderModel_signEnd_J61 {X : Cx} {G : Gx} {res : Int32} {u : St} (E : EM X G prog_11_method_11_code R_SqlReaderModel 5 { frames := 1, cells := 0, slots := 0, locals := 21 }) (hR : RtI X vwCl (wM G) prog_11_method_11_code (res, u)) : ∀ (x1 : Int32) (x2 : Int32) , SM X G 5 res (mM_SqlReaderModel_signEnd_J61 x1 x2 u) u 61 [(1, .int x1), (2, .int x2)] [] := by
  intro x1 x2
  rw [mM_SqlReaderModel_signEnd_J61]
  refine Sm_iload_n E d_SqlReaderModel_signEnd_61 rfl 1 rfl ?_
  refine Sm_bipush (v := 40) E d_SqlReaderModel_signEnd_62 (by decide) ?_
  refine Sm_icmp_eq (tgt := 139) E d_SqlReaderModel_signEnd_64 (by decide) (fun _ => ?_) (fun _ => ?_)
  · exact Sm_sub [0] rfl (tM_SqlReaderModel_signEnd_J139 E hR _)
  · refine Sm_iload_n E d_SqlReaderModel_signEnd_67 rfl 1 rfl ?_
    refine Sm_bipush (v := 41) E d_SqlReaderModel_signEnd_68 (by decide) ?_
    refine Sm_icmp_eq (tgt := 139) E d_SqlReaderModel_signEnd_70 (by decide) (fun _ => ?_) (fun _ => ?_)
    · exact Sm_sub [0] rfl (tM_SqlReaderModel_signEnd_J139 E hR _)
    · refine Sm_iload_n E d_SqlReaderModel_signEnd_73 rfl 1 rfl ?_
      refine Sm_bipush (v := 44) E d_SqlReaderModel_signEnd_74 (by decide) ?_
      refine Sm_icmp_eq (tgt := 139) E d_SqlReaderModel_signEnd_76 (by decide) (fun _ => ?_) (fun _ => ?_)
      · exact Sm_sub [0] rfl (tM_SqlReaderModel_signEnd_J139 E hR _)
      · refine Sm_iload_n E d_SqlReaderModel_signEnd_79 rfl 1 rfl ?_
        refine Sm_bipush (v := 46) E d_SqlReaderModel_signEnd_80 (by decide) ?_
        refine Sm_icmp_eq (tgt := 139) E d_SqlReaderModel_signEnd_82 (by decide) (fun _ => ?_) (fun _ => ?_)
        · exact Sm_sub [0] rfl (tM_SqlReaderModel_signEnd_J139 E hR _)
        · refine Sm_iload_n E d_SqlReaderModel_signEnd_85 rfl 1 rfl ?_
          refine Sm_bipush (v := 59) E d_SqlReaderModel_signEnd_86 (by decide) ?_
          refine Sm_icmp_eq (tgt := 139) E d_SqlReaderModel_signEnd_88 (by decide) (fun _ => ?_) (fun _ => ?_)
          · exact Sm_sub [0] rfl (tM_SqlReaderModel_signEnd_J139 E hR _)
          · refine Sm_iload_n E d_SqlReaderModel_signEnd_91 rfl 1 rfl ?_
            refine Sm_bipush (v := 42) E d_SqlReaderModel_signEnd_92 (by decide) ?_
            refine Sm_icmp_eq (tgt := 139) E d_SqlReaderModel_signEnd_94 (by decide) (fun _ => ?_) (fun _ => ?_)
            · exact Sm_sub [0] rfl (tM_SqlReaderModel_signEnd_J139 E hR _)
            · refine Sm_iload_n E d_SqlReaderModel_signEnd_97 rfl 1 rfl ?_
              refine Sm_bipush (v := 61) E d_SqlReaderModel_signEnd_98 (by decide) ?_
              refine Sm_icmp_eq (tgt := 139) E d_SqlReaderModel_signEnd_100 (by decide) (fun _ => ?_) (fun _ => ?_)
              · exact Sm_sub [0] rfl (tM_SqlReaderModel_signEnd_J139 E hR _)
              · refine Sm_iload_n E d_SqlReaderModel_signEnd_103 rfl 1 rfl ?_
                refine Sm_bipush (v := 60) E d_SqlReaderModel_signEnd_104 (by decide) ?_
                refine Sm_icmp_eq (tgt := 139) E d_SqlReaderModel_signEnd_106 (by decide) (fun _ => ?_) (fun _ => ?_)
                · exact Sm_sub [0] rfl (tM_SqlReaderModel_signEnd_J139 E hR _)
                · refine Sm_iload_n E d_SqlReaderModel_signEnd_109 rfl 1 rfl ?_
                  refine Sm_bipush (v := 62) E d_SqlReaderModel_signEnd_110 (by decide) ?_
                  refine Sm_icmp_eq (tgt := 139) E d_SqlReaderModel_signEnd_112 (by decide) (fun _ => ?_) (fun _ => ?_)
                  · exact Sm_sub [0] rfl (tM_SqlReaderModel_signEnd_J139 E hR _)
                  · refine Sm_iload_n E d_SqlReaderModel_signEnd_115 rfl 1 rfl ?_
                    refine Sm_bipush (v := 43) E d_SqlReaderModel_signEnd_116 (by decide) ?_
                    refine Sm_icmp_eq (tgt := 139) E d_SqlReaderModel_signEnd_118 (by decide) (fun _ => ?_) (fun _ => ?_)
                    · exact Sm_sub [0] rfl (tM_SqlReaderModel_signEnd_J139 E hR _)
                    · refine Sm_iload_n E d_SqlReaderModel_signEnd_121 rfl 1 rfl ?_
                      refine Sm_bipush (v := 45) E d_SqlReaderModel_signEnd_122 (by decide) ?_
                      refine Sm_icmp_eq (tgt := 139) E d_SqlReaderModel_signEnd_124 (by decide) (fun _ => ?_) (fun _ => ?_)
                      · exact Sm_sub [0] rfl (tM_SqlReaderModel_signEnd_J139 E hR _)
                      · refine Sm_iload_n E d_SqlReaderModel_signEnd_127 rfl 1 rfl ?_
                        refine Sm_bipush (v := 47) E d_SqlReaderModel_signEnd_128 (by decide) ?_
                        refine Sm_icmp_eq (tgt := 139) E d_SqlReaderModel_signEnd_130 (by decide) (fun _ => ?_) (fun _ => ?_)
                        · exact Sm_sub [0] rfl (tM_SqlReaderModel_signEnd_J139 E hR _)
                        · refine Sm_iload_n E d_SqlReaderModel_signEnd_133 rfl 1 rfl ?_
                          refine Sm_bipush (v := 37) E d_SqlReaderModel_signEnd_134 (by decide) ?_
                          refine Sm_icmp_ne (tgt := 143) E d_SqlReaderModel_signEnd_136 (by decide) (fun _ => ?_) (fun _ => ?_)
                          · refine Sm_iconst (v := 0) E d_SqlReaderModel_signEnd_143 (by decide) ?_
                            refine Sm_istore (lv' := [(4, .int 0), (1, .int x1), (2, .int x2)]) E d_SqlReaderModel_signEnd_144 (by decide) rfl ?_
                            refine Sm_iload E d_SqlReaderModel_signEnd_146 0 rfl ?_
                            refine Sm_if_eq_t (tgt := 157) E d_SqlReaderModel_signEnd_148 (by decide) (by decide) ?_
                            refine Sm_iconst (v := (-1)) E d_SqlReaderModel_signEnd_157 (by decide) ?_
                            exact Sm_reti hR d_SqlReaderModel_signEnd_158
                          · exact Sm_sub [0] rfl (tM_SqlReaderModel_signEnd_J139 E hR _)
set_option maxRecDepth 100000 in
set_option maxHeartbeats 4000000 in
theorem tM_SqlReaderModel_signEnd_J45 {X : Cx} {G : Gx} {res : Int32} {u : St} (E : EM X G prog_11_method_11_code R_SqlReaderModel 5 { frames := 1, cells := 0, slots := 0, locals := 21 }) (hR : RtI X vwCl (wM G) prog_11_method_11_code (res, u)) : ∀ (x1 : Int32) (x2 : Int32) (x3 : Int32) , SM X G 5 res (mM_SqlReaderModel_signEnd_J45 x1 x2 x3 u) u 45 [(1, .int x1), (2, .int x2), (3, .int x3)] [] := by
  intro x1 x2 x3
  rw [mM_SqlReaderModel_signEnd_J45]
  refine Sm_iload_n E d_SqlReaderModel_signEnd_45 rfl 1 rfl ?_
  refine Sm_bipush (v := 124) E d_SqlReaderModel_signEnd_46 (by decide) ?_
  refine Sm_icmp_ne (tgt := 61) E d_SqlReaderModel_signEnd_48 (by decide) (fun _ => ?_) (fun _ => ?_)
  · exact Sm_sub [0, 1] rfl (tM_SqlReaderModel_signEnd_J61 E hR _ _)
  · refine Sm_iload_n E d_SqlReaderModel_signEnd_51 rfl 2 rfl ?_
    refine Sm_bipush (v := 124) E d_SqlReaderModel_signEnd_52 (by decide) ?_
    refine Sm_icmp_ne (tgt := 61) E d_SqlReaderModel_signEnd_54 (by decide) (fun _ => ?_) (fun _ => ?_)
    · exact Sm_sub [0, 1] rfl (tM_SqlReaderModel_signEnd_J61 E hR _ _)
    · refine Sm_iload_n E d_SqlReaderModel_signEnd_57 rfl 0 rfl ?_
      refine Sm_iconst (v := 2) E d_SqlReaderModel_signEnd_58 (by decide) ?_
      refine Sm_iadd E d_SqlReaderModel_signEnd_59 ?_
      exact Sm_reti hR d_SqlReaderModel_signEnd_60
set_option maxRecDepth 100000 in
set_option maxHeartbeats 4000000 in
theorem tM_SqlReaderModel_signEnd_J33 {X : Cx} {G : Gx} {res : Int32} {u : St} (E : EM X G prog_11_method_11_code R_SqlReaderModel 5 { frames := 1, cells := 0, slots := 0, locals := 21 }) (hR : RtI X vwCl (wM G) prog_11_method_11_code (res, u)) : ∀ (x1 : Int32) (x2 : Int32) (x3 : Int32) , SM X G 5 res (mM_SqlReaderModel_signEnd_J33 x1 x2 x3 u) u 33 [(1, .int x1), (2, .int x2), (3, .int x3)] [] := by
  intro x1 x2 x3
  rw [mM_SqlReaderModel_signEnd_J33]
  refine Sm_iload_n E d_SqlReaderModel_signEnd_33 rfl 1 rfl ?_
  refine Sm_bipush (v := 62) E d_SqlReaderModel_signEnd_34 (by decide) ?_
  refine Sm_icmp_ne (tgt := 45) E d_SqlReaderModel_signEnd_36 (by decide) (fun _ => ?_) (fun _ => ?_)
  · exact Sm_sub [0, 1, 2] rfl (tM_SqlReaderModel_signEnd_J45 E hR _ _ _)
  · refine Sm_iload_n E d_SqlReaderModel_signEnd_39 rfl 2 rfl ?_
    refine Sm_bipush (v := 61) E d_SqlReaderModel_signEnd_40 (by decide) ?_
    refine Sm_icmp_eq (tgt := 57) E d_SqlReaderModel_signEnd_42 (by decide) (fun _ => ?_) (fun _ => ?_)
    · refine Sm_iload_n E d_SqlReaderModel_signEnd_57 rfl 0 rfl ?_
      refine Sm_iconst (v := 2) E d_SqlReaderModel_signEnd_58 (by decide) ?_
      refine Sm_iadd E d_SqlReaderModel_signEnd_59 ?_
      exact Sm_reti hR d_SqlReaderModel_signEnd_60
    · exact Sm_sub [0, 1, 2] rfl (tM_SqlReaderModel_signEnd_J45 E hR _ _ _)
set_option maxRecDepth 100000 in
set_option maxHeartbeats 4000000 in
theorem cM_SqlReaderModel_signEnd {l : Launch} {D : va_G} {G : Gx} (x1 : Int32) (u : St) {res : Int32} (hm : mM_SqlReaderModel_signEnd x1 u = some res) : KM l D G y_SqlReaderModel_signEnd (.code y_SqlReaderModel_signEnd prog_11_method_11_code 5 (some .int)) { frames := 1, cells := 0, slots := 0, locals := 21 } [.ref (G.1 100), .int x1] u (qI D vwCl (wM G) (tyW G) (adsM G) (res, u)) := by
  refine Ct_i (by decide) wM_as (Nat.le_of_ble_eq_true rfl) hm (fun X _ _ E hR => ?_)
  refine Sm_lvs (lv' := [(0, .ref (G.1 100)), (1, .int x1)]) rfl ?_
  rw [mM_SqlReaderModel_signEnd]
  refine Sm_aload_n E d_SqlReaderModel_signEnd_0 rfl 0 rfl ?_
  refine gfM_0_text E fl_SqlReaderModel_7 d_SqlReaderModel_signEnd_1 ?_
  refine Sm_iload_n E d_SqlReaderModel_signEnd_4 rfl 1 rfl ?_
  refine Sm_gd fun hi => ldM_1 E (inb_in hi) d_SqlReaderModel_signEnd_5 ?_
  refine Sm_leti fun y1 _ => ?_
  refine Sm_istore_n (lv' := [(2, .int y1), (0, .ref (G.1 100)), (1, .int x1)]) E d_SqlReaderModel_signEnd_6 rfl (by decide) rfl ?_
  refine Sm_aload_n E d_SqlReaderModel_signEnd_7 rfl 1 rfl ?_
  refine Sm_iload_n E d_SqlReaderModel_signEnd_8 rfl 2 rfl ?_
  refine Sm_iconst (v := 1) E d_SqlReaderModel_signEnd_9 (by decide) ?_
  refine Sm_iadd E d_SqlReaderModel_signEnd_10 ?_
  refine Sm_cVi (As := [.int (x1 + 1)]) (b := (G.1 100)) (st := []) (n := 1) E exOk wM_as (fun _ h => cM_SqlReaderModel_at (x1 + 1) u h) gk_SqlReaderModel_236 dk_SqlReaderModel_at rfl ⟨rfl, rfl⟩ ⟨Nat.le_of_ble_eq_true rfl, Nat.le_of_ble_eq_true rfl⟩ (rvW (q0 := 0) (ci := 1) E rfl rfl rfl) rfl (Nat.le_of_ble_eq_true rfl) d_SqlReaderModel_signEnd_11 fun r2 _ => ?_
  refine Sm_istore_n (lv' := [(3, .int r2), (2, .int y1), (0, .ref (G.1 100)), (1, .int x1)]) E d_SqlReaderModel_signEnd_14 rfl (by decide) rfl ?_
  refine Sm_iload_n E d_SqlReaderModel_signEnd_15 rfl 1 rfl ?_
  refine Sm_bipush (v := 60) E d_SqlReaderModel_signEnd_16 (by decide) ?_
  refine Sm_icmp_ne (tgt := 33) E d_SqlReaderModel_signEnd_18 (by decide) (fun _ => ?_) (fun _ => ?_)
  · exact Sm_sub [3, 1, 0] rfl (tM_SqlReaderModel_signEnd_J33 E hR _ _ _)
  · refine Sm_iload_n E d_SqlReaderModel_signEnd_21 rfl 0 rfl ?_
    refine Sm_bipush (v := 62) E d_SqlReaderModel_signEnd_22 (by decide) ?_
    refine Sm_icmp_eq (tgt := 57) E d_SqlReaderModel_signEnd_24 (by decide) (fun _ => ?_) (fun _ => ?_)
    · refine Sm_iload_n E d_SqlReaderModel_signEnd_57 rfl 3 rfl ?_
      refine Sm_iconst (v := 2) E d_SqlReaderModel_signEnd_58 (by decide) ?_
      refine Sm_iadd E d_SqlReaderModel_signEnd_59 ?_
      exact Sm_reti hR d_SqlReaderModel_signEnd_60
    · refine Sm_iload_n E d_SqlReaderModel_signEnd_27 rfl 0 rfl ?_
      refine Sm_bipush (v := 61) E d_SqlReaderModel_signEnd_28 (by decide) ?_
      refine Sm_icmp_eq (tgt := 57) E d_SqlReaderModel_signEnd_30 (by decide) (fun _ => ?_) (fun _ => ?_)
      · refine Sm_iload_n E d_SqlReaderModel_signEnd_57 rfl 3 rfl ?_
        refine Sm_iconst (v := 2) E d_SqlReaderModel_signEnd_58 (by decide) ?_
        refine Sm_iadd E d_SqlReaderModel_signEnd_59 ?_
        exact Sm_reti hR d_SqlReaderModel_signEnd_60
      · exact Sm_sub [3, 1, 0] rfl (tM_SqlReaderModel_signEnd_J33 E hR _ _ _)
set_option maxRecDepth 100000 in
set_option maxHeartbeats 4000000 in
theorem tM_SqlReaderModel_cut_J261 {X : Cx} {G : Gx} {res : St} (E : EM X G prog_11_method_10_code R_SqlReaderModel 5 { frames := 2, cells := 0, slots := 0, locals := 48 }) (hR : RtV X vwCl (wM G) prog_11_method_10_code res) {q12 : Int32 → St → Option (St)} (h12 : ∀ (x1 : Int32) (u : St), SM X G 5 res (q12 x1 u) u 12 [(0, .ref (G.1 100)), (1, .int x1)] []) : ∀ (x1 : Int32) (x3 : Int32) (x4 : Int32) (s1 : Int32) (u : St), SM X G 5 res (mM_SqlReaderModel_cut_J261 q12 x1 x3 x4 s1 u) u 261 [(0, .ref (G.1 100)), (1, .int x1), (3, .int x3), (4, .int x4)] [.int s1, .ref (G.1 100)] := by
  intro x1 x3 x4 s1 u
  rw [mM_SqlReaderModel_cut_J261]
  refine Sm_gd fun hz => pfM_0_bad E fl_SqlReaderModel_226 d_SqlReaderModel_cut_261 (zb_n hz) (zb_f hz) fun u8 _ => ?_
  refine Sm_aload_n E d_SqlReaderModel_cut_264 rfl 0 rfl ?_
  refine Sm_iload E d_SqlReaderModel_cut_265 3 rfl ?_
  refine Sm_iload_n E d_SqlReaderModel_cut_267 rfl 1 rfl ?_
  refine Sm_iload_n E d_SqlReaderModel_cut_268 rfl 2 rfl ?_
  refine Sm_cVV (As := [.int x4, .int x1, .int x3]) (b := (G.1 100)) (st := []) (n := 3) E exOk wM_as (fun _ h => cM_SqlReaderModel_token x4 x1 x3 u8 h) gk_SqlReaderModel_245 dk_SqlReaderModel_token rfl ⟨rfl, rfl⟩ ⟨Nat.le_of_ble_eq_true rfl, Nat.le_of_ble_eq_true rfl⟩ (rvW (q0 := 0) (ci := 1) E rfl rfl rfl) rfl (Nat.le_of_ble_eq_true rfl) d_SqlReaderModel_cut_269 fun u9 _ => ?_
  refine Sm_iload_n E d_SqlReaderModel_cut_272 rfl 2 rfl ?_
  refine Sm_istore_n (lv' := [(1, .int x3), (0, .ref (G.1 100)), (3, .int x3), (4, .int x4)]) E d_SqlReaderModel_cut_273 rfl (by decide) rfl ?_
  refine Sm_goto (tgt := 12) E d_SqlReaderModel_cut_274 (by decide) ?_
  exact Sm_sub [1, 0] rfl (h12 _ _)
set_option maxRecDepth 100000 in
set_option maxHeartbeats 4000000 in
theorem tM_SqlReaderModel_cut_J242 {X : Cx} {G : Gx} {res : St} (E : EM X G prog_11_method_10_code R_SqlReaderModel 5 { frames := 2, cells := 0, slots := 0, locals := 48 }) (hR : RtV X vwCl (wM G) prog_11_method_10_code res) {q12 : Int32 → St → Option (St)} (h12 : ∀ (x1 : Int32) (u : St), SM X G 5 res (q12 x1 u) u 12 [(0, .ref (G.1 100)), (1, .int x1)] []) : ∀ (x1 : Int32) (x3 : Int32) (x4 : Int32) (u : St), SM X G 5 res (mM_SqlReaderModel_cut_J242 q12 x1 x3 x4 u) u 242 [(0, .ref (G.1 100)), (1, .int x1), (3, .int x3), (4, .int x4)] [.ref (G.1 100)] := by
  intro x1 x3 x4 u
  rw [mM_SqlReaderModel_cut_J242]
  refine Sm_iload E d_SqlReaderModel_cut_242 3 rfl ?_
  refine Sm_iconst (v := 3) E d_SqlReaderModel_cut_244 (by decide) ?_
  refine Sm_icmp_ne (tgt := 260) E d_SqlReaderModel_cut_245 (by decide) (fun _ => ?_) (fun _ => ?_)
  · refine Sm_iconst (v := 0) E d_SqlReaderModel_cut_260 (by decide) ?_
    exact Sm_sub [0, 1, 2, 3] rfl (tM_SqlReaderModel_cut_J261 E hR h12 _ _ _ _ _)
  · refine Sm_iload_n E d_SqlReaderModel_cut_248 rfl 2 rfl ?_
    refine Sm_iload_n E d_SqlReaderModel_cut_249 rfl 1 rfl ?_
    refine Sm_isub E d_SqlReaderModel_cut_250 ?_
    refine Sm_bipush (v := 18) E d_SqlReaderModel_cut_251 (by decide) ?_
    refine Sm_icmp_le (tgt := 260) E d_SqlReaderModel_cut_253 (by decide) (fun _ => ?_) (fun _ => ?_)
    · refine Sm_iconst (v := 0) E d_SqlReaderModel_cut_260 (by decide) ?_
      exact Sm_sub [0, 1, 2, 3] rfl (tM_SqlReaderModel_cut_J261 E hR h12 _ _ _ _ _)
    · refine Sm_iconst (v := 1) E d_SqlReaderModel_cut_256 (by decide) ?_
      refine Sm_goto (tgt := 261) E d_SqlReaderModel_cut_257 (by decide) ?_
      exact Sm_sub [0, 1, 2, 3] rfl (tM_SqlReaderModel_cut_J261 E hR h12 _ _ _ _ _)
set_option maxRecDepth 100000 in
set_option maxHeartbeats 4000000 in
theorem tM_SqlReaderModel_cut_J216 {X : Cx} {G : Gx} {res : St} (E : EM X G prog_11_method_10_code R_SqlReaderModel 5 { frames := 2, cells := 0, slots := 0, locals := 48 }) (hR : RtV X vwCl (wM G) prog_11_method_10_code res) {q12 : Int32 → St → Option (St)} (h12 : ∀ (x1 : Int32) (u : St), SM X G 5 res (q12 x1 u) u 12 [(0, .ref (G.1 100)), (1, .int x1)] []) : ∀ (x1 : Int32) (x3 : Int32) (x4 : Int32) (u : St), SM X G 5 res (mM_SqlReaderModel_cut_J216 q12 x1 x3 x4 u) u 216 [(0, .ref (G.1 100)), (1, .int x1), (3, .int x3), (4, .int x4)] [] := by
  intro x1 x3 x4 u
  rw [mM_SqlReaderModel_cut_J216]
  refine Sm_aload_n E d_SqlReaderModel_cut_216 rfl 0 rfl ?_
  refine Sm_aload_n E d_SqlReaderModel_cut_217 rfl 0 rfl ?_
  refine gfM_0_bad E fl_SqlReaderModel_226 d_SqlReaderModel_cut_218 ?_
  refine Sm_if_ne (tgt := 256) E d_SqlReaderModel_cut_221 (by decide) (fun _ => ?_) (fun _ => ?_)
  · refine Sm_iconst (v := 1) E d_SqlReaderModel_cut_256 (by decide) ?_
    refine Sm_goto (tgt := 261) E d_SqlReaderModel_cut_257 (by decide) ?_
    exact Sm_sub [0, 1, 2, 3] rfl (tM_SqlReaderModel_cut_J261 E hR h12 _ _ _ _ _)
  · refine Sm_iload_n E d_SqlReaderModel_cut_224 rfl 2 rfl ?_
    refine Sm_if_lt (tgt := 256) E d_SqlReaderModel_cut_225 (by decide) (fun _ => ?_) (fun _ => ?_)
    · refine Sm_iconst (v := 1) E d_SqlReaderModel_cut_256 (by decide) ?_
      refine Sm_goto (tgt := 261) E d_SqlReaderModel_cut_257 (by decide) ?_
      exact Sm_sub [0, 1, 2, 3] rfl (tM_SqlReaderModel_cut_J261 E hR h12 _ _ _ _ _)
    · refine Sm_iload E d_SqlReaderModel_cut_228 3 rfl ?_
      refine Sm_iconst (v := 2) E d_SqlReaderModel_cut_230 (by decide) ?_
      refine Sm_icmp_ne (tgt := 242) E d_SqlReaderModel_cut_231 (by decide) (fun _ => ?_) (fun _ => ?_)
      · exact Sm_sub [0, 1, 2, 3] rfl (tM_SqlReaderModel_cut_J242 E hR h12 _ _ _ _)
      · refine Sm_iload_n E d_SqlReaderModel_cut_234 rfl 2 rfl ?_
        refine Sm_iload_n E d_SqlReaderModel_cut_235 rfl 1 rfl ?_
        refine Sm_isub E d_SqlReaderModel_cut_236 ?_
        refine Sm_bipush (v := 16) E d_SqlReaderModel_cut_237 (by decide) ?_
        refine Sm_icmp_gt (tgt := 256) E d_SqlReaderModel_cut_239 (by decide) (fun _ => ?_) (fun _ => ?_)
        · refine Sm_iconst (v := 1) E d_SqlReaderModel_cut_256 (by decide) ?_
          refine Sm_goto (tgt := 261) E d_SqlReaderModel_cut_257 (by decide) ?_
          exact Sm_sub [0, 1, 2, 3] rfl (tM_SqlReaderModel_cut_J261 E hR h12 _ _ _ _ _)
        · exact Sm_sub [0, 1, 2, 3] rfl (tM_SqlReaderModel_cut_J242 E hR h12 _ _ _ _)
set_option maxRecDepth 100000 in
set_option maxHeartbeats 4000000 in
theorem tM_SqlReaderModel_cut_J159 {X : Cx} {G : Gx} {res : St} (E : EM X G prog_11_method_10_code R_SqlReaderModel 5 { frames := 2, cells := 0, slots := 0, locals := 48 }) (hR : RtV X vwCl (wM G) prog_11_method_10_code res) {q12 : Int32 → St → Option (St)} (h12 : ∀ (x1 : Int32) (u : St), SM X G 5 res (q12 x1 u) u 12 [(0, .ref (G.1 100)), (1, .int x1)] []) : ∀ (x1 : Int32) (x2 : Int32) (x3 : Int32) (x4 : Int32) (u : St), SM X G 5 res (mM_SqlReaderModel_cut_J159 q12 x1 x2 x3 x4 u) u 159 [(0, .ref (G.1 100)), (1, .int x1), (2, .int x2), (3, .int x3), (4, .int x4)] [] := by
  intro x1 x2 x3 x4 u
  rw [mM_SqlReaderModel_cut_J159]
  refine Sm_iload_n E d_SqlReaderModel_cut_159 rfl 2 rfl ?_
  refine Sm_bipush (v := 36) E d_SqlReaderModel_cut_160 (by decide) ?_
  refine Sm_icmp_ne (tgt := 203) E d_SqlReaderModel_cut_162 (by decide) (fun _ => ?_) (fun _ => ?_)
  · refine Sm_iload E d_SqlReaderModel_cut_203 4 rfl ?_
    refine Sm_bipush (v := 6) E d_SqlReaderModel_cut_205 (by decide) ?_
    refine Sm_icmp_ne (tgt := 216) E d_SqlReaderModel_cut_207 (by decide) (fun _ => ?_) (fun _ => ?_)
    · exact Sm_sub [0, 1, 3, 4] rfl (tM_SqlReaderModel_cut_J216 E hR h12 _ _ _ _)
    · refine Sm_aload_n E d_SqlReaderModel_cut_210 rfl 0 rfl ?_
      refine Sm_iload_n E d_SqlReaderModel_cut_211 rfl 1 rfl ?_
      refine Sm_cVi (As := [.int x1]) (b := (G.1 100)) (st := []) (n := 1) E exOk wM_as (fun _ h => cM_SqlReaderModel_signEnd x1 u h) gk_SqlReaderModel_242 dk_SqlReaderModel_signEnd rfl ⟨rfl, rfl⟩ ⟨Nat.le_of_ble_eq_true rfl, Nat.le_of_ble_eq_true rfl⟩ (rvW (q0 := 0) (ci := 1) E rfl rfl rfl) rfl (Nat.le_of_ble_eq_true rfl) d_SqlReaderModel_cut_212 fun r10 _ => ?_
      refine Sm_istore_n (lv' := [(3, .int r10), (0, .ref (G.1 100)), (1, .int x1), (2, .int x2), (4, .int x4)]) E d_SqlReaderModel_cut_215 rfl (by decide) rfl ?_
      exact Sm_sub [1, 2, 0, 4] rfl (tM_SqlReaderModel_cut_J216 E hR h12 _ _ _ _)
  · refine Sm_aload_n E d_SqlReaderModel_cut_165 rfl 0 rfl ?_
    refine Sm_aload_n E d_SqlReaderModel_cut_166 rfl 0 rfl ?_
    refine Sm_iload_n E d_SqlReaderModel_cut_167 rfl 3 rfl ?_
    refine Sm_cVi (As := [.int x3]) (b := (G.1 100)) (st := [.ref (G.1 100)]) (n := 1) E exOk wM_as (fun _ h => cM_SqlReaderModel_at x3 u h) gk_SqlReaderModel_236 dk_SqlReaderModel_at rfl ⟨rfl, rfl⟩ ⟨Nat.le_of_ble_eq_true rfl, Nat.le_of_ble_eq_true rfl⟩ (rvW (q0 := 0) (ci := 1) E rfl rfl rfl) rfl (Nat.le_of_ble_eq_true rfl) d_SqlReaderModel_cut_168 fun r11 _ => ?_
    refine Sm_bipush (v := 49) E d_SqlReaderModel_cut_171 (by decide) ?_
    refine Sm_icmp_lt (tgt := 186) E d_SqlReaderModel_cut_173 (by decide) (fun _ => ?_) (fun _ => ?_)
    · refine Sm_iconst (v := 1) E d_SqlReaderModel_cut_186 (by decide) ?_
      refine Sm_goto (tgt := 191) E d_SqlReaderModel_cut_187 (by decide) ?_
      refine pfM_0_bad E fl_SqlReaderModel_226 d_SqlReaderModel_cut_191 (by decide) rfl fun u12 _ => ?_
      refine Sm_iconst (v := 5) E d_SqlReaderModel_cut_194 (by decide) ?_
      refine Sm_istore (lv' := [(4, .int 5), (0, .ref (G.1 100)), (1, .int x1), (2, .int x2), (3, .int x3)]) E d_SqlReaderModel_cut_195 (by decide) rfl ?_
      refine Sm_iinc (k := 4) (d := 1) E d_SqlReaderModel_cut_197 rfl rfl (by decide) fun y13 _ => Sm_lvs (lv' := [(3, .int y13), (4, .int 5), (0, .ref (G.1 100)), (1, .int x1), (2, .int x2)]) rfl ?_
      refine Sm_goto (tgt := 216) E d_SqlReaderModel_cut_200 (by decide) ?_
      exact Sm_sub [2, 3, 0, 1] rfl (tM_SqlReaderModel_cut_J216 E hR h12 _ _ _ _)
    · refine Sm_aload_n E d_SqlReaderModel_cut_176 rfl 0 rfl ?_
      refine Sm_iload_n E d_SqlReaderModel_cut_177 rfl 3 rfl ?_
      refine Sm_cVi (As := [.int x3]) (b := (G.1 100)) (st := [.ref (G.1 100)]) (n := 1) E exOk wM_as (fun _ h => cM_SqlReaderModel_at x3 u h) gk_SqlReaderModel_236 dk_SqlReaderModel_at rfl ⟨rfl, rfl⟩ ⟨Nat.le_of_ble_eq_true rfl, Nat.le_of_ble_eq_true rfl⟩ (rvW (q0 := 0) (ci := 1) E rfl rfl rfl) rfl (Nat.le_of_ble_eq_true rfl) d_SqlReaderModel_cut_178 fun r14 _ => ?_
      refine Sm_bipush (v := 57) E d_SqlReaderModel_cut_181 (by decide) ?_
      refine Sm_icmp_le (tgt := 190) E d_SqlReaderModel_cut_183 (by decide) (fun _ => ?_) (fun _ => ?_)
      · refine Sm_iconst (v := 0) E d_SqlReaderModel_cut_190 (by decide) ?_
        refine pfM_0_bad E fl_SqlReaderModel_226 d_SqlReaderModel_cut_191 (by decide) rfl fun u15 _ => ?_
        refine Sm_iconst (v := 5) E d_SqlReaderModel_cut_194 (by decide) ?_
        refine Sm_istore (lv' := [(4, .int 5), (0, .ref (G.1 100)), (1, .int x1), (2, .int x2), (3, .int x3)]) E d_SqlReaderModel_cut_195 (by decide) rfl ?_
        refine Sm_iinc (k := 4) (d := 1) E d_SqlReaderModel_cut_197 rfl rfl (by decide) fun y16 _ => Sm_lvs (lv' := [(3, .int y16), (4, .int 5), (0, .ref (G.1 100)), (1, .int x1), (2, .int x2)]) rfl ?_
        refine Sm_goto (tgt := 216) E d_SqlReaderModel_cut_200 (by decide) ?_
        exact Sm_sub [2, 3, 0, 1] rfl (tM_SqlReaderModel_cut_J216 E hR h12 _ _ _ _)
      · refine Sm_iconst (v := 1) E d_SqlReaderModel_cut_186 (by decide) ?_
        refine Sm_goto (tgt := 191) E d_SqlReaderModel_cut_187 (by decide) ?_
        refine pfM_0_bad E fl_SqlReaderModel_226 d_SqlReaderModel_cut_191 (by decide) rfl fun u17 _ => ?_
        refine Sm_iconst (v := 5) E d_SqlReaderModel_cut_194 (by decide) ?_
        refine Sm_istore (lv' := [(4, .int 5), (0, .ref (G.1 100)), (1, .int x1), (2, .int x2), (3, .int x3)]) E d_SqlReaderModel_cut_195 (by decide) rfl ?_
        refine Sm_iinc (k := 4) (d := 1) E d_SqlReaderModel_cut_197 rfl rfl (by decide) fun y18 _ => Sm_lvs (lv' := [(3, .int y18), (4, .int 5), (0, .ref (G.1 100)), (1, .int x1), (2, .int x2)]) rfl ?_
        refine Sm_goto (tgt := 216) E d_SqlReaderModel_cut_200 (by decide) ?_
        exact Sm_sub [2, 3, 0, 1] rfl (tM_SqlReaderModel_cut_J216 E hR h12 _ _ _ _)
set_option maxRecDepth 100000 in
set_option maxHeartbeats 4000000 in
theorem tM_SqlReaderModel_cut_J136 {X : Cx} {G : Gx} {res : St} (E : EM X G prog_11_method_10_code R_SqlReaderModel 5 { frames := 2, cells := 0, slots := 0, locals := 48 }) (hR : RtV X vwCl (wM G) prog_11_method_10_code res) {q12 : Int32 → St → Option (St)} (h12 : ∀ (x1 : Int32) (u : St), SM X G 5 res (q12 x1 u) u 12 [(0, .ref (G.1 100)), (1, .int x1)] []) {q102 : Int32 → Int32 → Int32 → Int32 → St → Option (St)} (h102 : ∀ (x1 : Int32) (x2 : Int32) (x3 : Int32) (x4 : Int32) (u : St), SM X G 5 res (q102 x1 x2 x3 x4 u) u 102 [(0, .ref (G.1 100)), (1, .int x1), (2, .int x2), (3, .int x3), (4, .int x4)] []) : ∀ (x1 : Int32) (x2 : Int32) (x3 : Int32) (x4 : Int32) (u : St), SM X G 5 res (mM_SqlReaderModel_cut_J136 q12 q102 x1 x2 x3 x4 u) u 136 [(0, .ref (G.1 100)), (1, .int x1), (2, .int x2), (3, .int x3), (4, .int x4)] [] := by
  intro x1 x2 x3 x4 u
  rw [mM_SqlReaderModel_cut_J136]
  refine Sm_iload E d_SqlReaderModel_cut_136 4 rfl ?_
  refine Sm_iconst (v := 3) E d_SqlReaderModel_cut_138 (by decide) ?_
  refine Sm_icmp_ne (tgt := 159) E d_SqlReaderModel_cut_139 (by decide) (fun _ => ?_) (fun _ => ?_)
  · exact Sm_sub [0, 1, 2, 3, 4] rfl (tM_SqlReaderModel_cut_J159 E hR h12 _ _ _ _ _)
  · refine Sm_aload_n E d_SqlReaderModel_cut_142 rfl 0 rfl ?_
    refine Sm_iload_n E d_SqlReaderModel_cut_143 rfl 3 rfl ?_
    refine Sm_cVi (As := [.int x3]) (b := (G.1 100)) (st := []) (n := 1) E exOk wM_as (fun _ h => cM_SqlReaderModel_at x3 u h) gk_SqlReaderModel_236 dk_SqlReaderModel_at rfl ⟨rfl, rfl⟩ ⟨Nat.le_of_ble_eq_true rfl, Nat.le_of_ble_eq_true rfl⟩ (rvW (q0 := 0) (ci := 1) E rfl rfl rfl) rfl (Nat.le_of_ble_eq_true rfl) d_SqlReaderModel_cut_144 fun r19 _ => ?_
    refine Sm_cSi (As := [.int r19]) (st := []) (n := 1) E exOk wM_as (fun _ h => cM_SqlReaderModel_isDigit r19 u h) gk_SqlReaderModel_220 dk_SqlReaderModel_isDigit rfl ⟨rfl, rfl⟩ ⟨Nat.le_of_ble_eq_true rfl, Nat.le_of_ble_eq_true rfl⟩ rfl (Nat.le_of_ble_eq_true rfl) d_SqlReaderModel_cut_147 fun r20 _ => ?_
    refine Sm_if_eq (tgt := 159) E d_SqlReaderModel_cut_150 (by decide) (fun _ => ?_) (fun _ => ?_)
    · exact Sm_sub [0, 1, 2, 3, 4] rfl (tM_SqlReaderModel_cut_J159 E hR h12 _ _ _ _ _)
    · refine Sm_iinc (k := 3) (d := 1) E d_SqlReaderModel_cut_153 rfl rfl (by decide) fun y21 _ => Sm_lvs (lv' := [(3, .int y21), (0, .ref (G.1 100)), (1, .int x1), (2, .int x2), (4, .int x4)]) rfl ?_
      refine Sm_goto (tgt := 102) E d_SqlReaderModel_cut_156 (by decide) ?_
      exact Sm_sub [1, 2, 3, 0, 4] rfl (h102 _ _ _ _ _)
set_option maxRecDepth 100000 in
set_option maxHeartbeats 4000000 in
theorem tM_SqlReaderModel_cut_J119 {X : Cx} {G : Gx} {res : St} (E : EM X G prog_11_method_10_code R_SqlReaderModel 5 { frames := 2, cells := 0, slots := 0, locals := 48 }) (hR : RtV X vwCl (wM G) prog_11_method_10_code res) {q12 : Int32 → St → Option (St)} (h12 : ∀ (x1 : Int32) (u : St), SM X G 5 res (q12 x1 u) u 12 [(0, .ref (G.1 100)), (1, .int x1)] []) {q102 : Int32 → Int32 → Int32 → Int32 → St → Option (St)} (h102 : ∀ (x1 : Int32) (x2 : Int32) (x3 : Int32) (x4 : Int32) (u : St), SM X G 5 res (q102 x1 x2 x3 x4 u) u 102 [(0, .ref (G.1 100)), (1, .int x1), (2, .int x2), (3, .int x3), (4, .int x4)] []) : ∀ (x1 : Int32) (x2 : Int32) (x3 : Int32) (x4 : Int32) (u : St), SM X G 5 res (mM_SqlReaderModel_cut_J119 q12 q102 x1 x2 x3 x4 u) u 119 [(0, .ref (G.1 100)), (1, .int x1), (2, .int x2), (3, .int x3), (4, .int x4)] [] := by
  intro x1 x2 x3 x4 u
  rw [mM_SqlReaderModel_cut_J119]
  refine Sm_iload E d_SqlReaderModel_cut_119 4 rfl ?_
  refine Sm_iconst (v := 2) E d_SqlReaderModel_cut_121 (by decide) ?_
  refine Sm_icmp_ne (tgt := 136) E d_SqlReaderModel_cut_122 (by decide) (fun _ => ?_) (fun _ => ?_)
  · exact Sm_sub [0, 1, 2, 3, 4] rfl (tM_SqlReaderModel_cut_J136 E hR h12 h102 _ _ _ _ _)
  · refine Sm_aload_n E d_SqlReaderModel_cut_125 rfl 0 rfl ?_
    refine Sm_iload_n E d_SqlReaderModel_cut_126 rfl 3 rfl ?_
    refine Sm_cVi (As := [.int x3]) (b := (G.1 100)) (st := []) (n := 1) E exOk wM_as (fun _ h => cM_SqlReaderModel_at x3 u h) gk_SqlReaderModel_236 dk_SqlReaderModel_at rfl ⟨rfl, rfl⟩ ⟨Nat.le_of_ble_eq_true rfl, Nat.le_of_ble_eq_true rfl⟩ (rvW (q0 := 0) (ci := 1) E rfl rfl rfl) rfl (Nat.le_of_ble_eq_true rfl) d_SqlReaderModel_cut_127 fun r22 _ => ?_
    refine Sm_cSi (As := [.int r22]) (st := []) (n := 1) E exOk wM_as (fun _ h => cM_SqlReaderModel_isInName r22 u h) gk_SqlReaderModel_239 dk_SqlReaderModel_isInName rfl ⟨rfl, rfl⟩ ⟨Nat.le_of_ble_eq_true rfl, Nat.le_of_ble_eq_true rfl⟩ rfl (Nat.le_of_ble_eq_true rfl) d_SqlReaderModel_cut_130 fun r23 _ => ?_
    refine Sm_if_ne (tgt := 153) E d_SqlReaderModel_cut_133 (by decide) (fun _ => ?_) (fun _ => ?_)
    · refine Sm_iinc (k := 3) (d := 1) E d_SqlReaderModel_cut_153 rfl rfl (by decide) fun y24 _ => Sm_lvs (lv' := [(3, .int y24), (0, .ref (G.1 100)), (1, .int x1), (2, .int x2), (4, .int x4)]) rfl ?_
      refine Sm_goto (tgt := 102) E d_SqlReaderModel_cut_156 (by decide) ?_
      exact Sm_sub [1, 2, 3, 0, 4] rfl (h102 _ _ _ _ _)
    · exact Sm_sub [0, 1, 2, 3, 4] rfl (tM_SqlReaderModel_cut_J136 E hR h12 h102 _ _ _ _ _)
set_option maxRecDepth 100000 in
set_option maxHeartbeats 4000000 in
theorem tM_SqlReaderModel_cut_L102 {X : Cx} {G : Gx} {res : St} (E : EM X G prog_11_method_10_code R_SqlReaderModel 5 { frames := 2, cells := 0, slots := 0, locals := 48 }) (hR : RtV X vwCl (wM G) prog_11_method_10_code res) {q12 : Int32 → St → Option (St)} (h12 : ∀ (x1 : Int32) (u : St), SM X G 5 res (q12 x1 u) u 12 [(0, .ref (G.1 100)), (1, .int x1)] []) : ∀ (n : Nat) (x1 : Int32) (x2 : Int32) (x3 : Int32) (x4 : Int32) (u : St), SM X G 5 res (mM_SqlReaderModel_cut_L102 q12 n x1 x2 x3 x4 u) u 102 [(0, .ref (G.1 100)), (1, .int x1), (2, .int x2), (3, .int x3), (4, .int x4)] [] := by
  intro n
  induction n with
  | zero => intro x1 x2 x3 x4 u; exact Sm_none
  | succ n h102 =>
    intro x1 x2 x3 x4 u
    rw [mM_SqlReaderModel_cut_L102]
    refine Sm_iload E d_SqlReaderModel_cut_102 4 rfl ?_
    refine Sm_iconst (v := 1) E d_SqlReaderModel_cut_104 (by decide) ?_
    refine Sm_icmp_ne (tgt := 119) E d_SqlReaderModel_cut_105 (by decide) (fun _ => ?_) (fun _ => ?_)
    · exact Sm_sub [0, 1, 2, 3, 4] rfl (tM_SqlReaderModel_cut_J119 E hR h12 h102 _ _ _ _ _)
    · refine Sm_aload_n E d_SqlReaderModel_cut_108 rfl 0 rfl ?_
      refine Sm_iload_n E d_SqlReaderModel_cut_109 rfl 3 rfl ?_
      refine Sm_cVi (As := [.int x3]) (b := (G.1 100)) (st := []) (n := 1) E exOk wM_as (fun _ h => cM_SqlReaderModel_at x3 u h) gk_SqlReaderModel_236 dk_SqlReaderModel_at rfl ⟨rfl, rfl⟩ ⟨Nat.le_of_ble_eq_true rfl, Nat.le_of_ble_eq_true rfl⟩ (rvW (q0 := 0) (ci := 1) E rfl rfl rfl) rfl (Nat.le_of_ble_eq_true rfl) d_SqlReaderModel_cut_110 fun r25 _ => ?_
      refine Sm_cSi (As := [.int r25]) (st := []) (n := 1) E exOk wM_as (fun _ h => cM_SqlReaderModel_isCapital r25 u h) gk_SqlReaderModel_233 dk_SqlReaderModel_isCapital rfl ⟨rfl, rfl⟩ ⟨Nat.le_of_ble_eq_true rfl, Nat.le_of_ble_eq_true rfl⟩ rfl (Nat.le_of_ble_eq_true rfl) d_SqlReaderModel_cut_113 fun r26 _ => ?_
      refine Sm_if_ne (tgt := 153) E d_SqlReaderModel_cut_116 (by decide) (fun _ => ?_) (fun _ => ?_)
      · refine Sm_iinc (k := 3) (d := 1) E d_SqlReaderModel_cut_153 rfl rfl (by decide) fun y27 _ => Sm_lvs (lv' := [(3, .int y27), (0, .ref (G.1 100)), (1, .int x1), (2, .int x2), (4, .int x4)]) rfl ?_
        refine Sm_goto (tgt := 102) E d_SqlReaderModel_cut_156 (by decide) ?_
        exact Sm_sub [1, 2, 3, 0, 4] rfl (h102 _ _ _ _ _)
      · exact Sm_sub [0, 1, 2, 3, 4] rfl (tM_SqlReaderModel_cut_J119 E hR h12 h102 _ _ _ _ _)
set_option maxRecDepth 100000 in
set_option maxHeartbeats 4000000 in
theorem tM_SqlReaderModel_cut_L12 {X : Cx} {G : Gx} {res : St} (E : EM X G prog_11_method_10_code R_SqlReaderModel 5 { frames := 2, cells := 0, slots := 0, locals := 48 }) (hR : RtV X vwCl (wM G) prog_11_method_10_code res) : ∀ (n : Nat) (x1 : Int32) (u : St), SM X G 5 res (mM_SqlReaderModel_cut_L12 n x1 u) u 12 [(0, .ref (G.1 100)), (1, .int x1)] [] := by
  intro n
  induction n with
  | zero => intro x1 u; exact Sm_none
  | succ n h12 =>
    intro x1 u
    rw [mM_SqlReaderModel_cut_L12]
    refine Sm_iload_n E d_SqlReaderModel_cut_12 rfl 1 rfl ?_
    refine Sm_aload_n E d_SqlReaderModel_cut_13 rfl 0 rfl ?_
    refine gfM_0_size E fl_SqlReaderModel_213 d_SqlReaderModel_cut_14 ?_
    refine Sm_icmp_ge (tgt := 277) E d_SqlReaderModel_cut_17 (by decide) (fun _ => ?_) (fun _ => ?_)
    · exact Sm_retV hR d_SqlReaderModel_cut_277
    · refine Sm_aload_n E d_SqlReaderModel_cut_20 rfl 0 rfl ?_
      refine gfM_0_bad E fl_SqlReaderModel_226 d_SqlReaderModel_cut_21 ?_
      refine Sm_if_ne (tgt := 277) E d_SqlReaderModel_cut_24 (by decide) (fun _ => ?_) (fun _ => ?_)
      · exact Sm_retV hR d_SqlReaderModel_cut_277
      · refine Sm_aload_n E d_SqlReaderModel_cut_27 rfl 0 rfl ?_
        refine gfM_0_text E fl_SqlReaderModel_7 d_SqlReaderModel_cut_28 ?_
        refine Sm_iload_n E d_SqlReaderModel_cut_31 rfl 1 rfl ?_
        refine Sm_gd fun hi => ldM_1 E (inb_in hi) d_SqlReaderModel_cut_32 ?_
        refine Sm_leti fun y3 _ => ?_
        refine Sm_istore_n (lv' := [(2, .int y3), (0, .ref (G.1 100)), (1, .int x1)]) E d_SqlReaderModel_cut_33 rfl (by decide) rfl ?_
        refine Sm_iload_n E d_SqlReaderModel_cut_34 rfl 2 rfl ?_
        refine Sm_iconst (v := 1) E d_SqlReaderModel_cut_35 (by decide) ?_
        refine Sm_iadd E d_SqlReaderModel_cut_36 ?_
        refine Sm_leti fun y4 _ => ?_
        refine Sm_istore_n (lv' := [(3, .int y4), (2, .int y3), (0, .ref (G.1 100)), (1, .int x1)]) E d_SqlReaderModel_cut_37 rfl (by decide) rfl ?_
        refine Sm_iload_n E d_SqlReaderModel_cut_38 rfl 1 rfl ?_
        refine Sm_bipush (v := 32) E d_SqlReaderModel_cut_39 (by decide) ?_
        refine Sm_icmp_ne (tgt := 50) E d_SqlReaderModel_cut_41 (by decide) (fun _ => ?_) (fun _ => ?_)
        · refine Sm_iload_n E d_SqlReaderModel_cut_50 rfl 1 rfl ?_
          refine Sm_bipush (v := 39) E d_SqlReaderModel_cut_51 (by decide) ?_
          refine Sm_icmp_ne (tgt := 65) E d_SqlReaderModel_cut_53 (by decide) (fun _ => ?_) (fun _ => ?_)
          · refine Sm_iload_n E d_SqlReaderModel_cut_65 rfl 1 rfl ?_
            refine Sm_cSi (As := [.int y3]) (st := []) (n := 1) E exOk wM_as (fun _ h => cM_SqlReaderModel_isCapital y3 u h) gk_SqlReaderModel_233 dk_SqlReaderModel_isCapital rfl ⟨rfl, rfl⟩ ⟨Nat.le_of_ble_eq_true rfl, Nat.le_of_ble_eq_true rfl⟩ rfl (Nat.le_of_ble_eq_true rfl) d_SqlReaderModel_cut_66 fun r5 _ => ?_
            refine Sm_if_eq (tgt := 76) E d_SqlReaderModel_cut_69 (by decide) (fun _ => ?_) (fun _ => ?_)
            · refine Sm_iload_n E d_SqlReaderModel_cut_76 rfl 1 rfl ?_
              refine Sm_cSi (As := [.int y3]) (st := []) (n := 1) E exOk wM_as (fun _ h => cM_SqlReaderModel_isSmall y3 u h) gk_SqlReaderModel_216 dk_SqlReaderModel_isSmall rfl ⟨rfl, rfl⟩ ⟨Nat.le_of_ble_eq_true rfl, Nat.le_of_ble_eq_true rfl⟩ rfl (Nat.le_of_ble_eq_true rfl) d_SqlReaderModel_cut_77 fun r6 _ => ?_
              refine Sm_if_eq (tgt := 87) E d_SqlReaderModel_cut_80 (by decide) (fun _ => ?_) (fun _ => ?_)
              · refine Sm_iload_n E d_SqlReaderModel_cut_87 rfl 1 rfl ?_
                refine Sm_cSi (As := [.int y3]) (st := []) (n := 1) E exOk wM_as (fun _ h => cM_SqlReaderModel_isDigit y3 u h) gk_SqlReaderModel_220 dk_SqlReaderModel_isDigit rfl ⟨rfl, rfl⟩ ⟨Nat.le_of_ble_eq_true rfl, Nat.le_of_ble_eq_true rfl⟩ rfl (Nat.le_of_ble_eq_true rfl) d_SqlReaderModel_cut_88 fun r7 _ => ?_
                refine Sm_if_eq (tgt := 98) E d_SqlReaderModel_cut_91 (by decide) (fun _ => ?_) (fun _ => ?_)
                · refine Sm_bipush (v := 6) E d_SqlReaderModel_cut_98 (by decide) ?_
                  refine Sm_istore (lv' := [(4, .int 6), (3, .int y4), (2, .int y3), (0, .ref (G.1 100)), (1, .int x1)]) E d_SqlReaderModel_cut_100 (by decide) rfl ?_
                  exact Sm_sub [3, 4, 2, 1, 0] rfl (tM_SqlReaderModel_cut_L102 E hR h12 FU _ _ _ _ _)
                · refine Sm_iconst (v := 3) E d_SqlReaderModel_cut_94 (by decide) ?_
                  refine Sm_goto (tgt := 100) E d_SqlReaderModel_cut_95 (by decide) ?_
                  refine Sm_istore (lv' := [(4, .int 3), (3, .int y4), (2, .int y3), (0, .ref (G.1 100)), (1, .int x1)]) E d_SqlReaderModel_cut_100 (by decide) rfl ?_
                  exact Sm_sub [3, 4, 2, 1, 0] rfl (tM_SqlReaderModel_cut_L102 E hR h12 FU _ _ _ _ _)
              · refine Sm_iconst (v := 2) E d_SqlReaderModel_cut_83 (by decide) ?_
                refine Sm_goto (tgt := 100) E d_SqlReaderModel_cut_84 (by decide) ?_
                refine Sm_istore (lv' := [(4, .int 2), (3, .int y4), (2, .int y3), (0, .ref (G.1 100)), (1, .int x1)]) E d_SqlReaderModel_cut_100 (by decide) rfl ?_
                exact Sm_sub [3, 4, 2, 1, 0] rfl (tM_SqlReaderModel_cut_L102 E hR h12 FU _ _ _ _ _)
            · refine Sm_iconst (v := 1) E d_SqlReaderModel_cut_72 (by decide) ?_
              refine Sm_goto (tgt := 100) E d_SqlReaderModel_cut_73 (by decide) ?_
              refine Sm_istore (lv' := [(4, .int 1), (3, .int y4), (2, .int y3), (0, .ref (G.1 100)), (1, .int x1)]) E d_SqlReaderModel_cut_100 (by decide) rfl ?_
              exact Sm_sub [3, 4, 2, 1, 0] rfl (tM_SqlReaderModel_cut_L102 E hR h12 FU _ _ _ _ _)
          · refine Sm_aload_n E d_SqlReaderModel_cut_56 rfl 2 rfl ?_
            refine Sm_iload_n E d_SqlReaderModel_cut_57 rfl 3 rfl ?_
            refine Sm_cVI (As := [.int x1]) (b := (G.1 100)) (st := []) (n := 1) E exOk wM_as (fun _ h => cM_SqlReaderModel_cutText x1 u h) gk_SqlReaderModel_229 dk_SqlReaderModel_cutText rfl ⟨rfl, rfl⟩ ⟨Nat.le_of_ble_eq_true rfl, Nat.le_of_ble_eq_true rfl⟩ (rvW (q0 := 0) (ci := 1) E rfl rfl rfl) rfl (Nat.le_of_ble_eq_true rfl) d_SqlReaderModel_cut_58 fun r28 u29 _ => ?_
            refine Sm_istore_n (lv' := [(1, .int r28), (3, .int y4), (2, .int y3), (0, .ref (G.1 100))]) E d_SqlReaderModel_cut_61 rfl (by decide) rfl ?_
            refine Sm_goto (tgt := 274) E d_SqlReaderModel_cut_62 (by decide) ?_
            refine Sm_goto (tgt := 12) E d_SqlReaderModel_cut_274 (by decide) ?_
            exact Sm_sub [3, 0] rfl (h12 _ _)
        · refine Sm_iinc (k := 3) (d := 1) E d_SqlReaderModel_cut_44 rfl rfl (by decide) fun y30 _ => Sm_lvs (lv' := [(1, .int y30), (3, .int y4), (2, .int y3), (0, .ref (G.1 100))]) rfl ?_
          refine Sm_goto (tgt := 274) E d_SqlReaderModel_cut_47 (by decide) ?_
          refine Sm_goto (tgt := 12) E d_SqlReaderModel_cut_274 (by decide) ?_
          exact Sm_sub [3, 0] rfl (h12 _ _)
set_option maxRecDepth 100000 in
set_option maxHeartbeats 4000000 in
theorem cM_SqlReaderModel_cut {l : Launch} {D : va_G} {G : Gx} (u : St) {res : St} (hm : mM_SqlReaderModel_cut u = some res) : KM l D G y_SqlReaderModel_cut (.code y_SqlReaderModel_cut prog_11_method_10_code 5 none) { frames := 2, cells := 0, slots := 0, locals := 48 } [.ref (G.1 100)] u (qV D vwCl (wM G) (tyW G) (adsM G) res) := by
  refine Ct_V (by decide) wM_as (Nat.le_of_ble_eq_true rfl) hm (fun X _ _ E hR => ?_)
  refine Sm_lvs (lv' := [(0, .ref (G.1 100))]) rfl ?_
  rw [mM_SqlReaderModel_cut]
  refine Sm_aload_n E d_SqlReaderModel_cut_0 rfl 0 rfl ?_
  refine Sm_iconst (v := 0) E d_SqlReaderModel_cut_1 (by decide) ?_
  refine pfM_0_tokens E fl_SqlReaderModel_223 d_SqlReaderModel_cut_2 fun u1 _ => ?_
  refine Sm_aload_n E d_SqlReaderModel_cut_5 rfl 0 rfl ?_
  refine Sm_iconst (v := 0) E d_SqlReaderModel_cut_6 (by decide) ?_
  refine pfM_0_bad E fl_SqlReaderModel_226 d_SqlReaderModel_cut_7 (by decide) rfl fun u2 _ => ?_
  refine Sm_iconst (v := 0) E d_SqlReaderModel_cut_10 (by decide) ?_
  refine Sm_istore_n (lv' := [(1, .int 0), (0, .ref (G.1 100))]) E d_SqlReaderModel_cut_11 rfl (by decide) rfl ?_
  exact Sm_sub [1, 0] rfl (tM_SqlReaderModel_cut_L12 E hR FU _ _)
set_option maxRecDepth 100000 in
set_option maxHeartbeats 4000000 in
theorem cM_SqlReaderModel_takesName {l : Launch} {D : va_G} {G : Gx} (u : St) {res : Int32 × St} (hm : mM_SqlReaderModel_takesName u = some res) : KM l D G y_SqlReaderModel_takesName (.code y_SqlReaderModel_takesName prog_11_method_18_code 2 (some .boolean)) { frames := 3, cells := 0, slots := 0, locals := 72 } [.ref (G.1 100)] u (qI D vwCl (wM G) (tyW G) (adsM G) res) := by
  refine Ct_Z (by decide) wM_as (Nat.le_of_ble_eq_true rfl) hm (fun X _ _ E hR => ?_)
  refine Sm_lvs (lv' := [(0, .ref (G.1 100))]) rfl ?_
  rw [mM_SqlReaderModel_takesName]
  refine Sm_aload_n E d_SqlReaderModel_takesName_0 rfl 0 rfl ?_
  refine Sm_cVV (As := []) (b := (G.1 100)) (st := []) (n := 0) E exOk wM_as (fun _ h => cM_SqlReaderModel_cut u h) gk_SqlReaderModel_262 dk_SqlReaderModel_cut rfl ⟨rfl, rfl⟩ ⟨Nat.le_of_ble_eq_true rfl, Nat.le_of_ble_eq_true rfl⟩ (rvW (q0 := 0) (ci := 1) E rfl rfl rfl) rfl (Nat.le_of_ble_eq_true rfl) d_SqlReaderModel_takesName_1 fun u1 _ => ?_
  refine Sm_aload_n E d_SqlReaderModel_takesName_4 rfl 0 rfl ?_
  refine gfM_0_bad E fl_SqlReaderModel_226 d_SqlReaderModel_takesName_5 ?_
  refine Sm_if_ne (tgt := 55) E d_SqlReaderModel_takesName_8 (by decide) (fun _ => ?_) (fun _ => ?_)
  · refine Sm_iconst (v := 0) E d_SqlReaderModel_takesName_55 (by decide) ?_
    refine Sm_istore_n (lv' := [(1, .int 0), (0, .ref (G.1 100))]) E d_SqlReaderModel_takesName_56 rfl (by decide) rfl ?_
    refine Sm_aload_n E d_SqlReaderModel_takesName_57 rfl 1 rfl ?_
    refine Sm_iconst (v := 0) E d_SqlReaderModel_takesName_58 (by decide) ?_
    refine pfM_0_size E fl_SqlReaderModel_213 d_SqlReaderModel_takesName_59 fun u2 _ => ?_
    refine Sm_iload_n E d_SqlReaderModel_takesName_62 rfl 0 rfl ?_
    exact Sm_retZ hR (by decide) d_SqlReaderModel_takesName_63
  · refine Sm_aload_n E d_SqlReaderModel_takesName_11 rfl 0 rfl ?_
    refine gfM_0_tokens E fl_SqlReaderModel_223 d_SqlReaderModel_takesName_12 ?_
    refine Sm_iconst (v := 1) E d_SqlReaderModel_takesName_15 (by decide) ?_
    refine Sm_icmp_ne (tgt := 55) E d_SqlReaderModel_takesName_16 (by decide) (fun _ => ?_) (fun _ => ?_)
    · refine Sm_iconst (v := 0) E d_SqlReaderModel_takesName_55 (by decide) ?_
      refine Sm_istore_n (lv' := [(1, .int 0), (0, .ref (G.1 100))]) E d_SqlReaderModel_takesName_56 rfl (by decide) rfl ?_
      refine Sm_aload_n E d_SqlReaderModel_takesName_57 rfl 1 rfl ?_
      refine Sm_iconst (v := 0) E d_SqlReaderModel_takesName_58 (by decide) ?_
      refine pfM_0_size E fl_SqlReaderModel_213 d_SqlReaderModel_takesName_59 fun u3 _ => ?_
      refine Sm_iload_n E d_SqlReaderModel_takesName_62 rfl 0 rfl ?_
      exact Sm_retZ hR (by decide) d_SqlReaderModel_takesName_63
    · refine Sm_aload_n E d_SqlReaderModel_takesName_19 rfl 0 rfl ?_
      refine gfM_0_tokenKind E fl_SqlReaderModel_13 d_SqlReaderModel_takesName_20 ?_
      refine Sm_iconst (v := 0) E d_SqlReaderModel_takesName_23 (by decide) ?_
      refine Sm_gd fun hi => ldM_2 E (inb_in hi) d_SqlReaderModel_takesName_24 ?_
      refine Sm_iconst (v := 2) E d_SqlReaderModel_takesName_25 (by decide) ?_
      refine Sm_icmp_ne (tgt := 55) E d_SqlReaderModel_takesName_26 (by decide) (fun _ => ?_) (fun _ => ?_)
      · refine Sm_iconst (v := 0) E d_SqlReaderModel_takesName_55 (by decide) ?_
        refine Sm_istore_n (lv' := [(1, .int 0), (0, .ref (G.1 100))]) E d_SqlReaderModel_takesName_56 rfl (by decide) rfl ?_
        refine Sm_aload_n E d_SqlReaderModel_takesName_57 rfl 1 rfl ?_
        refine Sm_iconst (v := 0) E d_SqlReaderModel_takesName_58 (by decide) ?_
        refine pfM_0_size E fl_SqlReaderModel_213 d_SqlReaderModel_takesName_59 fun u4 _ => ?_
        refine Sm_iload_n E d_SqlReaderModel_takesName_62 rfl 0 rfl ?_
        exact Sm_retZ hR (by decide) d_SqlReaderModel_takesName_63
      · refine Sm_aload_n E d_SqlReaderModel_takesName_29 rfl 0 rfl ?_
        refine gfM_0_from E fl_SqlReaderModel_17 d_SqlReaderModel_takesName_30 ?_
        refine Sm_iconst (v := 0) E d_SqlReaderModel_takesName_33 (by decide) ?_
        refine Sm_gd fun hi => ldM_3 E (inb_in hi) d_SqlReaderModel_takesName_34 ?_
        refine Sm_if_ne (tgt := 55) E d_SqlReaderModel_takesName_35 (by decide) (fun _ => ?_) (fun _ => ?_)
        · refine Sm_iconst (v := 0) E d_SqlReaderModel_takesName_55 (by decide) ?_
          refine Sm_istore_n (lv' := [(1, .int 0), (0, .ref (G.1 100))]) E d_SqlReaderModel_takesName_56 rfl (by decide) rfl ?_
          refine Sm_aload_n E d_SqlReaderModel_takesName_57 rfl 1 rfl ?_
          refine Sm_iconst (v := 0) E d_SqlReaderModel_takesName_58 (by decide) ?_
          refine pfM_0_size E fl_SqlReaderModel_213 d_SqlReaderModel_takesName_59 fun u5 _ => ?_
          refine Sm_iload_n E d_SqlReaderModel_takesName_62 rfl 0 rfl ?_
          exact Sm_retZ hR (by decide) d_SqlReaderModel_takesName_63
        · refine Sm_aload_n E d_SqlReaderModel_takesName_38 rfl 0 rfl ?_
          refine gfM_0_to E fl_SqlReaderModel_20 d_SqlReaderModel_takesName_39 ?_
          refine Sm_iconst (v := 0) E d_SqlReaderModel_takesName_42 (by decide) ?_
          refine Sm_gd fun hi => ldM_4 E (inb_in hi) d_SqlReaderModel_takesName_43 ?_
          refine Sm_aload_n E d_SqlReaderModel_takesName_44 rfl 0 rfl ?_
          refine gfM_0_size E fl_SqlReaderModel_213 d_SqlReaderModel_takesName_45 ?_
          refine Sm_icmp_ne (tgt := 55) E d_SqlReaderModel_takesName_48 (by decide) (fun _ => ?_) (fun _ => ?_)
          · refine Sm_iconst (v := 0) E d_SqlReaderModel_takesName_55 (by decide) ?_
            refine Sm_istore_n (lv' := [(1, .int 0), (0, .ref (G.1 100))]) E d_SqlReaderModel_takesName_56 rfl (by decide) rfl ?_
            refine Sm_aload_n E d_SqlReaderModel_takesName_57 rfl 1 rfl ?_
            refine Sm_iconst (v := 0) E d_SqlReaderModel_takesName_58 (by decide) ?_
            refine pfM_0_size E fl_SqlReaderModel_213 d_SqlReaderModel_takesName_59 fun u6 _ => ?_
            refine Sm_iload_n E d_SqlReaderModel_takesName_62 rfl 0 rfl ?_
            exact Sm_retZ hR (by decide) d_SqlReaderModel_takesName_63
          · refine Sm_iconst (v := 1) E d_SqlReaderModel_takesName_51 (by decide) ?_
            refine Sm_goto (tgt := 56) E d_SqlReaderModel_takesName_52 (by decide) ?_
            refine Sm_istore_n (lv' := [(1, .int 1), (0, .ref (G.1 100))]) E d_SqlReaderModel_takesName_56 rfl (by decide) rfl ?_
            refine Sm_aload_n E d_SqlReaderModel_takesName_57 rfl 1 rfl ?_
            refine Sm_iconst (v := 0) E d_SqlReaderModel_takesName_58 (by decide) ?_
            refine pfM_0_size E fl_SqlReaderModel_213 d_SqlReaderModel_takesName_59 fun u7 _ => ?_
            refine Sm_iload_n E d_SqlReaderModel_takesName_62 rfl 0 rfl ?_
            exact Sm_retZ hR (by decide) d_SqlReaderModel_takesName_63
set_option maxRecDepth 100000 in
set_option maxHeartbeats 4000000 in
theorem tM_SqlReaderModel_isName_0_5_L28 {X : Cx} {G : Gx} {res : Int32} {u : St} (E : EM X G prog_11_method_16_code R_SqlReaderModel 7 { frames := 0, cells := 0, slots := 0, locals := 0 }) (hR : RtZ X vwCl (wM G) prog_11_method_16_code .boolean (res, u)) : ∀ (n : Nat) (x1 : Int32) (x3 : Int32) (x4 : Int32) (x5 : Int32) (x6 : Int32) , SM X G 7 res (mM_SqlReaderModel_isName_0_5_L28 n x1 x3 x4 x5 x6 u) u 28 [(0, .ref (G.1 100)), (1, .int x1), (2, .ref (G.1 105)), (3, .int x3), (4, .int x4), (5, .int x5), (6, .int x6)] [] := by
  intro n
  induction n with
  | zero => intro x1 x3 x4 x5 x6; exact Sm_none
  | succ n h28 =>
    intro x1 x3 x4 x5 x6
    rw [mM_SqlReaderModel_isName_0_5_L28]
    refine Sm_iload E d_SqlReaderModel_isName_28 5 rfl ?_
    refine Sm_if_eq (tgt := 76) E d_SqlReaderModel_isName_30 (by decide) (fun _ => ?_) (fun _ => ?_)
    · refine Sm_iload E d_SqlReaderModel_isName_76 5 rfl ?_
      exact Sm_gd fun hz => Sm_retz hR (zb_n hz) d_SqlReaderModel_isName_78
    · refine Sm_iload E d_SqlReaderModel_isName_33 6 rfl ?_
      refine Sm_iload E d_SqlReaderModel_isName_35 4 rfl ?_
      refine Sm_icmp_ge (tgt := 76) E d_SqlReaderModel_isName_37 (by decide) (fun _ => ?_) (fun _ => ?_)
      · refine Sm_iload E d_SqlReaderModel_isName_76 5 rfl ?_
        exact Sm_gd fun hz => Sm_retz hR (zb_n hz) d_SqlReaderModel_isName_78
      · refine Sm_aload_n E d_SqlReaderModel_isName_40 rfl 0 rfl ?_
        refine gfM_0_text E fl_SqlReaderModel_7 d_SqlReaderModel_isName_41 ?_
        refine Sm_aload_n E d_SqlReaderModel_isName_44 rfl 0 rfl ?_
        refine gfM_0_from E fl_SqlReaderModel_17 d_SqlReaderModel_isName_45 ?_
        refine Sm_iload_n E d_SqlReaderModel_isName_48 rfl 1 rfl ?_
        refine Sm_gd fun hi => ldM_3 E (inb_in hi) d_SqlReaderModel_isName_49 ?_
        refine Sm_iload E d_SqlReaderModel_isName_50 6 rfl ?_
        refine Sm_iadd E d_SqlReaderModel_isName_52 ?_
        refine Sm_gd fun hi => ldM_1 E (inb_in hi) d_SqlReaderModel_isName_53 ?_
        refine Sm_aload_n E d_SqlReaderModel_isName_54 rfl 2 rfl ?_
        refine Sm_iload_n E d_SqlReaderModel_isName_55 rfl 3 rfl ?_
        refine Sm_iload E d_SqlReaderModel_isName_56 6 rfl ?_
        refine Sm_iadd E d_SqlReaderModel_isName_58 ?_
        refine Sm_gd fun hi => ldM_5 E (inb_in hi) d_SqlReaderModel_isName_59 ?_
        refine Sm_icmp_ne (tgt := 67) E d_SqlReaderModel_isName_60 (by decide) (fun _ => ?_) (fun _ => ?_)
        · refine Sm_iconst (v := 0) E d_SqlReaderModel_isName_67 (by decide) ?_
          refine Sm_istore (lv' := [(5, .int 0), (0, .ref (G.1 100)), (1, .int x1), (2, .ref (G.1 105)), (3, .int x3), (4, .int x4), (6, .int x6)]) E d_SqlReaderModel_isName_68 (by decide) rfl ?_
          refine Sm_iinc (k := 6) (d := 1) E d_SqlReaderModel_isName_70 rfl rfl (by decide) fun y1 _ => Sm_lvs (lv' := [(6, .int y1), (5, .int 0), (0, .ref (G.1 100)), (1, .int x1), (2, .ref (G.1 105)), (3, .int x3), (4, .int x4)]) rfl ?_
          refine Sm_goto (tgt := 28) E d_SqlReaderModel_isName_73 (by decide) ?_
          exact Sm_sub [2, 3, 4, 5, 6, 1, 0] rfl (h28 _ _ _ _ _)
        · refine Sm_iconst (v := 1) E d_SqlReaderModel_isName_63 (by decide) ?_
          refine Sm_goto (tgt := 68) E d_SqlReaderModel_isName_64 (by decide) ?_
          refine Sm_istore (lv' := [(5, .int 1), (0, .ref (G.1 100)), (1, .int x1), (2, .ref (G.1 105)), (3, .int x3), (4, .int x4), (6, .int x6)]) E d_SqlReaderModel_isName_68 (by decide) rfl ?_
          refine Sm_iinc (k := 6) (d := 1) E d_SqlReaderModel_isName_70 rfl rfl (by decide) fun y2 _ => Sm_lvs (lv' := [(6, .int y2), (5, .int 1), (0, .ref (G.1 100)), (1, .int x1), (2, .ref (G.1 105)), (3, .int x3), (4, .int x4)]) rfl ?_
          refine Sm_goto (tgt := 28) E d_SqlReaderModel_isName_73 (by decide) ?_
          exact Sm_sub [2, 3, 4, 5, 6, 1, 0] rfl (h28 _ _ _ _ _)
set_option maxRecDepth 100000 in
set_option maxHeartbeats 4000000 in
theorem cM_SqlReaderModel_isName_0_5 {l : Launch} {D : va_G} {G : Gx} (x1 : Int32) (x3 : Int32) (x4 : Int32) (u : St) {res : Int32} (hm : mM_SqlReaderModel_isName_0_5 x1 x3 x4 u = some res) : KM l D G y_SqlReaderModel_isName (.code y_SqlReaderModel_isName prog_11_method_16_code 7 (some .boolean)) { frames := 0, cells := 0, slots := 0, locals := 0 } [.ref (G.1 100), .int x1, .ref (G.1 105), .int x3, .int x4] u (qI D vwCl (wM G) (tyW G) (adsM G) (res, u)) := by
  refine Ct_z (by decide) wM_as (Nat.le_of_ble_eq_true rfl) hm (fun X _ _ E hR => ?_)
  refine Sm_lvs (lv' := [(0, .ref (G.1 100)), (1, .int x1), (2, .ref (G.1 105)), (3, .int x3), (4, .int x4)]) rfl ?_
  rw [mM_SqlReaderModel_isName_0_5]
  refine Sm_aload_n E d_SqlReaderModel_isName_0 rfl 0 rfl ?_
  refine gfM_0_to E fl_SqlReaderModel_20 d_SqlReaderModel_isName_1 ?_
  refine Sm_iload_n E d_SqlReaderModel_isName_4 rfl 1 rfl ?_
  refine Sm_gd fun hi => ldM_4 E (inb_in hi) d_SqlReaderModel_isName_5 ?_
  refine Sm_aload_n E d_SqlReaderModel_isName_6 rfl 0 rfl ?_
  refine gfM_0_from E fl_SqlReaderModel_17 d_SqlReaderModel_isName_7 ?_
  refine Sm_iload_n E d_SqlReaderModel_isName_10 rfl 1 rfl ?_
  refine Sm_gd fun hi => ldM_3 E (inb_in hi) d_SqlReaderModel_isName_11 ?_
  refine Sm_isub E d_SqlReaderModel_isName_12 ?_
  refine Sm_iload E d_SqlReaderModel_isName_13 4 rfl ?_
  refine Sm_icmp_ne (tgt := 22) E d_SqlReaderModel_isName_15 (by decide) (fun _ => ?_) (fun _ => ?_)
  · refine Sm_iconst (v := 0) E d_SqlReaderModel_isName_22 (by decide) ?_
    refine Sm_istore (lv' := [(5, .int 0), (0, .ref (G.1 100)), (1, .int x1), (2, .ref (G.1 105)), (3, .int x3), (4, .int x4)]) E d_SqlReaderModel_isName_23 (by decide) rfl ?_
    refine Sm_iconst (v := 0) E d_SqlReaderModel_isName_25 (by decide) ?_
    refine Sm_istore (lv' := [(6, .int 0), (5, .int 0), (0, .ref (G.1 100)), (1, .int x1), (2, .ref (G.1 105)), (3, .int x3), (4, .int x4)]) E d_SqlReaderModel_isName_26 (by decide) rfl ?_
    exact Sm_sub [2, 3, 4, 5, 6, 1, 0] rfl (tM_SqlReaderModel_isName_0_5_L28 E hR FU _ _ _ _ _)
  · refine Sm_iconst (v := 1) E d_SqlReaderModel_isName_18 (by decide) ?_
    refine Sm_goto (tgt := 23) E d_SqlReaderModel_isName_19 (by decide) ?_
    refine Sm_istore (lv' := [(5, .int 1), (0, .ref (G.1 100)), (1, .int x1), (2, .ref (G.1 105)), (3, .int x3), (4, .int x4)]) E d_SqlReaderModel_isName_23 (by decide) rfl ?_
    refine Sm_iconst (v := 0) E d_SqlReaderModel_isName_25 (by decide) ?_
    refine Sm_istore (lv' := [(6, .int 0), (5, .int 1), (0, .ref (G.1 100)), (1, .int x1), (2, .ref (G.1 105)), (3, .int x3), (4, .int x4)]) E d_SqlReaderModel_isName_26 (by decide) rfl ?_
    exact Sm_sub [2, 3, 4, 5, 6, 1, 0] rfl (tM_SqlReaderModel_isName_0_5_L28 E hR FU _ _ _ _ _)
set_option maxRecDepth 100000 in
set_option maxHeartbeats 4000000 in
theorem tM_SqlReaderModel_tableOf_L4 {X : Cx} {G : Gx} {res : Int32} {u : St} (E : EM X G prog_11_method_19_code R_SqlReaderModel 4 { frames := 1, cells := 0, slots := 0, locals := 26 }) (hR : RtI X vwCl (wM G) prog_11_method_19_code (res, u)) : ∀ (n : Nat) (x1 : Int32) (x2 : Int32) (x3 : Int32) , SM X G 4 res (mM_SqlReaderModel_tableOf_L4 n x1 x2 x3 u) u 4 [(0, .ref (G.1 100)), (1, .int x1), (2, .int x2), (3, .int x3)] [] := by
  intro n
  induction n with
  | zero => intro x1 x2 x3; exact Sm_none
  | succ n h4 =>
    intro x1 x2 x3
    rw [mM_SqlReaderModel_tableOf_L4]
    refine Sm_iload_n E d_SqlReaderModel_tableOf_4 rfl 3 rfl ?_
    refine Sm_aload_n E d_SqlReaderModel_tableOf_5 rfl 0 rfl ?_
    refine gfM_0_tables E fl_SqlReaderModel_265 d_SqlReaderModel_tableOf_6 ?_
    refine Sm_icmp_ge (tgt := 46) E d_SqlReaderModel_tableOf_9 (by decide) (fun _ => ?_) (fun _ => ?_)
    · refine Sm_iload_n E d_SqlReaderModel_tableOf_46 rfl 2 rfl ?_
      exact Sm_reti hR d_SqlReaderModel_tableOf_47
    · refine Sm_aload_n E d_SqlReaderModel_tableOf_12 rfl 0 rfl ?_
      refine Sm_iload_n E d_SqlReaderModel_tableOf_13 rfl 1 rfl ?_
      refine Sm_aload_n E d_SqlReaderModel_tableOf_14 rfl 0 rfl ?_
      refine gfM_0_tableNames E fl_SqlReaderModel_23 d_SqlReaderModel_tableOf_15 ?_
      refine Sm_bipush (v := 16) E d_SqlReaderModel_tableOf_18 (by decide) ?_
      refine Sm_iload_n E d_SqlReaderModel_tableOf_20 rfl 3 rfl ?_
      refine Sm_imul E d_SqlReaderModel_tableOf_21 ?_
      refine Sm_aload_n E d_SqlReaderModel_tableOf_22 rfl 0 rfl ?_
      refine gfM_0_tableSize E fl_SqlReaderModel_26 d_SqlReaderModel_tableOf_23 ?_
      refine Sm_iload_n E d_SqlReaderModel_tableOf_26 rfl 3 rfl ?_
      refine Sm_gd fun hi => ldM_6 E (inb_in hi) d_SqlReaderModel_tableOf_27 ?_
      refine Sm_cVi (As := [.int x1, .ref (G.1 105), .int (16 * x3), .int (ga u 5 x3)]) (b := (G.1 100)) (st := []) (n := 4) E exOk wM_as (fun _ h => cM_SqlReaderModel_isName_0_5 x1 (16 * x3) (ga u 5 x3) u h) gk_SqlReaderModel_268 dk_SqlReaderModel_isName rfl ⟨rfl, rfl⟩ ⟨Nat.le_of_ble_eq_true rfl, Nat.le_of_ble_eq_true rfl⟩ (rvW (q0 := 0) (ci := 1) E rfl rfl rfl) rfl (Nat.le_of_ble_eq_true rfl) d_SqlReaderModel_tableOf_28 fun r1 _ => ?_
      refine Sm_if_eq (tgt := 38) E d_SqlReaderModel_tableOf_31 (by decide) (fun _ => ?_) (fun _ => ?_)
      · refine Sm_iload_n E d_SqlReaderModel_tableOf_38 rfl 2 rfl ?_
        refine Sm_istore_n (lv' := [(2, .int x2), (0, .ref (G.1 100)), (1, .int x1), (3, .int x3)]) E d_SqlReaderModel_tableOf_39 rfl (by decide) rfl ?_
        refine Sm_iinc (k := 3) (d := 1) E d_SqlReaderModel_tableOf_40 rfl rfl (by decide) fun y2 _ => Sm_lvs (lv' := [(3, .int y2), (2, .int x2), (0, .ref (G.1 100)), (1, .int x1)]) rfl ?_
        refine Sm_goto (tgt := 4) E d_SqlReaderModel_tableOf_43 (by decide) ?_
        exact Sm_sub [2, 3, 1, 0] rfl (h4 _ _ _)
      · refine Sm_iload_n E d_SqlReaderModel_tableOf_34 rfl 3 rfl ?_
        refine Sm_goto (tgt := 39) E d_SqlReaderModel_tableOf_35 (by decide) ?_
        refine Sm_istore_n (lv' := [(2, .int x3), (0, .ref (G.1 100)), (1, .int x1), (3, .int x3)]) E d_SqlReaderModel_tableOf_39 rfl (by decide) rfl ?_
        refine Sm_iinc (k := 3) (d := 1) E d_SqlReaderModel_tableOf_40 rfl rfl (by decide) fun y3 _ => Sm_lvs (lv' := [(3, .int y3), (2, .int x3), (0, .ref (G.1 100)), (1, .int x1)]) rfl ?_
        refine Sm_goto (tgt := 4) E d_SqlReaderModel_tableOf_43 (by decide) ?_
        exact Sm_sub [2, 3, 1, 0] rfl (h4 _ _ _)
set_option maxRecDepth 100000 in
set_option maxHeartbeats 4000000 in
theorem cM_SqlReaderModel_tableOf {l : Launch} {D : va_G} {G : Gx} (x1 : Int32) (u : St) {res : Int32} (hm : mM_SqlReaderModel_tableOf x1 u = some res) : KM l D G y_SqlReaderModel_tableOf (.code y_SqlReaderModel_tableOf prog_11_method_19_code 4 (some .int)) { frames := 1, cells := 0, slots := 0, locals := 26 } [.ref (G.1 100), .int x1] u (qI D vwCl (wM G) (tyW G) (adsM G) (res, u)) := by
  refine Ct_i (by decide) wM_as (Nat.le_of_ble_eq_true rfl) hm (fun X _ _ E hR => ?_)
  refine Sm_lvs (lv' := [(0, .ref (G.1 100)), (1, .int x1)]) rfl ?_
  rw [mM_SqlReaderModel_tableOf]
  refine Sm_iconst (v := (-1)) E d_SqlReaderModel_tableOf_0 (by decide) ?_
  refine Sm_istore_n (lv' := [(2, .int (-1)), (0, .ref (G.1 100)), (1, .int x1)]) E d_SqlReaderModel_tableOf_1 rfl (by decide) rfl ?_
  refine Sm_iconst (v := 0) E d_SqlReaderModel_tableOf_2 (by decide) ?_
  refine Sm_istore_n (lv' := [(3, .int 0), (2, .int (-1)), (0, .ref (G.1 100)), (1, .int x1)]) E d_SqlReaderModel_tableOf_3 rfl (by decide) rfl ?_
  exact Sm_sub [2, 3, 1, 0] rfl (tM_SqlReaderModel_tableOf_L4 E hR FU _ _ _)
set_option maxRecDepth 100000 in
set_option maxHeartbeats 4000000 in
theorem tM_SqlReaderModel_table_L31 {X : Cx} {G : Gx} {res : Int32 × St} (E : EM X G prog_11_method_21_code R_SqlReaderModel 2 { frames := 4, cells := 0, slots := 0, locals := 93 }) (hR : RtI X vwCl (wM G) prog_11_method_21_code res) : ∀ (n : Nat) (x1 : Int32) (u : St), SM X G 2 res (mM_SqlReaderModel_table_L31 n x1 u) u 31 [(0, .ref (G.1 100)), (1, .int x1)] [] := by
  intro n
  induction n with
  | zero => intro x1 u; exact Sm_none
  | succ n h31 =>
    intro x1 u
    rw [mM_SqlReaderModel_table_L31]
    refine Sm_iload_n E d_SqlReaderModel_table_31 rfl 1 rfl ?_
    refine Sm_aload_n E d_SqlReaderModel_table_32 rfl 0 rfl ?_
    refine gfM_0_to E fl_SqlReaderModel_20 d_SqlReaderModel_table_33 ?_
    refine Sm_iconst (v := 0) E d_SqlReaderModel_table_36 (by decide) ?_
    refine Sm_gd fun hi => ldM_4 E (inb_in hi) d_SqlReaderModel_table_37 ?_
    refine Sm_icmp_ge (tgt := 67) E d_SqlReaderModel_table_38 (by decide) (fun _ => ?_) (fun _ => ?_)
    · refine Sm_aload_n E d_SqlReaderModel_table_67 rfl 0 rfl ?_
      refine gfM_0_tableSize E fl_SqlReaderModel_26 d_SqlReaderModel_table_68 ?_
      refine Sm_aload_n E d_SqlReaderModel_table_71 rfl 0 rfl ?_
      refine gfM_0_tables E fl_SqlReaderModel_265 d_SqlReaderModel_table_72 ?_
      refine Sm_aload_n E d_SqlReaderModel_table_75 rfl 0 rfl ?_
      refine gfM_0_to E fl_SqlReaderModel_20 d_SqlReaderModel_table_76 ?_
      refine Sm_iconst (v := 0) E d_SqlReaderModel_table_79 (by decide) ?_
      refine Sm_gd fun hi => ldM_4 E (inb_in hi) d_SqlReaderModel_table_80 ?_
      refine Sm_gd fun hi => stM_6 E (inb_in hi) d_SqlReaderModel_table_81 fun u4 _ => ?_
      refine Sm_aload_n E d_SqlReaderModel_table_82 rfl 0 rfl ?_
      refine gfM_0_width E fl_SqlReaderModel_29 d_SqlReaderModel_table_83 ?_
      refine Sm_aload_n E d_SqlReaderModel_table_86 rfl 0 rfl ?_
      refine gfM_0_tables E fl_SqlReaderModel_265 d_SqlReaderModel_table_87 ?_
      refine Sm_iconst (v := 0) E d_SqlReaderModel_table_90 (by decide) ?_
      refine Sm_gd fun hi => stM_7 E (inb_in hi) d_SqlReaderModel_table_91 fun u5 _ => ?_
      refine Sm_aload_n E d_SqlReaderModel_table_92 rfl 0 rfl ?_
      refine Sm_dup E d_SqlReaderModel_table_93 rfl ?_
      refine gfM_0_tables E fl_SqlReaderModel_265 d_SqlReaderModel_table_94 ?_
      refine Sm_iconst (v := 1) E d_SqlReaderModel_table_97 (by decide) ?_
      refine Sm_iadd E d_SqlReaderModel_table_98 ?_
      refine pfM_0_tables E fl_SqlReaderModel_265 d_SqlReaderModel_table_99 fun u6 _ => ?_
      refine Sm_aload_n E d_SqlReaderModel_table_102 rfl 0 rfl ?_
      refine gfM_0_tables E fl_SqlReaderModel_265 d_SqlReaderModel_table_103 ?_
      refine Sm_iconst (v := 1) E d_SqlReaderModel_table_106 (by decide) ?_
      refine Sm_isub E d_SqlReaderModel_table_107 ?_
      exact Sm_retI hR d_SqlReaderModel_table_108
    · refine Sm_aload_n E d_SqlReaderModel_table_41 rfl 0 rfl ?_
      refine gfM_0_tableNames E fl_SqlReaderModel_23 d_SqlReaderModel_table_42 ?_
      refine Sm_bipush (v := 16) E d_SqlReaderModel_table_45 (by decide) ?_
      refine Sm_aload_n E d_SqlReaderModel_table_47 rfl 0 rfl ?_
      refine gfM_0_tables E fl_SqlReaderModel_265 d_SqlReaderModel_table_48 ?_
      refine Sm_imul E d_SqlReaderModel_table_51 ?_
      refine Sm_iload_n E d_SqlReaderModel_table_52 rfl 1 rfl ?_
      refine Sm_iadd E d_SqlReaderModel_table_53 ?_
      refine Sm_aload_n E d_SqlReaderModel_table_54 rfl 0 rfl ?_
      refine gfM_0_text E fl_SqlReaderModel_7 d_SqlReaderModel_table_55 ?_
      refine Sm_iload_n E d_SqlReaderModel_table_58 rfl 1 rfl ?_
      refine Sm_gd fun hi => ldM_1 E (inb_in hi) d_SqlReaderModel_table_59 ?_
      refine Sm_gd fun hi => stM_5 E (inb_in hi) d_SqlReaderModel_table_60 fun u7 _ => ?_
      refine Sm_iinc (k := 1) (d := 1) E d_SqlReaderModel_table_61 rfl rfl (by decide) fun y8 _ => Sm_lvs (lv' := [(1, .int y8), (0, .ref (G.1 100))]) rfl ?_
      refine Sm_goto (tgt := 31) E d_SqlReaderModel_table_64 (by decide) ?_
      exact Sm_sub [1, 0] rfl (h31 _ _)
set_option maxRecDepth 100000 in
set_option maxHeartbeats 4000000 in
theorem cM_SqlReaderModel_table {l : Launch} {D : va_G} {G : Gx} (u : St) {res : Int32 × St} (hm : mM_SqlReaderModel_table u = some res) : KM l D G y_SqlReaderModel_table (.code y_SqlReaderModel_table prog_11_method_21_code 2 (some .int)) { frames := 4, cells := 0, slots := 0, locals := 93 } [.ref (G.1 100)] u (qI D vwCl (wM G) (tyW G) (adsM G) res) := by
  refine Ct_I (by decide) wM_as (Nat.le_of_ble_eq_true rfl) hm (fun X _ _ E hR => ?_)
  refine Sm_lvs (lv' := [(0, .ref (G.1 100))]) rfl ?_
  rw [mM_SqlReaderModel_table]
  refine Sm_aload_n E d_SqlReaderModel_table_0 rfl 0 rfl ?_
  refine Sm_cVI (As := []) (b := (G.1 100)) (st := []) (n := 0) E exOk wM_as (fun _ h => cM_SqlReaderModel_takesName u h) gk_SqlReaderModel_272 dk_SqlReaderModel_takesName rfl ⟨rfl, rfl⟩ ⟨Nat.le_of_ble_eq_true rfl, Nat.le_of_ble_eq_true rfl⟩ (rvW (q0 := 0) (ci := 1) E rfl rfl rfl) rfl (Nat.le_of_ble_eq_true rfl) d_SqlReaderModel_table_1 fun r1 u2 _ => ?_
  refine Sm_if_eq (tgt := 16) E d_SqlReaderModel_table_4 (by decide) (fun _ => ?_) (fun _ => ?_)
  · refine Sm_iconst (v := (-1)) E d_SqlReaderModel_table_16 (by decide) ?_
    exact Sm_retI hR d_SqlReaderModel_table_17
  · refine Sm_aload_n E d_SqlReaderModel_table_7 rfl 0 rfl ?_
    refine gfM_0_tables E fl_SqlReaderModel_265 d_SqlReaderModel_table_8 ?_
    refine Sm_bipush (v := 8) E d_SqlReaderModel_table_11 (by decide) ?_
    refine Sm_icmp_ne (tgt := 18) E d_SqlReaderModel_table_13 (by decide) (fun _ => ?_) (fun _ => ?_)
    · refine Sm_aload_n E d_SqlReaderModel_table_18 rfl 0 rfl ?_
      refine Sm_iconst (v := 0) E d_SqlReaderModel_table_19 (by decide) ?_
      refine Sm_cVi (As := [.int 0]) (b := (G.1 100)) (st := []) (n := 1) E exOk wM_as (fun _ h => cM_SqlReaderModel_tableOf 0 u2 h) gk_SqlReaderModel_276 dk_SqlReaderModel_tableOf rfl ⟨rfl, rfl⟩ ⟨Nat.le_of_ble_eq_true rfl, Nat.le_of_ble_eq_true rfl⟩ (rvW (q0 := 0) (ci := 1) E rfl rfl rfl) rfl (Nat.le_of_ble_eq_true rfl) d_SqlReaderModel_table_20 fun r3 _ => ?_
      refine Sm_if_lt (tgt := 29) E d_SqlReaderModel_table_23 (by decide) (fun _ => ?_) (fun _ => ?_)
      · refine Sm_iconst (v := 0) E d_SqlReaderModel_table_29 (by decide) ?_
        refine Sm_istore_n (lv' := [(1, .int 0), (0, .ref (G.1 100))]) E d_SqlReaderModel_table_30 rfl (by decide) rfl ?_
        exact Sm_sub [1, 0] rfl (tM_SqlReaderModel_table_L31 E hR FU _ _)
      · refine Sm_bipush (v := (-2)) E d_SqlReaderModel_table_26 (by decide) ?_
        exact Sm_retI hR d_SqlReaderModel_table_28
    · refine Sm_iconst (v := (-1)) E d_SqlReaderModel_table_16 (by decide) ?_
      exact Sm_retI hR d_SqlReaderModel_table_17
set_option maxRecDepth 100000 in
set_option maxHeartbeats 4000000 in
theorem tM_SqlReaderModel_isName_0_8_L28 {X : Cx} {G : Gx} {res : Int32} {u : St} (E : EM X G prog_11_method_16_code R_SqlReaderModel 7 { frames := 0, cells := 0, slots := 0, locals := 0 }) (hR : RtZ X vwCl (wM G) prog_11_method_16_code .boolean (res, u)) : ∀ (n : Nat) (x1 : Int32) (x3 : Int32) (x4 : Int32) (x5 : Int32) (x6 : Int32) , SM X G 7 res (mM_SqlReaderModel_isName_0_8_L28 n x1 x3 x4 x5 x6 u) u 28 [(0, .ref (G.1 100)), (1, .int x1), (2, .ref (G.1 108)), (3, .int x3), (4, .int x4), (5, .int x5), (6, .int x6)] [] := by
  intro n
  induction n with
  | zero => intro x1 x3 x4 x5 x6; exact Sm_none
  | succ n h28 =>
    intro x1 x3 x4 x5 x6
    rw [mM_SqlReaderModel_isName_0_8_L28]
    refine Sm_iload E d_SqlReaderModel_isName_28 5 rfl ?_
    refine Sm_if_eq (tgt := 76) E d_SqlReaderModel_isName_30 (by decide) (fun _ => ?_) (fun _ => ?_)
    · refine Sm_iload E d_SqlReaderModel_isName_76 5 rfl ?_
      exact Sm_gd fun hz => Sm_retz hR (zb_n hz) d_SqlReaderModel_isName_78
    · refine Sm_iload E d_SqlReaderModel_isName_33 6 rfl ?_
      refine Sm_iload E d_SqlReaderModel_isName_35 4 rfl ?_
      refine Sm_icmp_ge (tgt := 76) E d_SqlReaderModel_isName_37 (by decide) (fun _ => ?_) (fun _ => ?_)
      · refine Sm_iload E d_SqlReaderModel_isName_76 5 rfl ?_
        exact Sm_gd fun hz => Sm_retz hR (zb_n hz) d_SqlReaderModel_isName_78
      · refine Sm_aload_n E d_SqlReaderModel_isName_40 rfl 0 rfl ?_
        refine gfM_0_text E fl_SqlReaderModel_7 d_SqlReaderModel_isName_41 ?_
        refine Sm_aload_n E d_SqlReaderModel_isName_44 rfl 0 rfl ?_
        refine gfM_0_from E fl_SqlReaderModel_17 d_SqlReaderModel_isName_45 ?_
        refine Sm_iload_n E d_SqlReaderModel_isName_48 rfl 1 rfl ?_
        refine Sm_gd fun hi => ldM_3 E (inb_in hi) d_SqlReaderModel_isName_49 ?_
        refine Sm_iload E d_SqlReaderModel_isName_50 6 rfl ?_
        refine Sm_iadd E d_SqlReaderModel_isName_52 ?_
        refine Sm_gd fun hi => ldM_1 E (inb_in hi) d_SqlReaderModel_isName_53 ?_
        refine Sm_aload_n E d_SqlReaderModel_isName_54 rfl 2 rfl ?_
        refine Sm_iload_n E d_SqlReaderModel_isName_55 rfl 3 rfl ?_
        refine Sm_iload E d_SqlReaderModel_isName_56 6 rfl ?_
        refine Sm_iadd E d_SqlReaderModel_isName_58 ?_
        refine Sm_gd fun hi => ldM_8 E (inb_in hi) d_SqlReaderModel_isName_59 ?_
        refine Sm_icmp_ne (tgt := 67) E d_SqlReaderModel_isName_60 (by decide) (fun _ => ?_) (fun _ => ?_)
        · refine Sm_iconst (v := 0) E d_SqlReaderModel_isName_67 (by decide) ?_
          refine Sm_istore (lv' := [(5, .int 0), (0, .ref (G.1 100)), (1, .int x1), (2, .ref (G.1 108)), (3, .int x3), (4, .int x4), (6, .int x6)]) E d_SqlReaderModel_isName_68 (by decide) rfl ?_
          refine Sm_iinc (k := 6) (d := 1) E d_SqlReaderModel_isName_70 rfl rfl (by decide) fun y1 _ => Sm_lvs (lv' := [(6, .int y1), (5, .int 0), (0, .ref (G.1 100)), (1, .int x1), (2, .ref (G.1 108)), (3, .int x3), (4, .int x4)]) rfl ?_
          refine Sm_goto (tgt := 28) E d_SqlReaderModel_isName_73 (by decide) ?_
          exact Sm_sub [2, 3, 4, 5, 6, 1, 0] rfl (h28 _ _ _ _ _)
        · refine Sm_iconst (v := 1) E d_SqlReaderModel_isName_63 (by decide) ?_
          refine Sm_goto (tgt := 68) E d_SqlReaderModel_isName_64 (by decide) ?_
          refine Sm_istore (lv' := [(5, .int 1), (0, .ref (G.1 100)), (1, .int x1), (2, .ref (G.1 108)), (3, .int x3), (4, .int x4), (6, .int x6)]) E d_SqlReaderModel_isName_68 (by decide) rfl ?_
          refine Sm_iinc (k := 6) (d := 1) E d_SqlReaderModel_isName_70 rfl rfl (by decide) fun y2 _ => Sm_lvs (lv' := [(6, .int y2), (5, .int 1), (0, .ref (G.1 100)), (1, .int x1), (2, .ref (G.1 108)), (3, .int x3), (4, .int x4)]) rfl ?_
          refine Sm_goto (tgt := 28) E d_SqlReaderModel_isName_73 (by decide) ?_
          exact Sm_sub [2, 3, 4, 5, 6, 1, 0] rfl (h28 _ _ _ _ _)
set_option maxRecDepth 100000 in
set_option maxHeartbeats 4000000 in
theorem cM_SqlReaderModel_isName_0_8 {l : Launch} {D : va_G} {G : Gx} (x1 : Int32) (x3 : Int32) (x4 : Int32) (u : St) {res : Int32} (hm : mM_SqlReaderModel_isName_0_8 x1 x3 x4 u = some res) : KM l D G y_SqlReaderModel_isName (.code y_SqlReaderModel_isName prog_11_method_16_code 7 (some .boolean)) { frames := 0, cells := 0, slots := 0, locals := 0 } [.ref (G.1 100), .int x1, .ref (G.1 108), .int x3, .int x4] u (qI D vwCl (wM G) (tyW G) (adsM G) (res, u)) := by
  refine Ct_z (by decide) wM_as (Nat.le_of_ble_eq_true rfl) hm (fun X _ _ E hR => ?_)
  refine Sm_lvs (lv' := [(0, .ref (G.1 100)), (1, .int x1), (2, .ref (G.1 108)), (3, .int x3), (4, .int x4)]) rfl ?_
  rw [mM_SqlReaderModel_isName_0_8]
  refine Sm_aload_n E d_SqlReaderModel_isName_0 rfl 0 rfl ?_
  refine gfM_0_to E fl_SqlReaderModel_20 d_SqlReaderModel_isName_1 ?_
  refine Sm_iload_n E d_SqlReaderModel_isName_4 rfl 1 rfl ?_
  refine Sm_gd fun hi => ldM_4 E (inb_in hi) d_SqlReaderModel_isName_5 ?_
  refine Sm_aload_n E d_SqlReaderModel_isName_6 rfl 0 rfl ?_
  refine gfM_0_from E fl_SqlReaderModel_17 d_SqlReaderModel_isName_7 ?_
  refine Sm_iload_n E d_SqlReaderModel_isName_10 rfl 1 rfl ?_
  refine Sm_gd fun hi => ldM_3 E (inb_in hi) d_SqlReaderModel_isName_11 ?_
  refine Sm_isub E d_SqlReaderModel_isName_12 ?_
  refine Sm_iload E d_SqlReaderModel_isName_13 4 rfl ?_
  refine Sm_icmp_ne (tgt := 22) E d_SqlReaderModel_isName_15 (by decide) (fun _ => ?_) (fun _ => ?_)
  · refine Sm_iconst (v := 0) E d_SqlReaderModel_isName_22 (by decide) ?_
    refine Sm_istore (lv' := [(5, .int 0), (0, .ref (G.1 100)), (1, .int x1), (2, .ref (G.1 108)), (3, .int x3), (4, .int x4)]) E d_SqlReaderModel_isName_23 (by decide) rfl ?_
    refine Sm_iconst (v := 0) E d_SqlReaderModel_isName_25 (by decide) ?_
    refine Sm_istore (lv' := [(6, .int 0), (5, .int 0), (0, .ref (G.1 100)), (1, .int x1), (2, .ref (G.1 108)), (3, .int x3), (4, .int x4)]) E d_SqlReaderModel_isName_26 (by decide) rfl ?_
    exact Sm_sub [2, 3, 4, 5, 6, 1, 0] rfl (tM_SqlReaderModel_isName_0_8_L28 E hR FU _ _ _ _ _)
  · refine Sm_iconst (v := 1) E d_SqlReaderModel_isName_18 (by decide) ?_
    refine Sm_goto (tgt := 23) E d_SqlReaderModel_isName_19 (by decide) ?_
    refine Sm_istore (lv' := [(5, .int 1), (0, .ref (G.1 100)), (1, .int x1), (2, .ref (G.1 108)), (3, .int x3), (4, .int x4)]) E d_SqlReaderModel_isName_23 (by decide) rfl ?_
    refine Sm_iconst (v := 0) E d_SqlReaderModel_isName_25 (by decide) ?_
    refine Sm_istore (lv' := [(6, .int 0), (5, .int 1), (0, .ref (G.1 100)), (1, .int x1), (2, .ref (G.1 108)), (3, .int x3), (4, .int x4)]) E d_SqlReaderModel_isName_26 (by decide) rfl ?_
    exact Sm_sub [2, 3, 4, 5, 6, 1, 0] rfl (tM_SqlReaderModel_isName_0_8_L28 E hR FU _ _ _ _ _)
set_option maxRecDepth 100000 in
set_option maxHeartbeats 4000000 in
theorem tM_SqlReaderModel_columnOf_L5 {X : Cx} {G : Gx} {res : Int32} {u : St} (E : EM X G prog_11_method_20_code R_SqlReaderModel 5 { frames := 1, cells := 0, slots := 0, locals := 26 }) (hR : RtI X vwCl (wM G) prog_11_method_20_code (res, u)) : ∀ (n : Nat) (x1 : Int32) (x2 : Int32) (x3 : Int32) (x4 : Int32) , SM X G 5 res (mM_SqlReaderModel_columnOf_L5 n x1 x2 x3 x4 u) u 5 [(0, .ref (G.1 100)), (1, .int x1), (2, .int x2), (3, .int x3), (4, .int x4)] [] := by
  intro n
  induction n with
  | zero => intro x1 x2 x3 x4; exact Sm_none
  | succ n h5 =>
    intro x1 x2 x3 x4
    rw [mM_SqlReaderModel_columnOf_L5]
    refine Sm_iload E d_SqlReaderModel_columnOf_5 4 rfl ?_
    refine Sm_aload_n E d_SqlReaderModel_columnOf_7 rfl 0 rfl ?_
    refine gfM_0_width E fl_SqlReaderModel_29 d_SqlReaderModel_columnOf_8 ?_
    refine Sm_iload_n E d_SqlReaderModel_columnOf_11 rfl 1 rfl ?_
    refine Sm_gd fun hi => ldM_7 E (inb_in hi) d_SqlReaderModel_columnOf_12 ?_
    refine Sm_icmp_ge (tgt := 63) E d_SqlReaderModel_columnOf_13 (by decide) (fun _ => ?_) (fun _ => ?_)
    · refine Sm_iload_n E d_SqlReaderModel_columnOf_63 rfl 3 rfl ?_
      exact Sm_reti hR d_SqlReaderModel_columnOf_64
    · refine Sm_aload_n E d_SqlReaderModel_columnOf_16 rfl 0 rfl ?_
      refine Sm_iload_n E d_SqlReaderModel_columnOf_17 rfl 2 rfl ?_
      refine Sm_aload_n E d_SqlReaderModel_columnOf_18 rfl 0 rfl ?_
      refine gfM_0_columnNames E fl_SqlReaderModel_32 d_SqlReaderModel_columnOf_19 ?_
      refine Sm_bipush (v := 16) E d_SqlReaderModel_columnOf_22 (by decide) ?_
      refine Sm_bipush (v := 8) E d_SqlReaderModel_columnOf_24 (by decide) ?_
      refine Sm_iload_n E d_SqlReaderModel_columnOf_26 rfl 1 rfl ?_
      refine Sm_imul E d_SqlReaderModel_columnOf_27 ?_
      refine Sm_iload E d_SqlReaderModel_columnOf_28 4 rfl ?_
      refine Sm_iadd E d_SqlReaderModel_columnOf_30 ?_
      refine Sm_imul E d_SqlReaderModel_columnOf_31 ?_
      refine Sm_aload_n E d_SqlReaderModel_columnOf_32 rfl 0 rfl ?_
      refine gfM_0_columnSize E fl_SqlReaderModel_35 d_SqlReaderModel_columnOf_33 ?_
      refine Sm_bipush (v := 8) E d_SqlReaderModel_columnOf_36 (by decide) ?_
      refine Sm_iload_n E d_SqlReaderModel_columnOf_38 rfl 1 rfl ?_
      refine Sm_imul E d_SqlReaderModel_columnOf_39 ?_
      refine Sm_iload E d_SqlReaderModel_columnOf_40 4 rfl ?_
      refine Sm_iadd E d_SqlReaderModel_columnOf_42 ?_
      refine Sm_gd fun hi => ldM_9 E (inb_in hi) d_SqlReaderModel_columnOf_43 ?_
      refine Sm_cVi (As := [.int x2, .ref (G.1 108), .int (16 * ((8 * x1) + x4)), .int (ga u 8 ((8 * x1) + x4))]) (b := (G.1 100)) (st := []) (n := 4) E exOk wM_as (fun _ h => cM_SqlReaderModel_isName_0_8 x2 (16 * ((8 * x1) + x4)) (ga u 8 ((8 * x1) + x4)) u h) gk_SqlReaderModel_268 dk_SqlReaderModel_isName rfl ⟨rfl, rfl⟩ ⟨Nat.le_of_ble_eq_true rfl, Nat.le_of_ble_eq_true rfl⟩ (rvW (q0 := 0) (ci := 1) E rfl rfl rfl) rfl (Nat.le_of_ble_eq_true rfl) d_SqlReaderModel_columnOf_44 fun r1 _ => ?_
      refine Sm_if_eq (tgt := 55) E d_SqlReaderModel_columnOf_47 (by decide) (fun _ => ?_) (fun _ => ?_)
      · refine Sm_iload_n E d_SqlReaderModel_columnOf_55 rfl 3 rfl ?_
        refine Sm_istore_n (lv' := [(3, .int x3), (0, .ref (G.1 100)), (1, .int x1), (2, .int x2), (4, .int x4)]) E d_SqlReaderModel_columnOf_56 rfl (by decide) rfl ?_
        refine Sm_iinc (k := 4) (d := 1) E d_SqlReaderModel_columnOf_57 rfl rfl (by decide) fun y2 _ => Sm_lvs (lv' := [(4, .int y2), (3, .int x3), (0, .ref (G.1 100)), (1, .int x1), (2, .int x2)]) rfl ?_
        refine Sm_goto (tgt := 5) E d_SqlReaderModel_columnOf_60 (by decide) ?_
        exact Sm_sub [2, 3, 4, 1, 0] rfl (h5 _ _ _ _)
      · refine Sm_iload E d_SqlReaderModel_columnOf_50 4 rfl ?_
        refine Sm_goto (tgt := 56) E d_SqlReaderModel_columnOf_52 (by decide) ?_
        refine Sm_istore_n (lv' := [(3, .int x4), (0, .ref (G.1 100)), (1, .int x1), (2, .int x2), (4, .int x4)]) E d_SqlReaderModel_columnOf_56 rfl (by decide) rfl ?_
        refine Sm_iinc (k := 4) (d := 1) E d_SqlReaderModel_columnOf_57 rfl rfl (by decide) fun y3 _ => Sm_lvs (lv' := [(4, .int y3), (3, .int x4), (0, .ref (G.1 100)), (1, .int x1), (2, .int x2)]) rfl ?_
        refine Sm_goto (tgt := 5) E d_SqlReaderModel_columnOf_60 (by decide) ?_
        exact Sm_sub [2, 3, 4, 1, 0] rfl (h5 _ _ _ _)
set_option maxRecDepth 100000 in
set_option maxHeartbeats 4000000 in
theorem cM_SqlReaderModel_columnOf {l : Launch} {D : va_G} {G : Gx} (x1 : Int32) (x2 : Int32) (u : St) {res : Int32} (hm : mM_SqlReaderModel_columnOf x1 x2 u = some res) : KM l D G y_SqlReaderModel_columnOf (.code y_SqlReaderModel_columnOf prog_11_method_20_code 5 (some .int)) { frames := 1, cells := 0, slots := 0, locals := 26 } [.ref (G.1 100), .int x1, .int x2] u (qI D vwCl (wM G) (tyW G) (adsM G) (res, u)) := by
  refine Ct_i (by decide) wM_as (Nat.le_of_ble_eq_true rfl) hm (fun X _ _ E hR => ?_)
  refine Sm_lvs (lv' := [(0, .ref (G.1 100)), (1, .int x1), (2, .int x2)]) rfl ?_
  rw [mM_SqlReaderModel_columnOf]
  refine Sm_iconst (v := (-1)) E d_SqlReaderModel_columnOf_0 (by decide) ?_
  refine Sm_istore_n (lv' := [(3, .int (-1)), (0, .ref (G.1 100)), (1, .int x1), (2, .int x2)]) E d_SqlReaderModel_columnOf_1 rfl (by decide) rfl ?_
  refine Sm_iconst (v := 0) E d_SqlReaderModel_columnOf_2 (by decide) ?_
  refine Sm_istore (lv' := [(4, .int 0), (3, .int (-1)), (0, .ref (G.1 100)), (1, .int x1), (2, .int x2)]) E d_SqlReaderModel_columnOf_3 (by decide) rfl ?_
  exact Sm_sub [2, 3, 4, 1, 0] rfl (tM_SqlReaderModel_columnOf_L5 E hR FU _ _ _ _)
set_option maxRecDepth 100000 in
set_option maxHeartbeats 4000000 in
theorem tM_SqlReaderModel_column_L72 {X : Cx} {G : Gx} {res : Int32 × St} (E : EM X G prog_11_method_22_code R_SqlReaderModel 6 { frames := 4, cells := 0, slots := 0, locals := 93 }) (hR : RtI X vwCl (wM G) prog_11_method_22_code res) : ∀ (n : Nat) (x1 : Int32) (x2 : Int32) (x4 : Int32) (x5 : Int32) (u : St), SM X G 6 res (mM_SqlReaderModel_column_L72 n x1 x2 x4 x5 u) u 72 [(0, .ref (G.1 100)), (1, .int x1), (2, .int x2), (4, .int x4), (5, .int x5)] [] := by
  intro n
  induction n with
  | zero => intro x1 x2 x4 x5 u; exact Sm_none
  | succ n h72 =>
    intro x1 x2 x4 x5 u
    rw [mM_SqlReaderModel_column_L72]
    refine Sm_iload E d_SqlReaderModel_column_72 4 rfl ?_
    refine Sm_aload_n E d_SqlReaderModel_column_74 rfl 0 rfl ?_
    refine gfM_0_to E fl_SqlReaderModel_20 d_SqlReaderModel_column_75 ?_
    refine Sm_iconst (v := 0) E d_SqlReaderModel_column_78 (by decide) ?_
    refine Sm_gd fun hi => ldM_4 E (inb_in hi) d_SqlReaderModel_column_79 ?_
    refine Sm_icmp_ge (tgt := 109) E d_SqlReaderModel_column_80 (by decide) (fun _ => ?_) (fun _ => ?_)
    · refine Sm_aload_n E d_SqlReaderModel_column_109 rfl 0 rfl ?_
      refine gfM_0_columnSize E fl_SqlReaderModel_35 d_SqlReaderModel_column_110 ?_
      refine Sm_iload E d_SqlReaderModel_column_113 3 rfl ?_
      refine Sm_aload_n E d_SqlReaderModel_column_115 rfl 0 rfl ?_
      refine gfM_0_to E fl_SqlReaderModel_20 d_SqlReaderModel_column_116 ?_
      refine Sm_iconst (v := 0) E d_SqlReaderModel_column_119 (by decide) ?_
      refine Sm_gd fun hi => ldM_4 E (inb_in hi) d_SqlReaderModel_column_120 ?_
      refine Sm_gd fun hi => stM_9 E (inb_in hi) d_SqlReaderModel_column_121 fun u5 _ => ?_
      refine Sm_aload_n E d_SqlReaderModel_column_122 rfl 0 rfl ?_
      refine gfM_0_columnType E fl_SqlReaderModel_38 d_SqlReaderModel_column_123 ?_
      refine Sm_iload E d_SqlReaderModel_column_126 3 rfl ?_
      refine Sm_iload_n E d_SqlReaderModel_column_128 rfl 2 rfl ?_
      refine Sm_gd fun hi => stM_10 E (inb_in hi) d_SqlReaderModel_column_129 fun u6 _ => ?_
      refine Sm_aload_n E d_SqlReaderModel_column_130 rfl 0 rfl ?_
      refine gfM_0_width E fl_SqlReaderModel_29 d_SqlReaderModel_column_131 ?_
      refine Sm_iload_n E d_SqlReaderModel_column_134 rfl 1 rfl ?_
      refine Sm_dup2 E d_SqlReaderModel_column_135 rfl rfl ?_
      refine Sm_gd fun hi => ldM_7 E (inb_in hi) d_SqlReaderModel_column_136 ?_
      refine Sm_iconst (v := 1) E d_SqlReaderModel_column_137 (by decide) ?_
      refine Sm_iadd E d_SqlReaderModel_column_138 ?_
      refine Sm_gd fun hi => stM_7 E (inb_in hi) d_SqlReaderModel_column_139 fun u7 _ => ?_
      refine Sm_aload_n E d_SqlReaderModel_column_140 rfl 0 rfl ?_
      refine gfM_0_width E fl_SqlReaderModel_29 d_SqlReaderModel_column_141 ?_
      refine Sm_iload_n E d_SqlReaderModel_column_144 rfl 1 rfl ?_
      refine Sm_gd fun hi => ldM_7 E (inb_in hi) d_SqlReaderModel_column_145 ?_
      refine Sm_iconst (v := 1) E d_SqlReaderModel_column_146 (by decide) ?_
      refine Sm_isub E d_SqlReaderModel_column_147 ?_
      exact Sm_retI hR d_SqlReaderModel_column_148
    · refine Sm_aload_n E d_SqlReaderModel_column_83 rfl 0 rfl ?_
      refine gfM_0_columnNames E fl_SqlReaderModel_32 d_SqlReaderModel_column_84 ?_
      refine Sm_bipush (v := 16) E d_SqlReaderModel_column_87 (by decide) ?_
      refine Sm_iload E d_SqlReaderModel_column_89 3 rfl ?_
      refine Sm_imul E d_SqlReaderModel_column_91 ?_
      refine Sm_iload E d_SqlReaderModel_column_92 4 rfl ?_
      refine Sm_iadd E d_SqlReaderModel_column_94 ?_
      refine Sm_aload_n E d_SqlReaderModel_column_95 rfl 0 rfl ?_
      refine gfM_0_text E fl_SqlReaderModel_7 d_SqlReaderModel_column_96 ?_
      refine Sm_iload E d_SqlReaderModel_column_99 4 rfl ?_
      refine Sm_gd fun hi => ldM_1 E (inb_in hi) d_SqlReaderModel_column_101 ?_
      refine Sm_gd fun hi => stM_8 E (inb_in hi) d_SqlReaderModel_column_102 fun u8 _ => ?_
      refine Sm_iinc (k := 4) (d := 1) E d_SqlReaderModel_column_103 rfl rfl (by decide) fun y9 _ => Sm_lvs (lv' := [(5, .int y9), (0, .ref (G.1 100)), (1, .int x1), (2, .int x2), (4, .int x4)]) rfl ?_
      refine Sm_goto (tgt := 72) E d_SqlReaderModel_column_106 (by decide) ?_
      exact Sm_sub [1, 2, 3, 4, 0] rfl (h72 _ _ _ _ _)
set_option maxRecDepth 100000 in
set_option maxHeartbeats 4000000 in
theorem cM_SqlReaderModel_column {l : Launch} {D : va_G} {G : Gx} (x1 : Int32) (x2 : Int32) (u : St) {res : Int32 × St} (hm : mM_SqlReaderModel_column x1 x2 u = some res) : KM l D G y_SqlReaderModel_column (.code y_SqlReaderModel_column prog_11_method_22_code 6 (some .int)) { frames := 4, cells := 0, slots := 0, locals := 93 } [.ref (G.1 100), .int x1, .int x2] u (qI D vwCl (wM G) (tyW G) (adsM G) res) := by
  refine Ct_I (by decide) wM_as (Nat.le_of_ble_eq_true rfl) hm (fun X _ _ E hR => ?_)
  refine Sm_lvs (lv' := [(0, .ref (G.1 100)), (1, .int x1), (2, .int x2)]) rfl ?_
  rw [mM_SqlReaderModel_column]
  refine Sm_aload_n E d_SqlReaderModel_column_0 rfl 0 rfl ?_
  refine Sm_cVI (As := []) (b := (G.1 100)) (st := []) (n := 0) E exOk wM_as (fun _ h => cM_SqlReaderModel_takesName u h) gk_SqlReaderModel_272 dk_SqlReaderModel_takesName rfl ⟨rfl, rfl⟩ ⟨Nat.le_of_ble_eq_true rfl, Nat.le_of_ble_eq_true rfl⟩ (rvW (q0 := 0) (ci := 1) E rfl rfl rfl) rfl (Nat.le_of_ble_eq_true rfl) d_SqlReaderModel_column_1 fun r1 u2 _ => ?_
  refine Sm_istore_n (lv' := [(3, .int r1), (0, .ref (G.1 100)), (1, .int x1), (2, .int x2)]) E d_SqlReaderModel_column_4 rfl (by decide) rfl ?_
  refine Sm_iload_n E d_SqlReaderModel_column_5 rfl 0 rfl ?_
  refine Sm_if_eq (tgt := 42) E d_SqlReaderModel_column_6 (by decide) (fun _ => ?_) (fun _ => ?_)
  · refine Sm_iconst (v := (-1)) E d_SqlReaderModel_column_42 (by decide) ?_
    exact Sm_retI hR d_SqlReaderModel_column_43
  · refine Sm_iload_n E d_SqlReaderModel_column_9 rfl 2 rfl ?_
    refine Sm_if_lt (tgt := 42) E d_SqlReaderModel_column_10 (by decide) (fun _ => ?_) (fun _ => ?_)
    · refine Sm_iconst (v := (-1)) E d_SqlReaderModel_column_42 (by decide) ?_
      exact Sm_retI hR d_SqlReaderModel_column_43
    · refine Sm_iload_n E d_SqlReaderModel_column_13 rfl 2 rfl ?_
      refine Sm_aload_n E d_SqlReaderModel_column_14 rfl 1 rfl ?_
      refine gfM_0_tables E fl_SqlReaderModel_265 d_SqlReaderModel_column_15 ?_
      refine Sm_icmp_ge (tgt := 42) E d_SqlReaderModel_column_18 (by decide) (fun _ => ?_) (fun _ => ?_)
      · refine Sm_iconst (v := (-1)) E d_SqlReaderModel_column_42 (by decide) ?_
        exact Sm_retI hR d_SqlReaderModel_column_43
      · refine Sm_aload_n E d_SqlReaderModel_column_21 rfl 1 rfl ?_
        refine gfM_0_width E fl_SqlReaderModel_29 d_SqlReaderModel_column_22 ?_
        refine Sm_iload_n E d_SqlReaderModel_column_25 rfl 2 rfl ?_
        refine Sm_gd fun hi => ldM_7 E (inb_in hi) d_SqlReaderModel_column_26 ?_
        refine Sm_bipush (v := 8) E d_SqlReaderModel_column_27 (by decide) ?_
        refine Sm_icmp_eq (tgt := 42) E d_SqlReaderModel_column_29 (by decide) (fun _ => ?_) (fun _ => ?_)
        · refine Sm_iconst (v := (-1)) E d_SqlReaderModel_column_42 (by decide) ?_
          exact Sm_retI hR d_SqlReaderModel_column_43
        · refine Sm_iload_n E d_SqlReaderModel_column_32 rfl 3 rfl ?_
          refine Sm_iconst (v := 1) E d_SqlReaderModel_column_33 (by decide) ?_
          refine Sm_icmp_lt (tgt := 42) E d_SqlReaderModel_column_34 (by decide) (fun _ => ?_) (fun _ => ?_)
          · refine Sm_iconst (v := (-1)) E d_SqlReaderModel_column_42 (by decide) ?_
            exact Sm_retI hR d_SqlReaderModel_column_43
          · refine Sm_iload_n E d_SqlReaderModel_column_37 rfl 3 rfl ?_
            refine Sm_iconst (v := 3) E d_SqlReaderModel_column_38 (by decide) ?_
            refine Sm_icmp_le (tgt := 44) E d_SqlReaderModel_column_39 (by decide) (fun _ => ?_) (fun _ => ?_)
            · refine Sm_aload_n E d_SqlReaderModel_column_44 rfl 1 rfl ?_
              refine Sm_iload_n E d_SqlReaderModel_column_45 rfl 2 rfl ?_
              refine Sm_iconst (v := 0) E d_SqlReaderModel_column_46 (by decide) ?_
              refine Sm_cVi (As := [.int x1, .int 0]) (b := (G.1 100)) (st := []) (n := 2) E exOk wM_as (fun _ h => cM_SqlReaderModel_columnOf x1 0 u2 h) gk_SqlReaderModel_279 dk_SqlReaderModel_columnOf rfl ⟨rfl, rfl⟩ ⟨Nat.le_of_ble_eq_true rfl, Nat.le_of_ble_eq_true rfl⟩ (rvW (q0 := 0) (ci := 1) E rfl rfl rfl) rfl (Nat.le_of_ble_eq_true rfl) d_SqlReaderModel_column_47 fun r3 _ => ?_
              refine Sm_if_lt (tgt := 56) E d_SqlReaderModel_column_50 (by decide) (fun _ => ?_) (fun _ => ?_)
              · refine Sm_bipush (v := 8) E d_SqlReaderModel_column_56 (by decide) ?_
                refine Sm_iload_n E d_SqlReaderModel_column_58 rfl 2 rfl ?_
                refine Sm_imul E d_SqlReaderModel_column_59 ?_
                refine Sm_aload_n E d_SqlReaderModel_column_60 rfl 1 rfl ?_
                refine gfM_0_width E fl_SqlReaderModel_29 d_SqlReaderModel_column_61 ?_
                refine Sm_iload_n E d_SqlReaderModel_column_64 rfl 2 rfl ?_
                refine Sm_gd fun hi => ldM_7 E (inb_in hi) d_SqlReaderModel_column_65 ?_
                refine Sm_iadd E d_SqlReaderModel_column_66 ?_
                refine Sm_leti fun y4 _ => ?_
                refine Sm_istore (lv' := [(4, .int y4), (3, .int r1), (0, .ref (G.1 100)), (1, .int x1), (2, .int x2)]) E d_SqlReaderModel_column_67 (by decide) rfl ?_
                refine Sm_iconst (v := 0) E d_SqlReaderModel_column_69 (by decide) ?_
                refine Sm_istore (lv' := [(5, .int 0), (4, .int y4), (3, .int r1), (0, .ref (G.1 100)), (1, .int x1), (2, .int x2)]) E d_SqlReaderModel_column_70 (by decide) rfl ?_
                exact Sm_sub [3, 4, 5, 1, 0] rfl (tM_SqlReaderModel_column_L72 E hR FU _ _ _ _ _)
              · refine Sm_bipush (v := (-2)) E d_SqlReaderModel_column_53 (by decide) ?_
                exact Sm_retI hR d_SqlReaderModel_column_55
            · refine Sm_iconst (v := (-1)) E d_SqlReaderModel_column_42 (by decide) ?_
              exact Sm_retI hR d_SqlReaderModel_column_43
set_option maxRecDepth 100000 in
set_option maxHeartbeats 4000000 in
theorem tM_SqlReaderModel_forget_L129 {X : Cx} {G : Gx} {res : St} (E : EM X G prog_11_method_2_code R_SqlReaderModel 2 { frames := 0, cells := 0, slots := 0, locals := 0 }) (hR : RtV X vwCl (wM G) prog_11_method_2_code res) : ∀ (n : Nat) (x1 : Int32) (u : St), SM X G 2 res (mM_SqlReaderModel_forget_L129 n x1 u) u 129 [(0, .ref (G.1 100)), (1, .int x1)] [] := by
  intro n
  induction n with
  | zero => intro x1 u; exact Sm_none
  | succ n h129 =>
    intro x1 u
    rw [mM_SqlReaderModel_forget_L129]
    refine Sm_iload_n E d_SqlReaderModel_forget_129 rfl 1 rfl ?_
    refine Sm_bipush (v := 10) E d_SqlReaderModel_forget_130 (by decide) ?_
    refine Sm_icmp_ge (tgt := 148) E d_SqlReaderModel_forget_132 (by decide) (fun _ => ?_) (fun _ => ?_)
    · exact Sm_retV hR d_SqlReaderModel_forget_148
    · refine Sm_aload_n E d_SqlReaderModel_forget_135 rfl 0 rfl ?_
      refine gfM_0_needed E fl_SqlReaderModel_118 d_SqlReaderModel_forget_136 ?_
      refine Sm_iload_n E d_SqlReaderModel_forget_139 rfl 1 rfl ?_
      refine Sm_iconst (v := 0) E d_SqlReaderModel_forget_140 (by decide) ?_
      refine Sm_gd fun hi => stM_36 E (inb_in hi) d_SqlReaderModel_forget_141 fun u26 _ => ?_
      refine Sm_iinc (k := 1) (d := 1) E d_SqlReaderModel_forget_142 rfl rfl (by decide) fun y27 _ => Sm_lvs (lv' := [(1, .int y27), (0, .ref (G.1 100))]) rfl ?_
      refine Sm_goto (tgt := 129) E d_SqlReaderModel_forget_145 (by decide) ?_
      exact Sm_sub [1, 0] rfl (h129 _ _)
set_option maxRecDepth 100000 in
set_option maxHeartbeats 4000000 in
theorem cM_SqlReaderModel_forget {l : Launch} {D : va_G} {G : Gx} (u : St) {res : St} (hm : mM_SqlReaderModel_forget u = some res) : KM l D G y_SqlReaderModel_forget (.code y_SqlReaderModel_forget prog_11_method_2_code 2 none) { frames := 0, cells := 0, slots := 0, locals := 0 } [.ref (G.1 100)] u (qV D vwCl (wM G) (tyW G) (adsM G) res) := by
  refine Ct_V (by decide) wM_as (Nat.le_of_ble_eq_true rfl) hm (fun X _ _ E hR => ?_)
  refine Sm_lvs (lv' := [(0, .ref (G.1 100))]) rfl ?_
  rw [mM_SqlReaderModel_forget]
  refine Sm_aload_n E d_SqlReaderModel_forget_0 rfl 0 rfl ?_
  refine Sm_iconst (v := 0) E d_SqlReaderModel_forget_1 (by decide) ?_
  refine pfM_0_nodes E fl_SqlReaderModel_133 d_SqlReaderModel_forget_2 fun u1 _ => ?_
  refine Sm_aload_n E d_SqlReaderModel_forget_5 rfl 0 rfl ?_
  refine Sm_iconst (v := 0) E d_SqlReaderModel_forget_6 (by decide) ?_
  refine pfM_0_checks E fl_SqlReaderModel_137 d_SqlReaderModel_forget_7 fun u2 _ => ?_
  refine Sm_aload_n E d_SqlReaderModel_forget_10 rfl 0 rfl ?_
  refine Sm_iconst (v := 0) E d_SqlReaderModel_forget_11 (by decide) ?_
  refine pfM_0_what E fl_SqlReaderModel_140 d_SqlReaderModel_forget_12 fun u3 _ => ?_
  refine Sm_aload_n E d_SqlReaderModel_forget_15 rfl 0 rfl ?_
  refine Sm_iconst (v := 0) E d_SqlReaderModel_forget_16 (by decide) ?_
  refine pfM_0_inner E fl_SqlReaderModel_143 d_SqlReaderModel_forget_17 fun u4 _ => ?_
  refine Sm_aload_n E d_SqlReaderModel_forget_20 rfl 0 rfl ?_
  refine Sm_iconst (v := (-1)) E d_SqlReaderModel_forget_21 (by decide) ?_
  refine pfM_0_target E fl_SqlReaderModel_146 d_SqlReaderModel_forget_22 fun u5 _ => ?_
  refine Sm_aload_n E d_SqlReaderModel_forget_25 rfl 0 rfl ?_
  refine Sm_iconst (v := (-1)) E d_SqlReaderModel_forget_26 (by decide) ?_
  refine pfM_0_targetToken E fl_SqlReaderModel_149 d_SqlReaderModel_forget_27 fun u6 _ => ?_
  refine Sm_aload_n E d_SqlReaderModel_forget_30 rfl 0 rfl ?_
  refine Sm_iconst (v := 0) E d_SqlReaderModel_forget_31 (by decide) ?_
  refine pfM_0_mode E fl_SqlReaderModel_152 d_SqlReaderModel_forget_32 fun u7 _ => ?_
  refine Sm_aload_n E d_SqlReaderModel_forget_35 rfl 0 rfl ?_
  refine Sm_iconst (v := (-1)) E d_SqlReaderModel_forget_36 (by decide) ?_
  refine pfM_0_named0 E fl_SqlReaderModel_155 d_SqlReaderModel_forget_37 fun u8 _ => ?_
  refine Sm_aload_n E d_SqlReaderModel_forget_40 rfl 0 rfl ?_
  refine Sm_iconst (v := 0) E d_SqlReaderModel_forget_41 (by decide) ?_
  refine pfM_0_star E fl_SqlReaderModel_158 d_SqlReaderModel_forget_42 (by decide) rfl fun u9 _ => ?_
  refine Sm_aload_n E d_SqlReaderModel_forget_45 rfl 0 rfl ?_
  refine Sm_iconst (v := 0) E d_SqlReaderModel_forget_46 (by decide) ?_
  refine pfM_0_distinct E fl_SqlReaderModel_162 d_SqlReaderModel_forget_47 (by decide) rfl fun u10 _ => ?_
  refine Sm_aload_n E d_SqlReaderModel_forget_50 rfl 0 rfl ?_
  refine Sm_ldc2 (v := (-1)) E kc_SqlReaderModel_165 d_SqlReaderModel_forget_51 ?_
  refine pfM_0_limit E fl_SqlReaderModel_167 d_SqlReaderModel_forget_54 fun u11 _ => ?_
  refine Sm_aload_n E d_SqlReaderModel_forget_57 rfl 0 rfl ?_
  refine Sm_iconst (v := (-1)) E d_SqlReaderModel_forget_58 (by decide) ?_
  refine pfM_0_where E fl_SqlReaderModel_171 d_SqlReaderModel_forget_59 fun u12 _ => ?_
  refine Sm_aload_n E d_SqlReaderModel_forget_62 rfl 0 rfl ?_
  refine Sm_iconst (v := 0) E d_SqlReaderModel_forget_63 (by decide) ?_
  refine pfM_0_items E fl_SqlReaderModel_174 d_SqlReaderModel_forget_64 fun u13 _ => ?_
  refine Sm_aload_n E d_SqlReaderModel_forget_67 rfl 0 rfl ?_
  refine Sm_iconst (v := 0) E d_SqlReaderModel_forget_68 (by decide) ?_
  refine pfM_0_groups E fl_SqlReaderModel_177 d_SqlReaderModel_forget_69 fun u14 _ => ?_
  refine Sm_aload_n E d_SqlReaderModel_forget_72 rfl 0 rfl ?_
  refine Sm_iconst (v := 0) E d_SqlReaderModel_forget_73 (by decide) ?_
  refine pfM_0_orders E fl_SqlReaderModel_180 d_SqlReaderModel_forget_74 fun u15 _ => ?_
  refine Sm_aload_n E d_SqlReaderModel_forget_77 rfl 0 rfl ?_
  refine Sm_iconst (v := 0) E d_SqlReaderModel_forget_78 (by decide) ?_
  refine pfM_0_froms E fl_SqlReaderModel_183 d_SqlReaderModel_forget_79 fun u16 _ => ?_
  refine Sm_aload_n E d_SqlReaderModel_forget_82 rfl 0 rfl ?_
  refine Sm_iconst (v := 0) E d_SqlReaderModel_forget_83 (by decide) ?_
  refine pfM_0_sets E fl_SqlReaderModel_186 d_SqlReaderModel_forget_84 fun u17 _ => ?_
  refine Sm_aload_n E d_SqlReaderModel_forget_87 rfl 0 rfl ?_
  refine Sm_iconst (v := 0) E d_SqlReaderModel_forget_88 (by decide) ?_
  refine pfM_0_rows E fl_SqlReaderModel_189 d_SqlReaderModel_forget_89 fun u18 _ => ?_
  refine Sm_aload_n E d_SqlReaderModel_forget_92 rfl 0 rfl ?_
  refine Sm_iconst (v := 0) E d_SqlReaderModel_forget_93 (by decide) ?_
  refine pfM_0_uneven E fl_SqlReaderModel_192 d_SqlReaderModel_forget_94 (by decide) rfl fun u19 _ => ?_
  refine Sm_aload_n E d_SqlReaderModel_forget_97 rfl 0 rfl ?_
  refine Sm_iconst (v := 0) E d_SqlReaderModel_forget_98 (by decide) ?_
  refine pfM_0_values E fl_SqlReaderModel_195 d_SqlReaderModel_forget_99 fun u20 _ => ?_
  refine Sm_aload_n E d_SqlReaderModel_forget_102 rfl 0 rfl ?_
  refine Sm_iconst (v := 0) E d_SqlReaderModel_forget_103 (by decide) ?_
  refine pfM_0_columns E fl_SqlReaderModel_198 d_SqlReaderModel_forget_104 fun u21 _ => ?_
  refine Sm_aload_n E d_SqlReaderModel_forget_107 rfl 0 rfl ?_
  refine Sm_iconst (v := (-1)) E d_SqlReaderModel_forget_108 (by decide) ?_
  refine pfM_0_indexed E fl_SqlReaderModel_201 d_SqlReaderModel_forget_109 fun u22 _ => ?_
  refine Sm_aload_n E d_SqlReaderModel_forget_112 rfl 0 rfl ?_
  refine Sm_iconst (v := (-1)) E d_SqlReaderModel_forget_113 (by decide) ?_
  refine pfM_0_indexedToken E fl_SqlReaderModel_204 d_SqlReaderModel_forget_114 fun u23 _ => ?_
  refine Sm_aload_n E d_SqlReaderModel_forget_117 rfl 0 rfl ?_
  refine Sm_iconst (v := 0) E d_SqlReaderModel_forget_118 (by decide) ?_
  refine pfM_0_unique E fl_SqlReaderModel_207 d_SqlReaderModel_forget_119 (by decide) rfl fun u24 _ => ?_
  refine Sm_aload_n E d_SqlReaderModel_forget_122 rfl 0 rfl ?_
  refine Sm_iconst (v := 0) E d_SqlReaderModel_forget_123 (by decide) ?_
  refine pfM_0_highest E fl_SqlReaderModel_210 d_SqlReaderModel_forget_124 fun u25 _ => ?_
  refine Sm_iconst (v := 0) E d_SqlReaderModel_forget_127 (by decide) ?_
  refine Sm_istore_n (lv' := [(1, .int 0), (0, .ref (G.1 100))]) E d_SqlReaderModel_forget_128 rfl (by decide) rfl ?_
  exact Sm_sub [1, 0] rfl (tM_SqlReaderModel_forget_L129 E hR FU _ _)
set_option maxRecDepth 100000 in
set_option maxHeartbeats 4000000 in
theorem cM_String_coder {l : Launch} {D : va_G} {G : Gx} (k0 : Nat) (u : St) {res : Int32} (hm : mM_String_coder k0 u = some res) : KM l D G y_String_coder (.code y_String_coder prog_14_method_152_code 1 (some .byte)) { frames := 0, cells := 0, slots := 0, locals := 0 } [.ref (G.2.2.1 k0)] u (qI D vwCl (wM G) (tyW G) (adsM G) (res, u)) := by
  refine Ct_z (by decide) wM_as (Nat.le_of_ble_eq_true rfl) hm (fun X _ _ E hR => ?_)
  refine Sm_lvs (lv' := [(0, .ref (G.2.2.1 k0))]) rfl ?_
  rw [mM_String_coder]
  refine Sm_gsC E fl_String_38 d_String_coder_0 ?_
  refine Sm_if_eq_f (tgt := 13) E d_String_coder_3 (by decide) (by decide) ?_
  refine Sm_aload_n E d_String_coder_6 rfl 0 rfl ?_
  refine Sm_gd fun hk => Sm_strC E hk fl_String_15 d_String_coder_7 ?_
  refine Sm_goto (tgt := 14) E d_String_coder_10 (by decide) ?_
  exact Sm_retz hR (by decide) d_String_coder_14
set_option maxRecDepth 100000 in
set_option maxHeartbeats 4000000 in
theorem cM_String_length {l : Launch} {D : va_G} {G : Gx} (k0 : Nat) (u : St) {res : Int32} (hm : mM_String_length k0 u = some res) : KM l D G y_String_length (.code y_String_length prog_14_method_54_code 1 (some .int)) { frames := 1, cells := 0, slots := 0, locals := 20 } [.ref (G.2.2.1 k0)] u (qI D vwCl (wM G) (tyW G) (adsM G) (res, u)) := by
  refine Ct_i (by decide) wM_as (Nat.le_of_ble_eq_true rfl) hm (fun X _ _ E hR => ?_)
  refine Sm_lvs (lv' := [(0, .ref (G.2.2.1 k0))]) rfl ?_
  rw [mM_String_length]
  refine Sm_aload_n E d_String_length_0 rfl 0 rfl ?_
  refine Sm_gd fun hk => Sm_strV E hk fl_String_9 d_String_length_1 ?_
  refine Sm_gd fun hk => Sm_strn E hk d_String_length_4 ?_
  refine Sm_aload_n E d_String_length_5 rfl 0 rfl ?_
  refine Sm_gd fun hk => Sm_cVi (As := []) (b := (G.2.2.1 k0)) (st := [.int (nI (lnK k0))]) (n := 0) E exOk wM_as (fun _ h => cM_String_coder k0 u h) gk_String_335 dk_String_coder rfl ⟨rfl, rfl⟩ ⟨Nat.le_of_ble_eq_true rfl, Nat.le_of_ble_eq_true rfl⟩ (rvS E hk rfl) rfl (Nat.le_of_ble_eq_true rfl) d_String_length_6 fun r1 _ => ?_
  refine Sm_ishr E d_String_length_9 ?_
  exact Sm_reti hR d_String_length_10
set_option maxRecDepth 100000 in
set_option maxHeartbeats 4000000 in
theorem cM_String_isLatin1 {l : Launch} {D : va_G} {G : Gx} (k0 : Nat) (u : St) {res : Int32} (hm : mM_String_isLatin1 k0 u = some res) : KM l D G y_String_isLatin1 (.code y_String_isLatin1 prog_14_method_154_code 1 (some .boolean)) { frames := 0, cells := 0, slots := 0, locals := 0 } [.ref (G.2.2.1 k0)] u (qI D vwCl (wM G) (tyW G) (adsM G) (res, u)) := by
  refine Ct_z (by decide) wM_as (Nat.le_of_ble_eq_true rfl) hm (fun X _ _ E hR => ?_)
  refine Sm_lvs (lv' := [(0, .ref (G.2.2.1 k0))]) rfl ?_
  rw [mM_String_isLatin1]
  refine Sm_gsC E fl_String_38 d_String_isLatin1_0 ?_
  refine Sm_if_eq_f (tgt := 17) E d_String_isLatin1_3 (by decide) (by decide) ?_
  refine Sm_aload_n E d_String_isLatin1_6 rfl 0 rfl ?_
  refine Sm_gd fun hk => Sm_strC E hk fl_String_15 d_String_isLatin1_7 ?_
  refine Sm_if_ne_f (tgt := 17) E d_String_isLatin1_10 (by decide) (by decide) ?_
  refine Sm_iconst (v := 1) E d_String_isLatin1_13 (by decide) ?_
  refine Sm_goto (tgt := 18) E d_String_isLatin1_14 (by decide) ?_
  exact Sm_retz hR (by decide) d_String_isLatin1_18
set_option maxRecDepth 100000 in
set_option maxHeartbeats 4000000 in
theorem cM_Preconditions_checkIndex {l : Launch} {D : va_G} {G : Gx} (x0 : Int32) (x1 : Int32) (u : St) {res : Int32} (hm : mM_Preconditions_checkIndex x0 x1 u = some res) : KM l D G y_Preconditions_checkIndex (.code y_Preconditions_checkIndex prog_19_method_11_code 3 (some .int)) { frames := 0, cells := 0, slots := 0, locals := 0 } [.int x0, .int x1, va_rf G.2.2.2.2.2] u (qI D vwCl (wM G) (tyW G) (adsM G) (res, u)) := by
  refine Ct_i (by decide) wM_as (by cases G.2.2.2.2.2 <;> exact Nat.le_of_ble_eq_true rfl) hm (fun X _ _ E hR => ?_)
  refine Sm_lvs (lv' := [(0, .int x0), (1, .int x1), (2, va_rf G.2.2.2.2.2)]) rfl ?_
  rw [mM_Preconditions_checkIndex]
  refine Sm_iload_n E d_Preconditions_checkIndex_0 rfl 0 rfl ?_
  refine Sm_if_lt (tgt := 9) E d_Preconditions_checkIndex_1 (by decide) (fun _ => ?_) (fun _ => ?_)
  · exact Sm_none
  · refine Sm_iload_n E d_Preconditions_checkIndex_4 rfl 0 rfl ?_
    refine Sm_iload_n E d_Preconditions_checkIndex_5 rfl 1 rfl ?_
    refine Sm_icmp_lt (tgt := 16) E d_Preconditions_checkIndex_6 (by decide) (fun _ => ?_) (fun _ => ?_)
    · refine Sm_iload_n E d_Preconditions_checkIndex_16 rfl 0 rfl ?_
      exact Sm_reti hR d_Preconditions_checkIndex_17
    · exact Sm_none
set_option maxRecDepth 100000 in
set_option maxHeartbeats 4000000 in
theorem cM_String_checkIndex {l : Launch} {D : va_G} {G : Gx} (x0 : Int32) (x1 : Int32) (u : St) (hm : mM_String_checkIndex x0 x1 u = some ()) : KM l D G y_String_checkIndex (.code y_String_checkIndex prog_14_method_155_code 2 none) { frames := 1, cells := 0, slots := 0, locals := 22 } [.int x0, .int x1] u (qV D vwCl (wM G) (tyW G) (adsM G) u) := by
  refine Ct_v (by decide) wM_as (Nat.le_of_ble_eq_true rfl) hm (fun X _ _ E hR => ?_)
  refine Sm_lvs (lv' := [(0, .int x0), (1, .int x1)]) rfl ?_
  rw [mM_String_checkIndex]
  refine Sm_iload_n E d_String_checkIndex_0 rfl 0 rfl ?_
  refine Sm_iload_n E d_String_checkIndex_1 rfl 1 rfl ?_
  refine Sm_gsX E fl_String_1053 d_String_checkIndex_2 ?_
  refine Sm_cSi (As := [.int x0, .int x1, va_rf G.2.2.2.2.2]) (st := []) (n := 3) E exOk wM_as (fun _ h => cM_Preconditions_checkIndex x0 x1 u h) gk_String_1059 dk_Preconditions_checkIndex rfl ⟨rfl, rfl⟩ ⟨Nat.le_of_ble_eq_true rfl, Nat.le_of_ble_eq_true rfl⟩ rfl (Nat.le_of_ble_eq_true rfl) d_String_checkIndex_5 fun r1 _ => ?_
  refine Sm_pop E d_String_checkIndex_8 rfl ?_
  exact Sm_retv hR d_String_checkIndex_9
set_option maxRecDepth 100000 in
set_option maxHeartbeats 4000000 in
theorem cM_StringLatin1_charAt {l : Launch} {D : va_G} {G : Gx} (k0 : Nat) (x1 : Int32) (u : St) {res : Int32} (hm : mM_StringLatin1_charAt k0 x1 u = some res) : KM l D G y_StringLatin1_charAt (.code y_StringLatin1_charAt prog_15_method_2_code 2 (some .char)) { frames := 2, cells := 0, slots := 0, locals := 43 } [.ref (G.2.2.2.1 k0), .int x1] u (qI D vwCl (wM G) (tyW G) (adsM G) (res, u)) := by
  refine Ct_z (by decide) wM_as (Nat.le_of_ble_eq_true rfl) hm (fun X _ _ E hR => ?_)
  refine Sm_lvs (lv' := [(0, .ref (G.2.2.2.1 k0)), (1, .int x1)]) rfl ?_
  rw [mM_StringLatin1_charAt]
  refine Sm_iload_n E d_StringLatin1_charAt_0 rfl 1 rfl ?_
  refine Sm_aload_n E d_StringLatin1_charAt_1 rfl 0 rfl ?_
  refine Sm_gd fun hk => Sm_strn E hk d_StringLatin1_charAt_2 ?_
  refine Sm_cSv (As := [.int x1, .int (nI (lnK k0))]) (st := []) (n := 2) E exOk wM_as (fun h => cM_String_checkIndex x1 (nI (lnK k0)) u h) gk_StringLatin1_9 dk_String_checkIndex rfl ⟨rfl, rfl⟩ ⟨Nat.le_of_ble_eq_true rfl, Nat.le_of_ble_eq_true rfl⟩ rfl (Nat.le_of_ble_eq_true rfl) d_StringLatin1_charAt_3 fun _ _ => ?_
  refine Sm_aload_n E d_StringLatin1_charAt_6 rfl 0 rfl ?_
  refine Sm_iload_n E d_StringLatin1_charAt_7 rfl 1 rfl ?_
  refine Sm_gd fun hk => Sm_gd fun hi => Sm_strb E hk (inb_in hi) d_StringLatin1_charAt_8 ?_
  refine Sm_sipush (v := 255) E d_StringLatin1_charAt_9 (by decide) ?_
  refine Sm_iand E d_StringLatin1_charAt_12 ?_
  refine Sm_i2c E d_StringLatin1_charAt_13 ?_
  exact Sm_retz hR (pk_nc _) d_StringLatin1_charAt_14
set_option maxRecDepth 100000 in
set_option maxHeartbeats 4000000 in
theorem cM_String_charAt {l : Launch} {D : va_G} {G : Gx} (k0 : Nat) (x1 : Int32) (u : St) {res : Int32} (hm : mM_String_charAt k0 x1 u = some res) : KM l D G y_String_charAt (.code y_String_charAt prog_14_method_56_code 2 (some .char)) { frames := 3, cells := 0, slots := 0, locals := 64 } [.ref (G.2.2.1 k0), .int x1] u (qI D vwCl (wM G) (tyW G) (adsM G) (res, u)) := by
  refine Ct_z (by decide) wM_as (Nat.le_of_ble_eq_true rfl) hm (fun X _ _ E hR => ?_)
  refine Sm_lvs (lv' := [(0, .ref (G.2.2.1 k0)), (1, .int x1)]) rfl ?_
  rw [mM_String_charAt]
  refine Sm_aload_n E d_String_charAt_0 rfl 0 rfl ?_
  refine Sm_gd fun hk => Sm_cVi (As := []) (b := (G.2.2.1 k0)) (st := []) (n := 0) E exOk wM_as (fun _ h => cM_String_isLatin1 k0 u h) gk_String_492 dk_String_isLatin1 rfl ⟨rfl, rfl⟩ ⟨Nat.le_of_ble_eq_true rfl, Nat.le_of_ble_eq_true rfl⟩ (rvS E hk rfl) rfl (Nat.le_of_ble_eq_true rfl) d_String_charAt_1 fun r1 _ => ?_
  refine Sm_if_eq (tgt := 16) E d_String_charAt_4 (by decide) (fun _ => ?_) (fun _ => ?_)
  · refine Sm_aload_n E d_String_charAt_16 rfl 0 rfl ?_
    refine Sm_gd fun hk => Sm_strV E hk fl_String_9 d_String_charAt_17 ?_
    refine Sm_iload_n E d_String_charAt_20 rfl 1 rfl ?_
    exact Sm_none
  · refine Sm_aload_n E d_String_charAt_7 rfl 0 rfl ?_
    refine Sm_gd fun hk => Sm_strV E hk fl_String_9 d_String_charAt_8 ?_
    refine Sm_iload_n E d_String_charAt_11 rfl 1 rfl ?_
    refine Sm_cSi (As := [.ref (G.2.2.2.1 k0), .int x1]) (st := []) (n := 2) E exOk wM_as (fun _ h => cM_StringLatin1_charAt k0 x1 u h) gk_String_495 dk_StringLatin1_charAt rfl ⟨rfl, rfl⟩ ⟨Nat.le_of_ble_eq_true rfl, Nat.le_of_ble_eq_true rfl⟩ rfl (Nat.le_of_ble_eq_true rfl) d_String_charAt_12 fun r2 _ => ?_
    exact Sm_gd fun hz => Sm_retz hR (cb_n hz) d_String_charAt_15
set_option maxRecDepth 100000 in
set_option maxHeartbeats 4000000 in
theorem tM_SqlReaderModel_is_L58 {X : Cx} {G : Gx} {res : Int32} {u : St} (E : EM X G prog_11_method_13_code R_SqlReaderModel 5 { frames := 4, cells := 0, slots := 0, locals := 85 }) (hR : RtZ X vwCl (wM G) prog_11_method_13_code .boolean (res, u)) : ∀ (n : Nat) (x1 : Int32) (k2 : Nat) (x3 : Int32) (x4 : Int32) , SM X G 5 res (mM_SqlReaderModel_is_L58 n x1 k2 x3 x4 u) u 58 [(0, .ref (G.1 100)), (1, .int x1), (2, .ref (G.2.2.1 k2)), (3, .int x3), (4, .int x4)] [] := by
  intro n
  induction n with
  | zero => intro x1 k2 x3 x4; exact Sm_none
  | succ n h58 =>
    intro x1 k2 x3 x4
    rw [mM_SqlReaderModel_is_L58]
    refine Sm_iload_n E d_SqlReaderModel_is_58 rfl 3 rfl ?_
    refine Sm_if_eq (tgt := 106) E d_SqlReaderModel_is_59 (by decide) (fun _ => ?_) (fun _ => ?_)
    · refine Sm_iload_n E d_SqlReaderModel_is_106 rfl 3 rfl ?_
      exact Sm_gd fun hz => Sm_retz hR (zb_n hz) d_SqlReaderModel_is_107
    · refine Sm_iload E d_SqlReaderModel_is_62 4 rfl ?_
      refine Sm_aload_n E d_SqlReaderModel_is_64 rfl 2 rfl ?_
      refine Sm_gd fun hk => Sm_cVi (As := []) (b := (G.2.2.1 k2)) (st := [.int x4]) (n := 0) E exOk wM_as (fun _ h => cM_String_length k2 u h) gk_SqlReaderModel_249 dk_String_length rfl ⟨rfl, rfl⟩ ⟨Nat.le_of_ble_eq_true rfl, Nat.le_of_ble_eq_true rfl⟩ (rvS E hk rfl) rfl (Nat.le_of_ble_eq_true rfl) d_SqlReaderModel_is_65 fun r1 _ => ?_
      refine Sm_icmp_ge (tgt := 106) E d_SqlReaderModel_is_68 (by decide) (fun _ => ?_) (fun _ => ?_)
      · refine Sm_iload_n E d_SqlReaderModel_is_106 rfl 3 rfl ?_
        exact Sm_gd fun hz => Sm_retz hR (zb_n hz) d_SqlReaderModel_is_107
      · refine Sm_aload_n E d_SqlReaderModel_is_71 rfl 0 rfl ?_
        refine gfM_0_text E fl_SqlReaderModel_7 d_SqlReaderModel_is_72 ?_
        refine Sm_aload_n E d_SqlReaderModel_is_75 rfl 0 rfl ?_
        refine gfM_0_from E fl_SqlReaderModel_17 d_SqlReaderModel_is_76 ?_
        refine Sm_iload_n E d_SqlReaderModel_is_79 rfl 1 rfl ?_
        refine Sm_gd fun hi => ldM_3 E (inb_in hi) d_SqlReaderModel_is_80 ?_
        refine Sm_iload E d_SqlReaderModel_is_81 4 rfl ?_
        refine Sm_iadd E d_SqlReaderModel_is_83 ?_
        refine Sm_gd fun hi => ldM_1 E (inb_in hi) d_SqlReaderModel_is_84 ?_
        refine Sm_aload_n E d_SqlReaderModel_is_85 rfl 2 rfl ?_
        refine Sm_iload E d_SqlReaderModel_is_86 4 rfl ?_
        refine Sm_gd fun hk => Sm_cVi (As := [.int x4]) (b := (G.2.2.1 k2)) (st := [.int (ga u 0 ((ga u 2 x1) + x4))]) (n := 1) E exOk wM_as (fun _ h => cM_String_charAt k2 x4 u h) gk_SqlReaderModel_254 dk_String_charAt rfl ⟨rfl, rfl⟩ ⟨Nat.le_of_ble_eq_true rfl, Nat.le_of_ble_eq_true rfl⟩ (rvS E hk rfl) rfl (Nat.le_of_ble_eq_true rfl) d_SqlReaderModel_is_88 fun r2 _ => ?_
        refine Sm_icmp_ne (tgt := 98) E d_SqlReaderModel_is_91 (by decide) (fun _ => ?_) (fun _ => ?_)
        · refine Sm_iconst (v := 0) E d_SqlReaderModel_is_98 (by decide) ?_
          refine Sm_istore_n (lv' := [(3, .int 0), (0, .ref (G.1 100)), (1, .int x1), (2, .ref (G.2.2.1 k2)), (4, .int x4)]) E d_SqlReaderModel_is_99 rfl (by decide) rfl ?_
          refine Sm_iinc (k := 4) (d := 1) E d_SqlReaderModel_is_100 rfl rfl (by decide) fun y3 _ => Sm_lvs (lv' := [(4, .int y3), (3, .int 0), (0, .ref (G.1 100)), (1, .int x1), (2, .ref (G.2.2.1 k2))]) rfl ?_
          refine Sm_goto (tgt := 58) E d_SqlReaderModel_is_103 (by decide) ?_
          exact Sm_sub [2, 3, 4, 1, 0] rfl (h58 _ _ _ _)
        · refine Sm_iconst (v := 1) E d_SqlReaderModel_is_94 (by decide) ?_
          refine Sm_goto (tgt := 99) E d_SqlReaderModel_is_95 (by decide) ?_
          refine Sm_istore_n (lv' := [(3, .int 1), (0, .ref (G.1 100)), (1, .int x1), (2, .ref (G.2.2.1 k2)), (4, .int x4)]) E d_SqlReaderModel_is_99 rfl (by decide) rfl ?_
          refine Sm_iinc (k := 4) (d := 1) E d_SqlReaderModel_is_100 rfl rfl (by decide) fun y4 _ => Sm_lvs (lv' := [(4, .int y4), (3, .int 1), (0, .ref (G.1 100)), (1, .int x1), (2, .ref (G.2.2.1 k2))]) rfl ?_
          refine Sm_goto (tgt := 58) E d_SqlReaderModel_is_103 (by decide) ?_
          exact Sm_sub [2, 3, 4, 1, 0] rfl (h58 _ _ _ _)
set_option maxRecDepth 100000 in
set_option maxHeartbeats 4000000 in
theorem tM_SqlReaderModel_is_J29 {X : Cx} {G : Gx} {res : Int32} {u : St} (E : EM X G prog_11_method_13_code R_SqlReaderModel 5 { frames := 4, cells := 0, slots := 0, locals := 85 }) (hR : RtZ X vwCl (wM G) prog_11_method_13_code .boolean (res, u)) : ∀ (x1 : Int32) (k2 : Nat) , SM X G 5 res (mM_SqlReaderModel_is_J29 x1 k2 u) u 29 [(0, .ref (G.1 100)), (1, .int x1), (2, .ref (G.2.2.1 k2))] [] := by
  intro x1 k2
  rw [mM_SqlReaderModel_is_J29]
  refine Sm_aload_n E d_SqlReaderModel_is_29 rfl 0 rfl ?_
  refine gfM_0_to E fl_SqlReaderModel_20 d_SqlReaderModel_is_30 ?_
  refine Sm_iload_n E d_SqlReaderModel_is_33 rfl 1 rfl ?_
  refine Sm_gd fun hi => ldM_4 E (inb_in hi) d_SqlReaderModel_is_34 ?_
  refine Sm_aload_n E d_SqlReaderModel_is_35 rfl 0 rfl ?_
  refine gfM_0_from E fl_SqlReaderModel_17 d_SqlReaderModel_is_36 ?_
  refine Sm_iload_n E d_SqlReaderModel_is_39 rfl 1 rfl ?_
  refine Sm_gd fun hi => ldM_3 E (inb_in hi) d_SqlReaderModel_is_40 ?_
  refine Sm_isub E d_SqlReaderModel_is_41 ?_
  refine Sm_aload_n E d_SqlReaderModel_is_42 rfl 2 rfl ?_
  refine Sm_gd fun hk => Sm_cVi (As := []) (b := (G.2.2.1 k2)) (st := [.int ((ga u 3 x1) - (ga u 2 x1))]) (n := 0) E exOk wM_as (fun _ h => cM_String_length k2 u h) gk_SqlReaderModel_249 dk_String_length rfl ⟨rfl, rfl⟩ ⟨Nat.le_of_ble_eq_true rfl, Nat.le_of_ble_eq_true rfl⟩ (rvS E hk rfl) rfl (Nat.le_of_ble_eq_true rfl) d_SqlReaderModel_is_43 fun r5 _ => ?_
  refine Sm_icmp_ne (tgt := 53) E d_SqlReaderModel_is_46 (by decide) (fun _ => ?_) (fun _ => ?_)
  · refine Sm_iconst (v := 0) E d_SqlReaderModel_is_53 (by decide) ?_
    refine Sm_istore_n (lv' := [(3, .int 0), (0, .ref (G.1 100)), (1, .int x1), (2, .ref (G.2.2.1 k2))]) E d_SqlReaderModel_is_54 rfl (by decide) rfl ?_
    refine Sm_iconst (v := 0) E d_SqlReaderModel_is_55 (by decide) ?_
    refine Sm_istore (lv' := [(4, .int 0), (3, .int 0), (0, .ref (G.1 100)), (1, .int x1), (2, .ref (G.2.2.1 k2))]) E d_SqlReaderModel_is_56 (by decide) rfl ?_
    exact Sm_sub [2, 3, 4, 1, 0] rfl (tM_SqlReaderModel_is_L58 E hR FU _ _ _ _)
  · refine Sm_iconst (v := 1) E d_SqlReaderModel_is_49 (by decide) ?_
    refine Sm_goto (tgt := 54) E d_SqlReaderModel_is_50 (by decide) ?_
    refine Sm_istore_n (lv' := [(3, .int 1), (0, .ref (G.1 100)), (1, .int x1), (2, .ref (G.2.2.1 k2))]) E d_SqlReaderModel_is_54 rfl (by decide) rfl ?_
    refine Sm_iconst (v := 0) E d_SqlReaderModel_is_55 (by decide) ?_
    refine Sm_istore (lv' := [(4, .int 0), (3, .int 1), (0, .ref (G.1 100)), (1, .int x1), (2, .ref (G.2.2.1 k2))]) E d_SqlReaderModel_is_56 (by decide) rfl ?_
    exact Sm_sub [2, 3, 4, 1, 0] rfl (tM_SqlReaderModel_is_L58 E hR FU _ _ _ _)
set_option maxRecDepth 100000 in
set_option maxHeartbeats 4000000 in
theorem cM_SqlReaderModel_is {l : Launch} {D : va_G} {G : Gx} (x1 : Int32) (k2 : Nat) (u : St) {res : Int32} (hm : mM_SqlReaderModel_is x1 k2 u = some res) : KM l D G y_SqlReaderModel_is (.code y_SqlReaderModel_is prog_11_method_13_code 5 (some .boolean)) { frames := 4, cells := 0, slots := 0, locals := 85 } [.ref (G.1 100), .int x1, .ref (G.2.2.1 k2)] u (qI D vwCl (wM G) (tyW G) (adsM G) (res, u)) := by
  refine Ct_z (by decide) wM_as (Nat.le_of_ble_eq_true rfl) hm (fun X _ _ E hR => ?_)
  refine Sm_lvs (lv' := [(0, .ref (G.1 100)), (1, .int x1), (2, .ref (G.2.2.1 k2))]) rfl ?_
  rw [mM_SqlReaderModel_is]
  refine Sm_iload_n E d_SqlReaderModel_is_0 rfl 1 rfl ?_
  refine Sm_aload_n E d_SqlReaderModel_is_1 rfl 0 rfl ?_
  refine gfM_0_tokens E fl_SqlReaderModel_223 d_SqlReaderModel_is_2 ?_
  refine Sm_icmp_ge (tgt := 53) E d_SqlReaderModel_is_5 (by decide) (fun _ => ?_) (fun _ => ?_)
  · refine Sm_iconst (v := 0) E d_SqlReaderModel_is_53 (by decide) ?_
    refine Sm_istore_n (lv' := [(3, .int 0), (0, .ref (G.1 100)), (1, .int x1), (2, .ref (G.2.2.1 k2))]) E d_SqlReaderModel_is_54 rfl (by decide) rfl ?_
    refine Sm_iconst (v := 0) E d_SqlReaderModel_is_55 (by decide) ?_
    refine Sm_istore (lv' := [(4, .int 0), (3, .int 0), (0, .ref (G.1 100)), (1, .int x1), (2, .ref (G.2.2.1 k2))]) E d_SqlReaderModel_is_56 (by decide) rfl ?_
    exact Sm_sub [2, 3, 4, 1, 0] rfl (tM_SqlReaderModel_is_L58 E hR FU _ _ _ _)
  · refine Sm_aload_n E d_SqlReaderModel_is_8 rfl 0 rfl ?_
    refine gfM_0_tokenKind E fl_SqlReaderModel_13 d_SqlReaderModel_is_9 ?_
    refine Sm_iload_n E d_SqlReaderModel_is_12 rfl 1 rfl ?_
    refine Sm_gd fun hi => ldM_2 E (inb_in hi) d_SqlReaderModel_is_13 ?_
    refine Sm_iconst (v := 1) E d_SqlReaderModel_is_14 (by decide) ?_
    refine Sm_icmp_eq (tgt := 29) E d_SqlReaderModel_is_15 (by decide) (fun _ => ?_) (fun _ => ?_)
    · exact Sm_sub [0, 1, 2] rfl (tM_SqlReaderModel_is_J29 E hR _ _)
    · refine Sm_aload_n E d_SqlReaderModel_is_18 rfl 0 rfl ?_
      refine gfM_0_tokenKind E fl_SqlReaderModel_13 d_SqlReaderModel_is_19 ?_
      refine Sm_iload_n E d_SqlReaderModel_is_22 rfl 1 rfl ?_
      refine Sm_gd fun hi => ldM_2 E (inb_in hi) d_SqlReaderModel_is_23 ?_
      refine Sm_bipush (v := 6) E d_SqlReaderModel_is_24 (by decide) ?_
      refine Sm_icmp_ne (tgt := 53) E d_SqlReaderModel_is_26 (by decide) (fun _ => ?_) (fun _ => ?_)
      · refine Sm_iconst (v := 0) E d_SqlReaderModel_is_53 (by decide) ?_
        refine Sm_istore_n (lv' := [(3, .int 0), (0, .ref (G.1 100)), (1, .int x1), (2, .ref (G.2.2.1 k2))]) E d_SqlReaderModel_is_54 rfl (by decide) rfl ?_
        refine Sm_iconst (v := 0) E d_SqlReaderModel_is_55 (by decide) ?_
        refine Sm_istore (lv' := [(4, .int 0), (3, .int 0), (0, .ref (G.1 100)), (1, .int x1), (2, .ref (G.2.2.1 k2))]) E d_SqlReaderModel_is_56 (by decide) rfl ?_
        exact Sm_sub [2, 3, 4, 1, 0] rfl (tM_SqlReaderModel_is_L58 E hR FU _ _ _ _)
      · exact Sm_sub [0, 1, 2] rfl (tM_SqlReaderModel_is_J29 E hR _ _)
set_option maxRecDepth 100000 in
set_option maxHeartbeats 4000000 in
theorem cM_SqlReaderModel_takes {l : Launch} {D : va_G} {G : Gx} (k1 : Nat) (u : St) {res : Int32 × St} (hm : mM_SqlReaderModel_takes k1 u = some res) : KM l D G y_SqlReaderModel_takes (.code y_SqlReaderModel_takes prog_11_method_42_code 3 (some .boolean)) { frames := 5, cells := 0, slots := 0, locals := 109 } [.ref (G.1 100), .ref (G.2.2.1 k1)] u (qI D vwCl (wM G) (tyW G) (adsM G) res) := by
  refine Ct_Z (by decide) wM_as (Nat.le_of_ble_eq_true rfl) hm (fun X _ _ E hR => ?_)
  refine Sm_lvs (lv' := [(0, .ref (G.1 100)), (1, .ref (G.2.2.1 k1))]) rfl ?_
  rw [mM_SqlReaderModel_takes]
  refine Sm_aload_n E d_SqlReaderModel_takes_0 rfl 0 rfl ?_
  refine Sm_aload_n E d_SqlReaderModel_takes_1 rfl 0 rfl ?_
  refine gfM_0_place E fl_SqlReaderModel_419 d_SqlReaderModel_takes_2 ?_
  refine Sm_aload_n E d_SqlReaderModel_takes_5 rfl 1 rfl ?_
  refine Sm_cVi (As := [.int (u.1 30), .ref (G.2.2.1 k1)]) (b := (G.1 100)) (st := []) (n := 2) E exOk wM_as (fun _ h => cM_SqlReaderModel_is (u.1 30) k1 u h) gk_SqlReaderModel_293 dk_SqlReaderModel_is rfl ⟨rfl, rfl⟩ ⟨Nat.le_of_ble_eq_true rfl, Nat.le_of_ble_eq_true rfl⟩ (rvW (q0 := 0) (ci := 1) E rfl rfl rfl) rfl (Nat.le_of_ble_eq_true rfl) d_SqlReaderModel_takes_6 fun r1 _ => ?_
  refine Sm_istore_n (lv' := [(2, .int r1), (0, .ref (G.1 100)), (1, .ref (G.2.2.1 k1))]) E d_SqlReaderModel_takes_9 rfl (by decide) rfl ?_
  refine Sm_aload_n E d_SqlReaderModel_takes_10 rfl 1 rfl ?_
  refine Sm_iload_n E d_SqlReaderModel_takes_11 rfl 0 rfl ?_
  refine Sm_if_eq (tgt := 24) E d_SqlReaderModel_takes_12 (by decide) (fun _ => ?_) (fun _ => ?_)
  · refine Sm_aload_n E d_SqlReaderModel_takes_24 rfl 1 rfl ?_
    refine gfM_0_place E fl_SqlReaderModel_419 d_SqlReaderModel_takes_25 ?_
    refine pfM_0_place E fl_SqlReaderModel_419 d_SqlReaderModel_takes_28 fun u2 _ => ?_
    refine Sm_iload_n E d_SqlReaderModel_takes_31 rfl 0 rfl ?_
    exact Sm_gd fun hz => Sm_retZ hR (zb_n hz) d_SqlReaderModel_takes_32
  · refine Sm_aload_n E d_SqlReaderModel_takes_15 rfl 1 rfl ?_
    refine gfM_0_place E fl_SqlReaderModel_419 d_SqlReaderModel_takes_16 ?_
    refine Sm_iconst (v := 1) E d_SqlReaderModel_takes_19 (by decide) ?_
    refine Sm_iadd E d_SqlReaderModel_takes_20 ?_
    refine Sm_goto (tgt := 28) E d_SqlReaderModel_takes_21 (by decide) ?_
    refine pfM_0_place E fl_SqlReaderModel_419 d_SqlReaderModel_takes_28 fun u3 _ => ?_
    refine Sm_iload_n E d_SqlReaderModel_takes_31 rfl 0 rfl ?_
    exact Sm_gd fun hz => Sm_retZ hR (zb_n hz) d_SqlReaderModel_takes_32
set_option maxRecDepth 100000 in
set_option maxHeartbeats 4000000 in
theorem cM_SqlReaderModel_need {l : Launch} {D : va_G} {G : Gx} (k1 : Nat) (u : St) {res : St} (hm : mM_SqlReaderModel_need k1 u = some res) : KM l D G y_SqlReaderModel_need (.code y_SqlReaderModel_need prog_11_method_43_code 2 none) { frames := 6, cells := 0, slots := 0, locals := 131 } [.ref (G.1 100), .ref (G.2.2.1 k1)] u (qV D vwCl (wM G) (tyW G) (adsM G) res) := by
  refine Ct_V (by decide) wM_as (Nat.le_of_ble_eq_true rfl) hm (fun X _ _ E hR => ?_)
  refine Sm_lvs (lv' := [(0, .ref (G.1 100)), (1, .ref (G.2.2.1 k1))]) rfl ?_
  rw [mM_SqlReaderModel_need]
  refine Sm_aload_n E d_SqlReaderModel_need_0 rfl 0 rfl ?_
  refine Sm_aload_n E d_SqlReaderModel_need_1 rfl 0 rfl ?_
  refine Sm_aload_n E d_SqlReaderModel_need_2 rfl 1 rfl ?_
  refine Sm_cVI (As := [.ref (G.2.2.1 k1)]) (b := (G.1 100)) (st := [.ref (G.1 100)]) (n := 1) E exOk wM_as (fun _ h => cM_SqlReaderModel_takes k1 u h) gk_SqlReaderModel_421 dk_SqlReaderModel_takes rfl ⟨rfl, rfl⟩ ⟨Nat.le_of_ble_eq_true rfl, Nat.le_of_ble_eq_true rfl⟩ (rvW (q0 := 0) (ci := 1) E rfl rfl rfl) rfl (Nat.le_of_ble_eq_true rfl) d_SqlReaderModel_need_3 fun r1 u2 _ => ?_
  refine Sm_if_eq (tgt := 16) E d_SqlReaderModel_need_6 (by decide) (fun _ => ?_) (fun _ => ?_)
  · refine Sm_iconst (v := 1) E d_SqlReaderModel_need_16 (by decide) ?_
    refine Sm_goto (tgt := 21) E d_SqlReaderModel_need_17 (by decide) ?_
    refine pfM_0_bad E fl_SqlReaderModel_226 d_SqlReaderModel_need_21 (by decide) rfl fun u3 _ => ?_
    exact Sm_retV hR d_SqlReaderModel_need_24
  · refine Sm_aload_n E d_SqlReaderModel_need_9 rfl 0 rfl ?_
    refine gfM_0_bad E fl_SqlReaderModel_226 d_SqlReaderModel_need_10 ?_
    refine Sm_if_eq (tgt := 20) E d_SqlReaderModel_need_13 (by decide) (fun _ => ?_) (fun _ => ?_)
    · refine Sm_iconst (v := 0) E d_SqlReaderModel_need_20 (by decide) ?_
      refine pfM_0_bad E fl_SqlReaderModel_226 d_SqlReaderModel_need_21 (by decide) rfl fun u4 _ => ?_
      exact Sm_retV hR d_SqlReaderModel_need_24
    · refine Sm_iconst (v := 1) E d_SqlReaderModel_need_16 (by decide) ?_
      refine Sm_goto (tgt := 21) E d_SqlReaderModel_need_17 (by decide) ?_
      refine pfM_0_bad E fl_SqlReaderModel_226 d_SqlReaderModel_need_21 (by decide) rfl fun u5 _ => ?_
      exact Sm_retV hR d_SqlReaderModel_need_24
set_option maxRecDepth 100000 in
set_option maxHeartbeats 4000000 in
theorem cM_SqlReaderModel_isKind {l : Launch} {D : va_G} {G : Gx} (x1 : Int32) (x2 : Int32) (u : St) {res : Int32} (hm : mM_SqlReaderModel_isKind x1 x2 u = some res) : KM l D G y_SqlReaderModel_isKind (.code y_SqlReaderModel_isKind prog_11_method_14_code 3 (some .boolean)) { frames := 0, cells := 0, slots := 0, locals := 0 } [.ref (G.1 100), .int x1, .int x2] u (qI D vwCl (wM G) (tyW G) (adsM G) (res, u)) := by
  refine Ct_z (by decide) wM_as (Nat.le_of_ble_eq_true rfl) hm (fun X _ _ E hR => ?_)
  refine Sm_lvs (lv' := [(0, .ref (G.1 100)), (1, .int x1), (2, .int x2)]) rfl ?_
  rw [mM_SqlReaderModel_isKind]
  refine Sm_iload_n E d_SqlReaderModel_isKind_0 rfl 1 rfl ?_
  refine Sm_aload_n E d_SqlReaderModel_isKind_1 rfl 0 rfl ?_
  refine gfM_0_tokens E fl_SqlReaderModel_223 d_SqlReaderModel_isKind_2 ?_
  refine Sm_icmp_ge (tgt := 22) E d_SqlReaderModel_isKind_5 (by decide) (fun _ => ?_) (fun _ => ?_)
  · refine Sm_iconst (v := 0) E d_SqlReaderModel_isKind_22 (by decide) ?_
    exact Sm_retz hR (by decide) d_SqlReaderModel_isKind_23
  · refine Sm_aload_n E d_SqlReaderModel_isKind_8 rfl 0 rfl ?_
    refine gfM_0_tokenKind E fl_SqlReaderModel_13 d_SqlReaderModel_isKind_9 ?_
    refine Sm_iload_n E d_SqlReaderModel_isKind_12 rfl 1 rfl ?_
    refine Sm_gd fun hi => ldM_2 E (inb_in hi) d_SqlReaderModel_isKind_13 ?_
    refine Sm_iload_n E d_SqlReaderModel_isKind_14 rfl 2 rfl ?_
    refine Sm_icmp_ne (tgt := 22) E d_SqlReaderModel_isKind_15 (by decide) (fun _ => ?_) (fun _ => ?_)
    · refine Sm_iconst (v := 0) E d_SqlReaderModel_isKind_22 (by decide) ?_
      exact Sm_retz hR (by decide) d_SqlReaderModel_isKind_23
    · refine Sm_iconst (v := 1) E d_SqlReaderModel_isKind_18 (by decide) ?_
      refine Sm_goto (tgt := 23) E d_SqlReaderModel_isKind_19 (by decide) ?_
      exact Sm_retz hR (by decide) d_SqlReaderModel_isKind_23
set_option maxRecDepth 100000 in
set_option maxHeartbeats 4000000 in
theorem tM_SqlReaderModel_needName_J25 {X : Cx} {G : Gx} {res : Int32 × St} (E : EM X G prog_11_method_44_code R_SqlReaderModel 1 { frames := 1, cells := 0, slots := 0, locals := 22 }) (hR : RtI X vwCl (wM G) prog_11_method_44_code res) : ∀ (s1 : Int32) (u : St), SM X G 1 res (mM_SqlReaderModel_needName_J25 s1 u) u 25 [(0, .ref (G.1 100))] [.int s1, .ref (G.1 100)] := by
  intro s1 u
  rw [mM_SqlReaderModel_needName_J25]
  refine Sm_gd fun hz => pfM_0_bad E fl_SqlReaderModel_226 d_SqlReaderModel_needName_25 (zb_n hz) (zb_f hz) fun u1 _ => ?_
  refine Sm_aload_n E d_SqlReaderModel_needName_28 rfl 0 rfl ?_
  refine Sm_dup E d_SqlReaderModel_needName_29 rfl ?_
  refine gfM_0_place E fl_SqlReaderModel_419 d_SqlReaderModel_needName_30 ?_
  refine Sm_iconst (v := 1) E d_SqlReaderModel_needName_33 (by decide) ?_
  refine Sm_iadd E d_SqlReaderModel_needName_34 ?_
  refine pfM_0_place E fl_SqlReaderModel_419 d_SqlReaderModel_needName_35 fun u2 _ => ?_
  refine Sm_aload_n E d_SqlReaderModel_needName_38 rfl 0 rfl ?_
  refine gfM_0_place E fl_SqlReaderModel_419 d_SqlReaderModel_needName_39 ?_
  refine Sm_iconst (v := 1) E d_SqlReaderModel_needName_42 (by decide) ?_
  refine Sm_isub E d_SqlReaderModel_needName_43 ?_
  exact Sm_retI hR d_SqlReaderModel_needName_44
set_option maxRecDepth 100000 in
set_option maxHeartbeats 4000000 in
theorem cM_SqlReaderModel_needName {l : Launch} {D : va_G} {G : Gx} (u : St) {res : Int32 × St} (hm : mM_SqlReaderModel_needName u = some res) : KM l D G y_SqlReaderModel_needName (.code y_SqlReaderModel_needName prog_11_method_44_code 1 (some .int)) { frames := 1, cells := 0, slots := 0, locals := 22 } [.ref (G.1 100)] u (qI D vwCl (wM G) (tyW G) (adsM G) res) := by
  refine Ct_I (by decide) wM_as (Nat.le_of_ble_eq_true rfl) hm (fun X _ _ E hR => ?_)
  refine Sm_lvs (lv' := [(0, .ref (G.1 100))]) rfl ?_
  rw [mM_SqlReaderModel_needName]
  refine Sm_aload_n E d_SqlReaderModel_needName_0 rfl 0 rfl ?_
  refine Sm_aload_n E d_SqlReaderModel_needName_1 rfl 0 rfl ?_
  refine gfM_0_bad E fl_SqlReaderModel_226 d_SqlReaderModel_needName_2 ?_
  refine Sm_if_ne (tgt := 20) E d_SqlReaderModel_needName_5 (by decide) (fun _ => ?_) (fun _ => ?_)
  · refine Sm_iconst (v := 1) E d_SqlReaderModel_needName_20 (by decide) ?_
    refine Sm_goto (tgt := 25) E d_SqlReaderModel_needName_21 (by decide) ?_
    exact Sm_sub [0] rfl (tM_SqlReaderModel_needName_J25 E hR _ _)
  · refine Sm_aload_n E d_SqlReaderModel_needName_8 rfl 0 rfl ?_
    refine Sm_aload_n E d_SqlReaderModel_needName_9 rfl 0 rfl ?_
    refine gfM_0_place E fl_SqlReaderModel_419 d_SqlReaderModel_needName_10 ?_
    refine Sm_iconst (v := 2) E d_SqlReaderModel_needName_13 (by decide) ?_
    refine Sm_cVi (As := [.int (u.1 30), .int 2]) (b := (G.1 100)) (st := [.ref (G.1 100)]) (n := 2) E exOk wM_as (fun _ h => cM_SqlReaderModel_isKind (u.1 30) 2 u h) gk_SqlReaderModel_403 dk_SqlReaderModel_isKind rfl ⟨rfl, rfl⟩ ⟨Nat.le_of_ble_eq_true rfl, Nat.le_of_ble_eq_true rfl⟩ (rvW (q0 := 0) (ci := 1) E rfl rfl rfl) rfl (Nat.le_of_ble_eq_true rfl) d_SqlReaderModel_needName_14 fun r3 _ => ?_
    refine Sm_if_ne (tgt := 24) E d_SqlReaderModel_needName_17 (by decide) (fun _ => ?_) (fun _ => ?_)
    · refine Sm_iconst (v := 0) E d_SqlReaderModel_needName_24 (by decide) ?_
      exact Sm_sub [0] rfl (tM_SqlReaderModel_needName_J25 E hR _ _)
    · refine Sm_iconst (v := 1) E d_SqlReaderModel_needName_20 (by decide) ?_
      refine Sm_goto (tgt := 25) E d_SqlReaderModel_needName_21 (by decide) ?_
      exact Sm_sub [0] rfl (tM_SqlReaderModel_needName_J25 E hR _ _)
set_option maxRecDepth 100000 in
set_option maxHeartbeats 4000000 in
theorem cM_SqlReaderModel_opens {l : Launch} {D : va_G} {G : Gx} (x1 : Int32) (u : St) {res : Int32} (hm : mM_SqlReaderModel_opens x1 u = some res) : KM l D G y_SqlReaderModel_opens (.code y_SqlReaderModel_opens prog_11_method_26_code 2 (some .int)) { frames := 5, cells := 0, slots := 0, locals := 109 } [.ref (G.1 100), .int x1] u (qI D vwCl (wM G) (tyW G) (adsM G) (res, u)) := by
  refine Ct_i (by decide) wM_as (Nat.le_of_ble_eq_true rfl) hm (fun X _ _ E hR => ?_)
  refine Sm_lvs (lv' := [(0, .ref (G.1 100)), (1, .int x1)]) rfl ?_
  rw [mM_SqlReaderModel_opens]
  refine Sm_aload_n E d_SqlReaderModel_opens_0 rfl 0 rfl ?_
  refine Sm_iload_n E d_SqlReaderModel_opens_1 rfl 1 rfl ?_
  refine Sm_ldcS_w E sr_SqlReaderModel_291 d_SqlReaderModel_opens_2 ?_
  refine Sm_cVi (As := [.int x1, .ref (G.2.2.1 79)]) (b := (G.1 100)) (st := []) (n := 2) E exOk wM_as (fun _ h => cM_SqlReaderModel_is x1 79 u h) gk_SqlReaderModel_293 dk_SqlReaderModel_is rfl ⟨rfl, rfl⟩ ⟨Nat.le_of_ble_eq_true rfl, Nat.le_of_ble_eq_true rfl⟩ (rvW (q0 := 0) (ci := 1) E rfl rfl rfl) rfl (Nat.le_of_ble_eq_true rfl) d_SqlReaderModel_opens_5 fun r1 _ => ?_
  refine Sm_if_eq (tgt := 15) E d_SqlReaderModel_opens_8 (by decide) (fun _ => ?_) (fun _ => ?_)
  · refine Sm_aload_n E d_SqlReaderModel_opens_15 rfl 0 rfl ?_
    refine Sm_iload_n E d_SqlReaderModel_opens_16 rfl 1 rfl ?_
    refine Sm_ldcS_w E sr_SqlReaderModel_297 d_SqlReaderModel_opens_17 ?_
    refine Sm_cVi (As := [.int x1, .ref (G.2.2.1 88)]) (b := (G.1 100)) (st := []) (n := 2) E exOk wM_as (fun _ h => cM_SqlReaderModel_is x1 88 u h) gk_SqlReaderModel_293 dk_SqlReaderModel_is rfl ⟨rfl, rfl⟩ ⟨Nat.le_of_ble_eq_true rfl, Nat.le_of_ble_eq_true rfl⟩ (rvW (q0 := 0) (ci := 1) E rfl rfl rfl) rfl (Nat.le_of_ble_eq_true rfl) d_SqlReaderModel_opens_20 fun r2 _ => ?_
    refine Sm_if_eq (tgt := 30) E d_SqlReaderModel_opens_23 (by decide) (fun _ => ?_) (fun _ => ?_)
    · refine Sm_iconst (v := 0) E d_SqlReaderModel_opens_30 (by decide) ?_
      exact Sm_reti hR d_SqlReaderModel_opens_31
    · refine Sm_iconst (v := (-1)) E d_SqlReaderModel_opens_26 (by decide) ?_
      refine Sm_goto (tgt := 31) E d_SqlReaderModel_opens_27 (by decide) ?_
      exact Sm_reti hR d_SqlReaderModel_opens_31
  · refine Sm_iconst (v := 1) E d_SqlReaderModel_opens_11 (by decide) ?_
    refine Sm_goto (tgt := 31) E d_SqlReaderModel_opens_12 (by decide) ?_
    exact Sm_reti hR d_SqlReaderModel_opens_31
set_option maxRecDepth 100000 in
set_option maxHeartbeats 4000000 in
theorem tM_SqlReaderModel_reach_J119 {X : Cx} {G : Gx} {res : Int32} {u : St} (E : EM X G prog_11_method_45_code R_SqlReaderModel 4 { frames := 6, cells := 0, slots := 0, locals := 130 }) (hR : RtI X vwCl (wM G) prog_11_method_45_code (res, u)) {q7 : Int32 → Int32 → St → Option (Int32)} (h7 : ∀ (x1 : Int32) (x2 : Int32) , SM X G 4 res (q7 x1 x2 u) u 7 [(0, .ref (G.1 100)), (1, .int x1), (2, .int x2)] []) : ∀ (x1 : Int32) (x2 : Int32) (s0 : Int32) , SM X G 4 res (mM_SqlReaderModel_reach_J119 q7 x1 x2 s0 u) u 119 [(0, .ref (G.1 100)), (1, .int x1), (2, .int x2)] [.int s0] := by
  intro x1 x2 s0
  rw [mM_SqlReaderModel_reach_J119]
  refine Sm_istore_n (lv' := [(3, .int s0), (0, .ref (G.1 100)), (1, .int x1), (2, .int x2)]) E d_SqlReaderModel_reach_119 rfl (by decide) rfl ?_
  refine Sm_iload_n E d_SqlReaderModel_reach_120 rfl 2 rfl ?_
  refine Sm_if_ne (tgt := 130) E d_SqlReaderModel_reach_121 (by decide) (fun _ => ?_) (fun _ => ?_)
  · refine Sm_iload_n E d_SqlReaderModel_reach_130 rfl 2 rfl ?_
    refine Sm_aload_n E d_SqlReaderModel_reach_131 rfl 1 rfl ?_
    refine Sm_iload_n E d_SqlReaderModel_reach_132 rfl 3 rfl ?_
    refine Sm_cVi (As := [.int x2]) (b := (G.1 100)) (st := [.int x1]) (n := 1) E exOk wM_as (fun _ h => cM_SqlReaderModel_opens x2 u h) gk_SqlReaderModel_334 dk_SqlReaderModel_opens rfl ⟨rfl, rfl⟩ ⟨Nat.le_of_ble_eq_true rfl, Nat.le_of_ble_eq_true rfl⟩ (rvW (q0 := 0) (ci := 1) E rfl rfl rfl) rfl (Nat.le_of_ble_eq_true rfl) d_SqlReaderModel_reach_133 fun r3 _ => ?_
    refine Sm_iadd E d_SqlReaderModel_reach_136 ?_
    refine Sm_leti fun y4 _ => ?_
    refine Sm_istore_n (lv' := [(1, .int y4), (3, .int s0), (0, .ref (G.1 100)), (2, .int x2)]) E d_SqlReaderModel_reach_137 rfl (by decide) rfl ?_
    refine Sm_iinc (k := 3) (d := 1) E d_SqlReaderModel_reach_138 rfl rfl (by decide) fun y5 _ => Sm_lvs (lv' := [(2, .int y5), (1, .int y4), (3, .int s0), (0, .ref (G.1 100))]) rfl ?_
    refine Sm_goto (tgt := 7) E d_SqlReaderModel_reach_141 (by decide) ?_
    exact Sm_sub [3, 1, 0] rfl (h7 _ _)
  · refine Sm_iload_n E d_SqlReaderModel_reach_124 rfl 0 rfl ?_
    refine Sm_if_eq (tgt := 130) E d_SqlReaderModel_reach_125 (by decide) (fun _ => ?_) (fun _ => ?_)
    · refine Sm_iload_n E d_SqlReaderModel_reach_130 rfl 2 rfl ?_
      refine Sm_aload_n E d_SqlReaderModel_reach_131 rfl 1 rfl ?_
      refine Sm_iload_n E d_SqlReaderModel_reach_132 rfl 3 rfl ?_
      refine Sm_cVi (As := [.int x2]) (b := (G.1 100)) (st := [.int x1]) (n := 1) E exOk wM_as (fun _ h => cM_SqlReaderModel_opens x2 u h) gk_SqlReaderModel_334 dk_SqlReaderModel_opens rfl ⟨rfl, rfl⟩ ⟨Nat.le_of_ble_eq_true rfl, Nat.le_of_ble_eq_true rfl⟩ (rvW (q0 := 0) (ci := 1) E rfl rfl rfl) rfl (Nat.le_of_ble_eq_true rfl) d_SqlReaderModel_reach_133 fun r6 _ => ?_
      refine Sm_iadd E d_SqlReaderModel_reach_136 ?_
      refine Sm_leti fun y7 _ => ?_
      refine Sm_istore_n (lv' := [(1, .int y7), (3, .int s0), (0, .ref (G.1 100)), (2, .int x2)]) E d_SqlReaderModel_reach_137 rfl (by decide) rfl ?_
      refine Sm_iinc (k := 3) (d := 1) E d_SqlReaderModel_reach_138 rfl rfl (by decide) fun y8 _ => Sm_lvs (lv' := [(2, .int y8), (1, .int y7), (3, .int s0), (0, .ref (G.1 100))]) rfl ?_
      refine Sm_goto (tgt := 7) E d_SqlReaderModel_reach_141 (by decide) ?_
      exact Sm_sub [3, 1, 0] rfl (h7 _ _)
    · refine Sm_iload_n E d_SqlReaderModel_reach_128 rfl 3 rfl ?_
      exact Sm_reti hR d_SqlReaderModel_reach_129
set_option maxRecDepth 100000 in
set_option maxHeartbeats 4000000 in
theorem tM_SqlReaderModel_reach_L7 {X : Cx} {G : Gx} {res : Int32} {u : St} (E : EM X G prog_11_method_45_code R_SqlReaderModel 4 { frames := 6, cells := 0, slots := 0, locals := 130 }) (hR : RtI X vwCl (wM G) prog_11_method_45_code (res, u)) : ∀ (n : Nat) (x1 : Int32) (x2 : Int32) , SM X G 4 res (mM_SqlReaderModel_reach_L7 n x1 x2 u) u 7 [(0, .ref (G.1 100)), (1, .int x1), (2, .int x2)] [] := by
  intro n
  induction n with
  | zero => intro x1 x2; exact Sm_none
  | succ n h7 =>
    intro x1 x2
    rw [mM_SqlReaderModel_reach_L7]
    refine Sm_iload_n E d_SqlReaderModel_reach_7 rfl 2 rfl ?_
    refine Sm_aload_n E d_SqlReaderModel_reach_8 rfl 0 rfl ?_
    refine gfM_0_tokens E fl_SqlReaderModel_223 d_SqlReaderModel_reach_9 ?_
    refine Sm_icmp_ge (tgt := 144) E d_SqlReaderModel_reach_12 (by decide) (fun _ => ?_) (fun _ => ?_)
    · refine Sm_aload_n E d_SqlReaderModel_reach_144 rfl 0 rfl ?_
      refine gfM_0_tokens E fl_SqlReaderModel_223 d_SqlReaderModel_reach_145 ?_
      exact Sm_reti hR d_SqlReaderModel_reach_148
    · refine Sm_aload_n E d_SqlReaderModel_reach_15 rfl 0 rfl ?_
      refine Sm_iload_n E d_SqlReaderModel_reach_16 rfl 2 rfl ?_
      refine Sm_ldcS_w E sr_SqlReaderModel_387 d_SqlReaderModel_reach_17 ?_
      refine Sm_cVi (As := [.int x2, .ref (G.2.2.1 80)]) (b := (G.1 100)) (st := []) (n := 2) E exOk wM_as (fun _ h => cM_SqlReaderModel_is x2 80 u h) gk_SqlReaderModel_293 dk_SqlReaderModel_is rfl ⟨rfl, rfl⟩ ⟨Nat.le_of_ble_eq_true rfl, Nat.le_of_ble_eq_true rfl⟩ (rvW (q0 := 0) (ci := 1) E rfl rfl rfl) rfl (Nat.le_of_ble_eq_true rfl) d_SqlReaderModel_reach_20 fun r2 _ => ?_
      refine Sm_if_ne (tgt := 114) E d_SqlReaderModel_reach_23 (by decide) (fun _ => ?_) (fun _ => ?_)
      · refine Sm_iconst (v := 1) E d_SqlReaderModel_reach_114 (by decide) ?_
        refine Sm_goto (tgt := 119) E d_SqlReaderModel_reach_115 (by decide) ?_
        exact Sm_sub [0, 1, 2] rfl (tM_SqlReaderModel_reach_J119 E hR h7 _ _ _)
      · refine Sm_aload_n E d_SqlReaderModel_reach_26 rfl 0 rfl ?_
        refine Sm_iload_n E d_SqlReaderModel_reach_27 rfl 2 rfl ?_
        refine Sm_ldcS_w E sr_SqlReaderModel_425 d_SqlReaderModel_reach_28 ?_
        refine Sm_cVi (As := [.int x2, .ref (G.2.2.1 81)]) (b := (G.1 100)) (st := []) (n := 2) E exOk wM_as (fun _ h => cM_SqlReaderModel_is x2 81 u h) gk_SqlReaderModel_293 dk_SqlReaderModel_is rfl ⟨rfl, rfl⟩ ⟨Nat.le_of_ble_eq_true rfl, Nat.le_of_ble_eq_true rfl⟩ (rvW (q0 := 0) (ci := 1) E rfl rfl rfl) rfl (Nat.le_of_ble_eq_true rfl) d_SqlReaderModel_reach_31 fun r9 _ => ?_
        refine Sm_if_ne (tgt := 114) E d_SqlReaderModel_reach_34 (by decide) (fun _ => ?_) (fun _ => ?_)
        · refine Sm_iconst (v := 1) E d_SqlReaderModel_reach_114 (by decide) ?_
          refine Sm_goto (tgt := 119) E d_SqlReaderModel_reach_115 (by decide) ?_
          exact Sm_sub [0, 1, 2] rfl (tM_SqlReaderModel_reach_J119 E hR h7 _ _ _)
        · refine Sm_aload_n E d_SqlReaderModel_reach_37 rfl 0 rfl ?_
          refine Sm_iload_n E d_SqlReaderModel_reach_38 rfl 2 rfl ?_
          refine Sm_ldcS_w E sr_SqlReaderModel_427 d_SqlReaderModel_reach_39 ?_
          refine Sm_cVi (As := [.int x2, .ref (G.2.2.1 82)]) (b := (G.1 100)) (st := []) (n := 2) E exOk wM_as (fun _ h => cM_SqlReaderModel_is x2 82 u h) gk_SqlReaderModel_293 dk_SqlReaderModel_is rfl ⟨rfl, rfl⟩ ⟨Nat.le_of_ble_eq_true rfl, Nat.le_of_ble_eq_true rfl⟩ (rvW (q0 := 0) (ci := 1) E rfl rfl rfl) rfl (Nat.le_of_ble_eq_true rfl) d_SqlReaderModel_reach_42 fun r10 _ => ?_
          refine Sm_if_ne (tgt := 114) E d_SqlReaderModel_reach_45 (by decide) (fun _ => ?_) (fun _ => ?_)
          · refine Sm_iconst (v := 1) E d_SqlReaderModel_reach_114 (by decide) ?_
            refine Sm_goto (tgt := 119) E d_SqlReaderModel_reach_115 (by decide) ?_
            exact Sm_sub [0, 1, 2] rfl (tM_SqlReaderModel_reach_J119 E hR h7 _ _ _)
          · refine Sm_aload_n E d_SqlReaderModel_reach_48 rfl 0 rfl ?_
            refine Sm_iload_n E d_SqlReaderModel_reach_49 rfl 2 rfl ?_
            refine Sm_ldcS_w E sr_SqlReaderModel_429 d_SqlReaderModel_reach_50 ?_
            refine Sm_cVi (As := [.int x2, .ref (G.2.2.1 83)]) (b := (G.1 100)) (st := []) (n := 2) E exOk wM_as (fun _ h => cM_SqlReaderModel_is x2 83 u h) gk_SqlReaderModel_293 dk_SqlReaderModel_is rfl ⟨rfl, rfl⟩ ⟨Nat.le_of_ble_eq_true rfl, Nat.le_of_ble_eq_true rfl⟩ (rvW (q0 := 0) (ci := 1) E rfl rfl rfl) rfl (Nat.le_of_ble_eq_true rfl) d_SqlReaderModel_reach_53 fun r11 _ => ?_
            refine Sm_if_ne (tgt := 114) E d_SqlReaderModel_reach_56 (by decide) (fun _ => ?_) (fun _ => ?_)
            · refine Sm_iconst (v := 1) E d_SqlReaderModel_reach_114 (by decide) ?_
              refine Sm_goto (tgt := 119) E d_SqlReaderModel_reach_115 (by decide) ?_
              exact Sm_sub [0, 1, 2] rfl (tM_SqlReaderModel_reach_J119 E hR h7 _ _ _)
            · refine Sm_aload_n E d_SqlReaderModel_reach_59 rfl 0 rfl ?_
              refine Sm_iload_n E d_SqlReaderModel_reach_60 rfl 2 rfl ?_
              refine Sm_ldcS_w E sr_SqlReaderModel_431 d_SqlReaderModel_reach_61 ?_
              refine Sm_cVi (As := [.int x2, .ref (G.2.2.1 84)]) (b := (G.1 100)) (st := []) (n := 2) E exOk wM_as (fun _ h => cM_SqlReaderModel_is x2 84 u h) gk_SqlReaderModel_293 dk_SqlReaderModel_is rfl ⟨rfl, rfl⟩ ⟨Nat.le_of_ble_eq_true rfl, Nat.le_of_ble_eq_true rfl⟩ (rvW (q0 := 0) (ci := 1) E rfl rfl rfl) rfl (Nat.le_of_ble_eq_true rfl) d_SqlReaderModel_reach_64 fun r12 _ => ?_
              refine Sm_if_ne (tgt := 114) E d_SqlReaderModel_reach_67 (by decide) (fun _ => ?_) (fun _ => ?_)
              · refine Sm_iconst (v := 1) E d_SqlReaderModel_reach_114 (by decide) ?_
                refine Sm_goto (tgt := 119) E d_SqlReaderModel_reach_115 (by decide) ?_
                exact Sm_sub [0, 1, 2] rfl (tM_SqlReaderModel_reach_J119 E hR h7 _ _ _)
              · refine Sm_aload_n E d_SqlReaderModel_reach_70 rfl 0 rfl ?_
                refine Sm_iload_n E d_SqlReaderModel_reach_71 rfl 2 rfl ?_
                refine Sm_ldcS_w E sr_SqlReaderModel_433 d_SqlReaderModel_reach_72 ?_
                refine Sm_cVi (As := [.int x2, .ref (G.2.2.1 85)]) (b := (G.1 100)) (st := []) (n := 2) E exOk wM_as (fun _ h => cM_SqlReaderModel_is x2 85 u h) gk_SqlReaderModel_293 dk_SqlReaderModel_is rfl ⟨rfl, rfl⟩ ⟨Nat.le_of_ble_eq_true rfl, Nat.le_of_ble_eq_true rfl⟩ (rvW (q0 := 0) (ci := 1) E rfl rfl rfl) rfl (Nat.le_of_ble_eq_true rfl) d_SqlReaderModel_reach_75 fun r13 _ => ?_
                refine Sm_if_ne (tgt := 114) E d_SqlReaderModel_reach_78 (by decide) (fun _ => ?_) (fun _ => ?_)
                · refine Sm_iconst (v := 1) E d_SqlReaderModel_reach_114 (by decide) ?_
                  refine Sm_goto (tgt := 119) E d_SqlReaderModel_reach_115 (by decide) ?_
                  exact Sm_sub [0, 1, 2] rfl (tM_SqlReaderModel_reach_J119 E hR h7 _ _ _)
                · refine Sm_aload_n E d_SqlReaderModel_reach_81 rfl 0 rfl ?_
                  refine Sm_iload_n E d_SqlReaderModel_reach_82 rfl 2 rfl ?_
                  refine Sm_ldcS_w E sr_SqlReaderModel_435 d_SqlReaderModel_reach_83 ?_
                  refine Sm_cVi (As := [.int x2, .ref (G.2.2.1 86)]) (b := (G.1 100)) (st := []) (n := 2) E exOk wM_as (fun _ h => cM_SqlReaderModel_is x2 86 u h) gk_SqlReaderModel_293 dk_SqlReaderModel_is rfl ⟨rfl, rfl⟩ ⟨Nat.le_of_ble_eq_true rfl, Nat.le_of_ble_eq_true rfl⟩ (rvW (q0 := 0) (ci := 1) E rfl rfl rfl) rfl (Nat.le_of_ble_eq_true rfl) d_SqlReaderModel_reach_86 fun r14 _ => ?_
                  refine Sm_if_ne (tgt := 114) E d_SqlReaderModel_reach_89 (by decide) (fun _ => ?_) (fun _ => ?_)
                  · refine Sm_iconst (v := 1) E d_SqlReaderModel_reach_114 (by decide) ?_
                    refine Sm_goto (tgt := 119) E d_SqlReaderModel_reach_115 (by decide) ?_
                    exact Sm_sub [0, 1, 2] rfl (tM_SqlReaderModel_reach_J119 E hR h7 _ _ _)
                  · refine Sm_aload_n E d_SqlReaderModel_reach_92 rfl 0 rfl ?_
                    refine Sm_iload_n E d_SqlReaderModel_reach_93 rfl 2 rfl ?_
                    refine Sm_ldcS_w E sr_SqlReaderModel_437 d_SqlReaderModel_reach_94 ?_
                    refine Sm_cVi (As := [.int x2, .ref (G.2.2.1 87)]) (b := (G.1 100)) (st := []) (n := 2) E exOk wM_as (fun _ h => cM_SqlReaderModel_is x2 87 u h) gk_SqlReaderModel_293 dk_SqlReaderModel_is rfl ⟨rfl, rfl⟩ ⟨Nat.le_of_ble_eq_true rfl, Nat.le_of_ble_eq_true rfl⟩ (rvW (q0 := 0) (ci := 1) E rfl rfl rfl) rfl (Nat.le_of_ble_eq_true rfl) d_SqlReaderModel_reach_97 fun r15 _ => ?_
                    refine Sm_if_ne (tgt := 114) E d_SqlReaderModel_reach_100 (by decide) (fun _ => ?_) (fun _ => ?_)
                    · refine Sm_iconst (v := 1) E d_SqlReaderModel_reach_114 (by decide) ?_
                      refine Sm_goto (tgt := 119) E d_SqlReaderModel_reach_115 (by decide) ?_
                      exact Sm_sub [0, 1, 2] rfl (tM_SqlReaderModel_reach_J119 E hR h7 _ _ _)
                    · refine Sm_aload_n E d_SqlReaderModel_reach_103 rfl 0 rfl ?_
                      refine Sm_iload_n E d_SqlReaderModel_reach_104 rfl 2 rfl ?_
                      refine Sm_ldcS_w E sr_SqlReaderModel_297 d_SqlReaderModel_reach_105 ?_
                      refine Sm_cVi (As := [.int x2, .ref (G.2.2.1 88)]) (b := (G.1 100)) (st := []) (n := 2) E exOk wM_as (fun _ h => cM_SqlReaderModel_is x2 88 u h) gk_SqlReaderModel_293 dk_SqlReaderModel_is rfl ⟨rfl, rfl⟩ ⟨Nat.le_of_ble_eq_true rfl, Nat.le_of_ble_eq_true rfl⟩ (rvW (q0 := 0) (ci := 1) E rfl rfl rfl) rfl (Nat.le_of_ble_eq_true rfl) d_SqlReaderModel_reach_108 fun r16 _ => ?_
                      refine Sm_if_eq (tgt := 118) E d_SqlReaderModel_reach_111 (by decide) (fun _ => ?_) (fun _ => ?_)
                      · refine Sm_iconst (v := 0) E d_SqlReaderModel_reach_118 (by decide) ?_
                        exact Sm_sub [0, 1, 2] rfl (tM_SqlReaderModel_reach_J119 E hR h7 _ _ _)
                      · refine Sm_iconst (v := 1) E d_SqlReaderModel_reach_114 (by decide) ?_
                        refine Sm_goto (tgt := 119) E d_SqlReaderModel_reach_115 (by decide) ?_
                        exact Sm_sub [0, 1, 2] rfl (tM_SqlReaderModel_reach_J119 E hR h7 _ _ _)
