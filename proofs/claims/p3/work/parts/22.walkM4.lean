set_option maxRecDepth 100000 in
set_option maxHeartbeats 4000000 in
theorem tM_SqlReaderModel_readCreate_J142 {X : Cx} {G : Gx} {res : St} (E : EM X G prog_11_method_48_code R_SqlReaderModel 3 { frames := 7, cells := 0, slots := 0, locals := 152 }) (hR : RtV X vwCl (wM G) prog_11_method_48_code res) {q32 : Int32 → St → Option (St)} (h32 : ∀ (x1 : Int32) (u : St), SM X G 3 res (q32 x1 u) u 32 [(0, .ref (G.1 100)), (1, .int x1)] []) : ∀ (x2 : Int32) (u : St), SM X G 3 res (mM_SqlReaderModel_readCreate_J142 q32 x2 u) u 142 [(0, .ref (G.1 100)), (2, .int x2)] [] := by
  intro x2 u
  rw [mM_SqlReaderModel_readCreate_J142]
  refine Sm_aload_n E d_SqlReaderModel_readCreate_142 rfl 0 rfl ?_
  refine gfM_0_newType E fl_SqlReaderModel_115 d_SqlReaderModel_readCreate_143 ?_
  refine Sm_aload_n E d_SqlReaderModel_readCreate_146 rfl 0 rfl ?_
  refine gfM_0_columns E fl_SqlReaderModel_198 d_SqlReaderModel_readCreate_147 ?_
  refine Sm_aload_n E d_SqlReaderModel_readCreate_150 rfl 0 rfl ?_
  refine Sm_ldcS_w E sr_SqlReaderModel_460 d_SqlReaderModel_readCreate_151 ?_
  refine Sm_cVI (As := [.ref (G.2.2.1 128)]) (b := (G.1 100)) (st := [.int (u.1 24), .ref (G.1 135)]) (n := 1) E exOk wM_as (fun _ h => cM_SqlReaderModel_takes 128 u h) gk_SqlReaderModel_421 dk_SqlReaderModel_takes rfl ⟨rfl, rfl⟩ ⟨Nat.le_of_ble_eq_true rfl, Nat.le_of_ble_eq_true rfl⟩ (rvW (q0 := 0) (ci := 1) E rfl rfl rfl) rfl (Nat.le_of_ble_eq_true rfl) d_SqlReaderModel_readCreate_154 fun r37 u38 _ => ?_
  refine Sm_if_eq (tgt := 167) E d_SqlReaderModel_readCreate_157 (by decide) (fun _ => ?_) (fun _ => ?_)
  · refine Sm_iload_n E d_SqlReaderModel_readCreate_167 rfl 1 rfl ?_
    exact Sm_sub [0] rfl (tM_SqlReaderModel_readCreate_J168 E hR h32 _ _ _)
  · refine Sm_iload_n E d_SqlReaderModel_readCreate_160 rfl 1 rfl ?_
    refine Sm_bipush (v := 20) E d_SqlReaderModel_readCreate_161 (by decide) ?_
    refine Sm_iadd E d_SqlReaderModel_readCreate_163 ?_
    refine Sm_goto (tgt := 168) E d_SqlReaderModel_readCreate_164 (by decide) ?_
    exact Sm_sub [0] rfl (tM_SqlReaderModel_readCreate_J168 E hR h32 _ _ _)
set_option maxRecDepth 100000 in
set_option maxHeartbeats 4000000 in
theorem tM_SqlReaderModel_readCreate_J117 {X : Cx} {G : Gx} {res : St} (E : EM X G prog_11_method_48_code R_SqlReaderModel 3 { frames := 7, cells := 0, slots := 0, locals := 152 }) (hR : RtV X vwCl (wM G) prog_11_method_48_code res) {q32 : Int32 → St → Option (St)} (h32 : ∀ (x1 : Int32) (u : St), SM X G 3 res (q32 x1 u) u 32 [(0, .ref (G.1 100)), (1, .int x1)] []) : ∀ (x2 : Int32) (s1 : Int32) (u : St), SM X G 3 res (mM_SqlReaderModel_readCreate_J117 q32 x2 s1 u) u 117 [(0, .ref (G.1 100)), (2, .int x2)] [.int s1, .ref (G.1 100)] := by
  intro x2 s1 u
  rw [mM_SqlReaderModel_readCreate_J117]
  refine Sm_gd fun hz => pfM_0_bad E fl_SqlReaderModel_226 d_SqlReaderModel_readCreate_117 (zb_n hz) (zb_f hz) fun u34 _ => ?_
  refine Sm_aload_n E d_SqlReaderModel_readCreate_120 rfl 0 rfl ?_
  refine Sm_ldcS_w E sr_SqlReaderModel_350 d_SqlReaderModel_readCreate_121 ?_
  refine Sm_cVI (As := [.ref (G.2.2.1 89)]) (b := (G.1 100)) (st := []) (n := 1) E exOk wM_as (fun _ h => cM_SqlReaderModel_takes 89 u34 h) gk_SqlReaderModel_421 dk_SqlReaderModel_takes rfl ⟨rfl, rfl⟩ ⟨Nat.le_of_ble_eq_true rfl, Nat.le_of_ble_eq_true rfl⟩ (rvW (q0 := 0) (ci := 1) E rfl rfl rfl) rfl (Nat.le_of_ble_eq_true rfl) d_SqlReaderModel_readCreate_124 fun r35 u36 _ => ?_
  refine Sm_if_eq (tgt := 142) E d_SqlReaderModel_readCreate_127 (by decide) (fun _ => ?_) (fun _ => ?_)
  · exact Sm_sub [0, 1] rfl (tM_SqlReaderModel_readCreate_J142 E hR h32 _ _)
  · refine Sm_aload_n E d_SqlReaderModel_readCreate_130 rfl 0 rfl ?_
    refine Sm_ldcS_w E sr_SqlReaderModel_303 d_SqlReaderModel_readCreate_131 ?_
    refine Sm_cVV (As := [.ref (G.2.2.1 100)]) (b := (G.1 100)) (st := []) (n := 1) E exOk wM_as (fun _ h => cM_SqlReaderModel_need 100 u36 h) gk_SqlReaderModel_450 dk_SqlReaderModel_need rfl ⟨rfl, rfl⟩ ⟨Nat.le_of_ble_eq_true rfl, Nat.le_of_ble_eq_true rfl⟩ (rvW (q0 := 0) (ci := 1) E rfl rfl rfl) rfl (Nat.le_of_ble_eq_true rfl) d_SqlReaderModel_readCreate_134 fun u43 _ => ?_
    refine Sm_iload_n E d_SqlReaderModel_readCreate_137 rfl 1 rfl ?_
    refine Sm_bipush (v := 10) E d_SqlReaderModel_readCreate_138 (by decide) ?_
    refine Sm_iadd E d_SqlReaderModel_readCreate_140 ?_
    refine Sm_leti fun y44 _ => ?_
    refine Sm_istore_n (lv' := [(2, .int y44), (0, .ref (G.1 100))]) E d_SqlReaderModel_readCreate_141 rfl (by decide) rfl ?_
    exact Sm_sub [1, 0] rfl (tM_SqlReaderModel_readCreate_J142 E hR h32 _ _)
set_option maxRecDepth 100000 in
set_option maxHeartbeats 4000000 in
theorem tM_SqlReaderModel_readCreate_J99 {X : Cx} {G : Gx} {res : St} (E : EM X G prog_11_method_48_code R_SqlReaderModel 3 { frames := 7, cells := 0, slots := 0, locals := 152 }) (hR : RtV X vwCl (wM G) prog_11_method_48_code res) {q32 : Int32 → St → Option (St)} (h32 : ∀ (x1 : Int32) (u : St), SM X G 3 res (q32 x1 u) u 32 [(0, .ref (G.1 100)), (1, .int x1)] []) : ∀ (s0 : Int32) (u : St), SM X G 3 res (mM_SqlReaderModel_readCreate_J99 q32 s0 u) u 99 [(0, .ref (G.1 100))] [.int s0] := by
  intro s0 u
  rw [mM_SqlReaderModel_readCreate_J99]
  refine Sm_istore_n (lv' := [(2, .int s0), (0, .ref (G.1 100))]) E d_SqlReaderModel_readCreate_99 rfl (by decide) rfl ?_
  refine Sm_aload_n E d_SqlReaderModel_readCreate_100 rfl 1 rfl ?_
  refine Sm_aload_n E d_SqlReaderModel_readCreate_101 rfl 1 rfl ?_
  refine gfM_0_bad E fl_SqlReaderModel_226 d_SqlReaderModel_readCreate_102 ?_
  refine Sm_if_ne (tgt := 112) E d_SqlReaderModel_readCreate_105 (by decide) (fun _ => ?_) (fun _ => ?_)
  · refine Sm_iconst (v := 1) E d_SqlReaderModel_readCreate_112 (by decide) ?_
    refine Sm_goto (tgt := 117) E d_SqlReaderModel_readCreate_113 (by decide) ?_
    exact Sm_sub [1, 0] rfl (tM_SqlReaderModel_readCreate_J117 E hR h32 _ _ _)
  · refine Sm_iload_n E d_SqlReaderModel_readCreate_108 rfl 0 rfl ?_
    refine Sm_if_ne (tgt := 116) E d_SqlReaderModel_readCreate_109 (by decide) (fun _ => ?_) (fun _ => ?_)
    · refine Sm_iconst (v := 0) E d_SqlReaderModel_readCreate_116 (by decide) ?_
      exact Sm_sub [1, 0] rfl (tM_SqlReaderModel_readCreate_J117 E hR h32 _ _ _)
    · refine Sm_iconst (v := 1) E d_SqlReaderModel_readCreate_112 (by decide) ?_
      refine Sm_goto (tgt := 117) E d_SqlReaderModel_readCreate_113 (by decide) ?_
      exact Sm_sub [1, 0] rfl (tM_SqlReaderModel_readCreate_J117 E hR h32 _ _ _)
set_option maxRecDepth 100000 in
set_option maxHeartbeats 4000000 in
theorem tM_SqlReaderModel_readCreate_L32 {X : Cx} {G : Gx} {res : St} (E : EM X G prog_11_method_48_code R_SqlReaderModel 3 { frames := 7, cells := 0, slots := 0, locals := 152 }) (hR : RtV X vwCl (wM G) prog_11_method_48_code res) : ∀ (n : Nat) (x1 : Int32) (u : St), SM X G 3 res (mM_SqlReaderModel_readCreate_L32 n x1 u) u 32 [(0, .ref (G.1 100)), (1, .int x1)] [] := by
  intro n
  induction n with
  | zero => intro x1 u; exact Sm_none
  | succ n h32 =>
    intro x1 u
    rw [mM_SqlReaderModel_readCreate_L32]
    refine Sm_iload_n E d_SqlReaderModel_readCreate_32 rfl 1 rfl ?_
    refine Sm_if_eq (tgt := 190) E d_SqlReaderModel_readCreate_33 (by decide) (fun _ => ?_) (fun _ => ?_)
    · refine Sm_aload_n E d_SqlReaderModel_readCreate_190 rfl 0 rfl ?_
      refine Sm_ldcS_w E sr_SqlReaderModel_297 d_SqlReaderModel_readCreate_191 ?_
      refine Sm_cVV (As := [.ref (G.2.2.1 88)]) (b := (G.1 100)) (st := []) (n := 1) E exOk wM_as (fun _ h => cM_SqlReaderModel_need 88 u h) gk_SqlReaderModel_450 dk_SqlReaderModel_need rfl ⟨rfl, rfl⟩ ⟨Nat.le_of_ble_eq_true rfl, Nat.le_of_ble_eq_true rfl⟩ (rvW (q0 := 0) (ci := 1) E rfl rfl rfl) rfl (Nat.le_of_ble_eq_true rfl) d_SqlReaderModel_readCreate_194 fun u23 _ => ?_
      exact Sm_retV hR d_SqlReaderModel_readCreate_197
    · refine Sm_aload_n E d_SqlReaderModel_readCreate_36 rfl 0 rfl ?_
      refine gfM_0_bad E fl_SqlReaderModel_226 d_SqlReaderModel_readCreate_37 ?_
      refine Sm_if_ne (tgt := 190) E d_SqlReaderModel_readCreate_40 (by decide) (fun _ => ?_) (fun _ => ?_)
      · refine Sm_aload_n E d_SqlReaderModel_readCreate_190 rfl 0 rfl ?_
        refine Sm_ldcS_w E sr_SqlReaderModel_297 d_SqlReaderModel_readCreate_191 ?_
        refine Sm_cVV (As := [.ref (G.2.2.1 88)]) (b := (G.1 100)) (st := []) (n := 1) E exOk wM_as (fun _ h => cM_SqlReaderModel_need 88 u h) gk_SqlReaderModel_450 dk_SqlReaderModel_need rfl ⟨rfl, rfl⟩ ⟨Nat.le_of_ble_eq_true rfl, Nat.le_of_ble_eq_true rfl⟩ (rvW (q0 := 0) (ci := 1) E rfl rfl rfl) rfl (Nat.le_of_ble_eq_true rfl) d_SqlReaderModel_readCreate_194 fun u24 _ => ?_
        exact Sm_retV hR d_SqlReaderModel_readCreate_197
      · refine Sm_aload_n E d_SqlReaderModel_readCreate_43 rfl 0 rfl ?_
        refine gfM_0_newToken E fl_SqlReaderModel_112 d_SqlReaderModel_readCreate_44 ?_
        refine Sm_aload_n E d_SqlReaderModel_readCreate_47 rfl 0 rfl ?_
        refine gfM_0_columns E fl_SqlReaderModel_198 d_SqlReaderModel_readCreate_48 ?_
        refine Sm_aload_n E d_SqlReaderModel_readCreate_51 rfl 0 rfl ?_
        refine Sm_cVI (As := []) (b := (G.1 100)) (st := [.int (u.1 24), .ref (G.1 134)]) (n := 0) E exOk wM_as (fun _ h => cM_SqlReaderModel_needName u h) gk_SqlReaderModel_447 dk_SqlReaderModel_needName rfl ⟨rfl, rfl⟩ ⟨Nat.le_of_ble_eq_true rfl, Nat.le_of_ble_eq_true rfl⟩ (rvW (q0 := 0) (ci := 1) E rfl rfl rfl) rfl (Nat.le_of_ble_eq_true rfl) d_SqlReaderModel_readCreate_52 fun r25 u26 _ => ?_
        refine Sm_gd fun hi => stM_34 E (inb_in hi) d_SqlReaderModel_readCreate_55 fun u27 _ => ?_
        refine Sm_aload_n E d_SqlReaderModel_readCreate_56 rfl 0 rfl ?_
        refine Sm_ldcS_w E sr_SqlReaderModel_454 d_SqlReaderModel_readCreate_57 ?_
        refine Sm_cVI (As := [.ref (G.2.2.1 125)]) (b := (G.1 100)) (st := []) (n := 1) E exOk wM_as (fun _ h => cM_SqlReaderModel_takes 125 u27 h) gk_SqlReaderModel_421 dk_SqlReaderModel_takes rfl ⟨rfl, rfl⟩ ⟨Nat.le_of_ble_eq_true rfl, Nat.le_of_ble_eq_true rfl⟩ (rvW (q0 := 0) (ci := 1) E rfl rfl rfl) rfl (Nat.le_of_ble_eq_true rfl) d_SqlReaderModel_readCreate_60 fun r28 u29 _ => ?_
        refine Sm_if_eq (tgt := 70) E d_SqlReaderModel_readCreate_63 (by decide) (fun _ => ?_) (fun _ => ?_)
        · refine Sm_aload_n E d_SqlReaderModel_readCreate_70 rfl 0 rfl ?_
          refine Sm_ldcS_w E sr_SqlReaderModel_456 d_SqlReaderModel_readCreate_71 ?_
          refine Sm_cVI (As := [.ref (G.2.2.1 126)]) (b := (G.1 100)) (st := []) (n := 1) E exOk wM_as (fun _ h => cM_SqlReaderModel_takes 126 u29 h) gk_SqlReaderModel_421 dk_SqlReaderModel_takes rfl ⟨rfl, rfl⟩ ⟨Nat.le_of_ble_eq_true rfl, Nat.le_of_ble_eq_true rfl⟩ (rvW (q0 := 0) (ci := 1) E rfl rfl rfl) rfl (Nat.le_of_ble_eq_true rfl) d_SqlReaderModel_readCreate_74 fun r30 u31 _ => ?_
          refine Sm_if_eq (tgt := 84) E d_SqlReaderModel_readCreate_77 (by decide) (fun _ => ?_) (fun _ => ?_)
          · refine Sm_aload_n E d_SqlReaderModel_readCreate_84 rfl 0 rfl ?_
            refine Sm_ldcS_w E sr_SqlReaderModel_458 d_SqlReaderModel_readCreate_85 ?_
            refine Sm_cVI (As := [.ref (G.2.2.1 127)]) (b := (G.1 100)) (st := []) (n := 1) E exOk wM_as (fun _ h => cM_SqlReaderModel_takes 127 u31 h) gk_SqlReaderModel_421 dk_SqlReaderModel_takes rfl ⟨rfl, rfl⟩ ⟨Nat.le_of_ble_eq_true rfl, Nat.le_of_ble_eq_true rfl⟩ (rvW (q0 := 0) (ci := 1) E rfl rfl rfl) rfl (Nat.le_of_ble_eq_true rfl) d_SqlReaderModel_readCreate_88 fun r32 u33 _ => ?_
            refine Sm_if_eq (tgt := 98) E d_SqlReaderModel_readCreate_91 (by decide) (fun _ => ?_) (fun _ => ?_)
            · refine Sm_iconst (v := 0) E d_SqlReaderModel_readCreate_98 (by decide) ?_
              exact Sm_sub [0] rfl (tM_SqlReaderModel_readCreate_J99 E hR h32 _ _)
            · refine Sm_iconst (v := 3) E d_SqlReaderModel_readCreate_94 (by decide) ?_
              refine Sm_goto (tgt := 99) E d_SqlReaderModel_readCreate_95 (by decide) ?_
              exact Sm_sub [0] rfl (tM_SqlReaderModel_readCreate_J99 E hR h32 _ _)
          · refine Sm_iconst (v := 2) E d_SqlReaderModel_readCreate_80 (by decide) ?_
            refine Sm_goto (tgt := 99) E d_SqlReaderModel_readCreate_81 (by decide) ?_
            exact Sm_sub [0] rfl (tM_SqlReaderModel_readCreate_J99 E hR h32 _ _)
        · refine Sm_iconst (v := 1) E d_SqlReaderModel_readCreate_66 (by decide) ?_
          refine Sm_goto (tgt := 99) E d_SqlReaderModel_readCreate_67 (by decide) ?_
          exact Sm_sub [0] rfl (tM_SqlReaderModel_readCreate_J99 E hR h32 _ _)
set_option maxRecDepth 100000 in
set_option maxHeartbeats 4000000 in
theorem cM_SqlReaderModel_readCreate {l : Launch} {D : va_G} {G : Gx} (u : St) {res : St} (hm : mM_SqlReaderModel_readCreate u = some res) : KM l D G y_SqlReaderModel_readCreate (.code y_SqlReaderModel_readCreate prog_11_method_48_code 3 none) { frames := 7, cells := 0, slots := 0, locals := 152 } [.ref (G.1 100)] u (qV D vwCl (wM G) (tyW G) (adsM G) res) := by
  refine Ct_V (by decide) wM_as (Nat.le_of_ble_eq_true rfl) hm (fun X _ _ E hR => ?_)
  refine Sm_lvs (lv' := [(0, .ref (G.1 100))]) rfl ?_
  rw [mM_SqlReaderModel_readCreate]
  refine Sm_aload_n E d_SqlReaderModel_readCreate_0 rfl 0 rfl ?_
  refine Sm_ldcS_w E sr_SqlReaderModel_445 d_SqlReaderModel_readCreate_1 ?_
  refine Sm_cVI (As := [.ref (G.2.2.1 124)]) (b := (G.1 100)) (st := []) (n := 1) E exOk wM_as (fun _ h => cM_SqlReaderModel_takes 124 u h) gk_SqlReaderModel_421 dk_SqlReaderModel_takes rfl ⟨rfl, rfl⟩ ⟨Nat.le_of_ble_eq_true rfl, Nat.le_of_ble_eq_true rfl⟩ (rvW (q0 := 0) (ci := 1) E rfl rfl rfl) rfl (Nat.le_of_ble_eq_true rfl) d_SqlReaderModel_readCreate_4 fun r1 u2 _ => ?_
  refine Sm_if_eq (tgt := 198) E d_SqlReaderModel_readCreate_7 (by decide) (fun _ => ?_) (fun _ => ?_)
  · refine Sm_aload_n E d_SqlReaderModel_readCreate_198 rfl 0 rfl ?_
    refine Sm_iconst (v := 2) E d_SqlReaderModel_readCreate_199 (by decide) ?_
    refine pfM_0_what E fl_SqlReaderModel_140 d_SqlReaderModel_readCreate_200 fun u3 _ => ?_
    refine Sm_aload_n E d_SqlReaderModel_readCreate_203 rfl 0 rfl ?_
    refine Sm_aload_n E d_SqlReaderModel_readCreate_204 rfl 0 rfl ?_
    refine Sm_ldcS_w E sr_SqlReaderModel_460 d_SqlReaderModel_readCreate_205 ?_
    refine Sm_cVI (As := [.ref (G.2.2.1 128)]) (b := (G.1 100)) (st := [.ref (G.1 100)]) (n := 1) E exOk wM_as (fun _ h => cM_SqlReaderModel_takes 128 u3 h) gk_SqlReaderModel_421 dk_SqlReaderModel_takes rfl ⟨rfl, rfl⟩ ⟨Nat.le_of_ble_eq_true rfl, Nat.le_of_ble_eq_true rfl⟩ (rvW (q0 := 0) (ci := 1) E rfl rfl rfl) rfl (Nat.le_of_ble_eq_true rfl) d_SqlReaderModel_readCreate_208 fun r4 u5 _ => ?_
    refine Sm_gd fun hz => pfM_0_unique E fl_SqlReaderModel_207 d_SqlReaderModel_readCreate_211 (zb_n hz) (zb_f hz) fun u6 _ => ?_
    refine Sm_aload_n E d_SqlReaderModel_readCreate_214 rfl 0 rfl ?_
    refine Sm_ldcS_w E sr_SqlReaderModel_462 d_SqlReaderModel_readCreate_215 ?_
    refine Sm_cVV (As := [.ref (G.2.2.1 129)]) (b := (G.1 100)) (st := []) (n := 1) E exOk wM_as (fun _ h => cM_SqlReaderModel_need 129 u6 h) gk_SqlReaderModel_450 dk_SqlReaderModel_need rfl ⟨rfl, rfl⟩ ⟨Nat.le_of_ble_eq_true rfl, Nat.le_of_ble_eq_true rfl⟩ (rvW (q0 := 0) (ci := 1) E rfl rfl rfl) rfl (Nat.le_of_ble_eq_true rfl) d_SqlReaderModel_readCreate_218 fun u7 _ => ?_
    refine Sm_aload_n E d_SqlReaderModel_readCreate_221 rfl 0 rfl ?_
    refine Sm_ldcS_w E sr_SqlReaderModel_464 d_SqlReaderModel_readCreate_222 ?_
    refine Sm_cVV (As := [.ref (G.2.2.1 130)]) (b := (G.1 100)) (st := []) (n := 1) E exOk wM_as (fun _ h => cM_SqlReaderModel_need 130 u7 h) gk_SqlReaderModel_450 dk_SqlReaderModel_need rfl ⟨rfl, rfl⟩ ⟨Nat.le_of_ble_eq_true rfl, Nat.le_of_ble_eq_true rfl⟩ (rvW (q0 := 0) (ci := 1) E rfl rfl rfl) rfl (Nat.le_of_ble_eq_true rfl) d_SqlReaderModel_readCreate_225 fun u8 _ => ?_
    refine Sm_aload_n E d_SqlReaderModel_readCreate_228 rfl 0 rfl ?_
    refine Sm_aload_n E d_SqlReaderModel_readCreate_229 rfl 0 rfl ?_
    refine Sm_cVI (As := []) (b := (G.1 100)) (st := [.ref (G.1 100)]) (n := 0) E exOk wM_as (fun _ h => cM_SqlReaderModel_needName u8 h) gk_SqlReaderModel_447 dk_SqlReaderModel_needName rfl ⟨rfl, rfl⟩ ⟨Nat.le_of_ble_eq_true rfl, Nat.le_of_ble_eq_true rfl⟩ (rvW (q0 := 0) (ci := 1) E rfl rfl rfl) rfl (Nat.le_of_ble_eq_true rfl) d_SqlReaderModel_readCreate_230 fun r9 u10 _ => ?_
    refine pfM_0_targetToken E fl_SqlReaderModel_149 d_SqlReaderModel_readCreate_233 fun u11 _ => ?_
    refine Sm_aload_n E d_SqlReaderModel_readCreate_236 rfl 0 rfl ?_
    refine Sm_ldcS_w E sr_SqlReaderModel_291 d_SqlReaderModel_readCreate_237 ?_
    refine Sm_cVV (As := [.ref (G.2.2.1 79)]) (b := (G.1 100)) (st := []) (n := 1) E exOk wM_as (fun _ h => cM_SqlReaderModel_need 79 u11 h) gk_SqlReaderModel_450 dk_SqlReaderModel_need rfl ⟨rfl, rfl⟩ ⟨Nat.le_of_ble_eq_true rfl, Nat.le_of_ble_eq_true rfl⟩ (rvW (q0 := 0) (ci := 1) E rfl rfl rfl) rfl (Nat.le_of_ble_eq_true rfl) d_SqlReaderModel_readCreate_240 fun u12 _ => ?_
    refine Sm_aload_n E d_SqlReaderModel_readCreate_243 rfl 0 rfl ?_
    refine Sm_aload_n E d_SqlReaderModel_readCreate_244 rfl 0 rfl ?_
    refine Sm_cVI (As := []) (b := (G.1 100)) (st := [.ref (G.1 100)]) (n := 0) E exOk wM_as (fun _ h => cM_SqlReaderModel_needName u12 h) gk_SqlReaderModel_447 dk_SqlReaderModel_needName rfl ⟨rfl, rfl⟩ ⟨Nat.le_of_ble_eq_true rfl, Nat.le_of_ble_eq_true rfl⟩ (rvW (q0 := 0) (ci := 1) E rfl rfl rfl) rfl (Nat.le_of_ble_eq_true rfl) d_SqlReaderModel_readCreate_245 fun r13 u14 _ => ?_
    refine pfM_0_indexedToken E fl_SqlReaderModel_204 d_SqlReaderModel_readCreate_248 fun u15 _ => ?_
    refine Sm_aload_n E d_SqlReaderModel_readCreate_251 rfl 0 rfl ?_
    refine Sm_bipush (v := 9) E d_SqlReaderModel_readCreate_252 (by decide) ?_
    refine Sm_iconst (v := 0) E d_SqlReaderModel_readCreate_254 (by decide) ?_
    refine Sm_iconst (v := 0) E d_SqlReaderModel_readCreate_255 (by decide) ?_
    refine Sm_cVV (As := [.int 9, .int 0, .int 0]) (b := (G.1 100)) (st := []) (n := 3) E exOk wM_as (fun _ h => cM_SqlReaderModel_note 9 0 0 u15 h) gk_SqlReaderModel_283 dk_SqlReaderModel_note rfl ⟨rfl, rfl⟩ ⟨Nat.le_of_ble_eq_true rfl, Nat.le_of_ble_eq_true rfl⟩ (rvW (q0 := 0) (ci := 1) E rfl rfl rfl) rfl (Nat.le_of_ble_eq_true rfl) d_SqlReaderModel_readCreate_256 fun u16 _ => ?_
    refine Sm_aload_n E d_SqlReaderModel_readCreate_259 rfl 0 rfl ?_
    refine Sm_ldcS_w E sr_SqlReaderModel_297 d_SqlReaderModel_readCreate_260 ?_
    refine Sm_cVV (As := [.ref (G.2.2.1 88)]) (b := (G.1 100)) (st := []) (n := 1) E exOk wM_as (fun _ h => cM_SqlReaderModel_need 88 u16 h) gk_SqlReaderModel_450 dk_SqlReaderModel_need rfl ⟨rfl, rfl⟩ ⟨Nat.le_of_ble_eq_true rfl, Nat.le_of_ble_eq_true rfl⟩ (rvW (q0 := 0) (ci := 1) E rfl rfl rfl) rfl (Nat.le_of_ble_eq_true rfl) d_SqlReaderModel_readCreate_263 fun u17 _ => ?_
    exact Sm_retV hR d_SqlReaderModel_readCreate_266
  · refine Sm_aload_n E d_SqlReaderModel_readCreate_10 rfl 0 rfl ?_
    refine Sm_iconst (v := 1) E d_SqlReaderModel_readCreate_11 (by decide) ?_
    refine pfM_0_what E fl_SqlReaderModel_140 d_SqlReaderModel_readCreate_12 fun u18 _ => ?_
    refine Sm_aload_n E d_SqlReaderModel_readCreate_15 rfl 0 rfl ?_
    refine Sm_aload_n E d_SqlReaderModel_readCreate_16 rfl 0 rfl ?_
    refine Sm_cVI (As := []) (b := (G.1 100)) (st := [.ref (G.1 100)]) (n := 0) E exOk wM_as (fun _ h => cM_SqlReaderModel_needName u18 h) gk_SqlReaderModel_447 dk_SqlReaderModel_needName rfl ⟨rfl, rfl⟩ ⟨Nat.le_of_ble_eq_true rfl, Nat.le_of_ble_eq_true rfl⟩ (rvW (q0 := 0) (ci := 1) E rfl rfl rfl) rfl (Nat.le_of_ble_eq_true rfl) d_SqlReaderModel_readCreate_17 fun r19 u20 _ => ?_
    refine pfM_0_named0 E fl_SqlReaderModel_155 d_SqlReaderModel_readCreate_20 fun u21 _ => ?_
    refine Sm_aload_n E d_SqlReaderModel_readCreate_23 rfl 0 rfl ?_
    refine Sm_ldcS_w E sr_SqlReaderModel_291 d_SqlReaderModel_readCreate_24 ?_
    refine Sm_cVV (As := [.ref (G.2.2.1 79)]) (b := (G.1 100)) (st := []) (n := 1) E exOk wM_as (fun _ h => cM_SqlReaderModel_need 79 u21 h) gk_SqlReaderModel_450 dk_SqlReaderModel_need rfl ⟨rfl, rfl⟩ ⟨Nat.le_of_ble_eq_true rfl, Nat.le_of_ble_eq_true rfl⟩ (rvW (q0 := 0) (ci := 1) E rfl rfl rfl) rfl (Nat.le_of_ble_eq_true rfl) d_SqlReaderModel_readCreate_27 fun u22 _ => ?_
    refine Sm_iconst (v := 1) E d_SqlReaderModel_readCreate_30 (by decide) ?_
    refine Sm_istore_n (lv' := [(1, .int 1), (0, .ref (G.1 100))]) E d_SqlReaderModel_readCreate_31 rfl (by decide) rfl ?_
    exact Sm_sub [1, 0] rfl (tM_SqlReaderModel_readCreate_L32 E hR FU _ _)
set_option maxRecDepth 100000 in
set_option maxHeartbeats 4000000 in
theorem cM_SqlReaderModel_readBegin {l : Launch} {D : va_G} {G : Gx} (u : St) {res : St} (hm : mM_SqlReaderModel_readBegin u = some res) : KM l D G y_SqlReaderModel_readBegin (.code y_SqlReaderModel_readBegin prog_11_method_59_code 1 none) { frames := 7, cells := 0, slots := 0, locals := 152 } [.ref (G.1 100)] u (qV D vwCl (wM G) (tyW G) (adsM G) res) := by
  refine Ct_V (by decide) wM_as (Nat.le_of_ble_eq_true rfl) hm (fun X _ _ E hR => ?_)
  refine Sm_lvs (lv' := [(0, .ref (G.1 100))]) rfl ?_
  rw [mM_SqlReaderModel_readBegin]
  refine Sm_aload_n E d_SqlReaderModel_readBegin_0 rfl 0 rfl ?_
  refine Sm_bipush (v := 9) E d_SqlReaderModel_readBegin_1 (by decide) ?_
  refine pfM_0_what E fl_SqlReaderModel_140 d_SqlReaderModel_readBegin_3 fun u1 _ => ?_
  refine Sm_aload_n E d_SqlReaderModel_readBegin_6 rfl 0 rfl ?_
  refine Sm_ldcS_w E sr_SqlReaderModel_517 d_SqlReaderModel_readBegin_7 ?_
  refine Sm_cVI (As := [.ref (G.2.2.1 133)]) (b := (G.1 100)) (st := []) (n := 1) E exOk wM_as (fun _ h => cM_SqlReaderModel_takes 133 u1 h) gk_SqlReaderModel_421 dk_SqlReaderModel_takes rfl ⟨rfl, rfl⟩ ⟨Nat.le_of_ble_eq_true rfl, Nat.le_of_ble_eq_true rfl⟩ (rvW (q0 := 0) (ci := 1) E rfl rfl rfl) rfl (Nat.le_of_ble_eq_true rfl) d_SqlReaderModel_readBegin_10 fun r2 u3 _ => ?_
  refine Sm_if_eq (tgt := 26) E d_SqlReaderModel_readBegin_13 (by decide) (fun _ => ?_) (fun _ => ?_)
  · refine Sm_aload_n E d_SqlReaderModel_readBegin_26 rfl 0 rfl ?_
    refine Sm_ldcS_w E sr_SqlReaderModel_521 d_SqlReaderModel_readBegin_27 ?_
    refine Sm_cVI (As := [.ref (G.2.2.1 135)]) (b := (G.1 100)) (st := []) (n := 1) E exOk wM_as (fun _ h => cM_SqlReaderModel_takes 135 u3 h) gk_SqlReaderModel_421 dk_SqlReaderModel_takes rfl ⟨rfl, rfl⟩ ⟨Nat.le_of_ble_eq_true rfl, Nat.le_of_ble_eq_true rfl⟩ (rvW (q0 := 0) (ci := 1) E rfl rfl rfl) rfl (Nat.le_of_ble_eq_true rfl) d_SqlReaderModel_readBegin_30 fun r4 u5 _ => ?_
    refine Sm_if_eq (tgt := 51) E d_SqlReaderModel_readBegin_33 (by decide) (fun _ => ?_) (fun _ => ?_)
    · refine Sm_aload_n E d_SqlReaderModel_readBegin_51 rfl 0 rfl ?_
      refine Sm_ldcS_w E sr_SqlReaderModel_523 d_SqlReaderModel_readBegin_52 ?_
      refine Sm_cVI (As := [.ref (G.2.2.1 136)]) (b := (G.1 100)) (st := []) (n := 1) E exOk wM_as (fun _ h => cM_SqlReaderModel_takes 136 u5 h) gk_SqlReaderModel_421 dk_SqlReaderModel_takes rfl ⟨rfl, rfl⟩ ⟨Nat.le_of_ble_eq_true rfl, Nat.le_of_ble_eq_true rfl⟩ (rvW (q0 := 0) (ci := 1) E rfl rfl rfl) rfl (Nat.le_of_ble_eq_true rfl) d_SqlReaderModel_readBegin_55 fun r6 u7 _ => ?_
      refine Sm_if_eq (tgt := 66) E d_SqlReaderModel_readBegin_58 (by decide) (fun _ => ?_) (fun _ => ?_)
      · exact Sm_retV hR d_SqlReaderModel_readBegin_66
      · refine Sm_aload_n E d_SqlReaderModel_readBegin_61 rfl 0 rfl ?_
        refine Sm_iconst (v := 2) E d_SqlReaderModel_readBegin_62 (by decide) ?_
        refine pfM_0_mode E fl_SqlReaderModel_152 d_SqlReaderModel_readBegin_63 fun u8 _ => ?_
        exact Sm_retV hR d_SqlReaderModel_readBegin_66
    · refine Sm_aload_n E d_SqlReaderModel_readBegin_36 rfl 0 rfl ?_
      refine Sm_ldcS_w E sr_SqlReaderModel_517 d_SqlReaderModel_readBegin_37 ?_
      refine Sm_cVV (As := [.ref (G.2.2.1 133)]) (b := (G.1 100)) (st := []) (n := 1) E exOk wM_as (fun _ h => cM_SqlReaderModel_need 133 u5 h) gk_SqlReaderModel_450 dk_SqlReaderModel_need rfl ⟨rfl, rfl⟩ ⟨Nat.le_of_ble_eq_true rfl, Nat.le_of_ble_eq_true rfl⟩ (rvW (q0 := 0) (ci := 1) E rfl rfl rfl) rfl (Nat.le_of_ble_eq_true rfl) d_SqlReaderModel_readBegin_40 fun u9 _ => ?_
      refine Sm_aload_n E d_SqlReaderModel_readBegin_43 rfl 0 rfl ?_
      refine Sm_iconst (v := 1) E d_SqlReaderModel_readBegin_44 (by decide) ?_
      refine pfM_0_mode E fl_SqlReaderModel_152 d_SqlReaderModel_readBegin_45 fun u10 _ => ?_
      refine Sm_goto (tgt := 66) E d_SqlReaderModel_readBegin_48 (by decide) ?_
      exact Sm_retV hR d_SqlReaderModel_readBegin_66
  · refine Sm_aload_n E d_SqlReaderModel_readBegin_16 rfl 0 rfl ?_
    refine Sm_ldcS_w E sr_SqlReaderModel_519 d_SqlReaderModel_readBegin_17 ?_
    refine Sm_cVV (As := [.ref (G.2.2.1 134)]) (b := (G.1 100)) (st := []) (n := 1) E exOk wM_as (fun _ h => cM_SqlReaderModel_need 134 u3 h) gk_SqlReaderModel_450 dk_SqlReaderModel_need rfl ⟨rfl, rfl⟩ ⟨Nat.le_of_ble_eq_true rfl, Nat.le_of_ble_eq_true rfl⟩ (rvW (q0 := 0) (ci := 1) E rfl rfl rfl) rfl (Nat.le_of_ble_eq_true rfl) d_SqlReaderModel_readBegin_20 fun u11 _ => ?_
    refine Sm_goto (tgt := 66) E d_SqlReaderModel_readBegin_23 (by decide) ?_
    exact Sm_retV hR d_SqlReaderModel_readBegin_66
set_option maxRecDepth 100000 in
set_option maxHeartbeats 4000000 in
theorem cM_SqlReaderModel_readNamed {l : Launch} {D : va_G} {G : Gx} (x1 : Int32) (u : St) {res : St} (hm : mM_SqlReaderModel_readNamed x1 u = some res) : KM l D G y_SqlReaderModel_readNamed (.code y_SqlReaderModel_readNamed prog_11_method_61_code 2 none) { frames := 2, cells := 0, slots := 0, locals := 42 } [.ref (G.1 100), .int x1] u (qV D vwCl (wM G) (tyW G) (adsM G) res) := by
  refine Ct_V (by decide) wM_as (Nat.le_of_ble_eq_true rfl) hm (fun X _ _ E hR => ?_)
  refine Sm_lvs (lv' := [(0, .ref (G.1 100)), (1, .int x1)]) rfl ?_
  rw [mM_SqlReaderModel_readNamed]
  refine Sm_aload_n E d_SqlReaderModel_readNamed_0 rfl 0 rfl ?_
  refine Sm_iload_n E d_SqlReaderModel_readNamed_1 rfl 1 rfl ?_
  refine pfM_0_what E fl_SqlReaderModel_140 d_SqlReaderModel_readNamed_2 fun u1 _ => ?_
  refine Sm_aload_n E d_SqlReaderModel_readNamed_5 rfl 0 rfl ?_
  refine Sm_aload_n E d_SqlReaderModel_readNamed_6 rfl 0 rfl ?_
  refine Sm_cVI (As := []) (b := (G.1 100)) (st := [.ref (G.1 100)]) (n := 0) E exOk wM_as (fun _ h => cM_SqlReaderModel_needName u1 h) gk_SqlReaderModel_447 dk_SqlReaderModel_needName rfl ⟨rfl, rfl⟩ ⟨Nat.le_of_ble_eq_true rfl, Nat.le_of_ble_eq_true rfl⟩ (rvW (q0 := 0) (ci := 1) E rfl rfl rfl) rfl (Nat.le_of_ble_eq_true rfl) d_SqlReaderModel_readNamed_7 fun r2 u3 _ => ?_
  refine pfM_0_named0 E fl_SqlReaderModel_155 d_SqlReaderModel_readNamed_10 fun u4 _ => ?_
  exact Sm_retV hR d_SqlReaderModel_readNamed_13
set_option maxRecDepth 100000 in
set_option maxHeartbeats 4000000 in
theorem tM_SqlReaderModel_readMode_J118 {X : Cx} {G : Gx} {res : St} (E : EM X G prog_11_method_58_code R_SqlReaderModel 1 { frames := 7, cells := 0, slots := 0, locals := 152 }) (hR : RtV X vwCl (wM G) prog_11_method_58_code res) : ∀ (u : St), SM X G 1 res (mM_SqlReaderModel_readMode_J118 u) u 118 [(0, .ref (G.1 100))] [] := by
  intro u
  rw [mM_SqlReaderModel_readMode_J118]
  refine Sm_aload_n E d_SqlReaderModel_readMode_118 rfl 0 rfl ?_
  refine gfM_0_mode E fl_SqlReaderModel_152 d_SqlReaderModel_readMode_119 ?_
  refine Sm_iconst (v := 1) E d_SqlReaderModel_readMode_122 (by decide) ?_
  refine Sm_icmp_eq (tgt := 149) E d_SqlReaderModel_readMode_123 (by decide) (fun _ => ?_) (fun _ => ?_)
  · exact Sm_retV hR d_SqlReaderModel_readMode_149
  · refine Sm_aload_n E d_SqlReaderModel_readMode_126 rfl 0 rfl ?_
    refine gfM_0_mode E fl_SqlReaderModel_152 d_SqlReaderModel_readMode_127 ?_
    refine Sm_iconst (v := 2) E d_SqlReaderModel_readMode_130 (by decide) ?_
    refine Sm_icmp_eq (tgt := 149) E d_SqlReaderModel_readMode_131 (by decide) (fun _ => ?_) (fun _ => ?_)
    · exact Sm_retV hR d_SqlReaderModel_readMode_149
    · refine Sm_aload_n E d_SqlReaderModel_readMode_134 rfl 0 rfl ?_
      refine gfM_0_mode E fl_SqlReaderModel_152 d_SqlReaderModel_readMode_135 ?_
      refine Sm_iconst (v := 5) E d_SqlReaderModel_readMode_138 (by decide) ?_
      refine Sm_icmp_eq (tgt := 149) E d_SqlReaderModel_readMode_139 (by decide) (fun _ => ?_) (fun _ => ?_)
      · exact Sm_retV hR d_SqlReaderModel_readMode_149
      · refine Sm_aload_n E d_SqlReaderModel_readMode_142 rfl 0 rfl ?_
        refine Sm_ldcS_w E sr_SqlReaderModel_515 d_SqlReaderModel_readMode_143 ?_
        refine Sm_cVV (As := [.ref (G.2.2.1 145)]) (b := (G.1 100)) (st := []) (n := 1) E exOk wM_as (fun _ h => cM_SqlReaderModel_need 145 u h) gk_SqlReaderModel_450 dk_SqlReaderModel_need rfl ⟨rfl, rfl⟩ ⟨Nat.le_of_ble_eq_true rfl, Nat.le_of_ble_eq_true rfl⟩ (rvW (q0 := 0) (ci := 1) E rfl rfl rfl) rfl (Nat.le_of_ble_eq_true rfl) d_SqlReaderModel_readMode_146 fun u8 _ => ?_
        exact Sm_retV hR d_SqlReaderModel_readMode_149
set_option maxRecDepth 100000 in
set_option maxHeartbeats 4000000 in
theorem cM_SqlReaderModel_readMode {l : Launch} {D : va_G} {G : Gx} (u : St) {res : St} (hm : mM_SqlReaderModel_readMode u = some res) : KM l D G y_SqlReaderModel_readMode (.code y_SqlReaderModel_readMode prog_11_method_58_code 1 none) { frames := 7, cells := 0, slots := 0, locals := 152 } [.ref (G.1 100)] u (qV D vwCl (wM G) (tyW G) (adsM G) res) := by
  refine Ct_V (by decide) wM_as (Nat.le_of_ble_eq_true rfl) hm (fun X _ _ E hR => ?_)
  refine Sm_lvs (lv' := [(0, .ref (G.1 100))]) rfl ?_
  rw [mM_SqlReaderModel_readMode]
  refine Sm_aload_n E d_SqlReaderModel_readMode_0 rfl 0 rfl ?_
  refine Sm_ldcS_w E sr_SqlReaderModel_511 d_SqlReaderModel_readMode_1 ?_
  refine Sm_cVI (As := [.ref (G.2.2.1 143)]) (b := (G.1 100)) (st := []) (n := 1) E exOk wM_as (fun _ h => cM_SqlReaderModel_takes 143 u h) gk_SqlReaderModel_421 dk_SqlReaderModel_takes rfl ⟨rfl, rfl⟩ ⟨Nat.le_of_ble_eq_true rfl, Nat.le_of_ble_eq_true rfl⟩ (rvW (q0 := 0) (ci := 1) E rfl rfl rfl) rfl (Nat.le_of_ble_eq_true rfl) d_SqlReaderModel_readMode_4 fun r1 u2 _ => ?_
  refine Sm_if_eq (tgt := 33) E d_SqlReaderModel_readMode_7 (by decide) (fun _ => ?_) (fun _ => ?_)
  · refine Sm_aload_n E d_SqlReaderModel_readMode_33 rfl 0 rfl ?_
    refine Sm_ldcS_w E sr_SqlReaderModel_513 d_SqlReaderModel_readMode_34 ?_
    refine Sm_cVI (As := [.ref (G.2.2.1 144)]) (b := (G.1 100)) (st := []) (n := 1) E exOk wM_as (fun _ h => cM_SqlReaderModel_takes 144 u2 h) gk_SqlReaderModel_421 dk_SqlReaderModel_takes rfl ⟨rfl, rfl⟩ ⟨Nat.le_of_ble_eq_true rfl, Nat.le_of_ble_eq_true rfl⟩ (rvW (q0 := 0) (ci := 1) E rfl rfl rfl) rfl (Nat.le_of_ble_eq_true rfl) d_SqlReaderModel_readMode_37 fun r3 u4 _ => ?_
    refine Sm_if_eq (tgt := 65) E d_SqlReaderModel_readMode_40 (by decide) (fun _ => ?_) (fun _ => ?_)
    · refine Sm_aload_n E d_SqlReaderModel_readMode_65 rfl 0 rfl ?_
      refine Sm_ldcS_w E sr_SqlReaderModel_509 d_SqlReaderModel_readMode_66 ?_
      refine Sm_cVI (As := [.ref (G.2.2.1 120)]) (b := (G.1 100)) (st := []) (n := 1) E exOk wM_as (fun _ h => cM_SqlReaderModel_takes 120 u4 h) gk_SqlReaderModel_421 dk_SqlReaderModel_takes rfl ⟨rfl, rfl⟩ ⟨Nat.le_of_ble_eq_true rfl, Nat.le_of_ble_eq_true rfl⟩ (rvW (q0 := 0) (ci := 1) E rfl rfl rfl) rfl (Nat.le_of_ble_eq_true rfl) d_SqlReaderModel_readMode_69 fun r5 u6 _ => ?_
      refine Sm_if_eq (tgt := 112) E d_SqlReaderModel_readMode_72 (by decide) (fun _ => ?_) (fun _ => ?_)
      · refine Sm_aload_n E d_SqlReaderModel_readMode_112 rfl 0 rfl ?_
        refine Sm_bipush (v := 7) E d_SqlReaderModel_readMode_113 (by decide) ?_
        refine pfM_0_mode E fl_SqlReaderModel_152 d_SqlReaderModel_readMode_115 fun u7 _ => ?_
        exact Sm_sub [0] rfl (tM_SqlReaderModel_readMode_J118 E hR _)
      · refine Sm_aload_n E d_SqlReaderModel_readMode_75 rfl 0 rfl ?_
        refine Sm_aload_n E d_SqlReaderModel_readMode_76 rfl 0 rfl ?_
        refine Sm_ldcS_w E sr_SqlReaderModel_507 d_SqlReaderModel_readMode_77 ?_
        refine Sm_cVI (As := [.ref (G.2.2.1 119)]) (b := (G.1 100)) (st := [.ref (G.1 100)]) (n := 1) E exOk wM_as (fun _ h => cM_SqlReaderModel_takes 119 u6 h) gk_SqlReaderModel_421 dk_SqlReaderModel_takes rfl ⟨rfl, rfl⟩ ⟨Nat.le_of_ble_eq_true rfl, Nat.le_of_ble_eq_true rfl⟩ (rvW (q0 := 0) (ci := 1) E rfl rfl rfl) rfl (Nat.le_of_ble_eq_true rfl) d_SqlReaderModel_readMode_80 fun r9 u10 _ => ?_
        refine Sm_if_eq (tgt := 90) E d_SqlReaderModel_readMode_83 (by decide) (fun _ => ?_) (fun _ => ?_)
        · refine Sm_aload_n E d_SqlReaderModel_readMode_90 rfl 0 rfl ?_
          refine Sm_ldcS_w E sr_SqlReaderModel_513 d_SqlReaderModel_readMode_91 ?_
          refine Sm_cVI (As := [.ref (G.2.2.1 144)]) (b := (G.1 100)) (st := [.ref (G.1 100)]) (n := 1) E exOk wM_as (fun _ h => cM_SqlReaderModel_takes 144 u10 h) gk_SqlReaderModel_421 dk_SqlReaderModel_takes rfl ⟨rfl, rfl⟩ ⟨Nat.le_of_ble_eq_true rfl, Nat.le_of_ble_eq_true rfl⟩ (rvW (q0 := 0) (ci := 1) E rfl rfl rfl) rfl (Nat.le_of_ble_eq_true rfl) d_SqlReaderModel_readMode_94 fun r11 u12 _ => ?_
          refine Sm_if_eq (tgt := 105) E d_SqlReaderModel_readMode_97 (by decide) (fun _ => ?_) (fun _ => ?_)
          · refine Sm_iconst (v := 5) E d_SqlReaderModel_readMode_105 (by decide) ?_
            refine pfM_0_mode E fl_SqlReaderModel_152 d_SqlReaderModel_readMode_106 fun u13 _ => ?_
            refine Sm_goto (tgt := 118) E d_SqlReaderModel_readMode_109 (by decide) ?_
            exact Sm_sub [0] rfl (tM_SqlReaderModel_readMode_J118 E hR _)
          · refine Sm_bipush (v := 6) E d_SqlReaderModel_readMode_100 (by decide) ?_
            refine Sm_goto (tgt := 106) E d_SqlReaderModel_readMode_102 (by decide) ?_
            refine pfM_0_mode E fl_SqlReaderModel_152 d_SqlReaderModel_readMode_106 fun u14 _ => ?_
            refine Sm_goto (tgt := 118) E d_SqlReaderModel_readMode_109 (by decide) ?_
            exact Sm_sub [0] rfl (tM_SqlReaderModel_readMode_J118 E hR _)
        · refine Sm_iconst (v := 4) E d_SqlReaderModel_readMode_86 (by decide) ?_
          refine Sm_goto (tgt := 106) E d_SqlReaderModel_readMode_87 (by decide) ?_
          refine pfM_0_mode E fl_SqlReaderModel_152 d_SqlReaderModel_readMode_106 fun u15 _ => ?_
          refine Sm_goto (tgt := 118) E d_SqlReaderModel_readMode_109 (by decide) ?_
          exact Sm_sub [0] rfl (tM_SqlReaderModel_readMode_J118 E hR _)
    · refine Sm_aload_n E d_SqlReaderModel_readMode_43 rfl 0 rfl ?_
      refine Sm_aload_n E d_SqlReaderModel_readMode_44 rfl 0 rfl ?_
      refine Sm_ldcS_w E sr_SqlReaderModel_509 d_SqlReaderModel_readMode_45 ?_
      refine Sm_cVI (As := [.ref (G.2.2.1 120)]) (b := (G.1 100)) (st := [.ref (G.1 100)]) (n := 1) E exOk wM_as (fun _ h => cM_SqlReaderModel_takes 120 u4 h) gk_SqlReaderModel_421 dk_SqlReaderModel_takes rfl ⟨rfl, rfl⟩ ⟨Nat.le_of_ble_eq_true rfl, Nat.le_of_ble_eq_true rfl⟩ (rvW (q0 := 0) (ci := 1) E rfl rfl rfl) rfl (Nat.le_of_ble_eq_true rfl) d_SqlReaderModel_readMode_48 fun r16 u17 _ => ?_
      refine Sm_if_eq (tgt := 58) E d_SqlReaderModel_readMode_51 (by decide) (fun _ => ?_) (fun _ => ?_)
      · refine Sm_iconst (v := 3) E d_SqlReaderModel_readMode_58 (by decide) ?_
        refine pfM_0_mode E fl_SqlReaderModel_152 d_SqlReaderModel_readMode_59 fun u18 _ => ?_
        refine Sm_goto (tgt := 118) E d_SqlReaderModel_readMode_62 (by decide) ?_
        exact Sm_sub [0] rfl (tM_SqlReaderModel_readMode_J118 E hR _)
      · refine Sm_iconst (v := 2) E d_SqlReaderModel_readMode_54 (by decide) ?_
        refine Sm_goto (tgt := 59) E d_SqlReaderModel_readMode_55 (by decide) ?_
        refine pfM_0_mode E fl_SqlReaderModel_152 d_SqlReaderModel_readMode_59 fun u19 _ => ?_
        refine Sm_goto (tgt := 118) E d_SqlReaderModel_readMode_62 (by decide) ?_
        exact Sm_sub [0] rfl (tM_SqlReaderModel_readMode_J118 E hR _)
  · refine Sm_aload_n E d_SqlReaderModel_readMode_10 rfl 0 rfl ?_
    refine Sm_aload_n E d_SqlReaderModel_readMode_11 rfl 0 rfl ?_
    refine Sm_ldcS_w E sr_SqlReaderModel_509 d_SqlReaderModel_readMode_12 ?_
    refine Sm_cVI (As := [.ref (G.2.2.1 120)]) (b := (G.1 100)) (st := [.ref (G.1 100)]) (n := 1) E exOk wM_as (fun _ h => cM_SqlReaderModel_takes 120 u2 h) gk_SqlReaderModel_421 dk_SqlReaderModel_takes rfl ⟨rfl, rfl⟩ ⟨Nat.le_of_ble_eq_true rfl, Nat.le_of_ble_eq_true rfl⟩ (rvW (q0 := 0) (ci := 1) E rfl rfl rfl) rfl (Nat.le_of_ble_eq_true rfl) d_SqlReaderModel_readMode_15 fun r20 u21 _ => ?_
    refine Sm_if_eq (tgt := 25) E d_SqlReaderModel_readMode_18 (by decide) (fun _ => ?_) (fun _ => ?_)
    · refine Sm_bipush (v := 8) E d_SqlReaderModel_readMode_25 (by decide) ?_
      refine pfM_0_mode E fl_SqlReaderModel_152 d_SqlReaderModel_readMode_27 fun u22 _ => ?_
      refine Sm_goto (tgt := 118) E d_SqlReaderModel_readMode_30 (by decide) ?_
      exact Sm_sub [0] rfl (tM_SqlReaderModel_readMode_J118 E hR _)
    · refine Sm_iconst (v := 1) E d_SqlReaderModel_readMode_21 (by decide) ?_
      refine Sm_goto (tgt := 27) E d_SqlReaderModel_readMode_22 (by decide) ?_
      refine pfM_0_mode E fl_SqlReaderModel_152 d_SqlReaderModel_readMode_27 fun u23 _ => ?_
      refine Sm_goto (tgt := 118) E d_SqlReaderModel_readMode_30 (by decide) ?_
      exact Sm_sub [0] rfl (tM_SqlReaderModel_readMode_J118 E hR _)
set_option maxRecDepth 100000 in
set_option maxHeartbeats 4000000 in
theorem tM_SqlReaderModel_readValues_L18 {X : Cx} {G : Gx} {res : St} (E : EM X G prog_11_method_62_code R_SqlReaderModel 2 { frames := 409, cells := 0, slots := 0, locals := 14201 }) (hR : RtV X vwCl (wM G) prog_11_method_62_code res) : ∀ (n : Nat) (x1 : Int32) (u : St), SM X G 2 res (mM_SqlReaderModel_readValues_L18 n x1 u) u 18 [(0, .ref (G.1 100)), (1, .int x1)] [] := by
  intro n
  induction n with
  | zero => intro x1 u; exact Sm_none
  | succ n h18 =>
    intro x1 u
    rw [mM_SqlReaderModel_readValues_L18]
    refine Sm_iload_n E d_SqlReaderModel_readValues_18 rfl 1 rfl ?_
    refine Sm_if_eq (tgt := 63) E d_SqlReaderModel_readValues_19 (by decide) (fun _ => ?_) (fun _ => ?_)
    · refine Sm_aload_n E d_SqlReaderModel_readValues_63 rfl 0 rfl ?_
      refine Sm_ldcS_w E sr_SqlReaderModel_297 d_SqlReaderModel_readValues_64 ?_
      refine Sm_cVV (As := [.ref (G.2.2.1 88)]) (b := (G.1 100)) (st := []) (n := 1) E exOk wM_as (fun _ h => cM_SqlReaderModel_need 88 u h) gk_SqlReaderModel_450 dk_SqlReaderModel_need rfl ⟨rfl, rfl⟩ ⟨Nat.le_of_ble_eq_true rfl, Nat.le_of_ble_eq_true rfl⟩ (rvW (q0 := 0) (ci := 1) E rfl rfl rfl) rfl (Nat.le_of_ble_eq_true rfl) d_SqlReaderModel_readValues_67 fun u4 _ => ?_
      exact Sm_retV hR d_SqlReaderModel_readValues_70
    · refine Sm_aload_n E d_SqlReaderModel_readValues_22 rfl 0 rfl ?_
      refine gfM_0_bad E fl_SqlReaderModel_226 d_SqlReaderModel_readValues_23 ?_
      refine Sm_if_ne (tgt := 63) E d_SqlReaderModel_readValues_26 (by decide) (fun _ => ?_) (fun _ => ?_)
      · refine Sm_aload_n E d_SqlReaderModel_readValues_63 rfl 0 rfl ?_
        refine Sm_ldcS_w E sr_SqlReaderModel_297 d_SqlReaderModel_readValues_64 ?_
        refine Sm_cVV (As := [.ref (G.2.2.1 88)]) (b := (G.1 100)) (st := []) (n := 1) E exOk wM_as (fun _ h => cM_SqlReaderModel_need 88 u h) gk_SqlReaderModel_450 dk_SqlReaderModel_need rfl ⟨rfl, rfl⟩ ⟨Nat.le_of_ble_eq_true rfl, Nat.le_of_ble_eq_true rfl⟩ (rvW (q0 := 0) (ci := 1) E rfl rfl rfl) rfl (Nat.le_of_ble_eq_true rfl) d_SqlReaderModel_readValues_67 fun u5 _ => ?_
        exact Sm_retV hR d_SqlReaderModel_readValues_70
      · refine Sm_aload_n E d_SqlReaderModel_readValues_29 rfl 0 rfl ?_
        refine gfM_0_value E fl_SqlReaderModel_109 d_SqlReaderModel_readValues_30 ?_
        refine Sm_aload_n E d_SqlReaderModel_readValues_33 rfl 0 rfl ?_
        refine gfM_0_values E fl_SqlReaderModel_195 d_SqlReaderModel_readValues_34 ?_
        refine Sm_aload_n E d_SqlReaderModel_readValues_37 rfl 0 rfl ?_
        refine Sm_cVI (As := []) (b := (G.1 100)) (st := [.int (u.1 23), .ref (G.1 133)]) (n := 0) E exOk wM_as (fun _ h => cM_SqlReaderModel_expression u h) gk_SqlReaderModel_442 dk_SqlReaderModel_expression rfl ⟨rfl, rfl⟩ ⟨Nat.le_of_ble_eq_true rfl, Nat.le_of_ble_eq_true rfl⟩ (rvW (q0 := 0) (ci := 1) E rfl rfl rfl) rfl (Nat.le_of_ble_eq_true rfl) d_SqlReaderModel_readValues_38 fun r6 u7 _ => ?_
        refine Sm_gd fun hi => stM_33 E (inb_in hi) d_SqlReaderModel_readValues_41 fun u8 _ => ?_
        refine Sm_aload_n E d_SqlReaderModel_readValues_42 rfl 0 rfl ?_
        refine Sm_dup E d_SqlReaderModel_readValues_43 rfl ?_
        refine gfM_0_values E fl_SqlReaderModel_195 d_SqlReaderModel_readValues_44 ?_
        refine Sm_iconst (v := 1) E d_SqlReaderModel_readValues_47 (by decide) ?_
        refine Sm_iadd E d_SqlReaderModel_readValues_48 ?_
        refine pfM_0_values E fl_SqlReaderModel_195 d_SqlReaderModel_readValues_49 fun u9 _ => ?_
        refine Sm_aload_n E d_SqlReaderModel_readValues_52 rfl 0 rfl ?_
        refine Sm_ldcS_w E sr_SqlReaderModel_387 d_SqlReaderModel_readValues_53 ?_
        refine Sm_cVI (As := [.ref (G.2.2.1 80)]) (b := (G.1 100)) (st := []) (n := 1) E exOk wM_as (fun _ h => cM_SqlReaderModel_takes 80 u9 h) gk_SqlReaderModel_421 dk_SqlReaderModel_takes rfl ⟨rfl, rfl⟩ ⟨Nat.le_of_ble_eq_true rfl, Nat.le_of_ble_eq_true rfl⟩ (rvW (q0 := 0) (ci := 1) E rfl rfl rfl) rfl (Nat.le_of_ble_eq_true rfl) d_SqlReaderModel_readValues_56 fun r10 u11 _ => ?_
        refine Sm_istore_n (lv' := [(1, .int r10), (0, .ref (G.1 100))]) E d_SqlReaderModel_readValues_59 rfl (by decide) rfl ?_
        refine Sm_goto (tgt := 18) E d_SqlReaderModel_readValues_60 (by decide) ?_
        exact Sm_sub [1, 0] rfl (h18 _ _)
set_option maxRecDepth 100000 in
set_option maxHeartbeats 4000000 in
theorem cM_SqlReaderModel_readValues {l : Launch} {D : va_G} {G : Gx} (u : St) {res : St} (hm : mM_SqlReaderModel_readValues u = some res) : KM l D G y_SqlReaderModel_readValues (.code y_SqlReaderModel_readValues prog_11_method_62_code 2 none) { frames := 409, cells := 0, slots := 0, locals := 14201 } [.ref (G.1 100)] u (qV D vwCl (wM G) (tyW G) (adsM G) res) := by
  refine Ct_V (by decide) wM_as (Nat.le_of_ble_eq_true rfl) hm (fun X _ _ E hR => ?_)
  refine Sm_lvs (lv' := [(0, .ref (G.1 100))]) rfl ?_
  rw [mM_SqlReaderModel_readValues]
  refine Sm_aload_n E d_SqlReaderModel_readValues_0 rfl 0 rfl ?_
  refine Sm_bipush (v := 17) E d_SqlReaderModel_readValues_1 (by decide) ?_
  refine Sm_cVV (As := [.int 17]) (b := (G.1 100)) (st := []) (n := 1) E exOk wM_as (fun _ h => cM_SqlReaderModel_readNamed 17 u h) gk_SqlReaderModel_535 dk_SqlReaderModel_readNamed rfl ⟨rfl, rfl⟩ ⟨Nat.le_of_ble_eq_true rfl, Nat.le_of_ble_eq_true rfl⟩ (rvW (q0 := 0) (ci := 1) E rfl rfl rfl) rfl (Nat.le_of_ble_eq_true rfl) d_SqlReaderModel_readValues_3 fun u1 _ => ?_
  refine Sm_aload_n E d_SqlReaderModel_readValues_6 rfl 0 rfl ?_
  refine Sm_ldcS_w E sr_SqlReaderModel_291 d_SqlReaderModel_readValues_7 ?_
  refine Sm_cVI (As := [.ref (G.2.2.1 79)]) (b := (G.1 100)) (st := []) (n := 1) E exOk wM_as (fun _ h => cM_SqlReaderModel_takes 79 u1 h) gk_SqlReaderModel_421 dk_SqlReaderModel_takes rfl ⟨rfl, rfl⟩ ⟨Nat.le_of_ble_eq_true rfl, Nat.le_of_ble_eq_true rfl⟩ (rvW (q0 := 0) (ci := 1) E rfl rfl rfl) rfl (Nat.le_of_ble_eq_true rfl) d_SqlReaderModel_readValues_10 fun r2 u3 _ => ?_
  refine Sm_if_eq (tgt := 70) E d_SqlReaderModel_readValues_13 (by decide) (fun _ => ?_) (fun _ => ?_)
  · exact Sm_retV hR d_SqlReaderModel_readValues_70
  · refine Sm_iconst (v := 1) E d_SqlReaderModel_readValues_16 (by decide) ?_
    refine Sm_istore_n (lv' := [(1, .int 1), (0, .ref (G.1 100))]) E d_SqlReaderModel_readValues_17 rfl (by decide) rfl ?_
    exact Sm_sub [1, 0] rfl (tM_SqlReaderModel_readValues_L18 E hR FU _ _)
set_option maxRecDepth 100000 in
set_option maxHeartbeats 4000000 in
theorem tM_SqlReaderModel_readOther_J232 {X : Cx} {G : Gx} {res : St} (E : EM X G prog_11_method_63_code R_SqlReaderModel 2 { frames := 413, cells := 0, slots := 0, locals := 14286 }) (hR : RtV X vwCl (wM G) prog_11_method_63_code res) : ∀ (x1 : Int32) (s1 : Int32) (u : St), SM X G 2 res (mM_SqlReaderModel_readOther_J232 x1 s1 u) u 232 [(0, .ref (G.1 100)), (1, .int x1)] [.int s1, .ref (G.1 100)] := by
  intro x1 s1 u
  rw [mM_SqlReaderModel_readOther_J232]
  refine Sm_gd fun hz => pfM_0_bad E fl_SqlReaderModel_226 d_SqlReaderModel_readOther_232 (zb_n hz) (zb_f hz) fun u35 _ => ?_
  refine Sm_aload_n E d_SqlReaderModel_readOther_235 rfl 0 rfl ?_
  refine Sm_aload_n E d_SqlReaderModel_readOther_236 rfl 0 rfl ?_
  refine gfM_0_what E fl_SqlReaderModel_140 d_SqlReaderModel_readOther_237 ?_
  refine pfM_0_inner E fl_SqlReaderModel_143 d_SqlReaderModel_readOther_240 fun u36 _ => ?_
  refine Sm_aload_n E d_SqlReaderModel_readOther_243 rfl 0 rfl ?_
  refine Sm_bipush (v := 16) E d_SqlReaderModel_readOther_244 (by decide) ?_
  refine pfM_0_what E fl_SqlReaderModel_140 d_SqlReaderModel_readOther_246 fun u37 _ => ?_
  refine Sm_aload_n E d_SqlReaderModel_readOther_249 rfl 0 rfl ?_
  refine Sm_iload_n E d_SqlReaderModel_readOther_250 rfl 1 rfl ?_
  refine pfM_0_named0 E fl_SqlReaderModel_155 d_SqlReaderModel_readOther_251 fun u38 _ => ?_
  refine Sm_goto (tgt := 314) E d_SqlReaderModel_readOther_254 (by decide) ?_
  exact Sm_retV hR d_SqlReaderModel_readOther_314
set_option maxRecDepth 100000 in
set_option maxHeartbeats 4000000 in
theorem cM_SqlReaderModel_readOther {l : Launch} {D : va_G} {G : Gx} (u : St) {res : St} (hm : mM_SqlReaderModel_readOther u = some res) : KM l D G y_SqlReaderModel_readOther (.code y_SqlReaderModel_readOther prog_11_method_63_code 2 none) { frames := 413, cells := 0, slots := 0, locals := 14286 } [.ref (G.1 100)] u (qV D vwCl (wM G) (tyW G) (adsM G) res) := by
  refine Ct_V (by decide) wM_as (Nat.le_of_ble_eq_true rfl) hm (fun X _ _ E hR => ?_)
  refine Sm_lvs (lv' := [(0, .ref (G.1 100))]) rfl ?_
  rw [mM_SqlReaderModel_readOther]
  refine Sm_aload_n E d_SqlReaderModel_readOther_0 rfl 0 rfl ?_
  refine Sm_ldcS_w E sr_SqlReaderModel_539 d_SqlReaderModel_readOther_1 ?_
  refine Sm_cVI (As := [.ref (G.2.2.1 123)]) (b := (G.1 100)) (st := []) (n := 1) E exOk wM_as (fun _ h => cM_SqlReaderModel_takes 123 u h) gk_SqlReaderModel_421 dk_SqlReaderModel_takes rfl ⟨rfl, rfl⟩ ⟨Nat.le_of_ble_eq_true rfl, Nat.le_of_ble_eq_true rfl⟩ (rvW (q0 := 0) (ci := 1) E rfl rfl rfl) rfl (Nat.le_of_ble_eq_true rfl) d_SqlReaderModel_readOther_4 fun r1 u2 _ => ?_
  refine Sm_if_eq (tgt := 17) E d_SqlReaderModel_readOther_7 (by decide) (fun _ => ?_) (fun _ => ?_)
  · refine Sm_aload_n E d_SqlReaderModel_readOther_17 rfl 0 rfl ?_
    refine Sm_ldcS_w E sr_SqlReaderModel_544 d_SqlReaderModel_readOther_18 ?_
    refine Sm_cVI (As := [.ref (G.2.2.1 131)]) (b := (G.1 100)) (st := []) (n := 1) E exOk wM_as (fun _ h => cM_SqlReaderModel_takes 131 u2 h) gk_SqlReaderModel_421 dk_SqlReaderModel_takes rfl ⟨rfl, rfl⟩ ⟨Nat.le_of_ble_eq_true rfl, Nat.le_of_ble_eq_true rfl⟩ (rvW (q0 := 0) (ci := 1) E rfl rfl rfl) rfl (Nat.le_of_ble_eq_true rfl) d_SqlReaderModel_readOther_21 fun r3 u4 _ => ?_
    refine Sm_if_eq (tgt := 50) E d_SqlReaderModel_readOther_24 (by decide) (fun _ => ?_) (fun _ => ?_)
    · refine Sm_aload_n E d_SqlReaderModel_readOther_50 rfl 0 rfl ?_
      refine Sm_ldcS_w E sr_SqlReaderModel_546 d_SqlReaderModel_readOther_51 ?_
      refine Sm_cVI (As := [.ref (G.2.2.1 132)]) (b := (G.1 100)) (st := []) (n := 1) E exOk wM_as (fun _ h => cM_SqlReaderModel_takes 132 u4 h) gk_SqlReaderModel_421 dk_SqlReaderModel_takes rfl ⟨rfl, rfl⟩ ⟨Nat.le_of_ble_eq_true rfl, Nat.le_of_ble_eq_true rfl⟩ (rvW (q0 := 0) (ci := 1) E rfl rfl rfl) rfl (Nat.le_of_ble_eq_true rfl) d_SqlReaderModel_readOther_54 fun r5 u6 _ => ?_
      refine Sm_if_eq (tgt := 67) E d_SqlReaderModel_readOther_57 (by decide) (fun _ => ?_) (fun _ => ?_)
      · refine Sm_aload_n E d_SqlReaderModel_readOther_67 rfl 0 rfl ?_
        refine Sm_ldcS_w E sr_SqlReaderModel_551 d_SqlReaderModel_readOther_68 ?_
        refine Sm_cVI (As := [.ref (G.2.2.1 137)]) (b := (G.1 100)) (st := []) (n := 1) E exOk wM_as (fun _ h => cM_SqlReaderModel_takes 137 u6 h) gk_SqlReaderModel_421 dk_SqlReaderModel_takes rfl ⟨rfl, rfl⟩ ⟨Nat.le_of_ble_eq_true rfl, Nat.le_of_ble_eq_true rfl⟩ (rvW (q0 := 0) (ci := 1) E rfl rfl rfl) rfl (Nat.le_of_ble_eq_true rfl) d_SqlReaderModel_readOther_71 fun r7 u8 _ => ?_
        refine Sm_if_eq (tgt := 86) E d_SqlReaderModel_readOther_74 (by decide) (fun _ => ?_) (fun _ => ?_)
        · refine Sm_aload_n E d_SqlReaderModel_readOther_86 rfl 0 rfl ?_
          refine Sm_ldcS_w E sr_SqlReaderModel_553 d_SqlReaderModel_readOther_87 ?_
          refine Sm_cVI (As := [.ref (G.2.2.1 138)]) (b := (G.1 100)) (st := []) (n := 1) E exOk wM_as (fun _ h => cM_SqlReaderModel_takes 138 u8 h) gk_SqlReaderModel_421 dk_SqlReaderModel_takes rfl ⟨rfl, rfl⟩ ⟨Nat.le_of_ble_eq_true rfl, Nat.le_of_ble_eq_true rfl⟩ (rvW (q0 := 0) (ci := 1) E rfl rfl rfl) rfl (Nat.le_of_ble_eq_true rfl) d_SqlReaderModel_readOther_90 fun r9 u10 _ => ?_
          refine Sm_if_eq (tgt := 121) E d_SqlReaderModel_readOther_93 (by decide) (fun _ => ?_) (fun _ => ?_)
          · refine Sm_aload_n E d_SqlReaderModel_readOther_121 rfl 0 rfl ?_
            refine Sm_ldcS_w E sr_SqlReaderModel_557 d_SqlReaderModel_readOther_122 ?_
            refine Sm_cVI (As := [.ref (G.2.2.1 140)]) (b := (G.1 100)) (st := []) (n := 1) E exOk wM_as (fun _ h => cM_SqlReaderModel_takes 140 u10 h) gk_SqlReaderModel_421 dk_SqlReaderModel_takes rfl ⟨rfl, rfl⟩ ⟨Nat.le_of_ble_eq_true rfl, Nat.le_of_ble_eq_true rfl⟩ (rvW (q0 := 0) (ci := 1) E rfl rfl rfl) rfl (Nat.le_of_ble_eq_true rfl) d_SqlReaderModel_readOther_125 fun r11 u12 _ => ?_
            refine Sm_if_eq (tgt := 140) E d_SqlReaderModel_readOther_128 (by decide) (fun _ => ?_) (fun _ => ?_)
            · refine Sm_aload_n E d_SqlReaderModel_readOther_140 rfl 0 rfl ?_
              refine Sm_ldcS_w E sr_SqlReaderModel_559 d_SqlReaderModel_readOther_141 ?_
              refine Sm_cVI (As := [.ref (G.2.2.1 141)]) (b := (G.1 100)) (st := []) (n := 1) E exOk wM_as (fun _ h => cM_SqlReaderModel_takes 141 u12 h) gk_SqlReaderModel_421 dk_SqlReaderModel_takes rfl ⟨rfl, rfl⟩ ⟨Nat.le_of_ble_eq_true rfl, Nat.le_of_ble_eq_true rfl⟩ (rvW (q0 := 0) (ci := 1) E rfl rfl rfl) rfl (Nat.le_of_ble_eq_true rfl) d_SqlReaderModel_readOther_144 fun r13 u14 _ => ?_
              refine Sm_if_eq (tgt := 159) E d_SqlReaderModel_readOther_147 (by decide) (fun _ => ?_) (fun _ => ?_)
              · refine Sm_aload_n E d_SqlReaderModel_readOther_159 rfl 0 rfl ?_
                refine Sm_ldcS_w E sr_SqlReaderModel_561 d_SqlReaderModel_readOther_160 ?_
                refine Sm_cVI (As := [.ref (G.2.2.1 142)]) (b := (G.1 100)) (st := []) (n := 1) E exOk wM_as (fun _ h => cM_SqlReaderModel_takes 142 u14 h) gk_SqlReaderModel_421 dk_SqlReaderModel_takes rfl ⟨rfl, rfl⟩ ⟨Nat.le_of_ble_eq_true rfl, Nat.le_of_ble_eq_true rfl⟩ (rvW (q0 := 0) (ci := 1) E rfl rfl rfl) rfl (Nat.le_of_ble_eq_true rfl) d_SqlReaderModel_readOther_163 fun r15 u16 _ => ?_
                refine Sm_if_eq (tgt := 190) E d_SqlReaderModel_readOther_166 (by decide) (fun _ => ?_) (fun _ => ?_)
                · refine Sm_aload_n E d_SqlReaderModel_readOther_190 rfl 0 rfl ?_
                  refine Sm_ldcS_w E sr_SqlReaderModel_566 d_SqlReaderModel_readOther_191 ?_
                  refine Sm_cVI (As := [.ref (G.2.2.1 146)]) (b := (G.1 100)) (st := []) (n := 1) E exOk wM_as (fun _ h => cM_SqlReaderModel_takes 146 u16 h) gk_SqlReaderModel_421 dk_SqlReaderModel_takes rfl ⟨rfl, rfl⟩ ⟨Nat.le_of_ble_eq_true rfl, Nat.le_of_ble_eq_true rfl⟩ (rvW (q0 := 0) (ci := 1) E rfl rfl rfl) rfl (Nat.le_of_ble_eq_true rfl) d_SqlReaderModel_readOther_194 fun r17 u18 _ => ?_
                  refine Sm_if_eq (tgt := 257) E d_SqlReaderModel_readOther_197 (by decide) (fun _ => ?_) (fun _ => ?_)
                  · refine Sm_aload_n E d_SqlReaderModel_readOther_257 rfl 0 rfl ?_
                    refine Sm_ldcS_w E sr_SqlReaderModel_573 d_SqlReaderModel_readOther_258 ?_
                    refine Sm_cVI (As := [.ref (G.2.2.1 148)]) (b := (G.1 100)) (st := []) (n := 1) E exOk wM_as (fun _ h => cM_SqlReaderModel_takes 148 u18 h) gk_SqlReaderModel_421 dk_SqlReaderModel_takes rfl ⟨rfl, rfl⟩ ⟨Nat.le_of_ble_eq_true rfl, Nat.le_of_ble_eq_true rfl⟩ (rvW (q0 := 0) (ci := 1) E rfl rfl rfl) rfl (Nat.le_of_ble_eq_true rfl) d_SqlReaderModel_readOther_261 fun r19 u20 _ => ?_
                    refine Sm_if_eq (tgt := 274) E d_SqlReaderModel_readOther_264 (by decide) (fun _ => ?_) (fun _ => ?_)
                    · refine Sm_aload_n E d_SqlReaderModel_readOther_274 rfl 0 rfl ?_
                      refine Sm_ldcS_w E sr_SqlReaderModel_578 d_SqlReaderModel_readOther_275 ?_
                      refine Sm_cVI (As := [.ref (G.2.2.1 149)]) (b := (G.1 100)) (st := []) (n := 1) E exOk wM_as (fun _ h => cM_SqlReaderModel_takes 149 u20 h) gk_SqlReaderModel_421 dk_SqlReaderModel_takes rfl ⟨rfl, rfl⟩ ⟨Nat.le_of_ble_eq_true rfl, Nat.le_of_ble_eq_true rfl⟩ (rvW (q0 := 0) (ci := 1) E rfl rfl rfl) rfl (Nat.le_of_ble_eq_true rfl) d_SqlReaderModel_readOther_278 fun r21 u22 _ => ?_
                      refine Sm_if_eq (tgt := 301) E d_SqlReaderModel_readOther_281 (by decide) (fun _ => ?_) (fun _ => ?_)
                      · refine Sm_aload_n E d_SqlReaderModel_readOther_301 rfl 0 rfl ?_
                        refine Sm_ldcS_w E sr_SqlReaderModel_580 d_SqlReaderModel_readOther_302 ?_
                        refine Sm_cVV (As := [.ref (G.2.2.1 150)]) (b := (G.1 100)) (st := []) (n := 1) E exOk wM_as (fun _ h => cM_SqlReaderModel_need 150 u22 h) gk_SqlReaderModel_450 dk_SqlReaderModel_need rfl ⟨rfl, rfl⟩ ⟨Nat.le_of_ble_eq_true rfl, Nat.le_of_ble_eq_true rfl⟩ (rvW (q0 := 0) (ci := 1) E rfl rfl rfl) rfl (Nat.le_of_ble_eq_true rfl) d_SqlReaderModel_readOther_305 fun u23 _ => ?_
                        refine Sm_aload_n E d_SqlReaderModel_readOther_308 rfl 0 rfl ?_
                        refine Sm_bipush (v := 19) E d_SqlReaderModel_readOther_309 (by decide) ?_
                        refine pfM_0_what E fl_SqlReaderModel_140 d_SqlReaderModel_readOther_311 fun u24 _ => ?_
                        exact Sm_retV hR d_SqlReaderModel_readOther_314
                      · refine Sm_aload_n E d_SqlReaderModel_readOther_284 rfl 0 rfl ?_
                        refine Sm_bipush (v := 18) E d_SqlReaderModel_readOther_285 (by decide) ?_
                        refine pfM_0_what E fl_SqlReaderModel_140 d_SqlReaderModel_readOther_287 fun u25 _ => ?_
                        refine Sm_aload_n E d_SqlReaderModel_readOther_290 rfl 0 rfl ?_
                        refine Sm_aload_n E d_SqlReaderModel_readOther_291 rfl 0 rfl ?_
                        refine Sm_cVI (As := []) (b := (G.1 100)) (st := [.ref (G.1 100)]) (n := 0) E exOk wM_as (fun _ h => cM_SqlReaderModel_needName u25 h) gk_SqlReaderModel_447 dk_SqlReaderModel_needName rfl ⟨rfl, rfl⟩ ⟨Nat.le_of_ble_eq_true rfl, Nat.le_of_ble_eq_true rfl⟩ (rvW (q0 := 0) (ci := 1) E rfl rfl rfl) rfl (Nat.le_of_ble_eq_true rfl) d_SqlReaderModel_readOther_292 fun r26 u27 _ => ?_
                        refine pfM_0_targetToken E fl_SqlReaderModel_149 d_SqlReaderModel_readOther_295 fun u28 _ => ?_
                        refine Sm_goto (tgt := 314) E d_SqlReaderModel_readOther_298 (by decide) ?_
                        exact Sm_retV hR d_SqlReaderModel_readOther_314
                    · refine Sm_aload_n E d_SqlReaderModel_readOther_267 rfl 0 rfl ?_
                      refine Sm_cVV (As := []) (b := (G.1 100)) (st := []) (n := 0) E exOk wM_as (fun _ h => cM_SqlReaderModel_readValues u20 h) gk_SqlReaderModel_575 dk_SqlReaderModel_readValues rfl ⟨rfl, rfl⟩ ⟨Nat.le_of_ble_eq_true rfl, Nat.le_of_ble_eq_true rfl⟩ (rvW (q0 := 0) (ci := 1) E rfl rfl rfl) rfl (Nat.le_of_ble_eq_true rfl) d_SqlReaderModel_readOther_268 fun u29 _ => ?_
                      refine Sm_goto (tgt := 314) E d_SqlReaderModel_readOther_271 (by decide) ?_
                      exact Sm_retV hR d_SqlReaderModel_readOther_314
                  · refine Sm_aload_n E d_SqlReaderModel_readOther_200 rfl 0 rfl ?_
                    refine Sm_cVI (As := []) (b := (G.1 100)) (st := []) (n := 0) E exOk wM_as (fun _ h => cM_SqlReaderModel_needName u18 h) gk_SqlReaderModel_447 dk_SqlReaderModel_needName rfl ⟨rfl, rfl⟩ ⟨Nat.le_of_ble_eq_true rfl, Nat.le_of_ble_eq_true rfl⟩ (rvW (q0 := 0) (ci := 1) E rfl rfl rfl) rfl (Nat.le_of_ble_eq_true rfl) d_SqlReaderModel_readOther_201 fun r30 u31 _ => ?_
                    refine Sm_istore_n (lv' := [(1, .int r30), (0, .ref (G.1 100))]) E d_SqlReaderModel_readOther_204 rfl (by decide) rfl ?_
                    refine Sm_aload_n E d_SqlReaderModel_readOther_205 rfl 1 rfl ?_
                    refine Sm_ldcS_w E sr_SqlReaderModel_568 d_SqlReaderModel_readOther_206 ?_
                    refine Sm_cVV (As := [.ref (G.2.2.1 147)]) (b := (G.1 100)) (st := []) (n := 1) E exOk wM_as (fun _ h => cM_SqlReaderModel_need 147 u31 h) gk_SqlReaderModel_450 dk_SqlReaderModel_need rfl ⟨rfl, rfl⟩ ⟨Nat.le_of_ble_eq_true rfl, Nat.le_of_ble_eq_true rfl⟩ (rvW (q0 := 0) (ci := 1) E rfl rfl rfl) rfl (Nat.le_of_ble_eq_true rfl) d_SqlReaderModel_readOther_209 fun u32 _ => ?_
                    refine Sm_aload_n E d_SqlReaderModel_readOther_212 rfl 1 rfl ?_
                    refine Sm_aload_n E d_SqlReaderModel_readOther_213 rfl 1 rfl ?_
                    refine Sm_cVI (As := []) (b := (G.1 100)) (st := [.ref (G.1 100)]) (n := 0) E exOk wM_as (fun _ h => cM_SqlReaderModel_readDeed u32 h) gk_SqlReaderModel_570 dk_SqlReaderModel_readDeed rfl ⟨rfl, rfl⟩ ⟨Nat.le_of_ble_eq_true rfl, Nat.le_of_ble_eq_true rfl⟩ (rvW (q0 := 0) (ci := 1) E rfl rfl rfl) rfl (Nat.le_of_ble_eq_true rfl) d_SqlReaderModel_readOther_214 fun r33 u34 _ => ?_
                    refine Sm_if_eq (tgt := 227) E d_SqlReaderModel_readOther_217 (by decide) (fun _ => ?_) (fun _ => ?_)
                    · refine Sm_iconst (v := 1) E d_SqlReaderModel_readOther_227 (by decide) ?_
                      refine Sm_goto (tgt := 232) E d_SqlReaderModel_readOther_228 (by decide) ?_
                      exact Sm_sub [1, 0] rfl (tM_SqlReaderModel_readOther_J232 E hR _ _ _)
                    · refine Sm_aload_n E d_SqlReaderModel_readOther_220 rfl 1 rfl ?_
                      refine gfM_0_bad E fl_SqlReaderModel_226 d_SqlReaderModel_readOther_221 ?_
                      refine Sm_if_eq (tgt := 231) E d_SqlReaderModel_readOther_224 (by decide) (fun _ => ?_) (fun _ => ?_)
                      · refine Sm_iconst (v := 0) E d_SqlReaderModel_readOther_231 (by decide) ?_
                        exact Sm_sub [1, 0] rfl (tM_SqlReaderModel_readOther_J232 E hR _ _ _)
                      · refine Sm_iconst (v := 1) E d_SqlReaderModel_readOther_227 (by decide) ?_
                        refine Sm_goto (tgt := 232) E d_SqlReaderModel_readOther_228 (by decide) ?_
                        exact Sm_sub [1, 0] rfl (tM_SqlReaderModel_readOther_J232 E hR _ _ _)
                · refine Sm_aload_n E d_SqlReaderModel_readOther_169 rfl 0 rfl ?_
                  refine Sm_bipush (v := 15) E d_SqlReaderModel_readOther_170 (by decide) ?_
                  refine pfM_0_what E fl_SqlReaderModel_140 d_SqlReaderModel_readOther_172 fun u39 _ => ?_
                  refine Sm_aload_n E d_SqlReaderModel_readOther_175 rfl 0 rfl ?_
                  refine Sm_aload_n E d_SqlReaderModel_readOther_176 rfl 0 rfl ?_
                  refine Sm_cVI (As := []) (b := (G.1 100)) (st := [.ref (G.1 100)]) (n := 0) E exOk wM_as (fun _ h => cM_SqlReaderModel_needName u39 h) gk_SqlReaderModel_447 dk_SqlReaderModel_needName rfl ⟨rfl, rfl⟩ ⟨Nat.le_of_ble_eq_true rfl, Nat.le_of_ble_eq_true rfl⟩ (rvW (q0 := 0) (ci := 1) E rfl rfl rfl) rfl (Nat.le_of_ble_eq_true rfl) d_SqlReaderModel_readOther_177 fun r40 u41 _ => ?_
                  refine pfM_0_targetToken E fl_SqlReaderModel_149 d_SqlReaderModel_readOther_180 fun u42 _ => ?_
                  refine Sm_aload_n E d_SqlReaderModel_readOther_183 rfl 0 rfl ?_
                  refine Sm_cVV (As := []) (b := (G.1 100)) (st := []) (n := 0) E exOk wM_as (fun _ h => cM_SqlReaderModel_readMode u42 h) gk_SqlReaderModel_563 dk_SqlReaderModel_readMode rfl ⟨rfl, rfl⟩ ⟨Nat.le_of_ble_eq_true rfl, Nat.le_of_ble_eq_true rfl⟩ (rvW (q0 := 0) (ci := 1) E rfl rfl rfl) rfl (Nat.le_of_ble_eq_true rfl) d_SqlReaderModel_readOther_184 fun u43 _ => ?_
                  refine Sm_goto (tgt := 314) E d_SqlReaderModel_readOther_187 (by decide) ?_
                  exact Sm_retV hR d_SqlReaderModel_readOther_314
              · refine Sm_aload_n E d_SqlReaderModel_readOther_150 rfl 0 rfl ?_
                refine Sm_bipush (v := 14) E d_SqlReaderModel_readOther_151 (by decide) ?_
                refine Sm_cVV (As := [.int 14]) (b := (G.1 100)) (st := []) (n := 1) E exOk wM_as (fun _ h => cM_SqlReaderModel_readNamed 14 u14 h) gk_SqlReaderModel_535 dk_SqlReaderModel_readNamed rfl ⟨rfl, rfl⟩ ⟨Nat.le_of_ble_eq_true rfl, Nat.le_of_ble_eq_true rfl⟩ (rvW (q0 := 0) (ci := 1) E rfl rfl rfl) rfl (Nat.le_of_ble_eq_true rfl) d_SqlReaderModel_readOther_153 fun u44 _ => ?_
                refine Sm_goto (tgt := 314) E d_SqlReaderModel_readOther_156 (by decide) ?_
                exact Sm_retV hR d_SqlReaderModel_readOther_314
            · refine Sm_aload_n E d_SqlReaderModel_readOther_131 rfl 0 rfl ?_
              refine Sm_bipush (v := 12) E d_SqlReaderModel_readOther_132 (by decide) ?_
              refine Sm_cVV (As := [.int 12]) (b := (G.1 100)) (st := []) (n := 1) E exOk wM_as (fun _ h => cM_SqlReaderModel_readNamed 12 u12 h) gk_SqlReaderModel_535 dk_SqlReaderModel_readNamed rfl ⟨rfl, rfl⟩ ⟨Nat.le_of_ble_eq_true rfl, Nat.le_of_ble_eq_true rfl⟩ (rvW (q0 := 0) (ci := 1) E rfl rfl rfl) rfl (Nat.le_of_ble_eq_true rfl) d_SqlReaderModel_readOther_134 fun u45 _ => ?_
              refine Sm_goto (tgt := 314) E d_SqlReaderModel_readOther_137 (by decide) ?_
              exact Sm_retV hR d_SqlReaderModel_readOther_314
          · refine Sm_aload_n E d_SqlReaderModel_readOther_96 rfl 0 rfl ?_
            refine Sm_bipush (v := 11) E d_SqlReaderModel_readOther_97 (by decide) ?_
            refine pfM_0_what E fl_SqlReaderModel_140 d_SqlReaderModel_readOther_99 fun u46 _ => ?_
            refine Sm_aload_n E d_SqlReaderModel_readOther_102 rfl 0 rfl ?_
            refine Sm_ldcS_w E sr_SqlReaderModel_555 d_SqlReaderModel_readOther_103 ?_
            refine Sm_cVI (As := [.ref (G.2.2.1 139)]) (b := (G.1 100)) (st := []) (n := 1) E exOk wM_as (fun _ h => cM_SqlReaderModel_takes 139 u46 h) gk_SqlReaderModel_421 dk_SqlReaderModel_takes rfl ⟨rfl, rfl⟩ ⟨Nat.le_of_ble_eq_true rfl, Nat.le_of_ble_eq_true rfl⟩ (rvW (q0 := 0) (ci := 1) E rfl rfl rfl) rfl (Nat.le_of_ble_eq_true rfl) d_SqlReaderModel_readOther_106 fun r47 u48 _ => ?_
            refine Sm_if_eq (tgt := 314) E d_SqlReaderModel_readOther_109 (by decide) (fun _ => ?_) (fun _ => ?_)
            · exact Sm_retV hR d_SqlReaderModel_readOther_314
            · refine Sm_aload_n E d_SqlReaderModel_readOther_112 rfl 0 rfl ?_
              refine Sm_bipush (v := 13) E d_SqlReaderModel_readOther_113 (by decide) ?_
              refine Sm_cVV (As := [.int 13]) (b := (G.1 100)) (st := []) (n := 1) E exOk wM_as (fun _ h => cM_SqlReaderModel_readNamed 13 u48 h) gk_SqlReaderModel_535 dk_SqlReaderModel_readNamed rfl ⟨rfl, rfl⟩ ⟨Nat.le_of_ble_eq_true rfl, Nat.le_of_ble_eq_true rfl⟩ (rvW (q0 := 0) (ci := 1) E rfl rfl rfl) rfl (Nat.le_of_ble_eq_true rfl) d_SqlReaderModel_readOther_115 fun u49 _ => ?_
              refine Sm_goto (tgt := 314) E d_SqlReaderModel_readOther_118 (by decide) ?_
              exact Sm_retV hR d_SqlReaderModel_readOther_314
        · refine Sm_aload_n E d_SqlReaderModel_readOther_77 rfl 0 rfl ?_
          refine Sm_bipush (v := 10) E d_SqlReaderModel_readOther_78 (by decide) ?_
          refine pfM_0_what E fl_SqlReaderModel_140 d_SqlReaderModel_readOther_80 fun u50 _ => ?_
          refine Sm_goto (tgt := 314) E d_SqlReaderModel_readOther_83 (by decide) ?_
          exact Sm_retV hR d_SqlReaderModel_readOther_314
      · refine Sm_aload_n E d_SqlReaderModel_readOther_60 rfl 0 rfl ?_
        refine Sm_cVV (As := []) (b := (G.1 100)) (st := []) (n := 0) E exOk wM_as (fun _ h => cM_SqlReaderModel_readBegin u6 h) gk_SqlReaderModel_548 dk_SqlReaderModel_readBegin rfl ⟨rfl, rfl⟩ ⟨Nat.le_of_ble_eq_true rfl, Nat.le_of_ble_eq_true rfl⟩ (rvW (q0 := 0) (ci := 1) E rfl rfl rfl) rfl (Nat.le_of_ble_eq_true rfl) d_SqlReaderModel_readOther_61 fun u51 _ => ?_
        refine Sm_goto (tgt := 314) E d_SqlReaderModel_readOther_64 (by decide) ?_
        exact Sm_retV hR d_SqlReaderModel_readOther_314
    · refine Sm_aload_n E d_SqlReaderModel_readOther_27 rfl 0 rfl ?_
      refine Sm_iconst (v := 3) E d_SqlReaderModel_readOther_28 (by decide) ?_
      refine pfM_0_what E fl_SqlReaderModel_140 d_SqlReaderModel_readOther_29 fun u52 _ => ?_
      refine Sm_aload_n E d_SqlReaderModel_readOther_32 rfl 0 rfl ?_
      refine Sm_ldcS_w E sr_SqlReaderModel_445 d_SqlReaderModel_readOther_33 ?_
      refine Sm_cVV (As := [.ref (G.2.2.1 124)]) (b := (G.1 100)) (st := []) (n := 1) E exOk wM_as (fun _ h => cM_SqlReaderModel_need 124 u52 h) gk_SqlReaderModel_450 dk_SqlReaderModel_need rfl ⟨rfl, rfl⟩ ⟨Nat.le_of_ble_eq_true rfl, Nat.le_of_ble_eq_true rfl⟩ (rvW (q0 := 0) (ci := 1) E rfl rfl rfl) rfl (Nat.le_of_ble_eq_true rfl) d_SqlReaderModel_readOther_36 fun u53 _ => ?_
      refine Sm_aload_n E d_SqlReaderModel_readOther_39 rfl 0 rfl ?_
      refine Sm_aload_n E d_SqlReaderModel_readOther_40 rfl 0 rfl ?_
      refine Sm_cVI (As := []) (b := (G.1 100)) (st := [.ref (G.1 100)]) (n := 0) E exOk wM_as (fun _ h => cM_SqlReaderModel_needName u53 h) gk_SqlReaderModel_447 dk_SqlReaderModel_needName rfl ⟨rfl, rfl⟩ ⟨Nat.le_of_ble_eq_true rfl, Nat.le_of_ble_eq_true rfl⟩ (rvW (q0 := 0) (ci := 1) E rfl rfl rfl) rfl (Nat.le_of_ble_eq_true rfl) d_SqlReaderModel_readOther_41 fun r54 u55 _ => ?_
      refine pfM_0_targetToken E fl_SqlReaderModel_149 d_SqlReaderModel_readOther_44 fun u56 _ => ?_
      refine Sm_goto (tgt := 314) E d_SqlReaderModel_readOther_47 (by decide) ?_
      exact Sm_retV hR d_SqlReaderModel_readOther_314
  · refine Sm_aload_n E d_SqlReaderModel_readOther_10 rfl 0 rfl ?_
    refine Sm_cVV (As := []) (b := (G.1 100)) (st := []) (n := 0) E exOk wM_as (fun _ h => cM_SqlReaderModel_readCreate u2 h) gk_SqlReaderModel_541 dk_SqlReaderModel_readCreate rfl ⟨rfl, rfl⟩ ⟨Nat.le_of_ble_eq_true rfl, Nat.le_of_ble_eq_true rfl⟩ (rvW (q0 := 0) (ci := 1) E rfl rfl rfl) rfl (Nat.le_of_ble_eq_true rfl) d_SqlReaderModel_readOther_11 fun u57 _ => ?_
    refine Sm_goto (tgt := 314) E d_SqlReaderModel_readOther_14 (by decide) ?_
    exact Sm_retV hR d_SqlReaderModel_readOther_314
set_option maxRecDepth 100000 in
set_option maxHeartbeats 4000000 in
theorem tM_SqlReaderModel_sameToken_L38 {X : Cx} {G : Gx} {res : Int32} {u : St} (E : EM X G prog_11_method_15_code R_SqlReaderModel 5 { frames := 0, cells := 0, slots := 0, locals := 0 }) (hR : RtZ X vwCl (wM G) prog_11_method_15_code .boolean (res, u)) : ∀ (n : Nat) (x1 : Int32) (x2 : Int32) (x3 : Int32) (x4 : Int32) , SM X G 5 res (mM_SqlReaderModel_sameToken_L38 n x1 x2 x3 x4 u) u 38 [(0, .ref (G.1 100)), (1, .int x1), (2, .int x2), (3, .int x3), (4, .int x4)] [] := by
  intro n
  induction n with
  | zero => intro x1 x2 x3 x4; exact Sm_none
  | succ n h38 =>
    intro x1 x2 x3 x4
    rw [mM_SqlReaderModel_sameToken_L38]
    refine Sm_iload_n E d_SqlReaderModel_sameToken_38 rfl 3 rfl ?_
    refine Sm_if_eq (tgt := 103) E d_SqlReaderModel_sameToken_39 (by decide) (fun _ => ?_) (fun _ => ?_)
    · refine Sm_iload_n E d_SqlReaderModel_sameToken_103 rfl 3 rfl ?_
      exact Sm_gd fun hz => Sm_retz hR (zb_n hz) d_SqlReaderModel_sameToken_104
    · refine Sm_iload E d_SqlReaderModel_sameToken_42 4 rfl ?_
      refine Sm_aload_n E d_SqlReaderModel_sameToken_44 rfl 0 rfl ?_
      refine gfM_0_to E fl_SqlReaderModel_20 d_SqlReaderModel_sameToken_45 ?_
      refine Sm_iload_n E d_SqlReaderModel_sameToken_48 rfl 1 rfl ?_
      refine Sm_gd fun hi => ldM_4 E (inb_in hi) d_SqlReaderModel_sameToken_49 ?_
      refine Sm_aload_n E d_SqlReaderModel_sameToken_50 rfl 0 rfl ?_
      refine gfM_0_from E fl_SqlReaderModel_17 d_SqlReaderModel_sameToken_51 ?_
      refine Sm_iload_n E d_SqlReaderModel_sameToken_54 rfl 1 rfl ?_
      refine Sm_gd fun hi => ldM_3 E (inb_in hi) d_SqlReaderModel_sameToken_55 ?_
      refine Sm_isub E d_SqlReaderModel_sameToken_56 ?_
      refine Sm_icmp_ge (tgt := 103) E d_SqlReaderModel_sameToken_57 (by decide) (fun _ => ?_) (fun _ => ?_)
      · refine Sm_iload_n E d_SqlReaderModel_sameToken_103 rfl 3 rfl ?_
        exact Sm_gd fun hz => Sm_retz hR (zb_n hz) d_SqlReaderModel_sameToken_104
      · refine Sm_aload_n E d_SqlReaderModel_sameToken_60 rfl 0 rfl ?_
        refine gfM_0_text E fl_SqlReaderModel_7 d_SqlReaderModel_sameToken_61 ?_
        refine Sm_aload_n E d_SqlReaderModel_sameToken_64 rfl 0 rfl ?_
        refine gfM_0_from E fl_SqlReaderModel_17 d_SqlReaderModel_sameToken_65 ?_
        refine Sm_iload_n E d_SqlReaderModel_sameToken_68 rfl 1 rfl ?_
        refine Sm_gd fun hi => ldM_3 E (inb_in hi) d_SqlReaderModel_sameToken_69 ?_
        refine Sm_iload E d_SqlReaderModel_sameToken_70 4 rfl ?_
        refine Sm_iadd E d_SqlReaderModel_sameToken_72 ?_
        refine Sm_gd fun hi => ldM_1 E (inb_in hi) d_SqlReaderModel_sameToken_73 ?_
        refine Sm_aload_n E d_SqlReaderModel_sameToken_74 rfl 0 rfl ?_
        refine gfM_0_text E fl_SqlReaderModel_7 d_SqlReaderModel_sameToken_75 ?_
        refine Sm_aload_n E d_SqlReaderModel_sameToken_78 rfl 0 rfl ?_
        refine gfM_0_from E fl_SqlReaderModel_17 d_SqlReaderModel_sameToken_79 ?_
        refine Sm_iload_n E d_SqlReaderModel_sameToken_82 rfl 2 rfl ?_
        refine Sm_gd fun hi => ldM_3 E (inb_in hi) d_SqlReaderModel_sameToken_83 ?_
        refine Sm_iload E d_SqlReaderModel_sameToken_84 4 rfl ?_
        refine Sm_iadd E d_SqlReaderModel_sameToken_86 ?_
        refine Sm_gd fun hi => ldM_1 E (inb_in hi) d_SqlReaderModel_sameToken_87 ?_
        refine Sm_icmp_ne (tgt := 95) E d_SqlReaderModel_sameToken_88 (by decide) (fun _ => ?_) (fun _ => ?_)
        · refine Sm_iconst (v := 0) E d_SqlReaderModel_sameToken_95 (by decide) ?_
          refine Sm_istore_n (lv' := [(3, .int 0), (0, .ref (G.1 100)), (1, .int x1), (2, .int x2), (4, .int x4)]) E d_SqlReaderModel_sameToken_96 rfl (by decide) rfl ?_
          refine Sm_iinc (k := 4) (d := 1) E d_SqlReaderModel_sameToken_97 rfl rfl (by decide) fun y1 _ => Sm_lvs (lv' := [(4, .int y1), (3, .int 0), (0, .ref (G.1 100)), (1, .int x1), (2, .int x2)]) rfl ?_
          refine Sm_goto (tgt := 38) E d_SqlReaderModel_sameToken_100 (by decide) ?_
          exact Sm_sub [2, 3, 4, 1, 0] rfl (h38 _ _ _ _)
        · refine Sm_iconst (v := 1) E d_SqlReaderModel_sameToken_91 (by decide) ?_
          refine Sm_goto (tgt := 96) E d_SqlReaderModel_sameToken_92 (by decide) ?_
          refine Sm_istore_n (lv' := [(3, .int 1), (0, .ref (G.1 100)), (1, .int x1), (2, .int x2), (4, .int x4)]) E d_SqlReaderModel_sameToken_96 rfl (by decide) rfl ?_
          refine Sm_iinc (k := 4) (d := 1) E d_SqlReaderModel_sameToken_97 rfl rfl (by decide) fun y2 _ => Sm_lvs (lv' := [(4, .int y2), (3, .int 1), (0, .ref (G.1 100)), (1, .int x1), (2, .int x2)]) rfl ?_
          refine Sm_goto (tgt := 38) E d_SqlReaderModel_sameToken_100 (by decide) ?_
          exact Sm_sub [2, 3, 4, 1, 0] rfl (h38 _ _ _ _)
set_option maxRecDepth 100000 in
set_option maxHeartbeats 4000000 in
theorem cM_SqlReaderModel_sameToken {l : Launch} {D : va_G} {G : Gx} (x1 : Int32) (x2 : Int32) (u : St) {res : Int32} (hm : mM_SqlReaderModel_sameToken x1 x2 u = some res) : KM l D G y_SqlReaderModel_sameToken (.code y_SqlReaderModel_sameToken prog_11_method_15_code 5 (some .boolean)) { frames := 0, cells := 0, slots := 0, locals := 0 } [.ref (G.1 100), .int x1, .int x2] u (qI D vwCl (wM G) (tyW G) (adsM G) (res, u)) := by
  refine Ct_z (by decide) wM_as (Nat.le_of_ble_eq_true rfl) hm (fun X _ _ E hR => ?_)
  refine Sm_lvs (lv' := [(0, .ref (G.1 100)), (1, .int x1), (2, .int x2)]) rfl ?_
  rw [mM_SqlReaderModel_sameToken]
  refine Sm_aload_n E d_SqlReaderModel_sameToken_0 rfl 0 rfl ?_
  refine gfM_0_to E fl_SqlReaderModel_20 d_SqlReaderModel_sameToken_1 ?_
  refine Sm_iload_n E d_SqlReaderModel_sameToken_4 rfl 1 rfl ?_
  refine Sm_gd fun hi => ldM_4 E (inb_in hi) d_SqlReaderModel_sameToken_5 ?_
  refine Sm_aload_n E d_SqlReaderModel_sameToken_6 rfl 0 rfl ?_
  refine gfM_0_from E fl_SqlReaderModel_17 d_SqlReaderModel_sameToken_7 ?_
  refine Sm_iload_n E d_SqlReaderModel_sameToken_10 rfl 1 rfl ?_
  refine Sm_gd fun hi => ldM_3 E (inb_in hi) d_SqlReaderModel_sameToken_11 ?_
  refine Sm_isub E d_SqlReaderModel_sameToken_12 ?_
  refine Sm_aload_n E d_SqlReaderModel_sameToken_13 rfl 0 rfl ?_
  refine gfM_0_to E fl_SqlReaderModel_20 d_SqlReaderModel_sameToken_14 ?_
  refine Sm_iload_n E d_SqlReaderModel_sameToken_17 rfl 2 rfl ?_
  refine Sm_gd fun hi => ldM_4 E (inb_in hi) d_SqlReaderModel_sameToken_18 ?_
  refine Sm_aload_n E d_SqlReaderModel_sameToken_19 rfl 0 rfl ?_
  refine gfM_0_from E fl_SqlReaderModel_17 d_SqlReaderModel_sameToken_20 ?_
  refine Sm_iload_n E d_SqlReaderModel_sameToken_23 rfl 2 rfl ?_
  refine Sm_gd fun hi => ldM_3 E (inb_in hi) d_SqlReaderModel_sameToken_24 ?_
  refine Sm_isub E d_SqlReaderModel_sameToken_25 ?_
  refine Sm_icmp_ne (tgt := 33) E d_SqlReaderModel_sameToken_26 (by decide) (fun _ => ?_) (fun _ => ?_)
  · refine Sm_iconst (v := 0) E d_SqlReaderModel_sameToken_33 (by decide) ?_
    refine Sm_istore_n (lv' := [(3, .int 0), (0, .ref (G.1 100)), (1, .int x1), (2, .int x2)]) E d_SqlReaderModel_sameToken_34 rfl (by decide) rfl ?_
    refine Sm_iconst (v := 0) E d_SqlReaderModel_sameToken_35 (by decide) ?_
    refine Sm_istore (lv' := [(4, .int 0), (3, .int 0), (0, .ref (G.1 100)), (1, .int x1), (2, .int x2)]) E d_SqlReaderModel_sameToken_36 (by decide) rfl ?_
    exact Sm_sub [2, 3, 4, 1, 0] rfl (tM_SqlReaderModel_sameToken_L38 E hR FU _ _ _ _)
  · refine Sm_iconst (v := 1) E d_SqlReaderModel_sameToken_29 (by decide) ?_
    refine Sm_goto (tgt := 34) E d_SqlReaderModel_sameToken_30 (by decide) ?_
    refine Sm_istore_n (lv' := [(3, .int 1), (0, .ref (G.1 100)), (1, .int x1), (2, .int x2)]) E d_SqlReaderModel_sameToken_34 rfl (by decide) rfl ?_
    refine Sm_iconst (v := 0) E d_SqlReaderModel_sameToken_35 (by decide) ?_
    refine Sm_istore (lv' := [(4, .int 0), (3, .int 1), (0, .ref (G.1 100)), (1, .int x1), (2, .int x2)]) E d_SqlReaderModel_sameToken_36 (by decide) rfl ?_
    exact Sm_sub [2, 3, 4, 1, 0] rfl (tM_SqlReaderModel_sameToken_L38 E hR FU _ _ _ _)
set_option maxRecDepth 100000 in
set_option maxHeartbeats 4000000 in
theorem tM_SqlReaderModel_checkTables_L67 {X : Cx} {G : Gx} {res : Int32 × St} (E : EM X G prog_11_method_76_code R_SqlReaderModel 3 { frames := 2, cells := 0, slots := 0, locals := 49 }) (hR : RtI X vwCl (wM G) prog_11_method_76_code res) {q30 : Int32 → St → Option (Int32 × St)} (h30 : ∀ (x1 : Int32) (u : St), SM X G 3 res (q30 x1 u) u 30 [(0, .ref (G.1 100)), (1, .int x1)] []) : ∀ (n : Nat) (x1 : Int32) (x2 : Int32) (u : St), SM X G 3 res (mM_SqlReaderModel_checkTables_L67 q30 n x1 x2 u) u 67 [(0, .ref (G.1 100)), (1, .int x1), (2, .int x2)] [] := by
  intro n
  induction n with
  | zero => intro x1 x2 u; exact Sm_none
  | succ n h67 =>
    intro x1 x2 u
    rw [mM_SqlReaderModel_checkTables_L67]
    refine Sm_iload_n E d_SqlReaderModel_checkTables_67 rfl 2 rfl ?_
    refine Sm_iload_n E d_SqlReaderModel_checkTables_68 rfl 1 rfl ?_
    refine Sm_icmp_ge (tgt := 99) E d_SqlReaderModel_checkTables_69 (by decide) (fun _ => ?_) (fun _ => ?_)
    · refine Sm_iinc (k := 1) (d := 1) E d_SqlReaderModel_checkTables_99 rfl rfl (by decide) fun y3 _ => Sm_lvs (lv' := [(1, .int y3), (0, .ref (G.1 100)), (2, .int x2)]) rfl ?_
      refine Sm_goto (tgt := 30) E d_SqlReaderModel_checkTables_102 (by decide) ?_
      exact Sm_sub [1, 0] rfl (h30 _ _)
    · refine Sm_aload_n E d_SqlReaderModel_checkTables_72 rfl 0 rfl ?_
      refine Sm_aload_n E d_SqlReaderModel_checkTables_73 rfl 0 rfl ?_
      refine gfM_0_alias E fl_SqlReaderModel_97 d_SqlReaderModel_checkTables_74 ?_
      refine Sm_iload_n E d_SqlReaderModel_checkTables_77 rfl 2 rfl ?_
      refine Sm_gd fun hi => ldM_29 E (inb_in hi) d_SqlReaderModel_checkTables_78 ?_
      refine Sm_aload_n E d_SqlReaderModel_checkTables_79 rfl 0 rfl ?_
      refine gfM_0_alias E fl_SqlReaderModel_97 d_SqlReaderModel_checkTables_80 ?_
      refine Sm_iload_n E d_SqlReaderModel_checkTables_83 rfl 1 rfl ?_
      refine Sm_gd fun hi => ldM_29 E (inb_in hi) d_SqlReaderModel_checkTables_84 ?_
      refine Sm_cVi (As := [.int (ga u 26 x2), .int (ga u 26 x1)]) (b := (G.1 100)) (st := []) (n := 2) E exOk wM_as (fun _ h => cM_SqlReaderModel_sameToken (ga u 26 x2) (ga u 26 x1) u h) gk_SqlReaderModel_585 dk_SqlReaderModel_sameToken rfl ⟨rfl, rfl⟩ ⟨Nat.le_of_ble_eq_true rfl, Nat.le_of_ble_eq_true rfl⟩ (rvW (q0 := 0) (ci := 1) E rfl rfl rfl) rfl (Nat.le_of_ble_eq_true rfl) d_SqlReaderModel_checkTables_85 fun r4 _ => ?_
      refine Sm_if_eq (tgt := 93) E d_SqlReaderModel_checkTables_88 (by decide) (fun _ => ?_) (fun _ => ?_)
      · refine Sm_iinc (k := 2) (d := 1) E d_SqlReaderModel_checkTables_93 rfl rfl (by decide) fun y5 _ => Sm_lvs (lv' := [(2, .int y5), (0, .ref (G.1 100)), (1, .int x1)]) rfl ?_
        refine Sm_goto (tgt := 67) E d_SqlReaderModel_checkTables_96 (by decide) ?_
        exact Sm_sub [1, 2, 0] rfl (h67 _ _ _)
      · refine Sm_iconst (v := 5) E d_SqlReaderModel_checkTables_91 (by decide) ?_
        exact Sm_retI hR d_SqlReaderModel_checkTables_92
set_option maxRecDepth 100000 in
set_option maxHeartbeats 4000000 in
theorem tM_SqlReaderModel_checkTables_L30 {X : Cx} {G : Gx} {res : Int32 × St} (E : EM X G prog_11_method_76_code R_SqlReaderModel 3 { frames := 2, cells := 0, slots := 0, locals := 49 }) (hR : RtI X vwCl (wM G) prog_11_method_76_code res) : ∀ (n : Nat) (x1 : Int32) (u : St), SM X G 3 res (mM_SqlReaderModel_checkTables_L30 n x1 u) u 30 [(0, .ref (G.1 100)), (1, .int x1)] [] := by
  intro n
  induction n with
  | zero => intro x1 u; exact Sm_none
  | succ n h30 =>
    intro x1 u
    rw [mM_SqlReaderModel_checkTables_L30]
    refine Sm_iload_n E d_SqlReaderModel_checkTables_30 rfl 1 rfl ?_
    refine Sm_aload_n E d_SqlReaderModel_checkTables_31 rfl 0 rfl ?_
    refine gfM_0_froms E fl_SqlReaderModel_183 d_SqlReaderModel_checkTables_32 ?_
    refine Sm_icmp_ge (tgt := 105) E d_SqlReaderModel_checkTables_35 (by decide) (fun _ => ?_) (fun _ => ?_)
    · refine Sm_iconst (v := 0) E d_SqlReaderModel_checkTables_105 (by decide) ?_
      exact Sm_retI hR d_SqlReaderModel_checkTables_106
    · refine Sm_aload_n E d_SqlReaderModel_checkTables_38 rfl 0 rfl ?_
      refine gfM_0_fromTable E fl_SqlReaderModel_91 d_SqlReaderModel_checkTables_39 ?_
      refine Sm_iload_n E d_SqlReaderModel_checkTables_42 rfl 1 rfl ?_
      refine Sm_aload_n E d_SqlReaderModel_checkTables_43 rfl 0 rfl ?_
      refine Sm_aload_n E d_SqlReaderModel_checkTables_44 rfl 0 rfl ?_
      refine gfM_0_fromToken E fl_SqlReaderModel_94 d_SqlReaderModel_checkTables_45 ?_
      refine Sm_iload_n E d_SqlReaderModel_checkTables_48 rfl 1 rfl ?_
      refine Sm_gd fun hi => ldM_28 E (inb_in hi) d_SqlReaderModel_checkTables_49 ?_
      refine Sm_cVi (As := [.int (ga u 25 x1)]) (b := (G.1 100)) (st := [.int x1, .ref (G.1 127)]) (n := 1) E exOk wM_as (fun _ h => cM_SqlReaderModel_tableOf (ga u 25 x1) u h) gk_SqlReaderModel_276 dk_SqlReaderModel_tableOf rfl ⟨rfl, rfl⟩ ⟨Nat.le_of_ble_eq_true rfl, Nat.le_of_ble_eq_true rfl⟩ (rvW (q0 := 0) (ci := 1) E rfl rfl rfl) rfl (Nat.le_of_ble_eq_true rfl) d_SqlReaderModel_checkTables_50 fun r1 _ => ?_
      refine Sm_gd fun hi => stM_27 E (inb_in hi) d_SqlReaderModel_checkTables_53 fun u2 _ => ?_
      refine Sm_aload_n E d_SqlReaderModel_checkTables_54 rfl 0 rfl ?_
      refine gfM_0_fromTable E fl_SqlReaderModel_91 d_SqlReaderModel_checkTables_55 ?_
      refine Sm_iload_n E d_SqlReaderModel_checkTables_58 rfl 1 rfl ?_
      refine Sm_gd fun hi => ldM_27 E (inb_in hi) d_SqlReaderModel_checkTables_59 ?_
      refine Sm_if_ge (tgt := 65) E d_SqlReaderModel_checkTables_60 (by decide) (fun _ => ?_) (fun _ => ?_)
      · refine Sm_iconst (v := 0) E d_SqlReaderModel_checkTables_65 (by decide) ?_
        refine Sm_istore_n (lv' := [(2, .int 0), (0, .ref (G.1 100)), (1, .int x1)]) E d_SqlReaderModel_checkTables_66 rfl (by decide) rfl ?_
        exact Sm_sub [1, 2, 0] rfl (tM_SqlReaderModel_checkTables_L67 E hR h30 FU _ _ _)
      · refine Sm_iconst (v := 4) E d_SqlReaderModel_checkTables_63 (by decide) ?_
        exact Sm_retI hR d_SqlReaderModel_checkTables_64
set_option maxRecDepth 100000 in
set_option maxHeartbeats 4000000 in
theorem cM_SqlReaderModel_checkTables {l : Launch} {D : va_G} {G : Gx} (u : St) {res : Int32 × St} (hm : mM_SqlReaderModel_checkTables u = some res) : KM l D G y_SqlReaderModel_checkTables (.code y_SqlReaderModel_checkTables prog_11_method_76_code 3 (some .int)) { frames := 2, cells := 0, slots := 0, locals := 49 } [.ref (G.1 100)] u (qI D vwCl (wM G) (tyW G) (adsM G) res) := by
  refine Ct_I (by decide) wM_as (Nat.le_of_ble_eq_true rfl) hm (fun X _ _ E hR => ?_)
  refine Sm_lvs (lv' := [(0, .ref (G.1 100))]) rfl ?_
  rw [mM_SqlReaderModel_checkTables]
  refine Sm_aload_n E d_SqlReaderModel_checkTables_0 rfl 0 rfl ?_
  refine gfM_0_targetToken E fl_SqlReaderModel_149 d_SqlReaderModel_checkTables_1 ?_
  refine Sm_if_lt (tgt := 28) E d_SqlReaderModel_checkTables_4 (by decide) (fun _ => ?_) (fun _ => ?_)
  · refine Sm_iconst (v := 0) E d_SqlReaderModel_checkTables_28 (by decide) ?_
    refine Sm_istore_n (lv' := [(1, .int 0), (0, .ref (G.1 100))]) E d_SqlReaderModel_checkTables_29 rfl (by decide) rfl ?_
    exact Sm_sub [1, 0] rfl (tM_SqlReaderModel_checkTables_L30 E hR FU _ _)
  · refine Sm_aload_n E d_SqlReaderModel_checkTables_7 rfl 0 rfl ?_
    refine Sm_aload_n E d_SqlReaderModel_checkTables_8 rfl 0 rfl ?_
    refine Sm_aload_n E d_SqlReaderModel_checkTables_9 rfl 0 rfl ?_
    refine gfM_0_targetToken E fl_SqlReaderModel_149 d_SqlReaderModel_checkTables_10 ?_
    refine Sm_cVi (As := [.int (u.1 10)]) (b := (G.1 100)) (st := [.ref (G.1 100)]) (n := 1) E exOk wM_as (fun _ h => cM_SqlReaderModel_tableOf (u.1 10) u h) gk_SqlReaderModel_276 dk_SqlReaderModel_tableOf rfl ⟨rfl, rfl⟩ ⟨Nat.le_of_ble_eq_true rfl, Nat.le_of_ble_eq_true rfl⟩ (rvW (q0 := 0) (ci := 1) E rfl rfl rfl) rfl (Nat.le_of_ble_eq_true rfl) d_SqlReaderModel_checkTables_13 fun r6 _ => ?_
    refine pfM_0_target E fl_SqlReaderModel_146 d_SqlReaderModel_checkTables_16 fun u7 _ => ?_
    refine Sm_aload_n E d_SqlReaderModel_checkTables_19 rfl 0 rfl ?_
    refine gfM_0_target E fl_SqlReaderModel_146 d_SqlReaderModel_checkTables_20 ?_
    refine Sm_if_ge (tgt := 28) E d_SqlReaderModel_checkTables_23 (by decide) (fun _ => ?_) (fun _ => ?_)
    · refine Sm_iconst (v := 0) E d_SqlReaderModel_checkTables_28 (by decide) ?_
      refine Sm_istore_n (lv' := [(1, .int 0), (0, .ref (G.1 100))]) E d_SqlReaderModel_checkTables_29 rfl (by decide) rfl ?_
      exact Sm_sub [1, 0] rfl (tM_SqlReaderModel_checkTables_L30 E hR FU _ _)
    · refine Sm_iconst (v := 4) E d_SqlReaderModel_checkTables_26 (by decide) ?_
      exact Sm_retI hR d_SqlReaderModel_checkTables_27
set_option maxRecDepth 100000 in
set_option maxHeartbeats 4000000 in
theorem tM_SqlReaderModel_resolve_J136 {X : Cx} {G : Gx} {res : Int32 × St} (E : EM X G prog_11_method_69_code R_SqlReaderModel 6 { frames := 2, cells := 0, slots := 0, locals := 50 }) (hR : RtI X vwCl (wM G) prog_11_method_69_code res) : ∀ (x3 : Int32) (u : St), SM X G 6 res (mM_SqlReaderModel_resolve_J136 x3 u) u 136 [(3, .int x3)] [] := by
  intro x3 u
  rw [mM_SqlReaderModel_resolve_J136]
  refine Sm_iload_n E d_SqlReaderModel_resolve_136 rfl 0 rfl ?_
  refine Sm_if_ne (tgt := 145) E d_SqlReaderModel_resolve_137 (by decide) (fun _ => ?_) (fun _ => ?_)
  · refine Sm_iload_n E d_SqlReaderModel_resolve_145 rfl 0 rfl ?_
    refine Sm_iconst (v := 1) E d_SqlReaderModel_resolve_146 (by decide) ?_
    refine Sm_icmp_le (tgt := 155) E d_SqlReaderModel_resolve_147 (by decide) (fun _ => ?_) (fun _ => ?_)
    · refine Sm_iconst (v := 0) E d_SqlReaderModel_resolve_155 (by decide) ?_
      exact Sm_retI hR d_SqlReaderModel_resolve_156
    · refine Sm_bipush (v := 7) E d_SqlReaderModel_resolve_150 (by decide) ?_
      refine Sm_goto (tgt := 156) E d_SqlReaderModel_resolve_152 (by decide) ?_
      exact Sm_retI hR d_SqlReaderModel_resolve_156
  · refine Sm_bipush (v := 6) E d_SqlReaderModel_resolve_140 (by decide) ?_
    refine Sm_goto (tgt := 156) E d_SqlReaderModel_resolve_142 (by decide) ?_
    exact Sm_retI hR d_SqlReaderModel_resolve_156
set_option maxRecDepth 100000 in
set_option maxHeartbeats 4000000 in
theorem tM_SqlReaderModel_resolve_J45 {X : Cx} {G : Gx} {res : Int32 × St} (E : EM X G prog_11_method_69_code R_SqlReaderModel 6 { frames := 2, cells := 0, slots := 0, locals := 50 }) (hR : RtI X vwCl (wM G) prog_11_method_69_code res) {q7 : Int32 → Int32 → Int32 → Int32 → St → Option (Int32 × St)} (h7 : ∀ (x1 : Int32) (x2 : Int32) (x3 : Int32) (x4 : Int32) (u : St), SM X G 6 res (q7 x1 x2 x3 x4 u) u 7 [(0, .ref (G.1 100)), (1, .int x1), (2, .int x2), (3, .int x3), (4, .int x4)] []) : ∀ (x1 : Int32) (x2 : Int32) (x3 : Int32) (x4 : Int32) (u : St), SM X G 6 res (mM_SqlReaderModel_resolve_J45 q7 x1 x2 x3 x4 u) u 45 [(0, .ref (G.1 100)), (1, .int x1), (2, .int x2), (3, .int x3), (4, .int x4)] [] := by
  intro x1 x2 x3 x4 u
  rw [mM_SqlReaderModel_resolve_J45]
  refine Sm_aload_n E d_SqlReaderModel_resolve_45 rfl 0 rfl ?_
  refine Sm_aload_n E d_SqlReaderModel_resolve_46 rfl 0 rfl ?_
  refine gfM_0_fromTable E fl_SqlReaderModel_91 d_SqlReaderModel_resolve_47 ?_
  refine Sm_iload E d_SqlReaderModel_resolve_50 4 rfl ?_
  refine Sm_gd fun hi => ldM_27 E (inb_in hi) d_SqlReaderModel_resolve_52 ?_
  refine Sm_aload_n E d_SqlReaderModel_resolve_53 rfl 0 rfl ?_
  refine gfM_0_named E fl_SqlReaderModel_56 d_SqlReaderModel_resolve_54 ?_
  refine Sm_iload_n E d_SqlReaderModel_resolve_57 rfl 1 rfl ?_
  refine Sm_gd fun hi => ldM_16 E (inb_in hi) d_SqlReaderModel_resolve_58 ?_
  refine Sm_cVi (As := [.int (ga u 24 x4), .int (ga u 15 x1)]) (b := (G.1 100)) (st := []) (n := 2) E exOk wM_as (fun _ h => cM_SqlReaderModel_columnOf (ga u 24 x4) (ga u 15 x1) u h) gk_SqlReaderModel_279 dk_SqlReaderModel_columnOf rfl ⟨rfl, rfl⟩ ⟨Nat.le_of_ble_eq_true rfl, Nat.le_of_ble_eq_true rfl⟩ (rvW (q0 := 0) (ci := 1) E rfl rfl rfl) rfl (Nat.le_of_ble_eq_true rfl) d_SqlReaderModel_resolve_59 fun r1 _ => ?_
  refine Sm_istore (lv' := [(5, .int r1), (0, .ref (G.1 100)), (1, .int x1), (2, .int x2), (3, .int x3), (4, .int x4)]) E d_SqlReaderModel_resolve_62 (by decide) rfl ?_
  refine Sm_iinc (k := 3) (d := 1) E d_SqlReaderModel_resolve_64 rfl rfl (by decide) fun y2 _ => Sm_lvs (lv' := [(2, .int y2), (5, .int r1), (0, .ref (G.1 100)), (1, .int x1), (3, .int x3), (4, .int x4)]) rfl ?_
  refine Sm_iload E d_SqlReaderModel_resolve_67 1 rfl ?_
  refine Sm_if_lt (tgt := 115) E d_SqlReaderModel_resolve_69 (by decide) (fun _ => ?_) (fun _ => ?_)
  · refine Sm_iinc (k := 5) (d := 1) E d_SqlReaderModel_resolve_115 rfl rfl (by decide) fun y3 _ => Sm_lvs (lv' := [(4, .int y3), (2, .int y2), (5, .int r1), (0, .ref (G.1 100)), (1, .int x1), (3, .int x3)]) rfl ?_
    refine Sm_goto (tgt := 7) E d_SqlReaderModel_resolve_118 (by decide) ?_
    exact Sm_sub [3, 4, 1, 5, 0] rfl (h7 _ _ _ _ _)
  · refine Sm_iinc (k := 4) (d := 1) E d_SqlReaderModel_resolve_72 rfl rfl (by decide) fun y4 _ => Sm_lvs (lv' := [(3, .int y4), (2, .int y2), (5, .int r1), (0, .ref (G.1 100)), (1, .int x1), (4, .int x4)]) rfl ?_
    refine Sm_aload_n E d_SqlReaderModel_resolve_75 rfl 3 rfl ?_
    refine gfM_0_left E fl_SqlReaderModel_44 d_SqlReaderModel_resolve_76 ?_
    refine Sm_iload_n E d_SqlReaderModel_resolve_79 rfl 4 rfl ?_
    refine Sm_iload E d_SqlReaderModel_resolve_80 5 rfl ?_
    refine Sm_gd fun hi => stM_12 E (inb_in hi) d_SqlReaderModel_resolve_82 fun u5 _ => ?_
    refine Sm_aload_n E d_SqlReaderModel_resolve_83 rfl 3 rfl ?_
    refine gfM_0_right E fl_SqlReaderModel_47 d_SqlReaderModel_resolve_84 ?_
    refine Sm_iload_n E d_SqlReaderModel_resolve_87 rfl 4 rfl ?_
    refine Sm_iload E d_SqlReaderModel_resolve_88 2 rfl ?_
    refine Sm_gd fun hi => stM_13 E (inb_in hi) d_SqlReaderModel_resolve_90 fun u6 _ => ?_
    refine Sm_aload_n E d_SqlReaderModel_resolve_91 rfl 3 rfl ?_
    refine gfM_0_type E fl_SqlReaderModel_50 d_SqlReaderModel_resolve_92 ?_
    refine Sm_iload_n E d_SqlReaderModel_resolve_95 rfl 4 rfl ?_
    refine Sm_aload_n E d_SqlReaderModel_resolve_96 rfl 3 rfl ?_
    refine gfM_0_columnType E fl_SqlReaderModel_38 d_SqlReaderModel_resolve_97 ?_
    refine Sm_bipush (v := 8) E d_SqlReaderModel_resolve_100 (by decide) ?_
    refine Sm_aload_n E d_SqlReaderModel_resolve_102 rfl 3 rfl ?_
    refine gfM_0_fromTable E fl_SqlReaderModel_91 d_SqlReaderModel_resolve_103 ?_
    refine Sm_iload E d_SqlReaderModel_resolve_106 5 rfl ?_
    refine Sm_gd fun hi => ldM_27 E (inb_in hi) d_SqlReaderModel_resolve_108 ?_
    refine Sm_imul E d_SqlReaderModel_resolve_109 ?_
    refine Sm_iload E d_SqlReaderModel_resolve_110 2 rfl ?_
    refine Sm_iadd E d_SqlReaderModel_resolve_112 ?_
    refine Sm_gd fun hi => ldM_10 E (inb_in hi) d_SqlReaderModel_resolve_113 ?_
    refine Sm_gd fun hi => stM_14 E (inb_in hi) d_SqlReaderModel_resolve_114 fun u7 _ => ?_
    refine Sm_iinc (k := 5) (d := 1) E d_SqlReaderModel_resolve_115 rfl rfl (by decide) fun y8 _ => Sm_lvs (lv' := [(4, .int y8), (3, .int y4), (2, .int y2), (5, .int r1), (0, .ref (G.1 100)), (1, .int x1)]) rfl ?_
    refine Sm_goto (tgt := 7) E d_SqlReaderModel_resolve_118 (by decide) ?_
    exact Sm_sub [4, 5, 2, 1, 0] rfl (h7 _ _ _ _ _)
set_option maxRecDepth 100000 in
set_option maxHeartbeats 4000000 in
theorem tM_SqlReaderModel_resolve_L7 {X : Cx} {G : Gx} {res : Int32 × St} (E : EM X G prog_11_method_69_code R_SqlReaderModel 6 { frames := 2, cells := 0, slots := 0, locals := 50 }) (hR : RtI X vwCl (wM G) prog_11_method_69_code res) : ∀ (n : Nat) (x1 : Int32) (x2 : Int32) (x3 : Int32) (x4 : Int32) (u : St), SM X G 6 res (mM_SqlReaderModel_resolve_L7 n x1 x2 x3 x4 u) u 7 [(0, .ref (G.1 100)), (1, .int x1), (2, .int x2), (3, .int x3), (4, .int x4)] [] := by
  intro n
  induction n with
  | zero => intro x1 x2 x3 x4 u; exact Sm_none
  | succ n h7 =>
    intro x1 x2 x3 x4 u
    rw [mM_SqlReaderModel_resolve_L7]
    refine Sm_iload E d_SqlReaderModel_resolve_7 4 rfl ?_
    refine Sm_aload_n E d_SqlReaderModel_resolve_9 rfl 0 rfl ?_
    refine gfM_0_froms E fl_SqlReaderModel_183 d_SqlReaderModel_resolve_10 ?_
    refine Sm_icmp_ge (tgt := 121) E d_SqlReaderModel_resolve_13 (by decide) (fun _ => ?_) (fun _ => ?_)
    · refine Sm_aload_n E d_SqlReaderModel_resolve_121 rfl 0 rfl ?_
      refine gfM_0_before E fl_SqlReaderModel_53 d_SqlReaderModel_resolve_122 ?_
      refine Sm_iload_n E d_SqlReaderModel_resolve_125 rfl 1 rfl ?_
      refine Sm_gd fun hi => ldM_15 E (inb_in hi) d_SqlReaderModel_resolve_126 ?_
      refine Sm_if_lt (tgt := 136) E d_SqlReaderModel_resolve_127 (by decide) (fun _ => ?_) (fun _ => ?_)
      · exact Sm_sub [3] rfl (tM_SqlReaderModel_resolve_J136 E hR _ _)
      · refine Sm_iload_n E d_SqlReaderModel_resolve_130 rfl 2 rfl ?_
        refine Sm_if_ne (tgt := 136) E d_SqlReaderModel_resolve_131 (by decide) (fun _ => ?_) (fun _ => ?_)
        · exact Sm_sub [3] rfl (tM_SqlReaderModel_resolve_J136 E hR _ _)
        · refine Sm_iconst (v := 4) E d_SqlReaderModel_resolve_134 (by decide) ?_
          exact Sm_retI hR d_SqlReaderModel_resolve_135
    · refine Sm_aload_n E d_SqlReaderModel_resolve_16 rfl 0 rfl ?_
      refine gfM_0_before E fl_SqlReaderModel_53 d_SqlReaderModel_resolve_17 ?_
      refine Sm_iload_n E d_SqlReaderModel_resolve_20 rfl 1 rfl ?_
      refine Sm_gd fun hi => ldM_15 E (inb_in hi) d_SqlReaderModel_resolve_21 ?_
      refine Sm_if_lt (tgt := 45) E d_SqlReaderModel_resolve_22 (by decide) (fun _ => ?_) (fun _ => ?_)
      · exact Sm_sub [0, 1, 2, 3, 4] rfl (tM_SqlReaderModel_resolve_J45 E hR h7 _ _ _ _ _)
      · refine Sm_aload_n E d_SqlReaderModel_resolve_25 rfl 0 rfl ?_
        refine Sm_aload_n E d_SqlReaderModel_resolve_26 rfl 0 rfl ?_
        refine gfM_0_before E fl_SqlReaderModel_53 d_SqlReaderModel_resolve_27 ?_
        refine Sm_iload_n E d_SqlReaderModel_resolve_30 rfl 1 rfl ?_
        refine Sm_gd fun hi => ldM_15 E (inb_in hi) d_SqlReaderModel_resolve_31 ?_
        refine Sm_aload_n E d_SqlReaderModel_resolve_32 rfl 0 rfl ?_
        refine gfM_0_alias E fl_SqlReaderModel_97 d_SqlReaderModel_resolve_33 ?_
        refine Sm_iload E d_SqlReaderModel_resolve_36 4 rfl ?_
        refine Sm_gd fun hi => ldM_29 E (inb_in hi) d_SqlReaderModel_resolve_38 ?_
        refine Sm_cVi (As := [.int (ga u 14 x1), .int (ga u 26 x4)]) (b := (G.1 100)) (st := []) (n := 2) E exOk wM_as (fun _ h => cM_SqlReaderModel_sameToken (ga u 14 x1) (ga u 26 x4) u h) gk_SqlReaderModel_585 dk_SqlReaderModel_sameToken rfl ⟨rfl, rfl⟩ ⟨Nat.le_of_ble_eq_true rfl, Nat.le_of_ble_eq_true rfl⟩ (rvW (q0 := 0) (ci := 1) E rfl rfl rfl) rfl (Nat.le_of_ble_eq_true rfl) d_SqlReaderModel_resolve_39 fun r9 _ => ?_
        refine Sm_if_eq (tgt := 115) E d_SqlReaderModel_resolve_42 (by decide) (fun _ => ?_) (fun _ => ?_)
        · refine Sm_iinc (k := 4) (d := 1) E d_SqlReaderModel_resolve_115 rfl rfl (by decide) fun y10 _ => Sm_lvs (lv' := [(4, .int y10), (0, .ref (G.1 100)), (1, .int x1), (2, .int x2), (3, .int x3)]) rfl ?_
          refine Sm_goto (tgt := 7) E d_SqlReaderModel_resolve_118 (by decide) ?_
          exact Sm_sub [1, 2, 3, 4, 0] rfl (h7 _ _ _ _ _)
        · exact Sm_sub [0, 1, 2, 3, 4] rfl (tM_SqlReaderModel_resolve_J45 E hR h7 _ _ _ _ _)
set_option maxRecDepth 100000 in
set_option maxHeartbeats 4000000 in
theorem cM_SqlReaderModel_resolve {l : Launch} {D : va_G} {G : Gx} (x1 : Int32) (u : St) {res : Int32 × St} (hm : mM_SqlReaderModel_resolve x1 u = some res) : KM l D G y_SqlReaderModel_resolve (.code y_SqlReaderModel_resolve prog_11_method_69_code 6 (some .int)) { frames := 2, cells := 0, slots := 0, locals := 50 } [.ref (G.1 100), .int x1] u (qI D vwCl (wM G) (tyW G) (adsM G) res) := by
  refine Ct_I (by decide) wM_as (Nat.le_of_ble_eq_true rfl) hm (fun X _ _ E hR => ?_)
  refine Sm_lvs (lv' := [(0, .ref (G.1 100)), (1, .int x1)]) rfl ?_
  rw [mM_SqlReaderModel_resolve]
  refine Sm_iconst (v := 0) E d_SqlReaderModel_resolve_0 (by decide) ?_
  refine Sm_istore_n (lv' := [(2, .int 0), (0, .ref (G.1 100)), (1, .int x1)]) E d_SqlReaderModel_resolve_1 rfl (by decide) rfl ?_
  refine Sm_iconst (v := 0) E d_SqlReaderModel_resolve_2 (by decide) ?_
  refine Sm_istore_n (lv' := [(3, .int 0), (2, .int 0), (0, .ref (G.1 100)), (1, .int x1)]) E d_SqlReaderModel_resolve_3 rfl (by decide) rfl ?_
  refine Sm_iconst (v := 0) E d_SqlReaderModel_resolve_4 (by decide) ?_
  refine Sm_istore (lv' := [(4, .int 0), (3, .int 0), (2, .int 0), (0, .ref (G.1 100)), (1, .int x1)]) E d_SqlReaderModel_resolve_5 (by decide) rfl ?_
  exact Sm_sub [3, 4, 2, 1, 0] rfl (tM_SqlReaderModel_resolve_L7 E hR FU _ _ _ _ _)
set_option maxRecDepth 100000 in
set_option maxHeartbeats 4000000 in
theorem cM_SqlReaderModel_gives {l : Launch} {D : va_G} {G : Gx} (x1 : Int32) (x2 : Int32) (u : St) {res : St} (hm : mM_SqlReaderModel_gives x1 x2 u = some res) : KM l D G y_SqlReaderModel_gives (.code y_SqlReaderModel_gives prog_11_method_67_code 3 none) { frames := 0, cells := 0, slots := 0, locals := 0 } [.ref (G.1 100), .int x1, .int x2] u (qV D vwCl (wM G) (tyW G) (adsM G) res) := by
  refine Ct_V (by decide) wM_as (Nat.le_of_ble_eq_true rfl) hm (fun X _ _ E hR => ?_)
  refine Sm_lvs (lv' := [(0, .ref (G.1 100)), (1, .int x1), (2, .int x2)]) rfl ?_
  rw [mM_SqlReaderModel_gives]
  refine Sm_aload_n E d_SqlReaderModel_gives_0 rfl 0 rfl ?_
  refine gfM_0_kind E fl_SqlReaderModel_41 d_SqlReaderModel_gives_1 ?_
  refine Sm_iload_n E d_SqlReaderModel_gives_4 rfl 1 rfl ?_
  refine Sm_gd fun hi => ldM_11 E (inb_in hi) d_SqlReaderModel_gives_5 ?_
  refine Sm_bipush (v := 28) E d_SqlReaderModel_gives_6 (by decide) ?_
  refine Sm_icmp_ne (tgt := 37) E d_SqlReaderModel_gives_8 (by decide) (fun _ => ?_) (fun _ => ?_)
  · exact Sm_retV hR d_SqlReaderModel_gives_37
  · refine Sm_aload_n E d_SqlReaderModel_gives_11 rfl 0 rfl ?_
    refine gfM_0_needed E fl_SqlReaderModel_118 d_SqlReaderModel_gives_12 ?_
    refine Sm_aload_n E d_SqlReaderModel_gives_15 rfl 0 rfl ?_
    refine gfM_0_left E fl_SqlReaderModel_44 d_SqlReaderModel_gives_16 ?_
    refine Sm_iload_n E d_SqlReaderModel_gives_19 rfl 1 rfl ?_
    refine Sm_gd fun hi => ldM_12 E (inb_in hi) d_SqlReaderModel_gives_20 ?_
    refine Sm_gd fun hi => ldM_36 E (inb_in hi) d_SqlReaderModel_gives_21 ?_
    refine Sm_if_ne (tgt := 37) E d_SqlReaderModel_gives_22 (by decide) (fun _ => ?_) (fun _ => ?_)
    · exact Sm_retV hR d_SqlReaderModel_gives_37
    · refine Sm_aload_n E d_SqlReaderModel_gives_25 rfl 0 rfl ?_
      refine gfM_0_needed E fl_SqlReaderModel_118 d_SqlReaderModel_gives_26 ?_
      refine Sm_aload_n E d_SqlReaderModel_gives_29 rfl 0 rfl ?_
      refine gfM_0_left E fl_SqlReaderModel_44 d_SqlReaderModel_gives_30 ?_
      refine Sm_iload_n E d_SqlReaderModel_gives_33 rfl 1 rfl ?_
      refine Sm_gd fun hi => ldM_12 E (inb_in hi) d_SqlReaderModel_gives_34 ?_
      refine Sm_iload_n E d_SqlReaderModel_gives_35 rfl 2 rfl ?_
      refine Sm_gd fun hi => stM_36 E (inb_in hi) d_SqlReaderModel_gives_36 fun u1 _ => ?_
      exact Sm_retV hR d_SqlReaderModel_gives_37
set_option maxRecDepth 100000 in
set_option maxHeartbeats 4000000 in
theorem cM_SqlReaderModel_typeOf {l : Launch} {D : va_G} {G : Gx} (x1 : Int32) (u : St) {res : Int32} (hm : mM_SqlReaderModel_typeOf x1 u = some res) : KM l D G y_SqlReaderModel_typeOf (.code y_SqlReaderModel_typeOf prog_11_method_65_code 2 (some .int)) { frames := 0, cells := 0, slots := 0, locals := 0 } [.ref (G.1 100), .int x1] u (qI D vwCl (wM G) (tyW G) (adsM G) (res, u)) := by
  refine Ct_i (by decide) wM_as (Nat.le_of_ble_eq_true rfl) hm (fun X _ _ E hR => ?_)
  refine Sm_lvs (lv' := [(0, .ref (G.1 100)), (1, .int x1)]) rfl ?_
  rw [mM_SqlReaderModel_typeOf]
  refine Sm_aload_n E d_SqlReaderModel_typeOf_0 rfl 0 rfl ?_
  refine gfM_0_kind E fl_SqlReaderModel_41 d_SqlReaderModel_typeOf_1 ?_
  refine Sm_iload_n E d_SqlReaderModel_typeOf_4 rfl 1 rfl ?_
  refine Sm_gd fun hi => ldM_11 E (inb_in hi) d_SqlReaderModel_typeOf_5 ?_
  refine Sm_bipush (v := 28) E d_SqlReaderModel_typeOf_6 (by decide) ?_
  refine Sm_icmp_ne (tgt := 25) E d_SqlReaderModel_typeOf_8 (by decide) (fun _ => ?_) (fun _ => ?_)
  · refine Sm_aload_n E d_SqlReaderModel_typeOf_25 rfl 0 rfl ?_
    refine gfM_0_type E fl_SqlReaderModel_50 d_SqlReaderModel_typeOf_26 ?_
    refine Sm_iload_n E d_SqlReaderModel_typeOf_29 rfl 1 rfl ?_
    refine Sm_gd fun hi => ldM_14 E (inb_in hi) d_SqlReaderModel_typeOf_30 ?_
    exact Sm_reti hR d_SqlReaderModel_typeOf_31
  · refine Sm_aload_n E d_SqlReaderModel_typeOf_11 rfl 0 rfl ?_
    refine gfM_0_needed E fl_SqlReaderModel_118 d_SqlReaderModel_typeOf_12 ?_
    refine Sm_aload_n E d_SqlReaderModel_typeOf_15 rfl 0 rfl ?_
    refine gfM_0_left E fl_SqlReaderModel_44 d_SqlReaderModel_typeOf_16 ?_
    refine Sm_iload_n E d_SqlReaderModel_typeOf_19 rfl 1 rfl ?_
    refine Sm_gd fun hi => ldM_12 E (inb_in hi) d_SqlReaderModel_typeOf_20 ?_
    refine Sm_gd fun hi => ldM_36 E (inb_in hi) d_SqlReaderModel_typeOf_21 ?_
    refine Sm_goto (tgt := 31) E d_SqlReaderModel_typeOf_22 (by decide) ?_
    exact Sm_reti hR d_SqlReaderModel_typeOf_31
set_option maxRecDepth 100000 in
set_option maxHeartbeats 4000000 in
theorem cM_SqlReaderModel_error {l : Launch} {D : va_G} {G : Gx} (x1 : Int32) (u : St) {res : Int32} (hm : mM_SqlReaderModel_error x1 u = some res) : KM l D G y_SqlReaderModel_error (.code y_SqlReaderModel_error prog_11_method_68_code 2 (some .int)) { frames := 0, cells := 0, slots := 0, locals := 0 } [.ref (G.1 100), .int x1] u (qI D vwCl (wM G) (tyW G) (adsM G) (res, u)) := by
  refine Ct_i (by decide) wM_as (Nat.le_of_ble_eq_true rfl) hm (fun X _ _ E hR => ?_)
  refine Sm_lvs (lv' := [(0, .ref (G.1 100)), (1, .int x1)]) rfl ?_
  rw [mM_SqlReaderModel_error]
  refine Sm_iload_n E d_SqlReaderModel_error_0 rfl 1 rfl ?_
  refine Sm_if_eq (tgt := 8) E d_SqlReaderModel_error_1 (by decide) (fun _ => ?_) (fun _ => ?_)
  · refine Sm_bipush (v := 8) E d_SqlReaderModel_error_8 (by decide) ?_
    exact Sm_reti hR d_SqlReaderModel_error_10
  · refine Sm_iconst (v := 0) E d_SqlReaderModel_error_4 (by decide) ?_
    refine Sm_goto (tgt := 10) E d_SqlReaderModel_error_5 (by decide) ?_
    exact Sm_reti hR d_SqlReaderModel_error_10
set_option maxRecDepth 100000 in
set_option maxHeartbeats 4000000 in
theorem tM_SqlReaderModel_compared_J41 {X : Cx} {G : Gx} {res : Int32 × St} (E : EM X G prog_11_method_70_code R_SqlReaderModel 3 { frames := 1, cells := 0, slots := 0, locals := 22 }) (hR : RtI X vwCl (wM G) prog_11_method_70_code res) : ∀ (x1 : Int32) (x2 : Int32) (s1 : Int32) (s2 : Int32) (u : St), SM X G 3 res (mM_SqlReaderModel_compared_J41 x1 x2 s1 s2 u) u 41 [(0, .ref (G.1 100)), (1, .int x1), (2, .int x2)] [.int s2, .int s1, .ref (G.1 100)] := by
  intro x1 x2 s1 s2 u
  rw [mM_SqlReaderModel_compared_J41]
  refine Sm_cVV (As := [.int s1, .int s2]) (b := (G.1 100)) (st := []) (n := 2) E exOk wM_as (fun _ h => cM_SqlReaderModel_gives s1 s2 u h) gk_SqlReaderModel_588 dk_SqlReaderModel_gives rfl ⟨rfl, rfl⟩ ⟨Nat.le_of_ble_eq_true rfl, Nat.le_of_ble_eq_true rfl⟩ (rvW (q0 := 0) (ci := 1) E rfl rfl rfl) rfl (Nat.le_of_ble_eq_true rfl) d_SqlReaderModel_compared_41 fun u6 _ => ?_
  refine Sm_aload_n E d_SqlReaderModel_compared_44 rfl 0 rfl ?_
  refine Sm_aload_n E d_SqlReaderModel_compared_45 rfl 0 rfl ?_
  refine Sm_iload_n E d_SqlReaderModel_compared_46 rfl 1 rfl ?_
  refine Sm_cVi (As := [.int x1]) (b := (G.1 100)) (st := [.ref (G.1 100)]) (n := 1) E exOk wM_as (fun _ h => cM_SqlReaderModel_typeOf x1 u6 h) gk_SqlReaderModel_582 dk_SqlReaderModel_typeOf rfl ⟨rfl, rfl⟩ ⟨Nat.le_of_ble_eq_true rfl, Nat.le_of_ble_eq_true rfl⟩ (rvW (q0 := 0) (ci := 1) E rfl rfl rfl) rfl (Nat.le_of_ble_eq_true rfl) d_SqlReaderModel_compared_47 fun r7 _ => ?_
  refine Sm_if_eq (tgt := 74) E d_SqlReaderModel_compared_50 (by decide) (fun _ => ?_) (fun _ => ?_)
  · refine Sm_iconst (v := 1) E d_SqlReaderModel_compared_74 (by decide) ?_
    refine Sm_goto (tgt := 79) E d_SqlReaderModel_compared_75 (by decide) ?_
    refine Sm_cVi (As := [.int 1]) (b := (G.1 100)) (st := []) (n := 1) E exOk wM_as (fun _ h => cM_SqlReaderModel_error 1 u6 h) gk_SqlReaderModel_591 dk_SqlReaderModel_error rfl ⟨rfl, rfl⟩ ⟨Nat.le_of_ble_eq_true rfl, Nat.le_of_ble_eq_true rfl⟩ (rvW (q0 := 0) (ci := 1) E rfl rfl rfl) rfl (Nat.le_of_ble_eq_true rfl) d_SqlReaderModel_compared_79 fun r8 _ => ?_
    exact Sm_retI hR d_SqlReaderModel_compared_82
  · refine Sm_aload_n E d_SqlReaderModel_compared_53 rfl 0 rfl ?_
    refine Sm_iload_n E d_SqlReaderModel_compared_54 rfl 2 rfl ?_
    refine Sm_cVi (As := [.int x2]) (b := (G.1 100)) (st := [.ref (G.1 100)]) (n := 1) E exOk wM_as (fun _ h => cM_SqlReaderModel_typeOf x2 u6 h) gk_SqlReaderModel_582 dk_SqlReaderModel_typeOf rfl ⟨rfl, rfl⟩ ⟨Nat.le_of_ble_eq_true rfl, Nat.le_of_ble_eq_true rfl⟩ (rvW (q0 := 0) (ci := 1) E rfl rfl rfl) rfl (Nat.le_of_ble_eq_true rfl) d_SqlReaderModel_compared_55 fun r9 _ => ?_
    refine Sm_if_eq (tgt := 74) E d_SqlReaderModel_compared_58 (by decide) (fun _ => ?_) (fun _ => ?_)
    · refine Sm_iconst (v := 1) E d_SqlReaderModel_compared_74 (by decide) ?_
      refine Sm_goto (tgt := 79) E d_SqlReaderModel_compared_75 (by decide) ?_
      refine Sm_cVi (As := [.int 1]) (b := (G.1 100)) (st := []) (n := 1) E exOk wM_as (fun _ h => cM_SqlReaderModel_error 1 u6 h) gk_SqlReaderModel_591 dk_SqlReaderModel_error rfl ⟨rfl, rfl⟩ ⟨Nat.le_of_ble_eq_true rfl, Nat.le_of_ble_eq_true rfl⟩ (rvW (q0 := 0) (ci := 1) E rfl rfl rfl) rfl (Nat.le_of_ble_eq_true rfl) d_SqlReaderModel_compared_79 fun r10 _ => ?_
      exact Sm_retI hR d_SqlReaderModel_compared_82
    · refine Sm_aload_n E d_SqlReaderModel_compared_61 rfl 0 rfl ?_
      refine Sm_iload_n E d_SqlReaderModel_compared_62 rfl 1 rfl ?_
      refine Sm_cVi (As := [.int x1]) (b := (G.1 100)) (st := [.ref (G.1 100)]) (n := 1) E exOk wM_as (fun _ h => cM_SqlReaderModel_typeOf x1 u6 h) gk_SqlReaderModel_582 dk_SqlReaderModel_typeOf rfl ⟨rfl, rfl⟩ ⟨Nat.le_of_ble_eq_true rfl, Nat.le_of_ble_eq_true rfl⟩ (rvW (q0 := 0) (ci := 1) E rfl rfl rfl) rfl (Nat.le_of_ble_eq_true rfl) d_SqlReaderModel_compared_63 fun r11 _ => ?_
      refine Sm_aload_n E d_SqlReaderModel_compared_66 rfl 0 rfl ?_
      refine Sm_iload_n E d_SqlReaderModel_compared_67 rfl 2 rfl ?_
      refine Sm_cVi (As := [.int x2]) (b := (G.1 100)) (st := [.int r11, .ref (G.1 100)]) (n := 1) E exOk wM_as (fun _ h => cM_SqlReaderModel_typeOf x2 u6 h) gk_SqlReaderModel_582 dk_SqlReaderModel_typeOf rfl ⟨rfl, rfl⟩ ⟨Nat.le_of_ble_eq_true rfl, Nat.le_of_ble_eq_true rfl⟩ (rvW (q0 := 0) (ci := 1) E rfl rfl rfl) rfl (Nat.le_of_ble_eq_true rfl) d_SqlReaderModel_compared_68 fun r12 _ => ?_
      refine Sm_icmp_ne (tgt := 78) E d_SqlReaderModel_compared_71 (by decide) (fun _ => ?_) (fun _ => ?_)
      · refine Sm_iconst (v := 0) E d_SqlReaderModel_compared_78 (by decide) ?_
        refine Sm_cVi (As := [.int 0]) (b := (G.1 100)) (st := []) (n := 1) E exOk wM_as (fun _ h => cM_SqlReaderModel_error 0 u6 h) gk_SqlReaderModel_591 dk_SqlReaderModel_error rfl ⟨rfl, rfl⟩ ⟨Nat.le_of_ble_eq_true rfl, Nat.le_of_ble_eq_true rfl⟩ (rvW (q0 := 0) (ci := 1) E rfl rfl rfl) rfl (Nat.le_of_ble_eq_true rfl) d_SqlReaderModel_compared_79 fun r13 _ => ?_
        exact Sm_retI hR d_SqlReaderModel_compared_82
      · refine Sm_iconst (v := 1) E d_SqlReaderModel_compared_74 (by decide) ?_
        refine Sm_goto (tgt := 79) E d_SqlReaderModel_compared_75 (by decide) ?_
        refine Sm_cVi (As := [.int 1]) (b := (G.1 100)) (st := []) (n := 1) E exOk wM_as (fun _ h => cM_SqlReaderModel_error 1 u6 h) gk_SqlReaderModel_591 dk_SqlReaderModel_error rfl ⟨rfl, rfl⟩ ⟨Nat.le_of_ble_eq_true rfl, Nat.le_of_ble_eq_true rfl⟩ (rvW (q0 := 0) (ci := 1) E rfl rfl rfl) rfl (Nat.le_of_ble_eq_true rfl) d_SqlReaderModel_compared_79 fun r14 _ => ?_
        exact Sm_retI hR d_SqlReaderModel_compared_82
set_option maxRecDepth 100000 in
set_option maxHeartbeats 4000000 in
theorem tM_SqlReaderModel_compared_J19 {X : Cx} {G : Gx} {res : Int32 × St} (E : EM X G prog_11_method_70_code R_SqlReaderModel 3 { frames := 1, cells := 0, slots := 0, locals := 22 }) (hR : RtI X vwCl (wM G) prog_11_method_70_code res) : ∀ (x1 : Int32) (x2 : Int32) (s1 : Int32) (s2 : Int32) (u : St), SM X G 3 res (mM_SqlReaderModel_compared_J19 x1 x2 s1 s2 u) u 19 [(0, .ref (G.1 100)), (1, .int x1), (2, .int x2)] [.int s2, .int s1, .ref (G.1 100)] := by
  intro x1 x2 s1 s2 u
  rw [mM_SqlReaderModel_compared_J19]
  refine Sm_cVV (As := [.int s1, .int s2]) (b := (G.1 100)) (st := []) (n := 2) E exOk wM_as (fun _ h => cM_SqlReaderModel_gives s1 s2 u h) gk_SqlReaderModel_588 dk_SqlReaderModel_gives rfl ⟨rfl, rfl⟩ ⟨Nat.le_of_ble_eq_true rfl, Nat.le_of_ble_eq_true rfl⟩ (rvW (q0 := 0) (ci := 1) E rfl rfl rfl) rfl (Nat.le_of_ble_eq_true rfl) d_SqlReaderModel_compared_19 fun u3 _ => ?_
  refine Sm_aload_n E d_SqlReaderModel_compared_22 rfl 0 rfl ?_
  refine Sm_iload_n E d_SqlReaderModel_compared_23 rfl 2 rfl ?_
  refine Sm_aload_n E d_SqlReaderModel_compared_24 rfl 0 rfl ?_
  refine Sm_iload_n E d_SqlReaderModel_compared_25 rfl 1 rfl ?_
  refine Sm_cVi (As := [.int x1]) (b := (G.1 100)) (st := [.int x2, .ref (G.1 100)]) (n := 1) E exOk wM_as (fun _ h => cM_SqlReaderModel_typeOf x1 u3 h) gk_SqlReaderModel_582 dk_SqlReaderModel_typeOf rfl ⟨rfl, rfl⟩ ⟨Nat.le_of_ble_eq_true rfl, Nat.le_of_ble_eq_true rfl⟩ (rvW (q0 := 0) (ci := 1) E rfl rfl rfl) rfl (Nat.le_of_ble_eq_true rfl) d_SqlReaderModel_compared_26 fun r4 _ => ?_
  refine Sm_if_ne (tgt := 36) E d_SqlReaderModel_compared_29 (by decide) (fun _ => ?_) (fun _ => ?_)
  · refine Sm_aload_n E d_SqlReaderModel_compared_36 rfl 0 rfl ?_
    refine Sm_iload_n E d_SqlReaderModel_compared_37 rfl 1 rfl ?_
    refine Sm_cVi (As := [.int x1]) (b := (G.1 100)) (st := [.int x2, .ref (G.1 100)]) (n := 1) E exOk wM_as (fun _ h => cM_SqlReaderModel_typeOf x1 u3 h) gk_SqlReaderModel_582 dk_SqlReaderModel_typeOf rfl ⟨rfl, rfl⟩ ⟨Nat.le_of_ble_eq_true rfl, Nat.le_of_ble_eq_true rfl⟩ (rvW (q0 := 0) (ci := 1) E rfl rfl rfl) rfl (Nat.le_of_ble_eq_true rfl) d_SqlReaderModel_compared_38 fun r5 _ => ?_
    exact Sm_sub [0, 1, 2] rfl (tM_SqlReaderModel_compared_J41 E hR _ _ _ _ _)
  · refine Sm_iconst (v := 2) E d_SqlReaderModel_compared_32 (by decide) ?_
    refine Sm_goto (tgt := 41) E d_SqlReaderModel_compared_33 (by decide) ?_
    exact Sm_sub [0, 1, 2] rfl (tM_SqlReaderModel_compared_J41 E hR _ _ _ _ _)
set_option maxRecDepth 100000 in
set_option maxHeartbeats 4000000 in
theorem cM_SqlReaderModel_compared {l : Launch} {D : va_G} {G : Gx} (x1 : Int32) (x2 : Int32) (u : St) {res : Int32 × St} (hm : mM_SqlReaderModel_compared x1 x2 u = some res) : KM l D G y_SqlReaderModel_compared (.code y_SqlReaderModel_compared prog_11_method_70_code 3 (some .int)) { frames := 1, cells := 0, slots := 0, locals := 22 } [.ref (G.1 100), .int x1, .int x2] u (qI D vwCl (wM G) (tyW G) (adsM G) res) := by
  refine Ct_I (by decide) wM_as (Nat.le_of_ble_eq_true rfl) hm (fun X _ _ E hR => ?_)
  refine Sm_lvs (lv' := [(0, .ref (G.1 100)), (1, .int x1), (2, .int x2)]) rfl ?_
  rw [mM_SqlReaderModel_compared]
  refine Sm_aload_n E d_SqlReaderModel_compared_0 rfl 0 rfl ?_
  refine Sm_iload_n E d_SqlReaderModel_compared_1 rfl 1 rfl ?_
  refine Sm_aload_n E d_SqlReaderModel_compared_2 rfl 0 rfl ?_
  refine Sm_iload_n E d_SqlReaderModel_compared_3 rfl 2 rfl ?_
  refine Sm_cVi (As := [.int x2]) (b := (G.1 100)) (st := [.int x1, .ref (G.1 100)]) (n := 1) E exOk wM_as (fun _ h => cM_SqlReaderModel_typeOf x2 u h) gk_SqlReaderModel_582 dk_SqlReaderModel_typeOf rfl ⟨rfl, rfl⟩ ⟨Nat.le_of_ble_eq_true rfl, Nat.le_of_ble_eq_true rfl⟩ (rvW (q0 := 0) (ci := 1) E rfl rfl rfl) rfl (Nat.le_of_ble_eq_true rfl) d_SqlReaderModel_compared_4 fun r1 _ => ?_
  refine Sm_if_ne (tgt := 14) E d_SqlReaderModel_compared_7 (by decide) (fun _ => ?_) (fun _ => ?_)
  · refine Sm_aload_n E d_SqlReaderModel_compared_14 rfl 0 rfl ?_
    refine Sm_iload_n E d_SqlReaderModel_compared_15 rfl 2 rfl ?_
    refine Sm_cVi (As := [.int x2]) (b := (G.1 100)) (st := [.int x1, .ref (G.1 100)]) (n := 1) E exOk wM_as (fun _ h => cM_SqlReaderModel_typeOf x2 u h) gk_SqlReaderModel_582 dk_SqlReaderModel_typeOf rfl ⟨rfl, rfl⟩ ⟨Nat.le_of_ble_eq_true rfl, Nat.le_of_ble_eq_true rfl⟩ (rvW (q0 := 0) (ci := 1) E rfl rfl rfl) rfl (Nat.le_of_ble_eq_true rfl) d_SqlReaderModel_compared_16 fun r2 _ => ?_
    exact Sm_sub [0, 1, 2] rfl (tM_SqlReaderModel_compared_J19 E hR _ _ _ _ _)
  · refine Sm_iconst (v := 2) E d_SqlReaderModel_compared_10 (by decide) ?_
    refine Sm_goto (tgt := 19) E d_SqlReaderModel_compared_11 (by decide) ?_
    exact Sm_sub [0, 1, 2] rfl (tM_SqlReaderModel_compared_J19 E hR _ _ _ _ _)
set_option maxRecDepth 100000 in
set_option maxHeartbeats 4000000 in
theorem tM_SqlReaderModel_fits_J37 {X : Cx} {G : Gx} {res : Int32 × St} (E : EM X G prog_11_method_66_code R_SqlReaderModel 3 { frames := 1, cells := 0, slots := 0, locals := 21 }) (hR : RtZ X vwCl (wM G) prog_11_method_66_code .boolean res) : ∀ (x1 : Int32) (x2 : Int32) (u : St), SM X G 3 res (mM_SqlReaderModel_fits_J37 x1 x2 u) u 37 [(0, .ref (G.1 100)), (1, .int x1), (2, .int x2)] [] := by
  intro x1 x2 u
  rw [mM_SqlReaderModel_fits_J37]
  refine Sm_aload_n E d_SqlReaderModel_fits_37 rfl 0 rfl ?_
  refine Sm_iload_n E d_SqlReaderModel_fits_38 rfl 1 rfl ?_
  refine Sm_cVi (As := [.int x1]) (b := (G.1 100)) (st := []) (n := 1) E exOk wM_as (fun _ h => cM_SqlReaderModel_typeOf x1 u h) gk_SqlReaderModel_582 dk_SqlReaderModel_typeOf rfl ⟨rfl, rfl⟩ ⟨Nat.le_of_ble_eq_true rfl, Nat.le_of_ble_eq_true rfl⟩ (rvW (q0 := 0) (ci := 1) E rfl rfl rfl) rfl (Nat.le_of_ble_eq_true rfl) d_SqlReaderModel_fits_39 fun r1 _ => ?_
  refine Sm_if_eq (tgt := 54) E d_SqlReaderModel_fits_42 (by decide) (fun _ => ?_) (fun _ => ?_)
  · refine Sm_iconst (v := 1) E d_SqlReaderModel_fits_54 (by decide) ?_
    refine Sm_goto (tgt := 59) E d_SqlReaderModel_fits_55 (by decide) ?_
    exact Sm_retZ hR (by decide) d_SqlReaderModel_fits_59
  · refine Sm_aload_n E d_SqlReaderModel_fits_45 rfl 0 rfl ?_
    refine Sm_iload_n E d_SqlReaderModel_fits_46 rfl 1 rfl ?_
    refine Sm_cVi (As := [.int x1]) (b := (G.1 100)) (st := []) (n := 1) E exOk wM_as (fun _ h => cM_SqlReaderModel_typeOf x1 u h) gk_SqlReaderModel_582 dk_SqlReaderModel_typeOf rfl ⟨rfl, rfl⟩ ⟨Nat.le_of_ble_eq_true rfl, Nat.le_of_ble_eq_true rfl⟩ (rvW (q0 := 0) (ci := 1) E rfl rfl rfl) rfl (Nat.le_of_ble_eq_true rfl) d_SqlReaderModel_fits_47 fun r2 _ => ?_
    refine Sm_iload_n E d_SqlReaderModel_fits_50 rfl 2 rfl ?_
    refine Sm_icmp_ne (tgt := 58) E d_SqlReaderModel_fits_51 (by decide) (fun _ => ?_) (fun _ => ?_)
    · refine Sm_iconst (v := 0) E d_SqlReaderModel_fits_58 (by decide) ?_
      exact Sm_retZ hR (by decide) d_SqlReaderModel_fits_59
    · refine Sm_iconst (v := 1) E d_SqlReaderModel_fits_54 (by decide) ?_
      refine Sm_goto (tgt := 59) E d_SqlReaderModel_fits_55 (by decide) ?_
      exact Sm_retZ hR (by decide) d_SqlReaderModel_fits_59
set_option maxRecDepth 100000 in
set_option maxHeartbeats 4000000 in
theorem cM_SqlReaderModel_fits {l : Launch} {D : va_G} {G : Gx} (x1 : Int32) (x2 : Int32) (u : St) {res : Int32 × St} (hm : mM_SqlReaderModel_fits x1 x2 u = some res) : KM l D G y_SqlReaderModel_fits (.code y_SqlReaderModel_fits prog_11_method_66_code 3 (some .boolean)) { frames := 1, cells := 0, slots := 0, locals := 21 } [.ref (G.1 100), .int x1, .int x2] u (qI D vwCl (wM G) (tyW G) (adsM G) res) := by
  refine Ct_Z (by decide) wM_as (Nat.le_of_ble_eq_true rfl) hm (fun X _ _ E hR => ?_)
  refine Sm_lvs (lv' := [(0, .ref (G.1 100)), (1, .int x1), (2, .int x2)]) rfl ?_
  rw [mM_SqlReaderModel_fits]
  refine Sm_aload_n E d_SqlReaderModel_fits_0 rfl 0 rfl ?_
  refine gfM_0_kind E fl_SqlReaderModel_41 d_SqlReaderModel_fits_1 ?_
  refine Sm_iload_n E d_SqlReaderModel_fits_4 rfl 1 rfl ?_
  refine Sm_gd fun hi => ldM_11 E (inb_in hi) d_SqlReaderModel_fits_5 ?_
  refine Sm_bipush (v := 28) E d_SqlReaderModel_fits_6 (by decide) ?_
  refine Sm_icmp_ne (tgt := 37) E d_SqlReaderModel_fits_8 (by decide) (fun _ => ?_) (fun _ => ?_)
  · exact Sm_sub [0, 1, 2] rfl (tM_SqlReaderModel_fits_J37 E hR _ _ _)
  · refine Sm_aload_n E d_SqlReaderModel_fits_11 rfl 0 rfl ?_
    refine gfM_0_needed E fl_SqlReaderModel_118 d_SqlReaderModel_fits_12 ?_
    refine Sm_aload_n E d_SqlReaderModel_fits_15 rfl 0 rfl ?_
    refine gfM_0_left E fl_SqlReaderModel_44 d_SqlReaderModel_fits_16 ?_
    refine Sm_iload_n E d_SqlReaderModel_fits_19 rfl 1 rfl ?_
    refine Sm_gd fun hi => ldM_12 E (inb_in hi) d_SqlReaderModel_fits_20 ?_
    refine Sm_gd fun hi => ldM_36 E (inb_in hi) d_SqlReaderModel_fits_21 ?_
    refine Sm_if_ne (tgt := 37) E d_SqlReaderModel_fits_22 (by decide) (fun _ => ?_) (fun _ => ?_)
    · exact Sm_sub [0, 1, 2] rfl (tM_SqlReaderModel_fits_J37 E hR _ _ _)
    · refine Sm_aload_n E d_SqlReaderModel_fits_25 rfl 0 rfl ?_
      refine gfM_0_needed E fl_SqlReaderModel_118 d_SqlReaderModel_fits_26 ?_
      refine Sm_aload_n E d_SqlReaderModel_fits_29 rfl 0 rfl ?_
      refine gfM_0_left E fl_SqlReaderModel_44 d_SqlReaderModel_fits_30 ?_
      refine Sm_iload_n E d_SqlReaderModel_fits_33 rfl 1 rfl ?_
      refine Sm_gd fun hi => ldM_12 E (inb_in hi) d_SqlReaderModel_fits_34 ?_
      refine Sm_iload_n E d_SqlReaderModel_fits_35 rfl 2 rfl ?_
      refine Sm_gd fun hi => stM_36 E (inb_in hi) d_SqlReaderModel_fits_36 fun u3 _ => ?_
      exact Sm_sub [0, 1, 2] rfl (tM_SqlReaderModel_fits_J37 E hR _ _ _)
set_option maxRecDepth 100000 in
set_option maxHeartbeats 4000000 in
theorem tM_SqlReaderModel_checkNode_J146 {X : Cx} {G : Gx} {res : Int32 × St} (E : EM X G prog_11_method_71_code R_SqlReaderModel 7 { frames := 3, cells := 0, slots := 0, locals := 75 }) (hR : RtI X vwCl (wM G) prog_11_method_71_code res) : ∀ (x1 : Int32) (x3 : Int32) (u : St), SM X G 7 res (mM_SqlReaderModel_checkNode_J146 x1 x3 u) u 146 [(0, .ref (G.1 100)), (1, .int x1), (3, .int x3)] [] := by
  intro x1 x3 u
  rw [mM_SqlReaderModel_checkNode_J146]
  refine Sm_aload_n E d_SqlReaderModel_checkNode_146 rfl 0 rfl ?_
  refine Sm_iload_n E d_SqlReaderModel_checkNode_147 rfl 2 rfl ?_
  refine Sm_iconst (v := 2) E d_SqlReaderModel_checkNode_148 (by decide) ?_
  refine Sm_cVV (As := [.int x3, .int 2]) (b := (G.1 100)) (st := []) (n := 2) E exOk wM_as (fun _ h => cM_SqlReaderModel_gives x3 2 u h) gk_SqlReaderModel_588 dk_SqlReaderModel_gives rfl ⟨rfl, rfl⟩ ⟨Nat.le_of_ble_eq_true rfl, Nat.le_of_ble_eq_true rfl⟩ (rvW (q0 := 0) (ci := 1) E rfl rfl rfl) rfl (Nat.le_of_ble_eq_true rfl) d_SqlReaderModel_checkNode_149 fun u7 _ => ?_
  refine Sm_aload_n E d_SqlReaderModel_checkNode_152 rfl 0 rfl ?_
  refine gfM_0_type E fl_SqlReaderModel_50 d_SqlReaderModel_checkNode_153 ?_
  refine Sm_iload_n E d_SqlReaderModel_checkNode_156 rfl 1 rfl ?_
  refine Sm_aload_n E d_SqlReaderModel_checkNode_157 rfl 0 rfl ?_
  refine Sm_iload_n E d_SqlReaderModel_checkNode_158 rfl 2 rfl ?_
  refine Sm_cVi (As := [.int x3]) (b := (G.1 100)) (st := [.int x1, .ref (G.1 114)]) (n := 1) E exOk wM_as (fun _ h => cM_SqlReaderModel_typeOf x3 u7 h) gk_SqlReaderModel_582 dk_SqlReaderModel_typeOf rfl ⟨rfl, rfl⟩ ⟨Nat.le_of_ble_eq_true rfl, Nat.le_of_ble_eq_true rfl⟩ (rvW (q0 := 0) (ci := 1) E rfl rfl rfl) rfl (Nat.le_of_ble_eq_true rfl) d_SqlReaderModel_checkNode_159 fun r8 _ => ?_
  refine Sm_gd fun hi => stM_14 E (inb_in hi) d_SqlReaderModel_checkNode_162 fun u9 _ => ?_
  refine Sm_aload_n E d_SqlReaderModel_checkNode_163 rfl 0 rfl ?_
  refine Sm_aload_n E d_SqlReaderModel_checkNode_164 rfl 0 rfl ?_
  refine Sm_iload_n E d_SqlReaderModel_checkNode_165 rfl 2 rfl ?_
  refine Sm_cVi (As := [.int x3]) (b := (G.1 100)) (st := [.ref (G.1 100)]) (n := 1) E exOk wM_as (fun _ h => cM_SqlReaderModel_typeOf x3 u9 h) gk_SqlReaderModel_582 dk_SqlReaderModel_typeOf rfl ⟨rfl, rfl⟩ ⟨Nat.le_of_ble_eq_true rfl, Nat.le_of_ble_eq_true rfl⟩ (rvW (q0 := 0) (ci := 1) E rfl rfl rfl) rfl (Nat.le_of_ble_eq_true rfl) d_SqlReaderModel_checkNode_166 fun r10 _ => ?_
  refine Sm_iconst (v := 3) E d_SqlReaderModel_checkNode_169 (by decide) ?_
  refine Sm_icmp_eq (tgt := 177) E d_SqlReaderModel_checkNode_170 (by decide) (fun _ => ?_) (fun _ => ?_)
  · refine Sm_iconst (v := 0) E d_SqlReaderModel_checkNode_177 (by decide) ?_
    refine Sm_cVi (As := [.int 0]) (b := (G.1 100)) (st := []) (n := 1) E exOk wM_as (fun _ h => cM_SqlReaderModel_error 0 u9 h) gk_SqlReaderModel_591 dk_SqlReaderModel_error rfl ⟨rfl, rfl⟩ ⟨Nat.le_of_ble_eq_true rfl, Nat.le_of_ble_eq_true rfl⟩ (rvW (q0 := 0) (ci := 1) E rfl rfl rfl) rfl (Nat.le_of_ble_eq_true rfl) d_SqlReaderModel_checkNode_178 fun r11 _ => ?_
    exact Sm_retI hR d_SqlReaderModel_checkNode_181
  · refine Sm_iconst (v := 1) E d_SqlReaderModel_checkNode_173 (by decide) ?_
    refine Sm_goto (tgt := 178) E d_SqlReaderModel_checkNode_174 (by decide) ?_
    refine Sm_cVi (As := [.int 1]) (b := (G.1 100)) (st := []) (n := 1) E exOk wM_as (fun _ h => cM_SqlReaderModel_error 1 u9 h) gk_SqlReaderModel_591 dk_SqlReaderModel_error rfl ⟨rfl, rfl⟩ ⟨Nat.le_of_ble_eq_true rfl, Nat.le_of_ble_eq_true rfl⟩ (rvW (q0 := 0) (ci := 1) E rfl rfl rfl) rfl (Nat.le_of_ble_eq_true rfl) d_SqlReaderModel_checkNode_178 fun r12 _ => ?_
    exact Sm_retI hR d_SqlReaderModel_checkNode_181
set_option maxRecDepth 100000 in
set_option maxHeartbeats 4000000 in
theorem tM_SqlReaderModel_checkNode_J237 {X : Cx} {G : Gx} {res : Int32 × St} (E : EM X G prog_11_method_71_code R_SqlReaderModel 7 { frames := 3, cells := 0, slots := 0, locals := 75 }) (hR : RtI X vwCl (wM G) prog_11_method_71_code res) : ∀ (x3 : Int32) (x4 : Int32) (s0 : Int32) (u : St), SM X G 7 res (mM_SqlReaderModel_checkNode_J237 x3 x4 s0 u) u 237 [(0, .ref (G.1 100)), (3, .int x3), (4, .int x4)] [.int s0] := by
  intro x3 x4 s0 u
  rw [mM_SqlReaderModel_checkNode_J237]
  refine Sm_istore (lv' := [(5, .int s0), (0, .ref (G.1 100)), (3, .int x3), (4, .int x4)]) E d_SqlReaderModel_checkNode_237 (by decide) rfl ?_
  refine Sm_aload_n E d_SqlReaderModel_checkNode_239 rfl 1 rfl ?_
  refine Sm_iload_n E d_SqlReaderModel_checkNode_240 rfl 2 rfl ?_
  refine Sm_iload E d_SqlReaderModel_checkNode_241 0 rfl ?_
  refine Sm_cVI (As := [.int x3, .int s0]) (b := (G.1 100)) (st := []) (n := 2) E exOk wM_as (fun _ h => cM_SqlReaderModel_fits x3 s0 u h) gk_SqlReaderModel_601 dk_SqlReaderModel_fits rfl ⟨rfl, rfl⟩ ⟨Nat.le_of_ble_eq_true rfl, Nat.le_of_ble_eq_true rfl⟩ (rvW (q0 := 0) (ci := 1) E rfl rfl rfl) rfl (Nat.le_of_ble_eq_true rfl) d_SqlReaderModel_checkNode_243 fun r13 u14 _ => ?_
  refine Sm_istore (lv' := [(6, .int r13), (5, .int s0), (0, .ref (G.1 100)), (3, .int x3), (4, .int x4)]) E d_SqlReaderModel_checkNode_246 (by decide) rfl ?_
  refine Sm_aload_n E d_SqlReaderModel_checkNode_248 rfl 2 rfl ?_
  refine Sm_iload E d_SqlReaderModel_checkNode_249 0 rfl ?_
  refine Sm_if_eq (tgt := 274) E d_SqlReaderModel_checkNode_251 (by decide) (fun _ => ?_) (fun _ => ?_)
  · refine Sm_iconst (v := 0) E d_SqlReaderModel_checkNode_274 (by decide) ?_
    refine Sm_cVi (As := [.int 0]) (b := (G.1 100)) (st := []) (n := 1) E exOk wM_as (fun _ h => cM_SqlReaderModel_error 0 u14 h) gk_SqlReaderModel_591 dk_SqlReaderModel_error rfl ⟨rfl, rfl⟩ ⟨Nat.le_of_ble_eq_true rfl, Nat.le_of_ble_eq_true rfl⟩ (rvW (q0 := 0) (ci := 1) E rfl rfl rfl) rfl (Nat.le_of_ble_eq_true rfl) d_SqlReaderModel_checkNode_275 fun r15 _ => ?_
    exact Sm_retI hR d_SqlReaderModel_checkNode_278
  · refine Sm_iload E d_SqlReaderModel_checkNode_254 4 rfl ?_
    refine Sm_if_lt (tgt := 270) E d_SqlReaderModel_checkNode_256 (by decide) (fun _ => ?_) (fun _ => ?_)
    · refine Sm_iconst (v := 1) E d_SqlReaderModel_checkNode_270 (by decide) ?_
      refine Sm_goto (tgt := 275) E d_SqlReaderModel_checkNode_271 (by decide) ?_
      refine Sm_cVi (As := [.int 1]) (b := (G.1 100)) (st := []) (n := 1) E exOk wM_as (fun _ h => cM_SqlReaderModel_error 1 u14 h) gk_SqlReaderModel_591 dk_SqlReaderModel_error rfl ⟨rfl, rfl⟩ ⟨Nat.le_of_ble_eq_true rfl, Nat.le_of_ble_eq_true rfl⟩ (rvW (q0 := 0) (ci := 1) E rfl rfl rfl) rfl (Nat.le_of_ble_eq_true rfl) d_SqlReaderModel_checkNode_275 fun r16 _ => ?_
      exact Sm_retI hR d_SqlReaderModel_checkNode_278
    · refine Sm_aload_n E d_SqlReaderModel_checkNode_259 rfl 2 rfl ?_
      refine Sm_iload E d_SqlReaderModel_checkNode_260 4 rfl ?_
      refine Sm_iload E d_SqlReaderModel_checkNode_262 1 rfl ?_
      refine Sm_cVI (As := [.int x4, .int s0]) (b := (G.1 100)) (st := [.ref (G.1 100)]) (n := 2) E exOk wM_as (fun _ h => cM_SqlReaderModel_fits x4 s0 u14 h) gk_SqlReaderModel_601 dk_SqlReaderModel_fits rfl ⟨rfl, rfl⟩ ⟨Nat.le_of_ble_eq_true rfl, Nat.le_of_ble_eq_true rfl⟩ (rvW (q0 := 0) (ci := 1) E rfl rfl rfl) rfl (Nat.le_of_ble_eq_true rfl) d_SqlReaderModel_checkNode_264 fun r17 u18 _ => ?_
      refine Sm_if_eq (tgt := 274) E d_SqlReaderModel_checkNode_267 (by decide) (fun _ => ?_) (fun _ => ?_)
      · refine Sm_iconst (v := 0) E d_SqlReaderModel_checkNode_274 (by decide) ?_
        refine Sm_cVi (As := [.int 0]) (b := (G.1 100)) (st := []) (n := 1) E exOk wM_as (fun _ h => cM_SqlReaderModel_error 0 u18 h) gk_SqlReaderModel_591 dk_SqlReaderModel_error rfl ⟨rfl, rfl⟩ ⟨Nat.le_of_ble_eq_true rfl, Nat.le_of_ble_eq_true rfl⟩ (rvW (q0 := 0) (ci := 1) E rfl rfl rfl) rfl (Nat.le_of_ble_eq_true rfl) d_SqlReaderModel_checkNode_275 fun r19 _ => ?_
        exact Sm_retI hR d_SqlReaderModel_checkNode_278
      · refine Sm_iconst (v := 1) E d_SqlReaderModel_checkNode_270 (by decide) ?_
        refine Sm_goto (tgt := 275) E d_SqlReaderModel_checkNode_271 (by decide) ?_
        refine Sm_cVi (As := [.int 1]) (b := (G.1 100)) (st := []) (n := 1) E exOk wM_as (fun _ h => cM_SqlReaderModel_error 1 u18 h) gk_SqlReaderModel_591 dk_SqlReaderModel_error rfl ⟨rfl, rfl⟩ ⟨Nat.le_of_ble_eq_true rfl, Nat.le_of_ble_eq_true rfl⟩ (rvW (q0 := 0) (ci := 1) E rfl rfl rfl) rfl (Nat.le_of_ble_eq_true rfl) d_SqlReaderModel_checkNode_275 fun r20 _ => ?_
        exact Sm_retI hR d_SqlReaderModel_checkNode_278
set_option maxRecDepth 100000 in
set_option maxHeartbeats 4000000 in
theorem tM_SqlReaderModel_checkNode_J202 {X : Cx} {G : Gx} {res : Int32 × St} (E : EM X G prog_11_method_71_code R_SqlReaderModel 7 { frames := 3, cells := 0, slots := 0, locals := 75 }) (hR : RtI X vwCl (wM G) prog_11_method_71_code res) : ∀ (x2 : Int32) (x3 : Int32) (x4 : Int32) (u : St), SM X G 7 res (mM_SqlReaderModel_checkNode_J202 x2 x3 x4 u) u 202 [(0, .ref (G.1 100)), (2, .int x2), (3, .int x3), (4, .int x4)] [] := by
  intro x2 x3 x4 u
  rw [mM_SqlReaderModel_checkNode_J202]
  refine Sm_iload_n E d_SqlReaderModel_checkNode_202 rfl 1 rfl ?_
  refine Sm_bipush (v := 6) E d_SqlReaderModel_checkNode_203 (by decide) ?_
  refine Sm_icmp_lt (tgt := 214) E d_SqlReaderModel_checkNode_205 (by decide) (fun _ => ?_) (fun _ => ?_)
  · refine Sm_iconst (v := 0) E d_SqlReaderModel_checkNode_214 (by decide) ?_
    exact Sm_retI hR d_SqlReaderModel_checkNode_215
  · refine Sm_iload_n E d_SqlReaderModel_checkNode_208 rfl 1 rfl ?_
    refine Sm_bipush (v := 28) E d_SqlReaderModel_checkNode_209 (by decide) ?_
    refine Sm_icmp_ne (tgt := 216) E d_SqlReaderModel_checkNode_211 (by decide) (fun _ => ?_) (fun _ => ?_)
    · refine Sm_iload_n E d_SqlReaderModel_checkNode_216 rfl 1 rfl ?_
      refine Sm_bipush (v := 16) E d_SqlReaderModel_checkNode_217 (by decide) ?_
      refine Sm_icmp_ge (tgt := 226) E d_SqlReaderModel_checkNode_219 (by decide) (fun _ => ?_) (fun _ => ?_)
      · refine Sm_iload_n E d_SqlReaderModel_checkNode_226 rfl 1 rfl ?_
        refine Sm_bipush (v := 16) E d_SqlReaderModel_checkNode_227 (by decide) ?_
        refine Sm_icmp_ne (tgt := 236) E d_SqlReaderModel_checkNode_229 (by decide) (fun _ => ?_) (fun _ => ?_)
        · refine Sm_iconst (v := 3) E d_SqlReaderModel_checkNode_236 (by decide) ?_
          exact Sm_sub [0, 2, 3] rfl (tM_SqlReaderModel_checkNode_J237 E hR _ _ _ _)
        · refine Sm_iconst (v := 2) E d_SqlReaderModel_checkNode_232 (by decide) ?_
          refine Sm_goto (tgt := 237) E d_SqlReaderModel_checkNode_233 (by decide) ?_
          exact Sm_sub [0, 2, 3] rfl (tM_SqlReaderModel_checkNode_J237 E hR _ _ _ _)
      · refine Sm_iconst (v := 1) E d_SqlReaderModel_checkNode_222 (by decide) ?_
        refine Sm_goto (tgt := 237) E d_SqlReaderModel_checkNode_223 (by decide) ?_
        exact Sm_sub [0, 2, 3] rfl (tM_SqlReaderModel_checkNode_J237 E hR _ _ _ _)
    · refine Sm_iconst (v := 0) E d_SqlReaderModel_checkNode_214 (by decide) ?_
      exact Sm_retI hR d_SqlReaderModel_checkNode_215
set_option maxRecDepth 100000 in
set_option maxHeartbeats 4000000 in
theorem tM_SqlReaderModel_checkNode_J96 {X : Cx} {G : Gx} {res : Int32 × St} (E : EM X G prog_11_method_71_code R_SqlReaderModel 7 { frames := 3, cells := 0, slots := 0, locals := 75 }) (hR : RtI X vwCl (wM G) prog_11_method_71_code res) : ∀ (x1 : Int32) (x2 : Int32) (x3 : Int32) (x4 : Int32) (s1 : Int32) (s2 : Int32) (u : St), SM X G 7 res (mM_SqlReaderModel_checkNode_J96 x1 x2 x3 x4 s1 s2 u) u 96 [(0, .ref (G.1 100)), (1, .int x1), (2, .int x2), (3, .int x3), (4, .int x4)] [.int s2, .int s1, .ref (G.1 114)] := by
  intro x1 x2 x3 x4 s1 s2 u
  rw [mM_SqlReaderModel_checkNode_J96]
  refine Sm_gd fun hi => stM_14 E (inb_in hi) d_SqlReaderModel_checkNode_96 fun u4 _ => ?_
  refine Sm_iload_n E d_SqlReaderModel_checkNode_97 rfl 2 rfl ?_
  refine Sm_iconst (v := 4) E d_SqlReaderModel_checkNode_98 (by decide) ?_
  refine Sm_icmp_ne (tgt := 108) E d_SqlReaderModel_checkNode_99 (by decide) (fun _ => ?_) (fun _ => ?_)
  · refine Sm_iload_n E d_SqlReaderModel_checkNode_108 rfl 2 rfl ?_
    refine Sm_bipush (v := 6) E d_SqlReaderModel_checkNode_109 (by decide) ?_
    refine Sm_icmp_eq (tgt := 126) E d_SqlReaderModel_checkNode_111 (by decide) (fun _ => ?_) (fun _ => ?_)
    · refine Sm_aload_n E d_SqlReaderModel_checkNode_126 rfl 0 rfl ?_
      refine Sm_iload_n E d_SqlReaderModel_checkNode_127 rfl 3 rfl ?_
      refine Sm_iconst (v := 2) E d_SqlReaderModel_checkNode_128 (by decide) ?_
      refine Sm_cVV (As := [.int x3, .int 2]) (b := (G.1 100)) (st := []) (n := 2) E exOk wM_as (fun _ h => cM_SqlReaderModel_gives x3 2 u4 h) gk_SqlReaderModel_588 dk_SqlReaderModel_gives rfl ⟨rfl, rfl⟩ ⟨Nat.le_of_ble_eq_true rfl, Nat.le_of_ble_eq_true rfl⟩ (rvW (q0 := 0) (ci := 1) E rfl rfl rfl) rfl (Nat.le_of_ble_eq_true rfl) d_SqlReaderModel_checkNode_129 fun u5 _ => ?_
      refine Sm_iconst (v := 0) E d_SqlReaderModel_checkNode_132 (by decide) ?_
      exact Sm_retI hR d_SqlReaderModel_checkNode_133
    · refine Sm_iload_n E d_SqlReaderModel_checkNode_114 rfl 2 rfl ?_
      refine Sm_bipush (v := 23) E d_SqlReaderModel_checkNode_115 (by decide) ?_
      refine Sm_icmp_eq (tgt := 126) E d_SqlReaderModel_checkNode_117 (by decide) (fun _ => ?_) (fun _ => ?_)
      · refine Sm_aload_n E d_SqlReaderModel_checkNode_126 rfl 0 rfl ?_
        refine Sm_iload_n E d_SqlReaderModel_checkNode_127 rfl 3 rfl ?_
        refine Sm_iconst (v := 2) E d_SqlReaderModel_checkNode_128 (by decide) ?_
        refine Sm_cVV (As := [.int x3, .int 2]) (b := (G.1 100)) (st := []) (n := 2) E exOk wM_as (fun _ h => cM_SqlReaderModel_gives x3 2 u4 h) gk_SqlReaderModel_588 dk_SqlReaderModel_gives rfl ⟨rfl, rfl⟩ ⟨Nat.le_of_ble_eq_true rfl, Nat.le_of_ble_eq_true rfl⟩ (rvW (q0 := 0) (ci := 1) E rfl rfl rfl) rfl (Nat.le_of_ble_eq_true rfl) d_SqlReaderModel_checkNode_129 fun u6 _ => ?_
        refine Sm_iconst (v := 0) E d_SqlReaderModel_checkNode_132 (by decide) ?_
        exact Sm_retI hR d_SqlReaderModel_checkNode_133
      · refine Sm_iload_n E d_SqlReaderModel_checkNode_120 rfl 2 rfl ?_
        refine Sm_bipush (v := 24) E d_SqlReaderModel_checkNode_121 (by decide) ?_
        refine Sm_icmp_ne (tgt := 134) E d_SqlReaderModel_checkNode_123 (by decide) (fun _ => ?_) (fun _ => ?_)
        · refine Sm_iload_n E d_SqlReaderModel_checkNode_134 rfl 2 rfl ?_
          refine Sm_bipush (v := 8) E d_SqlReaderModel_checkNode_135 (by decide) ?_
          refine Sm_icmp_eq (tgt := 146) E d_SqlReaderModel_checkNode_137 (by decide) (fun _ => ?_) (fun _ => ?_)
          · exact Sm_sub [0, 1, 3] rfl (tM_SqlReaderModel_checkNode_J146 E hR _ _ _)
          · refine Sm_iload_n E d_SqlReaderModel_checkNode_140 rfl 2 rfl ?_
            refine Sm_bipush (v := 9) E d_SqlReaderModel_checkNode_141 (by decide) ?_
            refine Sm_icmp_ne (tgt := 182) E d_SqlReaderModel_checkNode_143 (by decide) (fun _ => ?_) (fun _ => ?_)
            · refine Sm_iload_n E d_SqlReaderModel_checkNode_182 rfl 2 rfl ?_
              refine Sm_bipush (v := 16) E d_SqlReaderModel_checkNode_183 (by decide) ?_
              refine Sm_icmp_le (tgt := 202) E d_SqlReaderModel_checkNode_185 (by decide) (fun _ => ?_) (fun _ => ?_)
              · exact Sm_sub [0, 2, 3, 4] rfl (tM_SqlReaderModel_checkNode_J202 E hR _ _ _ _)
              · refine Sm_iload_n E d_SqlReaderModel_checkNode_188 rfl 2 rfl ?_
                refine Sm_bipush (v := 23) E d_SqlReaderModel_checkNode_189 (by decide) ?_
                refine Sm_icmp_ge (tgt := 202) E d_SqlReaderModel_checkNode_191 (by decide) (fun _ => ?_) (fun _ => ?_)
                · exact Sm_sub [0, 2, 3, 4] rfl (tM_SqlReaderModel_checkNode_J202 E hR _ _ _ _)
                · refine Sm_aload_n E d_SqlReaderModel_checkNode_194 rfl 0 rfl ?_
                  refine Sm_iload_n E d_SqlReaderModel_checkNode_195 rfl 3 rfl ?_
                  refine Sm_iload E d_SqlReaderModel_checkNode_196 4 rfl ?_
                  refine Sm_cVI (As := [.int x3, .int x4]) (b := (G.1 100)) (st := []) (n := 2) E exOk wM_as (fun _ h => cM_SqlReaderModel_compared x3 x4 u4 h) gk_SqlReaderModel_598 dk_SqlReaderModel_compared rfl ⟨rfl, rfl⟩ ⟨Nat.le_of_ble_eq_true rfl, Nat.le_of_ble_eq_true rfl⟩ (rvW (q0 := 0) (ci := 1) E rfl rfl rfl) rfl (Nat.le_of_ble_eq_true rfl) d_SqlReaderModel_checkNode_198 fun r21 u22 _ => ?_
                  exact Sm_retI hR d_SqlReaderModel_checkNode_201
            · exact Sm_sub [0, 1, 3] rfl (tM_SqlReaderModel_checkNode_J146 E hR _ _ _)
        · refine Sm_aload_n E d_SqlReaderModel_checkNode_126 rfl 0 rfl ?_
          refine Sm_iload_n E d_SqlReaderModel_checkNode_127 rfl 3 rfl ?_
          refine Sm_iconst (v := 2) E d_SqlReaderModel_checkNode_128 (by decide) ?_
          refine Sm_cVV (As := [.int x3, .int 2]) (b := (G.1 100)) (st := []) (n := 2) E exOk wM_as (fun _ h => cM_SqlReaderModel_gives x3 2 u4 h) gk_SqlReaderModel_588 dk_SqlReaderModel_gives rfl ⟨rfl, rfl⟩ ⟨Nat.le_of_ble_eq_true rfl, Nat.le_of_ble_eq_true rfl⟩ (rvW (q0 := 0) (ci := 1) E rfl rfl rfl) rfl (Nat.le_of_ble_eq_true rfl) d_SqlReaderModel_checkNode_129 fun u23 _ => ?_
          refine Sm_iconst (v := 0) E d_SqlReaderModel_checkNode_132 (by decide) ?_
          exact Sm_retI hR d_SqlReaderModel_checkNode_133
  · refine Sm_aload_n E d_SqlReaderModel_checkNode_102 rfl 0 rfl ?_
    refine Sm_iload_n E d_SqlReaderModel_checkNode_103 rfl 1 rfl ?_
    refine Sm_cVI (As := [.int x1]) (b := (G.1 100)) (st := []) (n := 1) E exOk wM_as (fun _ h => cM_SqlReaderModel_resolve x1 u4 h) gk_SqlReaderModel_595 dk_SqlReaderModel_resolve rfl ⟨rfl, rfl⟩ ⟨Nat.le_of_ble_eq_true rfl, Nat.le_of_ble_eq_true rfl⟩ (rvW (q0 := 0) (ci := 1) E rfl rfl rfl) rfl (Nat.le_of_ble_eq_true rfl) d_SqlReaderModel_checkNode_104 fun r24 u25 _ => ?_
    exact Sm_retI hR d_SqlReaderModel_checkNode_107
set_option maxRecDepth 100000 in
set_option maxHeartbeats 4000000 in
theorem tM_SqlReaderModel_checkNode_J59 {X : Cx} {G : Gx} {res : Int32 × St} (E : EM X G prog_11_method_71_code R_SqlReaderModel 7 { frames := 3, cells := 0, slots := 0, locals := 75 }) (hR : RtI X vwCl (wM G) prog_11_method_71_code res) : ∀ (x1 : Int32) (x2 : Int32) (x3 : Int32) (x4 : Int32) (s1 : Int32) (u : St), SM X G 7 res (mM_SqlReaderModel_checkNode_J59 x1 x2 x3 x4 s1 u) u 59 [(0, .ref (G.1 100)), (1, .int x1), (2, .int x2), (3, .int x3), (4, .int x4)] [.int s1, .ref (G.1 114)] := by
  intro x1 x2 x3 x4 s1 u
  rw [mM_SqlReaderModel_checkNode_J59]
  refine Sm_iload_n E d_SqlReaderModel_checkNode_59 rfl 2 rfl ?_
  refine Sm_iconst (v := 2) E d_SqlReaderModel_checkNode_60 (by decide) ?_
  refine Sm_icmp_eq (tgt := 70) E d_SqlReaderModel_checkNode_61 (by decide) (fun _ => ?_) (fun _ => ?_)
  · refine Sm_iconst (v := 2) E d_SqlReaderModel_checkNode_70 (by decide) ?_
    refine Sm_goto (tgt := 96) E d_SqlReaderModel_checkNode_71 (by decide) ?_
    exact Sm_sub [0, 1, 2, 3, 4] rfl (tM_SqlReaderModel_checkNode_J96 E hR _ _ _ _ _ _ _)
  · refine Sm_iload_n E d_SqlReaderModel_checkNode_64 rfl 2 rfl ?_
    refine Sm_bipush (v := 16) E d_SqlReaderModel_checkNode_65 (by decide) ?_
    refine Sm_icmp_ne (tgt := 74) E d_SqlReaderModel_checkNode_67 (by decide) (fun _ => ?_) (fun _ => ?_)
    · refine Sm_iload_n E d_SqlReaderModel_checkNode_74 rfl 2 rfl ?_
      refine Sm_iconst (v := 3) E d_SqlReaderModel_checkNode_75 (by decide) ?_
      refine Sm_icmp_eq (tgt := 91) E d_SqlReaderModel_checkNode_76 (by decide) (fun _ => ?_) (fun _ => ?_)
      · refine Sm_iconst (v := 3) E d_SqlReaderModel_checkNode_91 (by decide) ?_
        refine Sm_goto (tgt := 96) E d_SqlReaderModel_checkNode_92 (by decide) ?_
        exact Sm_sub [0, 1, 2, 3, 4] rfl (tM_SqlReaderModel_checkNode_J96 E hR _ _ _ _ _ _ _)
      · refine Sm_iload_n E d_SqlReaderModel_checkNode_79 rfl 2 rfl ?_
        refine Sm_bipush (v := 16) E d_SqlReaderModel_checkNode_80 (by decide) ?_
        refine Sm_icmp_le (tgt := 95) E d_SqlReaderModel_checkNode_82 (by decide) (fun _ => ?_) (fun _ => ?_)
        · refine Sm_iconst (v := 0) E d_SqlReaderModel_checkNode_95 (by decide) ?_
          exact Sm_sub [0, 1, 2, 3, 4] rfl (tM_SqlReaderModel_checkNode_J96 E hR _ _ _ _ _ _ _)
        · refine Sm_iload_n E d_SqlReaderModel_checkNode_85 rfl 2 rfl ?_
          refine Sm_bipush (v := 28) E d_SqlReaderModel_checkNode_86 (by decide) ?_
          refine Sm_icmp_ge (tgt := 95) E d_SqlReaderModel_checkNode_88 (by decide) (fun _ => ?_) (fun _ => ?_)
          · refine Sm_iconst (v := 0) E d_SqlReaderModel_checkNode_95 (by decide) ?_
            exact Sm_sub [0, 1, 2, 3, 4] rfl (tM_SqlReaderModel_checkNode_J96 E hR _ _ _ _ _ _ _)
          · refine Sm_iconst (v := 3) E d_SqlReaderModel_checkNode_91 (by decide) ?_
            refine Sm_goto (tgt := 96) E d_SqlReaderModel_checkNode_92 (by decide) ?_
            exact Sm_sub [0, 1, 2, 3, 4] rfl (tM_SqlReaderModel_checkNode_J96 E hR _ _ _ _ _ _ _)
    · refine Sm_iconst (v := 2) E d_SqlReaderModel_checkNode_70 (by decide) ?_
      refine Sm_goto (tgt := 96) E d_SqlReaderModel_checkNode_71 (by decide) ?_
      exact Sm_sub [0, 1, 2, 3, 4] rfl (tM_SqlReaderModel_checkNode_J96 E hR _ _ _ _ _ _ _)
set_option maxRecDepth 100000 in
set_option maxHeartbeats 4000000 in
theorem tM_SqlReaderModel_checkNode_J43 {X : Cx} {G : Gx} {res : Int32 × St} (E : EM X G prog_11_method_71_code R_SqlReaderModel 7 { frames := 3, cells := 0, slots := 0, locals := 75 }) (hR : RtI X vwCl (wM G) prog_11_method_71_code res) : ∀ (x1 : Int32) (x2 : Int32) (x3 : Int32) (x4 : Int32) (s1 : Int32) (u : St), SM X G 7 res (mM_SqlReaderModel_checkNode_J43 x1 x2 x3 x4 s1 u) u 43 [(0, .ref (G.1 100)), (1, .int x1), (2, .int x2), (3, .int x3), (4, .int x4)] [.int s1, .ref (G.1 114)] := by
  intro x1 x2 x3 x4 s1 u
  rw [mM_SqlReaderModel_checkNode_J43]
  refine Sm_iload_n E d_SqlReaderModel_checkNode_43 rfl 2 rfl ?_
  refine Sm_bipush (v := 9) E d_SqlReaderModel_checkNode_44 (by decide) ?_
  refine Sm_icmp_le (tgt := 59) E d_SqlReaderModel_checkNode_46 (by decide) (fun _ => ?_) (fun _ => ?_)
  · exact Sm_sub [0, 1, 2, 3, 4] rfl (tM_SqlReaderModel_checkNode_J59 E hR _ _ _ _ _ _)
  · refine Sm_iload_n E d_SqlReaderModel_checkNode_49 rfl 2 rfl ?_
    refine Sm_bipush (v := 16) E d_SqlReaderModel_checkNode_50 (by decide) ?_
    refine Sm_icmp_ge (tgt := 59) E d_SqlReaderModel_checkNode_52 (by decide) (fun _ => ?_) (fun _ => ?_)
    · exact Sm_sub [0, 1, 2, 3, 4] rfl (tM_SqlReaderModel_checkNode_J59 E hR _ _ _ _ _ _)
    · refine Sm_iconst (v := 1) E d_SqlReaderModel_checkNode_55 (by decide) ?_
      refine Sm_goto (tgt := 96) E d_SqlReaderModel_checkNode_56 (by decide) ?_
      exact Sm_sub [0, 1, 2, 3, 4] rfl (tM_SqlReaderModel_checkNode_J96 E hR _ _ _ _ _ _ _)
set_option maxRecDepth 100000 in
set_option maxHeartbeats 4000000 in
theorem cM_SqlReaderModel_checkNode {l : Launch} {D : va_G} {G : Gx} (x1 : Int32) (u : St) {res : Int32 × St} (hm : mM_SqlReaderModel_checkNode x1 u = some res) : KM l D G y_SqlReaderModel_checkNode (.code y_SqlReaderModel_checkNode prog_11_method_71_code 7 (some .int)) { frames := 3, cells := 0, slots := 0, locals := 75 } [.ref (G.1 100), .int x1] u (qI D vwCl (wM G) (tyW G) (adsM G) res) := by
  refine Ct_I (by decide) wM_as (Nat.le_of_ble_eq_true rfl) hm (fun X _ _ E hR => ?_)
  refine Sm_lvs (lv' := [(0, .ref (G.1 100)), (1, .int x1)]) rfl ?_
  rw [mM_SqlReaderModel_checkNode]
  refine Sm_aload_n E d_SqlReaderModel_checkNode_0 rfl 0 rfl ?_
  refine gfM_0_kind E fl_SqlReaderModel_41 d_SqlReaderModel_checkNode_1 ?_
  refine Sm_iload_n E d_SqlReaderModel_checkNode_4 rfl 1 rfl ?_
  refine Sm_gd fun hi => ldM_11 E (inb_in hi) d_SqlReaderModel_checkNode_5 ?_
  refine Sm_leti fun y1 _ => ?_
  refine Sm_istore_n (lv' := [(2, .int y1), (0, .ref (G.1 100)), (1, .int x1)]) E d_SqlReaderModel_checkNode_6 rfl (by decide) rfl ?_
  refine Sm_aload_n E d_SqlReaderModel_checkNode_7 rfl 1 rfl ?_
  refine gfM_0_left E fl_SqlReaderModel_44 d_SqlReaderModel_checkNode_8 ?_
  refine Sm_iload_n E d_SqlReaderModel_checkNode_11 rfl 2 rfl ?_
  refine Sm_gd fun hi => ldM_12 E (inb_in hi) d_SqlReaderModel_checkNode_12 ?_
  refine Sm_leti fun y2 _ => ?_
  refine Sm_istore_n (lv' := [(3, .int y2), (2, .int y1), (0, .ref (G.1 100)), (1, .int x1)]) E d_SqlReaderModel_checkNode_13 rfl (by decide) rfl ?_
  refine Sm_aload_n E d_SqlReaderModel_checkNode_14 rfl 2 rfl ?_
  refine gfM_0_right E fl_SqlReaderModel_47 d_SqlReaderModel_checkNode_15 ?_
  refine Sm_iload_n E d_SqlReaderModel_checkNode_18 rfl 3 rfl ?_
  refine Sm_gd fun hi => ldM_13 E (inb_in hi) d_SqlReaderModel_checkNode_19 ?_
  refine Sm_leti fun y3 _ => ?_
  refine Sm_istore (lv' := [(4, .int y3), (3, .int y2), (2, .int y1), (0, .ref (G.1 100)), (1, .int x1)]) E d_SqlReaderModel_checkNode_20 (by decide) rfl ?_
  refine Sm_aload_n E d_SqlReaderModel_checkNode_22 rfl 3 rfl ?_
  refine gfM_0_type E fl_SqlReaderModel_50 d_SqlReaderModel_checkNode_23 ?_
  refine Sm_iload_n E d_SqlReaderModel_checkNode_26 rfl 4 rfl ?_
  refine Sm_iload_n E d_SqlReaderModel_checkNode_27 rfl 2 rfl ?_
  refine Sm_iconst (v := 1) E d_SqlReaderModel_checkNode_28 (by decide) ?_
  refine Sm_icmp_eq (tgt := 55) E d_SqlReaderModel_checkNode_29 (by decide) (fun _ => ?_) (fun _ => ?_)
  · refine Sm_iconst (v := 1) E d_SqlReaderModel_checkNode_55 (by decide) ?_
    refine Sm_goto (tgt := 96) E d_SqlReaderModel_checkNode_56 (by decide) ?_
    exact Sm_sub [3, 4, 2, 1, 0] rfl (tM_SqlReaderModel_checkNode_J96 E hR _ _ _ _ _ _ _)
  · refine Sm_iload_n E d_SqlReaderModel_checkNode_32 rfl 2 rfl ?_
    refine Sm_iconst (v := 4) E d_SqlReaderModel_checkNode_33 (by decide) ?_
    refine Sm_icmp_le (tgt := 43) E d_SqlReaderModel_checkNode_34 (by decide) (fun _ => ?_) (fun _ => ?_)
    · exact Sm_sub [3, 4, 2, 1, 0] rfl (tM_SqlReaderModel_checkNode_J43 E hR _ _ _ _ _ _)
    · refine Sm_iload_n E d_SqlReaderModel_checkNode_37 rfl 2 rfl ?_
      refine Sm_bipush (v := 8) E d_SqlReaderModel_checkNode_38 (by decide) ?_
      refine Sm_icmp_lt (tgt := 55) E d_SqlReaderModel_checkNode_40 (by decide) (fun _ => ?_) (fun _ => ?_)
      · refine Sm_iconst (v := 1) E d_SqlReaderModel_checkNode_55 (by decide) ?_
        refine Sm_goto (tgt := 96) E d_SqlReaderModel_checkNode_56 (by decide) ?_
        exact Sm_sub [3, 4, 2, 1, 0] rfl (tM_SqlReaderModel_checkNode_J96 E hR _ _ _ _ _ _ _)
      · exact Sm_sub [3, 4, 2, 1, 0] rfl (tM_SqlReaderModel_checkNode_J43 E hR _ _ _ _ _ _)
set_option maxRecDepth 100000 in
set_option maxHeartbeats 4000000 in
theorem cM_SqlReaderModel_targetType {l : Launch} {D : va_G} {G : Gx} (x1 : Int32) (u : St) {res : Int32} (hm : mM_SqlReaderModel_targetType x1 u = some res) : KM l D G y_SqlReaderModel_targetType (.code y_SqlReaderModel_targetType prog_11_method_72_code 2 (some .int)) { frames := 0, cells := 0, slots := 0, locals := 0 } [.ref (G.1 100), .int x1] u (qI D vwCl (wM G) (tyW G) (adsM G) (res, u)) := by
  refine Ct_i (by decide) wM_as (Nat.le_of_ble_eq_true rfl) hm (fun X _ _ E hR => ?_)
  refine Sm_lvs (lv' := [(0, .ref (G.1 100)), (1, .int x1)]) rfl ?_
  rw [mM_SqlReaderModel_targetType]
  refine Sm_iload_n E d_SqlReaderModel_targetType_0 rfl 1 rfl ?_
  refine Sm_aload_n E d_SqlReaderModel_targetType_1 rfl 0 rfl ?_
  refine gfM_0_width E fl_SqlReaderModel_29 d_SqlReaderModel_targetType_2 ?_
  refine Sm_aload_n E d_SqlReaderModel_targetType_5 rfl 0 rfl ?_
  refine gfM_0_target E fl_SqlReaderModel_146 d_SqlReaderModel_targetType_6 ?_
  refine Sm_gd fun hi => ldM_7 E (inb_in hi) d_SqlReaderModel_targetType_9 ?_
  refine Sm_icmp_ge (tgt := 30) E d_SqlReaderModel_targetType_10 (by decide) (fun _ => ?_) (fun _ => ?_)
  · refine Sm_iconst (v := 0) E d_SqlReaderModel_targetType_30 (by decide) ?_
    exact Sm_reti hR d_SqlReaderModel_targetType_31
  · refine Sm_aload_n E d_SqlReaderModel_targetType_13 rfl 0 rfl ?_
    refine gfM_0_columnType E fl_SqlReaderModel_38 d_SqlReaderModel_targetType_14 ?_
    refine Sm_bipush (v := 8) E d_SqlReaderModel_targetType_17 (by decide) ?_
    refine Sm_aload_n E d_SqlReaderModel_targetType_19 rfl 0 rfl ?_
    refine gfM_0_target E fl_SqlReaderModel_146 d_SqlReaderModel_targetType_20 ?_
    refine Sm_imul E d_SqlReaderModel_targetType_23 ?_
    refine Sm_iload_n E d_SqlReaderModel_targetType_24 rfl 1 rfl ?_
    refine Sm_iadd E d_SqlReaderModel_targetType_25 ?_
    refine Sm_gd fun hi => ldM_10 E (inb_in hi) d_SqlReaderModel_targetType_26 ?_
    refine Sm_goto (tgt := 31) E d_SqlReaderModel_targetType_27 (by decide) ?_
    exact Sm_reti hR d_SqlReaderModel_targetType_31
set_option maxRecDepth 100000 in
set_option maxHeartbeats 4000000 in
theorem cM_SqlReaderModel_checkValue {l : Launch} {D : va_G} {G : Gx} (x1 : Int32) (x2 : Int32) (u : St) {res : Int32 × St} (hm : mM_SqlReaderModel_checkValue x1 x2 u = some res) : KM l D G y_SqlReaderModel_checkValue (.code y_SqlReaderModel_checkValue prog_11_method_73_code 3 (some .int)) { frames := 2, cells := 0, slots := 0, locals := 43 } [.ref (G.1 100), .int x1, .int x2] u (qI D vwCl (wM G) (tyW G) (adsM G) res) := by
  refine Ct_I (by decide) wM_as (Nat.le_of_ble_eq_true rfl) hm (fun X _ _ E hR => ?_)
  refine Sm_lvs (lv' := [(0, .ref (G.1 100)), (1, .int x1), (2, .int x2)]) rfl ?_
  rw [mM_SqlReaderModel_checkValue]
  refine Sm_iload_n E d_SqlReaderModel_checkValue_0 rfl 2 rfl ?_
  refine Sm_aload_n E d_SqlReaderModel_checkValue_1 rfl 0 rfl ?_
  refine gfM_0_width E fl_SqlReaderModel_29 d_SqlReaderModel_checkValue_2 ?_
  refine Sm_aload_n E d_SqlReaderModel_checkValue_5 rfl 0 rfl ?_
  refine gfM_0_target E fl_SqlReaderModel_146 d_SqlReaderModel_checkValue_6 ?_
  refine Sm_gd fun hi => ldM_7 E (inb_in hi) d_SqlReaderModel_checkValue_9 ?_
  refine Sm_icmp_lt (tgt := 21) E d_SqlReaderModel_checkValue_10 (by decide) (fun _ => ?_) (fun _ => ?_)
  · refine Sm_aload_n E d_SqlReaderModel_checkValue_21 rfl 0 rfl ?_
    refine Sm_aload_n E d_SqlReaderModel_checkValue_22 rfl 0 rfl ?_
    refine Sm_iload_n E d_SqlReaderModel_checkValue_23 rfl 1 rfl ?_
    refine Sm_aload_n E d_SqlReaderModel_checkValue_24 rfl 0 rfl ?_
    refine Sm_iload_n E d_SqlReaderModel_checkValue_25 rfl 2 rfl ?_
    refine Sm_cVi (As := [.int x2]) (b := (G.1 100)) (st := [.int x1, .ref (G.1 100), .ref (G.1 100)]) (n := 1) E exOk wM_as (fun _ h => cM_SqlReaderModel_targetType x2 u h) gk_SqlReaderModel_604 dk_SqlReaderModel_targetType rfl ⟨rfl, rfl⟩ ⟨Nat.le_of_ble_eq_true rfl, Nat.le_of_ble_eq_true rfl⟩ (rvW (q0 := 0) (ci := 1) E rfl rfl rfl) rfl (Nat.le_of_ble_eq_true rfl) d_SqlReaderModel_checkValue_26 fun r1 _ => ?_
    refine Sm_cVI (As := [.int x1, .int r1]) (b := (G.1 100)) (st := [.ref (G.1 100)]) (n := 2) E exOk wM_as (fun _ h => cM_SqlReaderModel_fits x1 r1 u h) gk_SqlReaderModel_601 dk_SqlReaderModel_fits rfl ⟨rfl, rfl⟩ ⟨Nat.le_of_ble_eq_true rfl, Nat.le_of_ble_eq_true rfl⟩ (rvW (q0 := 0) (ci := 1) E rfl rfl rfl) rfl (Nat.le_of_ble_eq_true rfl) d_SqlReaderModel_checkValue_29 fun r2 u3 _ => ?_
    refine Sm_cVi (As := [.int r2]) (b := (G.1 100)) (st := []) (n := 1) E exOk wM_as (fun _ h => cM_SqlReaderModel_error r2 u3 h) gk_SqlReaderModel_591 dk_SqlReaderModel_error rfl ⟨rfl, rfl⟩ ⟨Nat.le_of_ble_eq_true rfl, Nat.le_of_ble_eq_true rfl⟩ (rvW (q0 := 0) (ci := 1) E rfl rfl rfl) rfl (Nat.le_of_ble_eq_true rfl) d_SqlReaderModel_checkValue_32 fun r4 _ => ?_
    exact Sm_retI hR d_SqlReaderModel_checkValue_35
  · refine Sm_aload_n E d_SqlReaderModel_checkValue_13 rfl 0 rfl ?_
    refine Sm_iload_n E d_SqlReaderModel_checkValue_14 rfl 1 rfl ?_
    refine Sm_iconst (v := 2) E d_SqlReaderModel_checkValue_15 (by decide) ?_
    refine Sm_cVV (As := [.int x1, .int 2]) (b := (G.1 100)) (st := []) (n := 2) E exOk wM_as (fun _ h => cM_SqlReaderModel_gives x1 2 u h) gk_SqlReaderModel_588 dk_SqlReaderModel_gives rfl ⟨rfl, rfl⟩ ⟨Nat.le_of_ble_eq_true rfl, Nat.le_of_ble_eq_true rfl⟩ (rvW (q0 := 0) (ci := 1) E rfl rfl rfl) rfl (Nat.le_of_ble_eq_true rfl) d_SqlReaderModel_checkValue_16 fun u5 _ => ?_
    refine Sm_iconst (v := 0) E d_SqlReaderModel_checkValue_19 (by decide) ?_
    exact Sm_retI hR d_SqlReaderModel_checkValue_20
set_option maxRecDepth 100000 in
set_option maxHeartbeats 4000000 in
theorem cM_SqlReaderModel_deed {l : Launch} {D : va_G} {G : Gx} (u : St) {res : Int32} (hm : mM_SqlReaderModel_deed u = some res) : KM l D G y_SqlReaderModel_deed (.code y_SqlReaderModel_deed prog_11_method_64_code 1 (some .int)) { frames := 0, cells := 0, slots := 0, locals := 0 } [.ref (G.1 100)] u (qI D vwCl (wM G) (tyW G) (adsM G) (res, u)) := by
  refine Ct_i (by decide) wM_as (Nat.le_of_ble_eq_true rfl) hm (fun X _ _ E hR => ?_)
  refine Sm_lvs (lv' := [(0, .ref (G.1 100))]) rfl ?_
  rw [mM_SqlReaderModel_deed]
  refine Sm_aload_n E d_SqlReaderModel_deed_0 rfl 0 rfl ?_
  refine gfM_0_what E fl_SqlReaderModel_140 d_SqlReaderModel_deed_1 ?_
  refine Sm_bipush (v := 16) E d_SqlReaderModel_deed_4 (by decide) ?_
  refine Sm_icmp_ne (tgt := 16) E d_SqlReaderModel_deed_6 (by decide) (fun _ => ?_) (fun _ => ?_)
  · refine Sm_aload_n E d_SqlReaderModel_deed_16 rfl 0 rfl ?_
    refine gfM_0_what E fl_SqlReaderModel_140 d_SqlReaderModel_deed_17 ?_
    exact Sm_reti hR d_SqlReaderModel_deed_20
  · refine Sm_aload_n E d_SqlReaderModel_deed_9 rfl 0 rfl ?_
    refine gfM_0_inner E fl_SqlReaderModel_143 d_SqlReaderModel_deed_10 ?_
    refine Sm_goto (tgt := 20) E d_SqlReaderModel_deed_13 (by decide) ?_
    exact Sm_reti hR d_SqlReaderModel_deed_20
set_option maxRecDepth 100000 in
set_option maxHeartbeats 4000000 in
theorem tM_SqlReaderModel_checkStar_L22 {X : Cx} {G : Gx} {res : Int32} {u : St} (E : EM X G prog_11_method_74_code R_SqlReaderModel 4 { frames := 1, cells := 0, slots := 0, locals := 21 }) (hR : RtI X vwCl (wM G) prog_11_method_74_code (res, u)) {q4 : Int32 → Int32 → St → Option (Int32)} (h4 : ∀ (x1 : Int32) (x2 : Int32) , SM X G 4 res (q4 x1 x2 u) u 4 [(0, .ref (G.1 100)), (1, .int x1), (2, .int x2)] []) : ∀ (n : Nat) (x1 : Int32) (x2 : Int32) (x3 : Int32) , SM X G 4 res (mM_SqlReaderModel_checkStar_L22 q4 n x1 x2 x3 u) u 22 [(0, .ref (G.1 100)), (1, .int x1), (2, .int x2), (3, .int x3)] [] := by
  intro n
  induction n with
  | zero => intro x1 x2 x3; exact Sm_none
  | succ n h22 =>
    intro x1 x2 x3
    rw [mM_SqlReaderModel_checkStar_L22]
    refine Sm_iload_n E d_SqlReaderModel_checkStar_22 rfl 3 rfl ?_
    refine Sm_aload_n E d_SqlReaderModel_checkStar_23 rfl 0 rfl ?_
    refine gfM_0_width E fl_SqlReaderModel_29 d_SqlReaderModel_checkStar_24 ?_
    refine Sm_aload_n E d_SqlReaderModel_checkStar_27 rfl 0 rfl ?_
    refine gfM_0_fromTable E fl_SqlReaderModel_91 d_SqlReaderModel_checkStar_28 ?_
    refine Sm_iload_n E d_SqlReaderModel_checkStar_31 rfl 2 rfl ?_
    refine Sm_gd fun hi => ldM_27 E (inb_in hi) d_SqlReaderModel_checkStar_32 ?_
    refine Sm_gd fun hi => ldM_7 E (inb_in hi) d_SqlReaderModel_checkStar_33 ?_
    refine Sm_icmp_ge (tgt := 86) E d_SqlReaderModel_checkStar_34 (by decide) (fun _ => ?_) (fun _ => ?_)
    · refine Sm_iinc (k := 2) (d := 1) E d_SqlReaderModel_checkStar_86 rfl rfl (by decide) fun y2 _ => Sm_lvs (lv' := [(2, .int y2), (0, .ref (G.1 100)), (1, .int x1), (3, .int x3)]) rfl ?_
      refine Sm_goto (tgt := 4) E d_SqlReaderModel_checkStar_89 (by decide) ?_
      exact Sm_sub [1, 2, 0] rfl (h4 _ _)
    · refine Sm_iload_n E d_SqlReaderModel_checkStar_37 rfl 1 rfl ?_
      refine Sm_aload_n E d_SqlReaderModel_checkStar_38 rfl 0 rfl ?_
      refine gfM_0_width E fl_SqlReaderModel_29 d_SqlReaderModel_checkStar_39 ?_
      refine Sm_aload_n E d_SqlReaderModel_checkStar_42 rfl 0 rfl ?_
      refine gfM_0_target E fl_SqlReaderModel_146 d_SqlReaderModel_checkStar_43 ?_
      refine Sm_gd fun hi => ldM_7 E (inb_in hi) d_SqlReaderModel_checkStar_46 ?_
      refine Sm_icmp_ge (tgt := 77) E d_SqlReaderModel_checkStar_47 (by decide) (fun _ => ?_) (fun _ => ?_)
      · refine Sm_iinc (k := 1) (d := 1) E d_SqlReaderModel_checkStar_77 rfl rfl (by decide) fun y3 _ => Sm_lvs (lv' := [(1, .int y3), (0, .ref (G.1 100)), (2, .int x2), (3, .int x3)]) rfl ?_
        refine Sm_iinc (k := 3) (d := 1) E d_SqlReaderModel_checkStar_80 rfl rfl (by decide) fun y4 _ => Sm_lvs (lv' := [(3, .int y4), (1, .int y3), (0, .ref (G.1 100)), (2, .int x2)]) rfl ?_
        refine Sm_goto (tgt := 22) E d_SqlReaderModel_checkStar_83 (by decide) ?_
        exact Sm_sub [2, 1, 3, 0] rfl (h22 _ _ _)
      · refine Sm_aload_n E d_SqlReaderModel_checkStar_50 rfl 0 rfl ?_
        refine gfM_0_columnType E fl_SqlReaderModel_38 d_SqlReaderModel_checkStar_51 ?_
        refine Sm_bipush (v := 8) E d_SqlReaderModel_checkStar_54 (by decide) ?_
        refine Sm_aload_n E d_SqlReaderModel_checkStar_56 rfl 0 rfl ?_
        refine gfM_0_fromTable E fl_SqlReaderModel_91 d_SqlReaderModel_checkStar_57 ?_
        refine Sm_iload_n E d_SqlReaderModel_checkStar_60 rfl 2 rfl ?_
        refine Sm_gd fun hi => ldM_27 E (inb_in hi) d_SqlReaderModel_checkStar_61 ?_
        refine Sm_imul E d_SqlReaderModel_checkStar_62 ?_
        refine Sm_iload_n E d_SqlReaderModel_checkStar_63 rfl 3 rfl ?_
        refine Sm_iadd E d_SqlReaderModel_checkStar_64 ?_
        refine Sm_gd fun hi => ldM_10 E (inb_in hi) d_SqlReaderModel_checkStar_65 ?_
        refine Sm_aload_n E d_SqlReaderModel_checkStar_66 rfl 0 rfl ?_
        refine Sm_iload_n E d_SqlReaderModel_checkStar_67 rfl 1 rfl ?_
        refine Sm_cVi (As := [.int x1]) (b := (G.1 100)) (st := [.int (ga u 9 ((8 * (ga u 24 x2)) + x3))]) (n := 1) E exOk wM_as (fun _ h => cM_SqlReaderModel_targetType x1 u h) gk_SqlReaderModel_604 dk_SqlReaderModel_targetType rfl ⟨rfl, rfl⟩ ⟨Nat.le_of_ble_eq_true rfl, Nat.le_of_ble_eq_true rfl⟩ (rvW (q0 := 0) (ci := 1) E rfl rfl rfl) rfl (Nat.le_of_ble_eq_true rfl) d_SqlReaderModel_checkStar_68 fun r5 _ => ?_
        refine Sm_icmp_eq (tgt := 77) E d_SqlReaderModel_checkStar_71 (by decide) (fun _ => ?_) (fun _ => ?_)
        · refine Sm_iinc (k := 1) (d := 1) E d_SqlReaderModel_checkStar_77 rfl rfl (by decide) fun y6 _ => Sm_lvs (lv' := [(1, .int y6), (0, .ref (G.1 100)), (2, .int x2), (3, .int x3)]) rfl ?_
          refine Sm_iinc (k := 3) (d := 1) E d_SqlReaderModel_checkStar_80 rfl rfl (by decide) fun y7 _ => Sm_lvs (lv' := [(3, .int y7), (1, .int y6), (0, .ref (G.1 100)), (2, .int x2)]) rfl ?_
          refine Sm_goto (tgt := 22) E d_SqlReaderModel_checkStar_83 (by decide) ?_
          exact Sm_sub [2, 1, 3, 0] rfl (h22 _ _ _)
        · refine Sm_bipush (v := 8) E d_SqlReaderModel_checkStar_74 (by decide) ?_
          exact Sm_reti hR d_SqlReaderModel_checkStar_76
set_option maxRecDepth 100000 in
set_option maxHeartbeats 4000000 in
theorem tM_SqlReaderModel_checkStar_L4 {X : Cx} {G : Gx} {res : Int32} {u : St} (E : EM X G prog_11_method_74_code R_SqlReaderModel 4 { frames := 1, cells := 0, slots := 0, locals := 21 }) (hR : RtI X vwCl (wM G) prog_11_method_74_code (res, u)) : ∀ (n : Nat) (x1 : Int32) (x2 : Int32) , SM X G 4 res (mM_SqlReaderModel_checkStar_L4 n x1 x2 u) u 4 [(0, .ref (G.1 100)), (1, .int x1), (2, .int x2)] [] := by
  intro n
  induction n with
  | zero => intro x1 x2; exact Sm_none
  | succ n h4 =>
    intro x1 x2
    rw [mM_SqlReaderModel_checkStar_L4]
    refine Sm_iload_n E d_SqlReaderModel_checkStar_4 rfl 2 rfl ?_
    refine Sm_aload_n E d_SqlReaderModel_checkStar_5 rfl 0 rfl ?_
    refine gfM_0_froms E fl_SqlReaderModel_183 d_SqlReaderModel_checkStar_6 ?_
    refine Sm_icmp_ge (tgt := 92) E d_SqlReaderModel_checkStar_9 (by decide) (fun _ => ?_) (fun _ => ?_)
    · refine Sm_iconst (v := 0) E d_SqlReaderModel_checkStar_92 (by decide) ?_
      exact Sm_reti hR d_SqlReaderModel_checkStar_93
    · refine Sm_aload_n E d_SqlReaderModel_checkStar_12 rfl 0 rfl ?_
      refine Sm_cVi (As := []) (b := (G.1 100)) (st := []) (n := 0) E exOk wM_as (fun _ h => cM_SqlReaderModel_deed u h) gk_SqlReaderModel_607 dk_SqlReaderModel_deed rfl ⟨rfl, rfl⟩ ⟨Nat.le_of_ble_eq_true rfl, Nat.le_of_ble_eq_true rfl⟩ (rvW (q0 := 0) (ci := 1) E rfl rfl rfl) rfl (Nat.le_of_ble_eq_true rfl) d_SqlReaderModel_checkStar_13 fun r1 _ => ?_
      refine Sm_iconst (v := 5) E d_SqlReaderModel_checkStar_16 (by decide) ?_
      refine Sm_icmp_ne (tgt := 92) E d_SqlReaderModel_checkStar_17 (by decide) (fun _ => ?_) (fun _ => ?_)
      · refine Sm_iconst (v := 0) E d_SqlReaderModel_checkStar_92 (by decide) ?_
        exact Sm_reti hR d_SqlReaderModel_checkStar_93
      · refine Sm_iconst (v := 0) E d_SqlReaderModel_checkStar_20 (by decide) ?_
        refine Sm_istore_n (lv' := [(3, .int 0), (0, .ref (G.1 100)), (1, .int x1), (2, .int x2)]) E d_SqlReaderModel_checkStar_21 rfl (by decide) rfl ?_
        exact Sm_sub [1, 2, 3, 0] rfl (tM_SqlReaderModel_checkStar_L22 E hR h4 FU _ _ _)
set_option maxRecDepth 100000 in
set_option maxHeartbeats 4000000 in
theorem cM_SqlReaderModel_checkStar {l : Launch} {D : va_G} {G : Gx} (u : St) {res : Int32} (hm : mM_SqlReaderModel_checkStar u = some res) : KM l D G y_SqlReaderModel_checkStar (.code y_SqlReaderModel_checkStar prog_11_method_74_code 4 (some .int)) { frames := 1, cells := 0, slots := 0, locals := 21 } [.ref (G.1 100)] u (qI D vwCl (wM G) (tyW G) (adsM G) (res, u)) := by
  refine Ct_i (by decide) wM_as (Nat.le_of_ble_eq_true rfl) hm (fun X _ _ E hR => ?_)
  refine Sm_lvs (lv' := [(0, .ref (G.1 100))]) rfl ?_
  rw [mM_SqlReaderModel_checkStar]
  refine Sm_iconst (v := 0) E d_SqlReaderModel_checkStar_0 (by decide) ?_
  refine Sm_istore_n (lv' := [(1, .int 0), (0, .ref (G.1 100))]) E d_SqlReaderModel_checkStar_1 rfl (by decide) rfl ?_
  refine Sm_iconst (v := 0) E d_SqlReaderModel_checkStar_2 (by decide) ?_
  refine Sm_istore_n (lv' := [(2, .int 0), (1, .int 0), (0, .ref (G.1 100))]) E d_SqlReaderModel_checkStar_3 rfl (by decide) rfl ?_
  exact Sm_sub [2, 1, 0] rfl (tM_SqlReaderModel_checkStar_L4 E hR FU _ _)
set_option maxRecDepth 100000 in
set_option maxHeartbeats 4000000 in
theorem cM_SqlReaderModel_checkOne {l : Launch} {D : va_G} {G : Gx} (x1 : Int32) (u : St) {res : Int32 × St} (hm : mM_SqlReaderModel_checkOne x1 u = some res) : KM l D G y_SqlReaderModel_checkOne (.code y_SqlReaderModel_checkOne prog_11_method_75_code 3 (some .int)) { frames := 4, cells := 0, slots := 0, locals := 101 } [.ref (G.1 100), .int x1] u (qI D vwCl (wM G) (tyW G) (adsM G) res) := by
  refine Ct_I (by decide) wM_as (Nat.le_of_ble_eq_true rfl) hm (fun X _ _ E hR => ?_)
  refine Sm_lvs (lv' := [(0, .ref (G.1 100)), (1, .int x1)]) rfl ?_
  rw [mM_SqlReaderModel_checkOne]
  refine Sm_aload_n E d_SqlReaderModel_checkOne_0 rfl 0 rfl ?_
  refine gfM_0_first E fl_SqlReaderModel_72 d_SqlReaderModel_checkOne_1 ?_
  refine Sm_iload_n E d_SqlReaderModel_checkOne_4 rfl 1 rfl ?_
  refine Sm_gd fun hi => ldM_21 E (inb_in hi) d_SqlReaderModel_checkOne_5 ?_
  refine Sm_leti fun y1 _ => ?_
  refine Sm_istore_n (lv' := [(2, .int y1), (0, .ref (G.1 100)), (1, .int x1)]) E d_SqlReaderModel_checkOne_6 rfl (by decide) rfl ?_
  refine Sm_aload_n E d_SqlReaderModel_checkOne_7 rfl 1 rfl ?_
  refine gfM_0_check E fl_SqlReaderModel_69 d_SqlReaderModel_checkOne_8 ?_
  refine Sm_iload_n E d_SqlReaderModel_checkOne_11 rfl 2 rfl ?_
  refine Sm_gd fun hi => ldM_20 E (inb_in hi) d_SqlReaderModel_checkOne_12 ?_
  refine Sm_iconst (v := 1) E d_SqlReaderModel_checkOne_13 (by decide) ?_
  refine Sm_icmp_ne (tgt := 23) E d_SqlReaderModel_checkOne_14 (by decide) (fun _ => ?_) (fun _ => ?_)
  · refine Sm_aload_n E d_SqlReaderModel_checkOne_23 rfl 1 rfl ?_
    refine gfM_0_check E fl_SqlReaderModel_69 d_SqlReaderModel_checkOne_24 ?_
    refine Sm_iload_n E d_SqlReaderModel_checkOne_27 rfl 2 rfl ?_
    refine Sm_gd fun hi => ldM_20 E (inb_in hi) d_SqlReaderModel_checkOne_28 ?_
    refine Sm_iconst (v := 2) E d_SqlReaderModel_checkOne_29 (by decide) ?_
    refine Sm_icmp_ne (tgt := 45) E d_SqlReaderModel_checkOne_30 (by decide) (fun _ => ?_) (fun _ => ?_)
    · refine Sm_aload_n E d_SqlReaderModel_checkOne_45 rfl 1 rfl ?_
      refine gfM_0_check E fl_SqlReaderModel_69 d_SqlReaderModel_checkOne_46 ?_
      refine Sm_iload_n E d_SqlReaderModel_checkOne_49 rfl 2 rfl ?_
      refine Sm_gd fun hi => ldM_20 E (inb_in hi) d_SqlReaderModel_checkOne_50 ?_
      refine Sm_iconst (v := 3) E d_SqlReaderModel_checkOne_51 (by decide) ?_
      refine Sm_icmp_ne (tgt := 66) E d_SqlReaderModel_checkOne_52 (by decide) (fun _ => ?_) (fun _ => ?_)
      · refine Sm_aload_n E d_SqlReaderModel_checkOne_66 rfl 1 rfl ?_
        refine gfM_0_check E fl_SqlReaderModel_69 d_SqlReaderModel_checkOne_67 ?_
        refine Sm_iload_n E d_SqlReaderModel_checkOne_70 rfl 2 rfl ?_
        refine Sm_gd fun hi => ldM_20 E (inb_in hi) d_SqlReaderModel_checkOne_71 ?_
        refine Sm_iconst (v := 4) E d_SqlReaderModel_checkOne_72 (by decide) ?_
        refine Sm_icmp_ne (tgt := 112) E d_SqlReaderModel_checkOne_73 (by decide) (fun _ => ?_) (fun _ => ?_)
        · refine Sm_aload_n E d_SqlReaderModel_checkOne_112 rfl 1 rfl ?_
          refine gfM_0_check E fl_SqlReaderModel_69 d_SqlReaderModel_checkOne_113 ?_
          refine Sm_iload_n E d_SqlReaderModel_checkOne_116 rfl 2 rfl ?_
          refine Sm_gd fun hi => ldM_20 E (inb_in hi) d_SqlReaderModel_checkOne_117 ?_
          refine Sm_iconst (v := 5) E d_SqlReaderModel_checkOne_118 (by decide) ?_
          refine Sm_icmp_ne (tgt := 147) E d_SqlReaderModel_checkOne_119 (by decide) (fun _ => ?_) (fun _ => ?_)
          · refine Sm_aload_n E d_SqlReaderModel_checkOne_147 rfl 1 rfl ?_
            refine gfM_0_check E fl_SqlReaderModel_69 d_SqlReaderModel_checkOne_148 ?_
            refine Sm_iload_n E d_SqlReaderModel_checkOne_151 rfl 2 rfl ?_
            refine Sm_gd fun hi => ldM_20 E (inb_in hi) d_SqlReaderModel_checkOne_152 ?_
            refine Sm_bipush (v := 6) E d_SqlReaderModel_checkOne_153 (by decide) ?_
            refine Sm_icmp_ne (tgt := 186) E d_SqlReaderModel_checkOne_155 (by decide) (fun _ => ?_) (fun _ => ?_)
            · refine Sm_aload_n E d_SqlReaderModel_checkOne_186 rfl 1 rfl ?_
              refine gfM_0_check E fl_SqlReaderModel_69 d_SqlReaderModel_checkOne_187 ?_
              refine Sm_iload_n E d_SqlReaderModel_checkOne_190 rfl 2 rfl ?_
              refine Sm_gd fun hi => ldM_20 E (inb_in hi) d_SqlReaderModel_checkOne_191 ?_
              refine Sm_bipush (v := 7) E d_SqlReaderModel_checkOne_192 (by decide) ?_
              refine Sm_icmp_ne (tgt := 202) E d_SqlReaderModel_checkOne_194 (by decide) (fun _ => ?_) (fun _ => ?_)
              · refine Sm_aload_n E d_SqlReaderModel_checkOne_202 rfl 1 rfl ?_
                refine gfM_0_check E fl_SqlReaderModel_69 d_SqlReaderModel_checkOne_203 ?_
                refine Sm_iload_n E d_SqlReaderModel_checkOne_206 rfl 2 rfl ?_
                refine Sm_gd fun hi => ldM_20 E (inb_in hi) d_SqlReaderModel_checkOne_207 ?_
                refine Sm_bipush (v := 9) E d_SqlReaderModel_checkOne_208 (by decide) ?_
                refine Sm_icmp_ne (tgt := 243) E d_SqlReaderModel_checkOne_210 (by decide) (fun _ => ?_) (fun _ => ?_)
                · refine Sm_aload_n E d_SqlReaderModel_checkOne_243 rfl 1 rfl ?_
                  refine Sm_aload_n E d_SqlReaderModel_checkOne_244 rfl 1 rfl ?_
                  refine gfM_0_uneven E fl_SqlReaderModel_192 d_SqlReaderModel_checkOne_245 ?_
                  refine Sm_if_ne (tgt := 264) E d_SqlReaderModel_checkOne_248 (by decide) (fun _ => ?_) (fun _ => ?_)
                  · refine Sm_iconst (v := 1) E d_SqlReaderModel_checkOne_264 (by decide) ?_
                    refine Sm_goto (tgt := 269) E d_SqlReaderModel_checkOne_265 (by decide) ?_
                    refine pfM_0_uneven E fl_SqlReaderModel_192 d_SqlReaderModel_checkOne_269 (by decide) rfl fun u2 _ => ?_
                    refine Sm_iconst (v := 0) E d_SqlReaderModel_checkOne_272 (by decide) ?_
                    exact Sm_retI hR d_SqlReaderModel_checkOne_273
                  · refine Sm_iload_n E d_SqlReaderModel_checkOne_251 rfl 0 rfl ?_
                    refine Sm_aload_n E d_SqlReaderModel_checkOne_252 rfl 1 rfl ?_
                    refine gfM_0_width E fl_SqlReaderModel_29 d_SqlReaderModel_checkOne_253 ?_
                    refine Sm_aload_n E d_SqlReaderModel_checkOne_256 rfl 1 rfl ?_
                    refine gfM_0_target E fl_SqlReaderModel_146 d_SqlReaderModel_checkOne_257 ?_
                    refine Sm_gd fun hi => ldM_7 E (inb_in hi) d_SqlReaderModel_checkOne_260 ?_
                    refine Sm_icmp_eq (tgt := 268) E d_SqlReaderModel_checkOne_261 (by decide) (fun _ => ?_) (fun _ => ?_)
                    · refine Sm_iconst (v := 0) E d_SqlReaderModel_checkOne_268 (by decide) ?_
                      refine pfM_0_uneven E fl_SqlReaderModel_192 d_SqlReaderModel_checkOne_269 (by decide) rfl fun u3 _ => ?_
                      refine Sm_iconst (v := 0) E d_SqlReaderModel_checkOne_272 (by decide) ?_
                      exact Sm_retI hR d_SqlReaderModel_checkOne_273
                    · refine Sm_iconst (v := 1) E d_SqlReaderModel_checkOne_264 (by decide) ?_
                      refine Sm_goto (tgt := 269) E d_SqlReaderModel_checkOne_265 (by decide) ?_
                      refine pfM_0_uneven E fl_SqlReaderModel_192 d_SqlReaderModel_checkOne_269 (by decide) rfl fun u4 _ => ?_
                      refine Sm_iconst (v := 0) E d_SqlReaderModel_checkOne_272 (by decide) ?_
                      exact Sm_retI hR d_SqlReaderModel_checkOne_273
                · refine Sm_aload_n E d_SqlReaderModel_checkOne_213 rfl 1 rfl ?_
                  refine Sm_aload_n E d_SqlReaderModel_checkOne_214 rfl 1 rfl ?_
                  refine Sm_aload_n E d_SqlReaderModel_checkOne_215 rfl 1 rfl ?_
                  refine gfM_0_target E fl_SqlReaderModel_146 d_SqlReaderModel_checkOne_216 ?_
                  refine Sm_aload_n E d_SqlReaderModel_checkOne_219 rfl 1 rfl ?_
                  refine gfM_0_indexedToken E fl_SqlReaderModel_204 d_SqlReaderModel_checkOne_220 ?_
                  refine Sm_cVi (As := [.int (u.1 9), .int (u.1 26)]) (b := (G.1 100)) (st := [.ref (G.1 100)]) (n := 2) E exOk wM_as (fun _ h => cM_SqlReaderModel_columnOf (u.1 9) (u.1 26) u h) gk_SqlReaderModel_279 dk_SqlReaderModel_columnOf rfl ⟨rfl, rfl⟩ ⟨Nat.le_of_ble_eq_true rfl, Nat.le_of_ble_eq_true rfl⟩ (rvW (q0 := 0) (ci := 1) E rfl rfl rfl) rfl (Nat.le_of_ble_eq_true rfl) d_SqlReaderModel_checkOne_223 fun r5 _ => ?_
                  refine pfM_0_indexed E fl_SqlReaderModel_201 d_SqlReaderModel_checkOne_226 fun u6 _ => ?_
                  refine Sm_aload_n E d_SqlReaderModel_checkOne_229 rfl 1 rfl ?_
                  refine gfM_0_indexed E fl_SqlReaderModel_201 d_SqlReaderModel_checkOne_230 ?_
                  refine Sm_if_ge (tgt := 241) E d_SqlReaderModel_checkOne_233 (by decide) (fun _ => ?_) (fun _ => ?_)
                  · refine Sm_iconst (v := 0) E d_SqlReaderModel_checkOne_241 (by decide) ?_
                    exact Sm_retI hR d_SqlReaderModel_checkOne_242
                  · refine Sm_bipush (v := 6) E d_SqlReaderModel_checkOne_236 (by decide) ?_
                    refine Sm_goto (tgt := 242) E d_SqlReaderModel_checkOne_238 (by decide) ?_
                    exact Sm_retI hR d_SqlReaderModel_checkOne_242
              · refine Sm_aload_n E d_SqlReaderModel_checkOne_197 rfl 1 rfl ?_
                refine Sm_cVi (As := []) (b := (G.1 100)) (st := []) (n := 0) E exOk wM_as (fun _ h => cM_SqlReaderModel_checkStar u h) gk_SqlReaderModel_616 dk_SqlReaderModel_checkStar rfl ⟨rfl, rfl⟩ ⟨Nat.le_of_ble_eq_true rfl, Nat.le_of_ble_eq_true rfl⟩ (rvW (q0 := 0) (ci := 1) E rfl rfl rfl) rfl (Nat.le_of_ble_eq_true rfl) d_SqlReaderModel_checkOne_198 fun r7 _ => ?_
                exact Sm_retI hR d_SqlReaderModel_checkOne_201
            · refine Sm_aload_n E d_SqlReaderModel_checkOne_158 rfl 1 rfl ?_
              refine Sm_cVi (As := []) (b := (G.1 100)) (st := []) (n := 0) E exOk wM_as (fun _ h => cM_SqlReaderModel_deed u h) gk_SqlReaderModel_607 dk_SqlReaderModel_deed rfl ⟨rfl, rfl⟩ ⟨Nat.le_of_ble_eq_true rfl, Nat.le_of_ble_eq_true rfl⟩ (rvW (q0 := 0) (ci := 1) E rfl rfl rfl) rfl (Nat.le_of_ble_eq_true rfl) d_SqlReaderModel_checkOne_159 fun r8 _ => ?_
              refine Sm_iconst (v := 5) E d_SqlReaderModel_checkOne_162 (by decide) ?_
              refine Sm_icmp_ne (tgt := 178) E d_SqlReaderModel_checkOne_163 (by decide) (fun _ => ?_) (fun _ => ?_)
              · refine Sm_aload_n E d_SqlReaderModel_checkOne_178 rfl 1 rfl ?_
                refine Sm_iload_n E d_SqlReaderModel_checkOne_179 rfl 0 rfl ?_
                refine Sm_iconst (v := 2) E d_SqlReaderModel_checkOne_180 (by decide) ?_
                refine Sm_cVV (As := [.int y1, .int 2]) (b := (G.1 100)) (st := []) (n := 2) E exOk wM_as (fun _ h => cM_SqlReaderModel_gives y1 2 u h) gk_SqlReaderModel_588 dk_SqlReaderModel_gives rfl ⟨rfl, rfl⟩ ⟨Nat.le_of_ble_eq_true rfl, Nat.le_of_ble_eq_true rfl⟩ (rvW (q0 := 0) (ci := 1) E rfl rfl rfl) rfl (Nat.le_of_ble_eq_true rfl) d_SqlReaderModel_checkOne_181 fun u9 _ => ?_
                refine Sm_iconst (v := 0) E d_SqlReaderModel_checkOne_184 (by decide) ?_
                exact Sm_retI hR d_SqlReaderModel_checkOne_185
              · refine Sm_aload_n E d_SqlReaderModel_checkOne_166 rfl 1 rfl ?_
                refine Sm_iload_n E d_SqlReaderModel_checkOne_167 rfl 0 rfl ?_
                refine Sm_aload_n E d_SqlReaderModel_checkOne_168 rfl 1 rfl ?_
                refine gfM_0_second E fl_SqlReaderModel_75 d_SqlReaderModel_checkOne_169 ?_
                refine Sm_iload_n E d_SqlReaderModel_checkOne_172 rfl 2 rfl ?_
                refine Sm_gd fun hi => ldM_22 E (inb_in hi) d_SqlReaderModel_checkOne_173 ?_
                refine Sm_cVI (As := [.int y1, .int (ga u 20 x1)]) (b := (G.1 100)) (st := []) (n := 2) E exOk wM_as (fun _ h => cM_SqlReaderModel_checkValue y1 (ga u 20 x1) u h) gk_SqlReaderModel_613 dk_SqlReaderModel_checkValue rfl ⟨rfl, rfl⟩ ⟨Nat.le_of_ble_eq_true rfl, Nat.le_of_ble_eq_true rfl⟩ (rvW (q0 := 0) (ci := 1) E rfl rfl rfl) rfl (Nat.le_of_ble_eq_true rfl) d_SqlReaderModel_checkOne_174 fun r10 u11 _ => ?_
                exact Sm_retI hR d_SqlReaderModel_checkOne_177
          · refine Sm_aload_n E d_SqlReaderModel_checkOne_122 rfl 1 rfl ?_
            refine Sm_aload_n E d_SqlReaderModel_checkOne_123 rfl 1 rfl ?_
            refine Sm_aload_n E d_SqlReaderModel_checkOne_124 rfl 1 rfl ?_
            refine gfM_0_setNode E fl_SqlReaderModel_106 d_SqlReaderModel_checkOne_125 ?_
            refine Sm_iload_n E d_SqlReaderModel_checkOne_128 rfl 0 rfl ?_
            refine Sm_gd fun hi => ldM_32 E (inb_in hi) d_SqlReaderModel_checkOne_129 ?_
            refine Sm_aload_n E d_SqlReaderModel_checkOne_130 rfl 1 rfl ?_
            refine Sm_aload_n E d_SqlReaderModel_checkOne_131 rfl 1 rfl ?_
            refine gfM_0_setColumn E fl_SqlReaderModel_103 d_SqlReaderModel_checkOne_132 ?_
            refine Sm_iload_n E d_SqlReaderModel_checkOne_135 rfl 0 rfl ?_
            refine Sm_gd fun hi => ldM_31 E (inb_in hi) d_SqlReaderModel_checkOne_136 ?_
            refine Sm_cVi (As := [.int (ga u 28 y1)]) (b := (G.1 100)) (st := [.int (ga u 29 y1), .ref (G.1 100), .ref (G.1 100)]) (n := 1) E exOk wM_as (fun _ h => cM_SqlReaderModel_targetType (ga u 28 y1) u h) gk_SqlReaderModel_604 dk_SqlReaderModel_targetType rfl ⟨rfl, rfl⟩ ⟨Nat.le_of_ble_eq_true rfl, Nat.le_of_ble_eq_true rfl⟩ (rvW (q0 := 0) (ci := 1) E rfl rfl rfl) rfl (Nat.le_of_ble_eq_true rfl) d_SqlReaderModel_checkOne_137 fun r12 _ => ?_
            refine Sm_cVI (As := [.int (ga u 29 y1), .int r12]) (b := (G.1 100)) (st := [.ref (G.1 100)]) (n := 2) E exOk wM_as (fun _ h => cM_SqlReaderModel_fits (ga u 29 y1) r12 u h) gk_SqlReaderModel_601 dk_SqlReaderModel_fits rfl ⟨rfl, rfl⟩ ⟨Nat.le_of_ble_eq_true rfl, Nat.le_of_ble_eq_true rfl⟩ (rvW (q0 := 0) (ci := 1) E rfl rfl rfl) rfl (Nat.le_of_ble_eq_true rfl) d_SqlReaderModel_checkOne_140 fun r13 u14 _ => ?_
            refine Sm_cVi (As := [.int r13]) (b := (G.1 100)) (st := []) (n := 1) E exOk wM_as (fun _ h => cM_SqlReaderModel_error r13 u14 h) gk_SqlReaderModel_591 dk_SqlReaderModel_error rfl ⟨rfl, rfl⟩ ⟨Nat.le_of_ble_eq_true rfl, Nat.le_of_ble_eq_true rfl⟩ (rvW (q0 := 0) (ci := 1) E rfl rfl rfl) rfl (Nat.le_of_ble_eq_true rfl) d_SqlReaderModel_checkOne_143 fun r15 _ => ?_
            exact Sm_retI hR d_SqlReaderModel_checkOne_146
        · refine Sm_aload_n E d_SqlReaderModel_checkOne_76 rfl 1 rfl ?_
          refine gfM_0_setColumn E fl_SqlReaderModel_103 d_SqlReaderModel_checkOne_77 ?_
          refine Sm_iload_n E d_SqlReaderModel_checkOne_80 rfl 0 rfl ?_
          refine Sm_aload_n E d_SqlReaderModel_checkOne_81 rfl 1 rfl ?_
          refine Sm_aload_n E d_SqlReaderModel_checkOne_82 rfl 1 rfl ?_
          refine gfM_0_target E fl_SqlReaderModel_146 d_SqlReaderModel_checkOne_83 ?_
          refine Sm_aload_n E d_SqlReaderModel_checkOne_86 rfl 1 rfl ?_
          refine gfM_0_setToken E fl_SqlReaderModel_100 d_SqlReaderModel_checkOne_87 ?_
          refine Sm_iload_n E d_SqlReaderModel_checkOne_90 rfl 0 rfl ?_
          refine Sm_gd fun hi => ldM_30 E (inb_in hi) d_SqlReaderModel_checkOne_91 ?_
          refine Sm_cVi (As := [.int (u.1 9), .int (ga u 27 y1)]) (b := (G.1 100)) (st := [.int y1, .ref (G.1 131)]) (n := 2) E exOk wM_as (fun _ h => cM_SqlReaderModel_columnOf (u.1 9) (ga u 27 y1) u h) gk_SqlReaderModel_279 dk_SqlReaderModel_columnOf rfl ⟨rfl, rfl⟩ ⟨Nat.le_of_ble_eq_true rfl, Nat.le_of_ble_eq_true rfl⟩ (rvW (q0 := 0) (ci := 1) E rfl rfl rfl) rfl (Nat.le_of_ble_eq_true rfl) d_SqlReaderModel_checkOne_92 fun r16 _ => ?_
          refine Sm_gd fun hi => stM_31 E (inb_in hi) d_SqlReaderModel_checkOne_95 fun u17 _ => ?_
          refine Sm_aload_n E d_SqlReaderModel_checkOne_96 rfl 1 rfl ?_
          refine gfM_0_setColumn E fl_SqlReaderModel_103 d_SqlReaderModel_checkOne_97 ?_
          refine Sm_iload_n E d_SqlReaderModel_checkOne_100 rfl 0 rfl ?_
          refine Sm_gd fun hi => ldM_31 E (inb_in hi) d_SqlReaderModel_checkOne_101 ?_
          refine Sm_if_ge (tgt := 110) E d_SqlReaderModel_checkOne_102 (by decide) (fun _ => ?_) (fun _ => ?_)
          · refine Sm_iconst (v := 0) E d_SqlReaderModel_checkOne_110 (by decide) ?_
            exact Sm_retI hR d_SqlReaderModel_checkOne_111
          · refine Sm_bipush (v := 6) E d_SqlReaderModel_checkOne_105 (by decide) ?_
            refine Sm_goto (tgt := 111) E d_SqlReaderModel_checkOne_107 (by decide) ?_
            exact Sm_retI hR d_SqlReaderModel_checkOne_111
      · refine Sm_aload_n E d_SqlReaderModel_checkOne_55 rfl 1 rfl ?_
        refine Sm_aload_n E d_SqlReaderModel_checkOne_56 rfl 1 rfl ?_
        refine Sm_iload_n E d_SqlReaderModel_checkOne_57 rfl 0 rfl ?_
        refine Sm_iconst (v := 3) E d_SqlReaderModel_checkOne_58 (by decide) ?_
        refine Sm_cVI (As := [.int y1, .int 3]) (b := (G.1 100)) (st := [.ref (G.1 100)]) (n := 2) E exOk wM_as (fun _ h => cM_SqlReaderModel_fits y1 3 u h) gk_SqlReaderModel_601 dk_SqlReaderModel_fits rfl ⟨rfl, rfl⟩ ⟨Nat.le_of_ble_eq_true rfl, Nat.le_of_ble_eq_true rfl⟩ (rvW (q0 := 0) (ci := 1) E rfl rfl rfl) rfl (Nat.le_of_ble_eq_true rfl) d_SqlReaderModel_checkOne_59 fun r18 u19 _ => ?_
        refine Sm_cVi (As := [.int r18]) (b := (G.1 100)) (st := []) (n := 1) E exOk wM_as (fun _ h => cM_SqlReaderModel_error r18 u19 h) gk_SqlReaderModel_591 dk_SqlReaderModel_error rfl ⟨rfl, rfl⟩ ⟨Nat.le_of_ble_eq_true rfl, Nat.le_of_ble_eq_true rfl⟩ (rvW (q0 := 0) (ci := 1) E rfl rfl rfl) rfl (Nat.le_of_ble_eq_true rfl) d_SqlReaderModel_checkOne_62 fun r20 _ => ?_
        exact Sm_retI hR d_SqlReaderModel_checkOne_65
    · refine Sm_aload_n E d_SqlReaderModel_checkOne_33 rfl 1 rfl ?_
      refine Sm_iload_n E d_SqlReaderModel_checkOne_34 rfl 0 rfl ?_
      refine Sm_aload_n E d_SqlReaderModel_checkOne_35 rfl 1 rfl ?_
      refine gfM_0_second E fl_SqlReaderModel_75 d_SqlReaderModel_checkOne_36 ?_
      refine Sm_iload_n E d_SqlReaderModel_checkOne_39 rfl 2 rfl ?_
      refine Sm_gd fun hi => ldM_22 E (inb_in hi) d_SqlReaderModel_checkOne_40 ?_
      refine Sm_cVI (As := [.int y1, .int (ga u 20 x1)]) (b := (G.1 100)) (st := []) (n := 2) E exOk wM_as (fun _ h => cM_SqlReaderModel_checkValue y1 (ga u 20 x1) u h) gk_SqlReaderModel_613 dk_SqlReaderModel_checkValue rfl ⟨rfl, rfl⟩ ⟨Nat.le_of_ble_eq_true rfl, Nat.le_of_ble_eq_true rfl⟩ (rvW (q0 := 0) (ci := 1) E rfl rfl rfl) rfl (Nat.le_of_ble_eq_true rfl) d_SqlReaderModel_checkOne_41 fun r21 u22 _ => ?_
      exact Sm_retI hR d_SqlReaderModel_checkOne_44
  · refine Sm_aload_n E d_SqlReaderModel_checkOne_17 rfl 1 rfl ?_
    refine Sm_iload_n E d_SqlReaderModel_checkOne_18 rfl 0 rfl ?_
    refine Sm_cVI (As := [.int y1]) (b := (G.1 100)) (st := []) (n := 1) E exOk wM_as (fun _ h => cM_SqlReaderModel_checkNode y1 u h) gk_SqlReaderModel_610 dk_SqlReaderModel_checkNode rfl ⟨rfl, rfl⟩ ⟨Nat.le_of_ble_eq_true rfl, Nat.le_of_ble_eq_true rfl⟩ (rvW (q0 := 0) (ci := 1) E rfl rfl rfl) rfl (Nat.le_of_ble_eq_true rfl) d_SqlReaderModel_checkOne_19 fun r23 u24 _ => ?_
    exact Sm_retI hR d_SqlReaderModel_checkOne_22
