set_option maxRecDepth 100000 in
set_option maxHeartbeats 4000000 in
theorem cC_Parser_signBehind {l : Launch} {D : va_G} {G : Gx} (u : St) {res : Int32 × St} (hm : mC_Parser_signBehind u = some res) : KC l D G y_Parser_signBehind (.code y_Parser_signBehind prog_6_method_43_code 1 (some .int)) { frames := 5, cells := 0, slots := 0, locals := 109 } [.ref (G.1 28)] u (qI D vwCl (wC G) (tyW G) (adsC G) res) := by
  refine Ct_I (by decide) wC_as (Nat.le_of_ble_eq_true rfl) hm (fun X _ _ E hR => ?_)
  refine Sm_lvs (lv' := [(0, .ref (G.1 28))]) rfl ?_
  rw [mC_Parser_signBehind]
  refine Sm_aload_n E d_Parser_signBehind_0 rfl 0 rfl ?_
  refine gfC_28_tokens E fl_Parser_9 d_Parser_signBehind_1 ?_
  refine Sm_ldcS E sr_Parser_207 d_Parser_signBehind_4 ?_
  refine Sm_cVI (As := [.ref (G.2.2.1 23)]) (b := (G.1 10)) (st := []) (n := 1) E exOk wC_as (fun _ h => cC_Tokens_takes 23 u h) gk_Parser_29 dk_Tokens_takes rfl ⟨rfl, rfl⟩ ⟨Nat.le_of_ble_eq_true rfl, Nat.le_of_ble_eq_true rfl⟩ (rvW (q0 := 10) (ci := 9) E rfl rfl rfl) rfl (Nat.le_of_ble_eq_true rfl) d_Parser_signBehind_6 fun r1 u2 _ => ?_
  refine Sm_if_eq (tgt := 15) E d_Parser_signBehind_9 (by decide) (fun _ => ?_) (fun _ => ?_)
  · refine Sm_aload_n E d_Parser_signBehind_15 rfl 0 rfl ?_
    refine gfC_28_tokens E fl_Parser_9 d_Parser_signBehind_16 ?_
    refine Sm_ldcS_w E sr_Parser_385 d_Parser_signBehind_19 ?_
    refine Sm_cVI (As := [.ref (G.2.2.1 24)]) (b := (G.1 10)) (st := []) (n := 1) E exOk wC_as (fun _ h => cC_Tokens_takes 24 u2 h) gk_Parser_29 dk_Tokens_takes rfl ⟨rfl, rfl⟩ ⟨Nat.le_of_ble_eq_true rfl, Nat.le_of_ble_eq_true rfl⟩ (rvW (q0 := 10) (ci := 9) E rfl rfl rfl) rfl (Nat.le_of_ble_eq_true rfl) d_Parser_signBehind_22 fun r3 u4 _ => ?_
    refine Sm_if_eq (tgt := 31) E d_Parser_signBehind_25 (by decide) (fun _ => ?_) (fun _ => ?_)
    · refine Sm_aload_n E d_Parser_signBehind_31 rfl 0 rfl ?_
      refine gfC_28_tokens E fl_Parser_9 d_Parser_signBehind_32 ?_
      refine Sm_ldcS_w E sr_Parser_387 d_Parser_signBehind_35 ?_
      refine Sm_cVI (As := [.ref (G.2.2.1 25)]) (b := (G.1 10)) (st := []) (n := 1) E exOk wC_as (fun _ h => cC_Tokens_takes 25 u4 h) gk_Parser_29 dk_Tokens_takes rfl ⟨rfl, rfl⟩ ⟨Nat.le_of_ble_eq_true rfl, Nat.le_of_ble_eq_true rfl⟩ (rvW (q0 := 10) (ci := 9) E rfl rfl rfl) rfl (Nat.le_of_ble_eq_true rfl) d_Parser_signBehind_38 fun r5 u6 _ => ?_
      refine Sm_if_eq (tgt := 47) E d_Parser_signBehind_41 (by decide) (fun _ => ?_) (fun _ => ?_)
      · refine Sm_aload_n E d_Parser_signBehind_47 rfl 0 rfl ?_
        refine gfC_28_tokens E fl_Parser_9 d_Parser_signBehind_48 ?_
        refine Sm_ldcS_w E sr_Parser_389 d_Parser_signBehind_51 ?_
        refine Sm_cVI (As := [.ref (G.2.2.1 26)]) (b := (G.1 10)) (st := []) (n := 1) E exOk wC_as (fun _ h => cC_Tokens_takes 26 u6 h) gk_Parser_29 dk_Tokens_takes rfl ⟨rfl, rfl⟩ ⟨Nat.le_of_ble_eq_true rfl, Nat.le_of_ble_eq_true rfl⟩ (rvW (q0 := 10) (ci := 9) E rfl rfl rfl) rfl (Nat.le_of_ble_eq_true rfl) d_Parser_signBehind_54 fun r7 u8 _ => ?_
        refine Sm_if_eq (tgt := 63) E d_Parser_signBehind_57 (by decide) (fun _ => ?_) (fun _ => ?_)
        · refine Sm_aload_n E d_Parser_signBehind_63 rfl 0 rfl ?_
          refine gfC_28_tokens E fl_Parser_9 d_Parser_signBehind_64 ?_
          refine Sm_ldcS_w E sr_Parser_391 d_Parser_signBehind_67 ?_
          refine Sm_cVI (As := [.ref (G.2.2.1 27)]) (b := (G.1 10)) (st := []) (n := 1) E exOk wC_as (fun _ h => cC_Tokens_takes 27 u8 h) gk_Parser_29 dk_Tokens_takes rfl ⟨rfl, rfl⟩ ⟨Nat.le_of_ble_eq_true rfl, Nat.le_of_ble_eq_true rfl⟩ (rvW (q0 := 10) (ci := 9) E rfl rfl rfl) rfl (Nat.le_of_ble_eq_true rfl) d_Parser_signBehind_70 fun r9 u10 _ => ?_
          refine Sm_if_eq (tgt := 79) E d_Parser_signBehind_73 (by decide) (fun _ => ?_) (fun _ => ?_)
          · refine Sm_aload_n E d_Parser_signBehind_79 rfl 0 rfl ?_
            refine gfC_28_tokens E fl_Parser_9 d_Parser_signBehind_80 ?_
            refine Sm_ldcS_w E sr_Parser_393 d_Parser_signBehind_83 ?_
            refine Sm_cVI (As := [.ref (G.2.2.1 28)]) (b := (G.1 10)) (st := []) (n := 1) E exOk wC_as (fun _ h => cC_Tokens_takes 28 u10 h) gk_Parser_29 dk_Tokens_takes rfl ⟨rfl, rfl⟩ ⟨Nat.le_of_ble_eq_true rfl, Nat.le_of_ble_eq_true rfl⟩ (rvW (q0 := 10) (ci := 9) E rfl rfl rfl) rfl (Nat.le_of_ble_eq_true rfl) d_Parser_signBehind_86 fun r11 u12 _ => ?_
            refine Sm_if_eq (tgt := 95) E d_Parser_signBehind_89 (by decide) (fun _ => ?_) (fun _ => ?_)
            · refine Sm_aload_n E d_Parser_signBehind_95 rfl 0 rfl ?_
              refine gfC_28_tokens E fl_Parser_9 d_Parser_signBehind_96 ?_
              refine Sm_ldcS_w E sr_Parser_395 d_Parser_signBehind_99 ?_
              refine Sm_cVI (As := [.ref (G.2.2.1 29)]) (b := (G.1 10)) (st := []) (n := 1) E exOk wC_as (fun _ h => cC_Tokens_takes 29 u12 h) gk_Parser_29 dk_Tokens_takes rfl ⟨rfl, rfl⟩ ⟨Nat.le_of_ble_eq_true rfl, Nat.le_of_ble_eq_true rfl⟩ (rvW (q0 := 10) (ci := 9) E rfl rfl rfl) rfl (Nat.le_of_ble_eq_true rfl) d_Parser_signBehind_102 fun r13 u14 _ => ?_
              refine Sm_if_eq (tgt := 111) E d_Parser_signBehind_105 (by decide) (fun _ => ?_) (fun _ => ?_)
              · refine Sm_aload_n E d_Parser_signBehind_111 rfl 0 rfl ?_
                refine gfC_28_tokens E fl_Parser_9 d_Parser_signBehind_112 ?_
                refine Sm_ldcS_w E sr_Parser_354 d_Parser_signBehind_115 ?_
                refine Sm_cVI (As := [.ref (G.2.2.1 7)]) (b := (G.1 10)) (st := []) (n := 1) E exOk wC_as (fun _ h => cC_Tokens_takes 7 u14 h) gk_Parser_29 dk_Tokens_takes rfl ⟨rfl, rfl⟩ ⟨Nat.le_of_ble_eq_true rfl, Nat.le_of_ble_eq_true rfl⟩ (rvW (q0 := 10) (ci := 9) E rfl rfl rfl) rfl (Nat.le_of_ble_eq_true rfl) d_Parser_signBehind_118 fun r15 u16 _ => ?_
                refine Sm_if_eq (tgt := 127) E d_Parser_signBehind_121 (by decide) (fun _ => ?_) (fun _ => ?_)
                · refine Sm_aload_n E d_Parser_signBehind_127 rfl 0 rfl ?_
                  refine gfC_28_tokens E fl_Parser_9 d_Parser_signBehind_128 ?_
                  refine Sm_ldcS E sr_Parser_216 d_Parser_signBehind_131 ?_
                  refine Sm_cVI (As := [.ref (G.2.2.1 5)]) (b := (G.1 10)) (st := []) (n := 1) E exOk wC_as (fun _ h => cC_Tokens_takes 5 u16 h) gk_Parser_29 dk_Tokens_takes rfl ⟨rfl, rfl⟩ ⟨Nat.le_of_ble_eq_true rfl, Nat.le_of_ble_eq_true rfl⟩ (rvW (q0 := 10) (ci := 9) E rfl rfl rfl) rfl (Nat.le_of_ble_eq_true rfl) d_Parser_signBehind_133 fun r17 u18 _ => ?_
                  refine Sm_if_eq (tgt := 142) E d_Parser_signBehind_136 (by decide) (fun _ => ?_) (fun _ => ?_)
                  · refine Sm_aload_n E d_Parser_signBehind_142 rfl 0 rfl ?_
                    refine gfC_28_tokens E fl_Parser_9 d_Parser_signBehind_143 ?_
                    refine Sm_ldcS_w E sr_Parser_397 d_Parser_signBehind_146 ?_
                    refine Sm_cVI (As := [.ref (G.2.2.1 30)]) (b := (G.1 10)) (st := []) (n := 1) E exOk wC_as (fun _ h => cC_Tokens_takes 30 u18 h) gk_Parser_29 dk_Tokens_takes rfl ⟨rfl, rfl⟩ ⟨Nat.le_of_ble_eq_true rfl, Nat.le_of_ble_eq_true rfl⟩ (rvW (q0 := 10) (ci := 9) E rfl rfl rfl) rfl (Nat.le_of_ble_eq_true rfl) d_Parser_signBehind_149 fun r19 u20 _ => ?_
                    refine Sm_if_eq (tgt := 158) E d_Parser_signBehind_152 (by decide) (fun _ => ?_) (fun _ => ?_)
                    · refine Sm_aload_n E d_Parser_signBehind_158 rfl 0 rfl ?_
                      refine gfC_28_tokens E fl_Parser_9 d_Parser_signBehind_159 ?_
                      refine Sm_ldcS_w E sr_Parser_399 d_Parser_signBehind_162 ?_
                      refine Sm_cVI (As := [.ref (G.2.2.1 31)]) (b := (G.1 10)) (st := []) (n := 1) E exOk wC_as (fun _ h => cC_Tokens_takes 31 u20 h) gk_Parser_29 dk_Tokens_takes rfl ⟨rfl, rfl⟩ ⟨Nat.le_of_ble_eq_true rfl, Nat.le_of_ble_eq_true rfl⟩ (rvW (q0 := 10) (ci := 9) E rfl rfl rfl) rfl (Nat.le_of_ble_eq_true rfl) d_Parser_signBehind_165 fun r21 u22 _ => ?_
                      refine Sm_if_eq (tgt := 174) E d_Parser_signBehind_168 (by decide) (fun _ => ?_) (fun _ => ?_)
                      · refine Sm_aload_n E d_Parser_signBehind_174 rfl 0 rfl ?_
                        refine gfC_28_tokens E fl_Parser_9 d_Parser_signBehind_175 ?_
                        refine Sm_ldcS_w E sr_Parser_401 d_Parser_signBehind_178 ?_
                        refine Sm_cVI (As := [.ref (G.2.2.1 32)]) (b := (G.1 10)) (st := []) (n := 1) E exOk wC_as (fun _ h => cC_Tokens_takes 32 u22 h) gk_Parser_29 dk_Tokens_takes rfl ⟨rfl, rfl⟩ ⟨Nat.le_of_ble_eq_true rfl, Nat.le_of_ble_eq_true rfl⟩ (rvW (q0 := 10) (ci := 9) E rfl rfl rfl) rfl (Nat.le_of_ble_eq_true rfl) d_Parser_signBehind_181 fun r23 u24 _ => ?_
                        refine Sm_if_eq (tgt := 192) E d_Parser_signBehind_184 (by decide) (fun _ => ?_) (fun _ => ?_)
                        · refine Sm_iconst (v := (-1)) E d_Parser_signBehind_192 (by decide) ?_
                          exact Sm_retI hR d_Parser_signBehind_193
                        · refine Sm_bipush (v := 16) E d_Parser_signBehind_187 (by decide) ?_
                          refine Sm_goto (tgt := 193) E d_Parser_signBehind_189 (by decide) ?_
                          exact Sm_retI hR d_Parser_signBehind_193
                      · refine Sm_bipush (v := 15) E d_Parser_signBehind_171 (by decide) ?_
                        exact Sm_retI hR d_Parser_signBehind_173
                    · refine Sm_bipush (v := 14) E d_Parser_signBehind_155 (by decide) ?_
                      exact Sm_retI hR d_Parser_signBehind_157
                  · refine Sm_bipush (v := 13) E d_Parser_signBehind_139 (by decide) ?_
                    exact Sm_retI hR d_Parser_signBehind_141
                · refine Sm_bipush (v := 12) E d_Parser_signBehind_124 (by decide) ?_
                  exact Sm_retI hR d_Parser_signBehind_126
              · refine Sm_bipush (v := 11) E d_Parser_signBehind_108 (by decide) ?_
                exact Sm_retI hR d_Parser_signBehind_110
            · refine Sm_bipush (v := 22) E d_Parser_signBehind_92 (by decide) ?_
              exact Sm_retI hR d_Parser_signBehind_94
          · refine Sm_bipush (v := 21) E d_Parser_signBehind_76 (by decide) ?_
            exact Sm_retI hR d_Parser_signBehind_78
        · refine Sm_bipush (v := 20) E d_Parser_signBehind_60 (by decide) ?_
          exact Sm_retI hR d_Parser_signBehind_62
      · refine Sm_bipush (v := 19) E d_Parser_signBehind_44 (by decide) ?_
        exact Sm_retI hR d_Parser_signBehind_46
    · refine Sm_bipush (v := 18) E d_Parser_signBehind_28 (by decide) ?_
      exact Sm_retI hR d_Parser_signBehind_30
  · refine Sm_bipush (v := 17) E d_Parser_signBehind_12 (by decide) ?_
    exact Sm_retI hR d_Parser_signBehind_14
set_option maxRecDepth 100000 in
set_option maxHeartbeats 4000000 in
theorem cC_Parser_levelOf {l : Launch} {D : va_G} {G : Gx} (x0 : Int32) (u : St) {res : Int32} (hm : mC_Parser_levelOf x0 u = some res) : KC l D G y_Parser_levelOf (.code y_Parser_levelOf prog_6_method_44_code 1 (some .int)) { frames := 0, cells := 0, slots := 0, locals := 0 } [.int x0] u (qI D vwCl (wC G) (tyW G) (adsC G) (res, u)) := by
  refine Ct_i (by decide) wC_as (Nat.le_of_ble_eq_true rfl) hm (fun X _ _ E hR => ?_)
  refine Sm_lvs (lv' := [(0, .int x0)]) rfl ?_
  rw [mC_Parser_levelOf]
  refine Sm_iload_n E d_Parser_levelOf_0 rfl 0 rfl ?_
  refine Sm_ite (fun hk => Sm_tableIn (tgt := 144) (k := (-1)) hk E d_Parser_levelOf_1 (by decide) (by decide) rfl (by decide) ?_) (fun hnm1 => ?_)
  · refine Sm_iconst (v := 0) E d_Parser_levelOf_144 (by decide) ?_
    exact Sm_reti hR d_Parser_levelOf_145
  refine Sm_ite (fun hk => Sm_tableIn (tgt := 146) (k := 0) hk E d_Parser_levelOf_1 (by decide) (by decide) rfl (by decide) ?_) (fun hn0 => ?_)
  · refine Sm_iconst (v := 4) E d_Parser_levelOf_146 (by decide) ?_
    exact Sm_reti hR d_Parser_levelOf_147
  refine Sm_ite (fun hk => Sm_tableIn (tgt := 146) (k := 1) hk E d_Parser_levelOf_1 (by decide) (by decide) rfl (by decide) ?_) (fun hn1 => ?_)
  · refine Sm_iconst (v := 4) E d_Parser_levelOf_146 (by decide) ?_
    exact Sm_reti hR d_Parser_levelOf_147
  refine Sm_ite (fun hk => Sm_tableIn (tgt := 146) (k := 2) hk E d_Parser_levelOf_1 (by decide) (by decide) rfl (by decide) ?_) (fun hn2 => ?_)
  · refine Sm_iconst (v := 4) E d_Parser_levelOf_146 (by decide) ?_
    exact Sm_reti hR d_Parser_levelOf_147
  refine Sm_ite (fun hk => Sm_tableIn (tgt := 146) (k := 3) hk E d_Parser_levelOf_1 (by decide) (by decide) rfl (by decide) ?_) (fun hn3 => ?_)
  · refine Sm_iconst (v := 4) E d_Parser_levelOf_146 (by decide) ?_
    exact Sm_reti hR d_Parser_levelOf_147
  refine Sm_ite (fun hk => Sm_tableIn (tgt := 146) (k := 4) hk E d_Parser_levelOf_1 (by decide) (by decide) rfl (by decide) ?_) (fun hn4 => ?_)
  · refine Sm_iconst (v := 4) E d_Parser_levelOf_146 (by decide) ?_
    exact Sm_reti hR d_Parser_levelOf_147
  refine Sm_ite (fun hk => Sm_tableIn (tgt := 146) (k := 5) hk E d_Parser_levelOf_1 (by decide) (by decide) rfl (by decide) ?_) (fun hn5 => ?_)
  · refine Sm_iconst (v := 4) E d_Parser_levelOf_146 (by decide) ?_
    exact Sm_reti hR d_Parser_levelOf_147
  refine Sm_ite (fun hk => Sm_tableIn (tgt := 146) (k := 6) hk E d_Parser_levelOf_1 (by decide) (by decide) rfl (by decide) ?_) (fun hn6 => ?_)
  · refine Sm_iconst (v := 4) E d_Parser_levelOf_146 (by decide) ?_
    exact Sm_reti hR d_Parser_levelOf_147
  refine Sm_ite (fun hk => Sm_tableIn (tgt := 146) (k := 7) hk E d_Parser_levelOf_1 (by decide) (by decide) rfl (by decide) ?_) (fun hn7 => ?_)
  · refine Sm_iconst (v := 4) E d_Parser_levelOf_146 (by decide) ?_
    exact Sm_reti hR d_Parser_levelOf_147
  refine Sm_ite (fun hk => Sm_tableIn (tgt := 146) (k := 8) hk E d_Parser_levelOf_1 (by decide) (by decide) rfl (by decide) ?_) (fun hn8 => ?_)
  · refine Sm_iconst (v := 4) E d_Parser_levelOf_146 (by decide) ?_
    exact Sm_reti hR d_Parser_levelOf_147
  refine Sm_ite (fun hk => Sm_tableIn (tgt := 146) (k := 9) hk E d_Parser_levelOf_1 (by decide) (by decide) rfl (by decide) ?_) (fun hn9 => ?_)
  · refine Sm_iconst (v := 4) E d_Parser_levelOf_146 (by decide) ?_
    exact Sm_reti hR d_Parser_levelOf_147
  refine Sm_ite (fun hk => Sm_tableIn (tgt := 146) (k := 10) hk E d_Parser_levelOf_1 (by decide) (by decide) rfl (by decide) ?_) (fun hn10 => ?_)
  · refine Sm_iconst (v := 4) E d_Parser_levelOf_146 (by decide) ?_
    exact Sm_reti hR d_Parser_levelOf_147
  refine Sm_ite (fun hk => Sm_tableIn (tgt := 138) (k := 11) hk E d_Parser_levelOf_1 (by decide) (by decide) rfl (by decide) ?_) (fun hn11 => ?_)
  · refine Sm_bipush (v := 6) E d_Parser_levelOf_138 (by decide) ?_
    exact Sm_reti hR d_Parser_levelOf_140
  refine Sm_ite (fun hk => Sm_tableIn (tgt := 138) (k := 12) hk E d_Parser_levelOf_1 (by decide) (by decide) rfl (by decide) ?_) (fun hn12 => ?_)
  · refine Sm_bipush (v := 6) E d_Parser_levelOf_138 (by decide) ?_
    exact Sm_reti hR d_Parser_levelOf_140
  refine Sm_ite (fun hk => Sm_tableIn (tgt := 141) (k := 13) hk E d_Parser_levelOf_1 (by decide) (by decide) rfl (by decide) ?_) (fun hn13 => ?_)
  · refine Sm_bipush (v := 7) E d_Parser_levelOf_141 (by decide) ?_
    exact Sm_reti hR d_Parser_levelOf_143
  refine Sm_ite (fun hk => Sm_tableIn (tgt := 141) (k := 14) hk E d_Parser_levelOf_1 (by decide) (by decide) rfl (by decide) ?_) (fun hn14 => ?_)
  · refine Sm_bipush (v := 7) E d_Parser_levelOf_141 (by decide) ?_
    exact Sm_reti hR d_Parser_levelOf_143
  refine Sm_ite (fun hk => Sm_tableIn (tgt := 141) (k := 15) hk E d_Parser_levelOf_1 (by decide) (by decide) rfl (by decide) ?_) (fun hn15 => ?_)
  · refine Sm_bipush (v := 7) E d_Parser_levelOf_141 (by decide) ?_
    exact Sm_reti hR d_Parser_levelOf_143
  refine Sm_ite (fun hk => Sm_tableIn (tgt := 136) (k := 16) hk E d_Parser_levelOf_1 (by decide) (by decide) rfl (by decide) ?_) (fun hn16 => ?_)
  · refine Sm_iconst (v := 5) E d_Parser_levelOf_136 (by decide) ?_
    exact Sm_reti hR d_Parser_levelOf_137
  refine Sm_ite (fun hk => Sm_tableIn (tgt := 146) (k := 17) hk E d_Parser_levelOf_1 (by decide) (by decide) rfl (by decide) ?_) (fun hn17 => ?_)
  · refine Sm_iconst (v := 4) E d_Parser_levelOf_146 (by decide) ?_
    exact Sm_reti hR d_Parser_levelOf_147
  refine Sm_ite (fun hk => Sm_tableIn (tgt := 146) (k := 18) hk E d_Parser_levelOf_1 (by decide) (by decide) rfl (by decide) ?_) (fun hn18 => ?_)
  · refine Sm_iconst (v := 4) E d_Parser_levelOf_146 (by decide) ?_
    exact Sm_reti hR d_Parser_levelOf_147
  refine Sm_ite (fun hk => Sm_tableIn (tgt := 146) (k := 19) hk E d_Parser_levelOf_1 (by decide) (by decide) rfl (by decide) ?_) (fun hn19 => ?_)
  · refine Sm_iconst (v := 4) E d_Parser_levelOf_146 (by decide) ?_
    exact Sm_reti hR d_Parser_levelOf_147
  refine Sm_ite (fun hk => Sm_tableIn (tgt := 146) (k := 20) hk E d_Parser_levelOf_1 (by decide) (by decide) rfl (by decide) ?_) (fun hn20 => ?_)
  · refine Sm_iconst (v := 4) E d_Parser_levelOf_146 (by decide) ?_
    exact Sm_reti hR d_Parser_levelOf_147
  refine Sm_ite (fun hk => Sm_tableIn (tgt := 146) (k := 21) hk E d_Parser_levelOf_1 (by decide) (by decide) rfl (by decide) ?_) (fun hn21 => ?_)
  · refine Sm_iconst (v := 4) E d_Parser_levelOf_146 (by decide) ?_
    exact Sm_reti hR d_Parser_levelOf_147
  refine Sm_ite (fun hk => Sm_tableIn (tgt := 146) (k := 22) hk E d_Parser_levelOf_1 (by decide) (by decide) rfl (by decide) ?_) (fun hn22 => ?_)
  · refine Sm_iconst (v := 4) E d_Parser_levelOf_146 (by decide) ?_
    exact Sm_reti hR d_Parser_levelOf_147
  refine Sm_ite (fun hk => Sm_tableIn (tgt := 146) (k := 23) hk E d_Parser_levelOf_1 (by decide) (by decide) rfl (by decide) ?_) (fun hn23 => ?_)
  · refine Sm_iconst (v := 4) E d_Parser_levelOf_146 (by decide) ?_
    exact Sm_reti hR d_Parser_levelOf_147
  refine Sm_ite (fun hk => Sm_tableIn (tgt := 146) (k := 24) hk E d_Parser_levelOf_1 (by decide) (by decide) rfl (by decide) ?_) (fun hn24 => ?_)
  · refine Sm_iconst (v := 4) E d_Parser_levelOf_146 (by decide) ?_
    exact Sm_reti hR d_Parser_levelOf_147
  refine Sm_ite (fun hk => Sm_tableIn (tgt := 146) (k := 25) hk E d_Parser_levelOf_1 (by decide) (by decide) rfl (by decide) ?_) (fun hn25 => ?_)
  · refine Sm_iconst (v := 4) E d_Parser_levelOf_146 (by decide) ?_
    exact Sm_reti hR d_Parser_levelOf_147
  refine Sm_ite (fun hk => Sm_tableIn (tgt := 134) (k := 26) hk E d_Parser_levelOf_1 (by decide) (by decide) rfl (by decide) ?_) (fun hn26 => ?_)
  · refine Sm_iconst (v := 2) E d_Parser_levelOf_134 (by decide) ?_
    exact Sm_reti hR d_Parser_levelOf_135
  refine Sm_ite (fun hk => Sm_tableIn (tgt := 132) (k := 27) hk E d_Parser_levelOf_1 (by decide) (by decide) rfl (by decide) ?_) (fun hn27 => ?_)
  · refine Sm_iconst (v := 1) E d_Parser_levelOf_132 (by decide) ?_
    exact Sm_reti hR d_Parser_levelOf_133
  refine Sm_tableOut (tgt := 146) E d_Parser_levelOf_1 (by have := lv_neT hnm1 (a := -1) (by decide); have := lv_neT hn0 (a := 0) (by decide); have := lv_neT hn1 (a := 1) (by decide); have := lv_neT hn2 (a := 2) (by decide); have := lv_neT hn3 (a := 3) (by decide); have := lv_neT hn4 (a := 4) (by decide); have := lv_neT hn5 (a := 5) (by decide); have := lv_neT hn6 (a := 6) (by decide); have := lv_neT hn7 (a := 7) (by decide); have := lv_neT hn8 (a := 8) (by decide); have := lv_neT hn9 (a := 9) (by decide); have := lv_neT hn10 (a := 10) (by decide); have := lv_neT hn11 (a := 11) (by decide); have := lv_neT hn12 (a := 12) (by decide); have := lv_neT hn13 (a := 13) (by decide); have := lv_neT hn14 (a := 14) (by decide); have := lv_neT hn15 (a := 15) (by decide); have := lv_neT hn16 (a := 16) (by decide); have := lv_neT hn17 (a := 17) (by decide); have := lv_neT hn18 (a := 18) (by decide); have := lv_neT hn19 (a := 19) (by decide); have := lv_neT hn20 (a := 20) (by decide); have := lv_neT hn21 (a := 21) (by decide); have := lv_neT hn22 (a := 22) (by decide); have := lv_neT hn23 (a := 23) (by decide); have := lv_neT hn24 (a := 24) (by decide); have := lv_neT hn25 (a := 25) (by decide); have := lv_neT hn26 (a := 26) (by decide); have := lv_neT hn27 (a := 27) (by decide); omega) (by decide) ?_
  refine Sm_iconst (v := 4) E d_Parser_levelOf_146 (by decide) ?_
  exact Sm_reti hR d_Parser_levelOf_147
set_option maxRecDepth 100000 in
set_option maxHeartbeats 4000000 in
theorem cC_Tokens_backTo {l : Launch} {D : va_G} {G : Gx} (x1 : Int32) (u : St) {res : St} (hm : mC_Tokens_backTo x1 u = some res) : KC l D G y_Tokens_backTo (.code y_Tokens_backTo prog_9_method_8_code 2 none) { frames := 0, cells := 0, slots := 0, locals := 0 } [.ref (G.1 10), .int x1] u (qV D vwCl (wC G) (tyW G) (adsC G) res) := by
  refine Ct_V (by decide) wC_as (Nat.le_of_ble_eq_true rfl) hm (fun X _ _ E hR => ?_)
  refine Sm_lvs (lv' := [(0, .ref (G.1 10)), (1, .int x1)]) rfl ?_
  rw [mC_Tokens_backTo]
  refine Sm_iload_n E d_Tokens_backTo_0 rfl 1 rfl ?_
  refine Sm_if_lt (tgt := 17) E d_Tokens_backTo_1 (by decide) (fun _ => ?_) (fun _ => ?_)
  · exact Sm_retV hR d_Tokens_backTo_17
  · refine Sm_iload_n E d_Tokens_backTo_4 rfl 1 rfl ?_
    refine Sm_aload_n E d_Tokens_backTo_5 rfl 0 rfl ?_
    refine gfC_10_next E fl_Tokens_28 d_Tokens_backTo_6 ?_
    refine Sm_icmp_ge (tgt := 17) E d_Tokens_backTo_9 (by decide) (fun _ => ?_) (fun _ => ?_)
    · exact Sm_retV hR d_Tokens_backTo_17
    · refine Sm_aload_n E d_Tokens_backTo_12 rfl 0 rfl ?_
      refine Sm_iload_n E d_Tokens_backTo_13 rfl 1 rfl ?_
      refine pfC_10_next E fl_Tokens_28 d_Tokens_backTo_14 fun u1 _ => ?_
      exact Sm_retV hR d_Tokens_backTo_17
set_option maxRecDepth 100000 in
set_option maxHeartbeats 4000000 in
theorem cC_Nodes_join {l : Launch} {D : va_G} {G : Gx} (x1 : Int32) (x2 : Int32) (x3 : Int32) (u : St) {res : Int32 × St} (hm : mC_Nodes_join x1 x2 x3 u = some res) : KC l D G y_Nodes_join (.code y_Nodes_join prog_5_method_8_code 5 (some .int)) { frames := 1, cells := 0, slots := 0, locals := 25 } [.ref (G.1 14), .int x1, .int x2, .int x3] u (qI D vwCl (wC G) (tyW G) (adsC G) res) := by
  refine Ct_I (by decide) wC_as (Nat.le_of_ble_eq_true rfl) hm (fun X _ _ E hR => ?_)
  refine Sm_lvs (lv' := [(0, .ref (G.1 14)), (1, .int x1), (2, .int x2), (3, .int x3)]) rfl ?_
  rw [mC_Nodes_join]
  refine Sm_iload_n E d_Nodes_join_0 rfl 2 rfl ?_
  refine Sm_if_lt (tgt := 8) E d_Nodes_join_1 (by decide) (fun _ => ?_) (fun _ => ?_)
  · refine Sm_iconst (v := (-1)) E d_Nodes_join_8 (by decide) ?_
    exact Sm_retI hR d_Nodes_join_9
  · refine Sm_iload_n E d_Nodes_join_4 rfl 3 rfl ?_
    refine Sm_if_ge (tgt := 10) E d_Nodes_join_5 (by decide) (fun _ => ?_) (fun _ => ?_)
    · refine Sm_aload_n E d_Nodes_join_10 rfl 0 rfl ?_
      refine Sm_iload_n E d_Nodes_join_11 rfl 1 rfl ?_
      refine Sm_iload_n E d_Nodes_join_12 rfl 2 rfl ?_
      refine Sm_iconst (v := (-1)) E d_Nodes_join_13 (by decide) ?_
      refine Sm_iconst (v := (-1)) E d_Nodes_join_14 (by decide) ?_
      refine Sm_cVI (As := [.int x1, .int x2, .int (-1), .int (-1)]) (b := (G.1 14)) (st := []) (n := 4) E exOk wC_as (fun _ h => cC_Nodes_leaf x1 x2 (-1) (-1) u h) gk_Nodes_47 dk_Nodes_leaf rfl ⟨rfl, rfl⟩ ⟨Nat.le_of_ble_eq_true rfl, Nat.le_of_ble_eq_true rfl⟩ (rvW (q0 := 14) (ci := 5) E rfl rfl rfl) rfl (Nat.le_of_ble_eq_true rfl) d_Nodes_join_15 fun r1 u2 _ => ?_
      refine Sm_istore (lv' := [(4, .int r1), (0, .ref (G.1 14)), (1, .int x1), (2, .int x2), (3, .int x3)]) E d_Nodes_join_18 (by decide) rfl ?_
      refine Sm_aload_n E d_Nodes_join_20 rfl 1 rfl ?_
      refine gfC_14_over E fl_Nodes_43 d_Nodes_join_21 ?_
      refine Sm_if_ne (tgt := 49) E d_Nodes_join_24 (by decide) (fun _ => ?_) (fun _ => ?_)
      · refine Sm_iload E d_Nodes_join_49 0 rfl ?_
        exact Sm_retI hR d_Nodes_join_51
      · refine Sm_aload_n E d_Nodes_join_27 rfl 1 rfl ?_
        refine gfC_14_seconds E fl_Nodes_18 d_Nodes_join_28 ?_
        refine Sm_iload E d_Nodes_join_31 0 rfl ?_
        refine Sm_iload_n E d_Nodes_join_33 rfl 4 rfl ?_
        refine Sm_gd fun hi => stC_17 E (inb_in hi) d_Nodes_join_34 fun u3 _ => ?_
        refine Sm_aload_n E d_Nodes_join_35 rfl 1 rfl ?_
        refine Sm_iload_n E d_Nodes_join_36 rfl 3 rfl ?_
        refine Sm_iload E d_Nodes_join_37 0 rfl ?_
        refine Sm_cVV (As := [.int x2, .int r1]) (b := (G.1 14)) (st := []) (n := 2) E exOk wC_as (fun _ h => cC_Nodes_adopt x2 r1 u3 h) gk_Nodes_51 dk_Nodes_adopt rfl ⟨rfl, rfl⟩ ⟨Nat.le_of_ble_eq_true rfl, Nat.le_of_ble_eq_true rfl⟩ (rvW (q0 := 14) (ci := 5) E rfl rfl rfl) rfl (Nat.le_of_ble_eq_true rfl) d_Nodes_join_39 fun u4 _ => ?_
        refine Sm_aload_n E d_Nodes_join_42 rfl 1 rfl ?_
        refine Sm_iload_n E d_Nodes_join_43 rfl 4 rfl ?_
        refine Sm_iload E d_Nodes_join_44 0 rfl ?_
        refine Sm_cVV (As := [.int x3, .int r1]) (b := (G.1 14)) (st := []) (n := 2) E exOk wC_as (fun _ h => cC_Nodes_adopt x3 r1 u4 h) gk_Nodes_51 dk_Nodes_adopt rfl ⟨rfl, rfl⟩ ⟨Nat.le_of_ble_eq_true rfl, Nat.le_of_ble_eq_true rfl⟩ (rvW (q0 := 14) (ci := 5) E rfl rfl rfl) rfl (Nat.le_of_ble_eq_true rfl) d_Nodes_join_46 fun u5 _ => ?_
        refine Sm_iload E d_Nodes_join_49 0 rfl ?_
        exact Sm_retI hR d_Nodes_join_51
    · refine Sm_iconst (v := (-1)) E d_Nodes_join_8 (by decide) ?_
      exact Sm_retI hR d_Nodes_join_9
set_option maxRecDepth 100000 in
set_option maxHeartbeats 4000000 in
theorem cC_Nodes_works {l : Launch} {D : va_G} {G : Gx} (x0 : Int32) (u : St) {res : Int32} (hm : mC_Nodes_works x0 u = some res) : KC l D G y_Nodes_works (.code y_Nodes_works prog_5_method_2_code 1 (some .boolean)) { frames := 0, cells := 0, slots := 0, locals := 0 } [.int x0] u (qI D vwCl (wC G) (tyW G) (adsC G) (res, u)) := by
  refine Ct_z (by decide) wC_as (Nat.le_of_ble_eq_true rfl) hm (fun X _ _ E hR => ?_)
  refine Sm_lvs (lv' := [(0, .int x0)]) rfl ?_
  rw [mC_Nodes_works]
  refine Sm_iload_n E d_Nodes_works_0 rfl 0 rfl ?_
  refine Sm_bipush (v := 6) E d_Nodes_works_1 (by decide) ?_
  refine Sm_icmp_lt (tgt := 16) E d_Nodes_works_3 (by decide) (fun _ => ?_) (fun _ => ?_)
  · refine Sm_iconst (v := 0) E d_Nodes_works_16 (by decide) ?_
    exact Sm_retz hR (by decide) d_Nodes_works_17
  · refine Sm_iload_n E d_Nodes_works_6 rfl 0 rfl ?_
    refine Sm_bipush (v := 27) E d_Nodes_works_7 (by decide) ?_
    refine Sm_icmp_gt (tgt := 16) E d_Nodes_works_9 (by decide) (fun _ => ?_) (fun _ => ?_)
    · refine Sm_iconst (v := 0) E d_Nodes_works_16 (by decide) ?_
      exact Sm_retz hR (by decide) d_Nodes_works_17
    · refine Sm_iconst (v := 1) E d_Nodes_works_12 (by decide) ?_
      refine Sm_goto (tgt := 17) E d_Nodes_works_13 (by decide) ?_
      exact Sm_retz hR (by decide) d_Nodes_works_17
set_option maxRecDepth 100000 in
set_option maxHeartbeats 4000000 in
theorem tC_Nodes_again_L17 {X : Cx} {G : Gx} {res : Int32 × St} (E : EC X G prog_5_method_11_code R_Nodes 6 { frames := 2, cells := 0, slots := 0, locals := 67 }) (hR : RtI X vwCl (wC G) prog_5_method_11_code res) : ∀ (n : Nat) (x2 : Int32) (x3 : Int32) (x4 : Int32) (x5 : Int32) (u : St), SC X G 6 res (mC_Nodes_again_L17 n x2 x3 x4 x5 u) u 17 [(0, .ref (G.1 14)), (2, .int x2), (3, .int x3), (4, .int x4), (5, .int x5)] [] := by
  intro n
  induction n with
  | zero => intro x2 x3 x4 x5 u; exact Sm_none
  | succ n h17 =>
    intro x2 x3 x4 x5 u
    rw [mC_Nodes_again_L17]
    refine Sm_iload E d_Nodes_again_17 4 rfl ?_
    refine Sm_iload_n E d_Nodes_again_19 rfl 1 rfl ?_
    refine Sm_icmp_gt (tgt := 160) E d_Nodes_again_20 (by decide) (fun _ => ?_) (fun _ => ?_)
    · refine Sm_iload E d_Nodes_again_160 3 rfl ?_
      exact Sm_retI hR d_Nodes_again_162
    · refine Sm_iload E d_Nodes_again_23 4 rfl ?_
      refine Sm_sipush (v := 200) E d_Nodes_again_25 (by decide) ?_
      refine Sm_icmp_ge (tgt := 160) E d_Nodes_again_28 (by decide) (fun _ => ?_) (fun _ => ?_)
      · refine Sm_iload E d_Nodes_again_160 3 rfl ?_
        exact Sm_retI hR d_Nodes_again_162
      · refine Sm_aload_n E d_Nodes_again_31 rfl 0 rfl ?_
        refine gfC_14_over E fl_Nodes_43 d_Nodes_again_32 ?_
        refine Sm_if_ne (tgt := 160) E d_Nodes_again_35 (by decide) (fun _ => ?_) (fun _ => ?_)
        · refine Sm_iload E d_Nodes_again_160 3 rfl ?_
          exact Sm_retI hR d_Nodes_again_162
        · refine Sm_aload_n E d_Nodes_again_38 rfl 0 rfl ?_
          refine gfC_14_kinds E fl_Nodes_11 d_Nodes_again_39 ?_
          refine Sm_iload E d_Nodes_again_42 4 rfl ?_
          refine Sm_gd fun hi => ldC_15 E (inb_in hi) d_Nodes_again_44 ?_
          refine Sm_cSi (As := [.int (ga u 8 x5)]) (st := []) (n := 1) E exOk wC_as (fun _ h => cC_Nodes_works (ga u 8 x5) u h) gk_Nodes_61 dk_Nodes_works rfl ⟨rfl, rfl⟩ ⟨Nat.le_of_ble_eq_true rfl, Nat.le_of_ble_eq_true rfl⟩ rfl (Nat.le_of_ble_eq_true rfl) d_Nodes_again_45 fun r3 _ => ?_
          refine Sm_if_ne (tgt := 88) E d_Nodes_again_48 (by decide) (fun _ => ?_) (fun _ => ?_)
          · refine Sm_aload_n E d_Nodes_again_88 rfl 0 rfl ?_
            refine gfC_14_seconds E fl_Nodes_18 d_Nodes_again_89 ?_
            refine Sm_iload E d_Nodes_again_92 4 rfl ?_
            refine Sm_gd fun hi => ldC_17 E (inb_in hi) d_Nodes_again_94 ?_
            refine Sm_if_ge (tgt := 123) E d_Nodes_again_95 (by decide) (fun _ => ?_) (fun _ => ?_)
            · refine Sm_aload_n E d_Nodes_again_123 rfl 0 rfl ?_
              refine Sm_aload_n E d_Nodes_again_124 rfl 0 rfl ?_
              refine gfC_14_kinds E fl_Nodes_11 d_Nodes_again_125 ?_
              refine Sm_iload E d_Nodes_again_128 4 rfl ?_
              refine Sm_gd fun hi => ldC_15 E (inb_in hi) d_Nodes_again_130 ?_
              refine Sm_aload_n E d_Nodes_again_131 rfl 0 rfl ?_
              refine gfC_14_firsts E fl_Nodes_15 d_Nodes_again_132 ?_
              refine Sm_iload E d_Nodes_again_135 4 rfl ?_
              refine Sm_gd fun hi => ldC_16 E (inb_in hi) d_Nodes_again_137 ?_
              refine Sm_iload_n E d_Nodes_again_138 rfl 2 rfl ?_
              refine Sm_iadd E d_Nodes_again_139 ?_
              refine Sm_aload_n E d_Nodes_again_140 rfl 0 rfl ?_
              refine gfC_14_seconds E fl_Nodes_18 d_Nodes_again_141 ?_
              refine Sm_iload E d_Nodes_again_144 4 rfl ?_
              refine Sm_gd fun hi => ldC_17 E (inb_in hi) d_Nodes_again_146 ?_
              refine Sm_iload_n E d_Nodes_again_147 rfl 2 rfl ?_
              refine Sm_iadd E d_Nodes_again_148 ?_
              refine Sm_cVI (As := [.int (ga u 8 x5), .int ((ga u 9 x5) + x3), .int ((ga u 10 x5) + x3)]) (b := (G.1 14)) (st := []) (n := 3) E exOk wC_as (fun _ h => cC_Nodes_join (ga u 8 x5) ((ga u 9 x5) + x3) ((ga u 10 x5) + x3) u h) gk_Nodes_68 dk_Nodes_join rfl ⟨rfl, rfl⟩ ⟨Nat.le_of_ble_eq_true rfl, Nat.le_of_ble_eq_true rfl⟩ (rvW (q0 := 14) (ci := 5) E rfl rfl rfl) rfl (Nat.le_of_ble_eq_true rfl) d_Nodes_again_149 fun r4 u5 _ => ?_
              refine Sm_istore (lv' := [(4, .int r4), (0, .ref (G.1 14)), (2, .int x2), (3, .int x3), (5, .int x5)]) E d_Nodes_again_152 (by decide) rfl ?_
              refine Sm_iinc (k := 4) (d := 1) E d_Nodes_again_154 rfl rfl (by decide) fun y6 _ => Sm_lvs (lv' := [(5, .int y6), (4, .int r4), (0, .ref (G.1 14)), (2, .int x2), (3, .int x3)]) rfl ?_
              refine Sm_goto (tgt := 17) E d_Nodes_again_157 (by decide) ?_
              exact Sm_sub [2, 3, 4, 1, 0] rfl (h17 _ _ _ _ _)
            · refine Sm_aload_n E d_Nodes_again_98 rfl 0 rfl ?_
              refine Sm_aload_n E d_Nodes_again_99 rfl 0 rfl ?_
              refine gfC_14_kinds E fl_Nodes_11 d_Nodes_again_100 ?_
              refine Sm_iload E d_Nodes_again_103 4 rfl ?_
              refine Sm_gd fun hi => ldC_15 E (inb_in hi) d_Nodes_again_105 ?_
              refine Sm_aload_n E d_Nodes_again_106 rfl 0 rfl ?_
              refine gfC_14_firsts E fl_Nodes_15 d_Nodes_again_107 ?_
              refine Sm_iload E d_Nodes_again_110 4 rfl ?_
              refine Sm_gd fun hi => ldC_16 E (inb_in hi) d_Nodes_again_112 ?_
              refine Sm_iload_n E d_Nodes_again_113 rfl 2 rfl ?_
              refine Sm_iadd E d_Nodes_again_114 ?_
              refine Sm_cVI (As := [.int (ga u 8 x5), .int ((ga u 9 x5) + x3)]) (b := (G.1 14)) (st := []) (n := 2) E exOk wC_as (fun _ h => cC_Nodes_top (ga u 8 x5) ((ga u 9 x5) + x3) u h) gk_Nodes_65 dk_Nodes_top rfl ⟨rfl, rfl⟩ ⟨Nat.le_of_ble_eq_true rfl, Nat.le_of_ble_eq_true rfl⟩ (rvW (q0 := 14) (ci := 5) E rfl rfl rfl) rfl (Nat.le_of_ble_eq_true rfl) d_Nodes_again_115 fun r7 u8 _ => ?_
              refine Sm_istore (lv' := [(4, .int r7), (0, .ref (G.1 14)), (2, .int x2), (3, .int x3), (5, .int x5)]) E d_Nodes_again_118 (by decide) rfl ?_
              refine Sm_goto (tgt := 154) E d_Nodes_again_120 (by decide) ?_
              refine Sm_iinc (k := 4) (d := 1) E d_Nodes_again_154 rfl rfl (by decide) fun y9 _ => Sm_lvs (lv' := [(5, .int y9), (4, .int r7), (0, .ref (G.1 14)), (2, .int x2), (3, .int x3)]) rfl ?_
              refine Sm_goto (tgt := 17) E d_Nodes_again_157 (by decide) ?_
              exact Sm_sub [2, 3, 4, 1, 0] rfl (h17 _ _ _ _ _)
          · refine Sm_aload_n E d_Nodes_again_51 rfl 0 rfl ?_
            refine Sm_aload_n E d_Nodes_again_52 rfl 0 rfl ?_
            refine gfC_14_kinds E fl_Nodes_11 d_Nodes_again_53 ?_
            refine Sm_iload E d_Nodes_again_56 4 rfl ?_
            refine Sm_gd fun hi => ldC_15 E (inb_in hi) d_Nodes_again_58 ?_
            refine Sm_aload_n E d_Nodes_again_59 rfl 0 rfl ?_
            refine gfC_14_firsts E fl_Nodes_15 d_Nodes_again_60 ?_
            refine Sm_iload E d_Nodes_again_63 4 rfl ?_
            refine Sm_gd fun hi => ldC_16 E (inb_in hi) d_Nodes_again_65 ?_
            refine Sm_aload_n E d_Nodes_again_66 rfl 0 rfl ?_
            refine gfC_14_spans E fl_Nodes_33 d_Nodes_again_67 ?_
            refine Sm_iload E d_Nodes_again_70 4 rfl ?_
            refine Sm_gd fun hi => ldC_22 E (inb_in hi) d_Nodes_again_72 ?_
            refine Sm_aload_n E d_Nodes_again_73 rfl 0 rfl ?_
            refine gfC_14_qualifiers E fl_Nodes_36 d_Nodes_again_74 ?_
            refine Sm_iload E d_Nodes_again_77 4 rfl ?_
            refine Sm_gd fun hi => ldC_23 E (inb_in hi) d_Nodes_again_79 ?_
            refine Sm_cVI (As := [.int (ga u 8 x5), .int (ga u 9 x5), .int (ga u 15 x5), .int (ga u 16 x5)]) (b := (G.1 14)) (st := []) (n := 4) E exOk wC_as (fun _ h => cC_Nodes_leaf (ga u 8 x5) (ga u 9 x5) (ga u 15 x5) (ga u 16 x5) u h) gk_Nodes_47 dk_Nodes_leaf rfl ⟨rfl, rfl⟩ ⟨Nat.le_of_ble_eq_true rfl, Nat.le_of_ble_eq_true rfl⟩ (rvW (q0 := 14) (ci := 5) E rfl rfl rfl) rfl (Nat.le_of_ble_eq_true rfl) d_Nodes_again_80 fun r10 u11 _ => ?_
            refine Sm_istore (lv' := [(4, .int r10), (0, .ref (G.1 14)), (2, .int x2), (3, .int x3), (5, .int x5)]) E d_Nodes_again_83 (by decide) rfl ?_
            refine Sm_goto (tgt := 154) E d_Nodes_again_85 (by decide) ?_
            refine Sm_iinc (k := 4) (d := 1) E d_Nodes_again_154 rfl rfl (by decide) fun y12 _ => Sm_lvs (lv' := [(5, .int y12), (4, .int r10), (0, .ref (G.1 14)), (2, .int x2), (3, .int x3)]) rfl ?_
            refine Sm_goto (tgt := 17) E d_Nodes_again_157 (by decide) ?_
            exact Sm_sub [2, 3, 4, 1, 0] rfl (h17 _ _ _ _ _)
set_option maxRecDepth 100000 in
set_option maxHeartbeats 4000000 in
theorem cC_Nodes_again {l : Launch} {D : va_G} {G : Gx} (x1 : Int32) (x2 : Int32) (u : St) {res : Int32 × St} (hm : mC_Nodes_again x1 x2 u = some res) : KC l D G y_Nodes_again (.code y_Nodes_again prog_5_method_11_code 6 (some .int)) { frames := 2, cells := 0, slots := 0, locals := 67 } [.ref (G.1 14), .int x1, .int x2] u (qI D vwCl (wC G) (tyW G) (adsC G) res) := by
  refine Ct_I (by decide) wC_as (Nat.le_of_ble_eq_true rfl) hm (fun X _ _ E hR => ?_)
  refine Sm_lvs (lv' := [(0, .ref (G.1 14)), (1, .int x1), (2, .int x2)]) rfl ?_
  rw [mC_Nodes_again]
  refine Sm_aload_n E d_Nodes_again_0 rfl 0 rfl ?_
  refine gfC_14_size E fl_Nodes_39 d_Nodes_again_1 ?_
  refine Sm_iload_n E d_Nodes_again_4 rfl 1 rfl ?_
  refine Sm_isub E d_Nodes_again_5 ?_
  refine Sm_leti fun y1 _ => ?_
  refine Sm_istore_n (lv' := [(3, .int y1), (0, .ref (G.1 14)), (1, .int x1), (2, .int x2)]) E d_Nodes_again_6 rfl (by decide) rfl ?_
  refine Sm_iconst (v := 0) E d_Nodes_again_7 (by decide) ?_
  refine Sm_istore (lv' := [(4, .int 0), (3, .int y1), (0, .ref (G.1 14)), (1, .int x1), (2, .int x2)]) E d_Nodes_again_8 (by decide) rfl ?_
  refine Sm_iload_n E d_Nodes_again_10 rfl 3 rfl ?_
  refine Sm_iconst (v := 0) E d_Nodes_again_11 (by decide) ?_
  refine Sm_mmax E ml_Nodes_55 ⟨Nat.le_of_ble_eq_true rfl, Nat.le_of_ble_eq_true rfl⟩ (Nat.le_of_ble_eq_true rfl) d_Nodes_again_12 ?_
  refine Sm_leti fun y2 _ => ?_
  refine Sm_istore (lv' := [(5, .int y2), (4, .int 0), (3, .int y1), (0, .ref (G.1 14)), (1, .int x1), (2, .int x2)]) E d_Nodes_again_15 (by decide) rfl ?_
  exact Sm_sub [3, 5, 2, 1, 0] rfl (tC_Nodes_again_L17 E hR FU _ _ _ _ _)
set_option maxRecDepth 100000 in
set_option maxHeartbeats 4000000 in
theorem cC_Parser_aggregate {l : Launch} {D : va_G} {G : Gx} (u : St) {res : Int32 × St} (hm : mC_Parser_aggregate u = some res) : KC l D G y_Parser_aggregate (.code y_Parser_aggregate prog_6_method_39_code 1 (some .int)) { frames := 5, cells := 0, slots := 0, locals := 109 } [.ref (G.1 28)] u (qI D vwCl (wC G) (tyW G) (adsC G) res) := by
  refine Ct_I (by decide) wC_as (Nat.le_of_ble_eq_true rfl) hm (fun X _ _ E hR => ?_)
  refine Sm_lvs (lv' := [(0, .ref (G.1 28))]) rfl ?_
  rw [mC_Parser_aggregate]
  refine Sm_aload_n E d_Parser_aggregate_0 rfl 0 rfl ?_
  refine gfC_28_tokens E fl_Parser_9 d_Parser_aggregate_1 ?_
  refine Sm_ldcS_w E sr_Parser_367 d_Parser_aggregate_4 ?_
  refine Sm_cVI (As := [.ref (G.2.2.1 10)]) (b := (G.1 10)) (st := []) (n := 1) E exOk wC_as (fun _ h => cC_Tokens_takes 10 u h) gk_Parser_29 dk_Tokens_takes rfl ⟨rfl, rfl⟩ ⟨Nat.le_of_ble_eq_true rfl, Nat.le_of_ble_eq_true rfl⟩ (rvW (q0 := 10) (ci := 9) E rfl rfl rfl) rfl (Nat.le_of_ble_eq_true rfl) d_Parser_aggregate_7 fun r1 u2 _ => ?_
  refine Sm_if_eq (tgt := 16) E d_Parser_aggregate_10 (by decide) (fun _ => ?_) (fun _ => ?_)
  · refine Sm_aload_n E d_Parser_aggregate_16 rfl 0 rfl ?_
    refine gfC_28_tokens E fl_Parser_9 d_Parser_aggregate_17 ?_
    refine Sm_ldcS_w E sr_Parser_369 d_Parser_aggregate_20 ?_
    refine Sm_cVI (As := [.ref (G.2.2.1 11)]) (b := (G.1 10)) (st := []) (n := 1) E exOk wC_as (fun _ h => cC_Tokens_takes 11 u2 h) gk_Parser_29 dk_Tokens_takes rfl ⟨rfl, rfl⟩ ⟨Nat.le_of_ble_eq_true rfl, Nat.le_of_ble_eq_true rfl⟩ (rvW (q0 := 10) (ci := 9) E rfl rfl rfl) rfl (Nat.le_of_ble_eq_true rfl) d_Parser_aggregate_23 fun r3 u4 _ => ?_
    refine Sm_if_eq (tgt := 32) E d_Parser_aggregate_26 (by decide) (fun _ => ?_) (fun _ => ?_)
    · refine Sm_aload_n E d_Parser_aggregate_32 rfl 0 rfl ?_
      refine gfC_28_tokens E fl_Parser_9 d_Parser_aggregate_33 ?_
      refine Sm_ldcS_w E sr_Parser_371 d_Parser_aggregate_36 ?_
      refine Sm_cVI (As := [.ref (G.2.2.1 12)]) (b := (G.1 10)) (st := []) (n := 1) E exOk wC_as (fun _ h => cC_Tokens_takes 12 u4 h) gk_Parser_29 dk_Tokens_takes rfl ⟨rfl, rfl⟩ ⟨Nat.le_of_ble_eq_true rfl, Nat.le_of_ble_eq_true rfl⟩ (rvW (q0 := 10) (ci := 9) E rfl rfl rfl) rfl (Nat.le_of_ble_eq_true rfl) d_Parser_aggregate_39 fun r5 u6 _ => ?_
      refine Sm_if_eq (tgt := 48) E d_Parser_aggregate_42 (by decide) (fun _ => ?_) (fun _ => ?_)
      · refine Sm_aload_n E d_Parser_aggregate_48 rfl 0 rfl ?_
        refine gfC_28_tokens E fl_Parser_9 d_Parser_aggregate_49 ?_
        refine Sm_ldcS_w E sr_Parser_373 d_Parser_aggregate_52 ?_
        refine Sm_cVI (As := [.ref (G.2.2.1 13)]) (b := (G.1 10)) (st := []) (n := 1) E exOk wC_as (fun _ h => cC_Tokens_takes 13 u6 h) gk_Parser_29 dk_Tokens_takes rfl ⟨rfl, rfl⟩ ⟨Nat.le_of_ble_eq_true rfl, Nat.le_of_ble_eq_true rfl⟩ (rvW (q0 := 10) (ci := 9) E rfl rfl rfl) rfl (Nat.le_of_ble_eq_true rfl) d_Parser_aggregate_55 fun r7 u8 _ => ?_
        refine Sm_if_eq (tgt := 66) E d_Parser_aggregate_58 (by decide) (fun _ => ?_) (fun _ => ?_)
        · refine Sm_iconst (v := (-1)) E d_Parser_aggregate_66 (by decide) ?_
          exact Sm_retI hR d_Parser_aggregate_67
        · refine Sm_bipush (v := 9) E d_Parser_aggregate_61 (by decide) ?_
          refine Sm_goto (tgt := 67) E d_Parser_aggregate_63 (by decide) ?_
          exact Sm_retI hR d_Parser_aggregate_67
      · refine Sm_bipush (v := 8) E d_Parser_aggregate_45 (by decide) ?_
        exact Sm_retI hR d_Parser_aggregate_47
    · refine Sm_bipush (v := 7) E d_Parser_aggregate_29 (by decide) ?_
      exact Sm_retI hR d_Parser_aggregate_31
  · refine Sm_bipush (v := 6) E d_Parser_aggregate_13 (by decide) ?_
    exact Sm_retI hR d_Parser_aggregate_15
set_option maxRecDepth 100000 in
set_option maxHeartbeats 4000000 in
theorem tC_Tokens_numberOf_L5 {X : Cx} {G : Gx} {res : Int64} {u : St} (E : EC X G prog_9_method_9_code R_Tokens 5 { frames := 1, cells := 0, slots := 0, locals := 21 }) (hR : RtJ X vwCl (wC G) prog_9_method_9_code (res, u)) : ∀ (n : Nat) (x1 : Int32) (x2 : Int64) (x4 : Int32) , SC X G 5 res (mC_Tokens_numberOf_L5 n x1 x2 x4 u) u 5 [(0, .ref (G.1 10)), (1, .int x1), (2, .long x2), (4, .int x4)] [] := by
  intro n
  induction n with
  | zero => intro x1 x2 x4; exact Sm_none
  | succ n h5 =>
    intro x1 x2 x4
    rw [mC_Tokens_numberOf_L5]
    refine Sm_iload E d_Tokens_numberOf_5 3 rfl ?_
    refine Sm_iload_n E d_Tokens_numberOf_7 rfl 1 rfl ?_
    refine Sm_cSi (As := [.int x1]) (st := [.int x4]) (n := 1) E exOk wC_as (fun _ h => cC_Text_sizeOf x1 u h) gk_Tokens_41 dk_Text_sizeOf rfl ⟨rfl, rfl⟩ ⟨Nat.le_of_ble_eq_true rfl, Nat.le_of_ble_eq_true rfl⟩ rfl (Nat.le_of_ble_eq_true rfl) d_Tokens_numberOf_8 fun r1 _ => ?_
    refine Sm_icmp_ge (tgt := 45) E d_Tokens_numberOf_11 (by decide) (fun _ => ?_) (fun _ => ?_)
    · refine Sm_lload_n E d_Tokens_numberOf_45 rfl 2 rfl ?_
      exact Sm_retj hR d_Tokens_numberOf_46
    · refine Sm_lload_n E d_Tokens_numberOf_14 rfl 2 rfl ?_
      refine Sm_ldc2 (v := 10) E kc_Tokens_57 d_Tokens_numberOf_15 ?_
      refine Sm_lmul E d_Tokens_numberOf_18 ?_
      refine Sm_aload_n E d_Tokens_numberOf_19 rfl 0 rfl ?_
      refine gfC_10_text E fl_Tokens_10 d_Tokens_numberOf_20 ?_
      refine Sm_iload_n E d_Tokens_numberOf_23 rfl 1 rfl ?_
      refine Sm_cSi (As := [.int x1]) (st := [.ref (G.1 11), .long (x2 * 10)]) (n := 1) E exOk wC_as (fun _ h => cC_Text_startOf x1 u h) gk_Tokens_49 dk_Text_startOf rfl ⟨rfl, rfl⟩ ⟨Nat.le_of_ble_eq_true rfl, Nat.le_of_ble_eq_true rfl⟩ rfl (Nat.le_of_ble_eq_true rfl) d_Tokens_numberOf_24 fun r2 _ => ?_
      refine Sm_iload E d_Tokens_numberOf_27 3 rfl ?_
      refine Sm_iadd E d_Tokens_numberOf_29 ?_
      refine Sm_cVi (As := [.int (r2 + x4)]) (b := (G.1 11)) (st := [.long (x2 * 10)]) (n := 1) E exOk wC_as (fun _ h => cC_Text_at_11 (r2 + x4) u h) gk_Tokens_34 dk_Text_at rfl ⟨rfl, rfl⟩ ⟨Nat.le_of_ble_eq_true rfl, Nat.le_of_ble_eq_true rfl⟩ (rvW (q0 := 11) (ci := 8) E rfl rfl rfl) rfl (Nat.le_of_ble_eq_true rfl) d_Tokens_numberOf_30 fun r3 _ => ?_
      refine Sm_bipush (v := 48) E d_Tokens_numberOf_33 (by decide) ?_
      refine Sm_isub E d_Tokens_numberOf_35 ?_
      refine Sm_i2l E d_Tokens_numberOf_36 ?_
      refine Sm_ladd E d_Tokens_numberOf_37 ?_
      refine Sm_letl fun y4 _ => ?_
      refine Sm_lstore_n (lv' := [(2, .long y4), (0, .ref (G.1 10)), (1, .int x1), (4, .int x4)]) E d_Tokens_numberOf_38 rfl (by decide) rfl ?_
      refine Sm_iinc (k := 3) (d := 1) E d_Tokens_numberOf_39 rfl rfl (by decide) fun y5 _ => Sm_lvs (lv' := [(4, .int y5), (2, .long y4), (0, .ref (G.1 10)), (1, .int x1)]) rfl ?_
      refine Sm_goto (tgt := 5) E d_Tokens_numberOf_42 (by decide) ?_
      exact Sm_sub [2, 3, 1, 0] rfl (h5 _ _ _)
set_option maxRecDepth 100000 in
set_option maxHeartbeats 4000000 in
theorem cC_Tokens_numberOf {l : Launch} {D : va_G} {G : Gx} (x1 : Int32) (u : St) {res : Int64} (hm : mC_Tokens_numberOf x1 u = some res) : KC l D G y_Tokens_numberOf (.code y_Tokens_numberOf prog_9_method_9_code 5 (some .long)) { frames := 1, cells := 0, slots := 0, locals := 21 } [.ref (G.1 10), .int x1] u (qJ D vwCl (wC G) (tyW G) (adsC G) (res, u)) := by
  refine Ct_j (by decide) wC_as (Nat.le_of_ble_eq_true rfl) hm (fun X _ _ E hR => ?_)
  refine Sm_lvs (lv' := [(0, .ref (G.1 10)), (1, .int x1)]) rfl ?_
  rw [mC_Tokens_numberOf]
  refine Sm_lconst (v := 0) E d_Tokens_numberOf_0 (by decide) ?_
  refine Sm_lstore_n (lv' := [(2, .long 0), (0, .ref (G.1 10)), (1, .int x1)]) E d_Tokens_numberOf_1 rfl (by decide) rfl ?_
  refine Sm_iconst (v := 0) E d_Tokens_numberOf_2 (by decide) ?_
  refine Sm_istore (lv' := [(4, .int 0), (2, .long 0), (0, .ref (G.1 10)), (1, .int x1)]) E d_Tokens_numberOf_3 (by decide) rfl ?_
  exact Sm_sub [2, 3, 1, 0] rfl (tC_Tokens_numberOf_L5 E hR FU _ _ _)
set_option maxRecDepth 100000 in
set_option maxHeartbeats 4000000 in
theorem cC_Parser_leaf {l : Launch} {D : va_G} {G : Gx} (u : St) {res : Int32 × St} (hm : mC_Parser_leaf u = some res) : KC l D G y_Parser_leaf (.code y_Parser_leaf prog_6_method_40_code 2 (some .int)) { frames := 5, cells := 0, slots := 0, locals := 109 } [.ref (G.1 28)] u (qI D vwCl (wC G) (tyW G) (adsC G) res) := by
  refine Ct_I (by decide) wC_as (Nat.le_of_ble_eq_true rfl) hm (fun X _ _ E hR => ?_)
  refine Sm_lvs (lv' := [(0, .ref (G.1 28))]) rfl ?_
  rw [mC_Parser_leaf]
  refine Sm_aload_n E d_Parser_leaf_0 rfl 0 rfl ?_
  refine gfC_28_tokens E fl_Parser_9 d_Parser_leaf_1 ?_
  refine Sm_iconst (v := 2) E d_Parser_leaf_4 (by decide) ?_
  refine Sm_cVI (As := [.int 2]) (b := (G.1 10)) (st := []) (n := 1) E exOk wC_as (fun _ h => cC_Tokens_take 2 u h) gk_Parser_129 dk_Tokens_take rfl ⟨rfl, rfl⟩ ⟨Nat.le_of_ble_eq_true rfl, Nat.le_of_ble_eq_true rfl⟩ (rvW (q0 := 10) (ci := 9) E rfl rfl rfl) rfl (Nat.le_of_ble_eq_true rfl) d_Parser_leaf_5 fun r1 u2 _ => ?_
  refine Sm_istore_n (lv' := [(1, .int r1), (0, .ref (G.1 28))]) E d_Parser_leaf_8 rfl (by decide) rfl ?_
  refine Sm_iload_n E d_Parser_leaf_9 rfl 0 rfl ?_
  refine Sm_if_lt (tgt := 25) E d_Parser_leaf_10 (by decide) (fun _ => ?_) (fun _ => ?_)
  · refine Sm_aload_n E d_Parser_leaf_25 rfl 1 rfl ?_
    refine gfC_28_tokens E fl_Parser_9 d_Parser_leaf_26 ?_
    refine Sm_iconst (v := 3) E d_Parser_leaf_29 (by decide) ?_
    refine Sm_cVI (As := [.int 3]) (b := (G.1 10)) (st := []) (n := 1) E exOk wC_as (fun _ h => cC_Tokens_take 3 u2 h) gk_Parser_129 dk_Tokens_take rfl ⟨rfl, rfl⟩ ⟨Nat.le_of_ble_eq_true rfl, Nat.le_of_ble_eq_true rfl⟩ (rvW (q0 := 10) (ci := 9) E rfl rfl rfl) rfl (Nat.le_of_ble_eq_true rfl) d_Parser_leaf_30 fun r3 u4 _ => ?_
    refine Sm_istore_n (lv' := [(1, .int r3), (0, .ref (G.1 28))]) E d_Parser_leaf_33 rfl (by decide) rfl ?_
    refine Sm_iload_n E d_Parser_leaf_34 rfl 0 rfl ?_
    refine Sm_if_lt (tgt := 50) E d_Parser_leaf_35 (by decide) (fun _ => ?_) (fun _ => ?_)
    · refine Sm_aload_n E d_Parser_leaf_50 rfl 1 rfl ?_
      refine gfC_28_tokens E fl_Parser_9 d_Parser_leaf_51 ?_
      refine Sm_iconst (v := 4) E d_Parser_leaf_54 (by decide) ?_
      refine Sm_cVI (As := [.int 4]) (b := (G.1 10)) (st := []) (n := 1) E exOk wC_as (fun _ h => cC_Tokens_take 4 u4 h) gk_Parser_129 dk_Tokens_take rfl ⟨rfl, rfl⟩ ⟨Nat.le_of_ble_eq_true rfl, Nat.le_of_ble_eq_true rfl⟩ (rvW (q0 := 10) (ci := 9) E rfl rfl rfl) rfl (Nat.le_of_ble_eq_true rfl) d_Parser_leaf_55 fun r5 u6 _ => ?_
      refine Sm_istore_n (lv' := [(1, .int r5), (0, .ref (G.1 28))]) E d_Parser_leaf_58 rfl (by decide) rfl ?_
      refine Sm_iload_n E d_Parser_leaf_59 rfl 0 rfl ?_
      refine Sm_if_lt (tgt := 84) E d_Parser_leaf_60 (by decide) (fun _ => ?_) (fun _ => ?_)
      · refine Sm_aload_n E d_Parser_leaf_84 rfl 1 rfl ?_
        refine gfC_28_tokens E fl_Parser_9 d_Parser_leaf_85 ?_
        refine Sm_ldcS E sr_Parser_170 d_Parser_leaf_88 ?_
        refine Sm_cVI (As := [.ref (G.2.2.1 14)]) (b := (G.1 10)) (st := []) (n := 1) E exOk wC_as (fun _ h => cC_Tokens_takes 14 u6 h) gk_Parser_29 dk_Tokens_takes rfl ⟨rfl, rfl⟩ ⟨Nat.le_of_ble_eq_true rfl, Nat.le_of_ble_eq_true rfl⟩ (rvW (q0 := 10) (ci := 9) E rfl rfl rfl) rfl (Nat.le_of_ble_eq_true rfl) d_Parser_leaf_90 fun r7 u8 _ => ?_
        refine Sm_if_eq (tgt := 108) E d_Parser_leaf_93 (by decide) (fun _ => ?_) (fun _ => ?_)
        · refine Sm_aload_n E d_Parser_leaf_108 rfl 1 rfl ?_
          refine gfC_28_tokens E fl_Parser_9 d_Parser_leaf_109 ?_
          refine Sm_ldcS_w E sr_Parser_375 d_Parser_leaf_112 ?_
          refine Sm_cVI (As := [.ref (G.2.2.1 15)]) (b := (G.1 10)) (st := []) (n := 1) E exOk wC_as (fun _ h => cC_Tokens_takes 15 u8 h) gk_Parser_29 dk_Tokens_takes rfl ⟨rfl, rfl⟩ ⟨Nat.le_of_ble_eq_true rfl, Nat.le_of_ble_eq_true rfl⟩ (rvW (q0 := 10) (ci := 9) E rfl rfl rfl) rfl (Nat.le_of_ble_eq_true rfl) d_Parser_leaf_115 fun r9 u10 _ => ?_
          refine Sm_if_eq (tgt := 133) E d_Parser_leaf_118 (by decide) (fun _ => ?_) (fun _ => ?_)
          · refine Sm_aload_n E d_Parser_leaf_133 rfl 1 rfl ?_
            refine gfC_28_tokens E fl_Parser_9 d_Parser_leaf_134 ?_
            refine Sm_ldcS_w E sr_Parser_377 d_Parser_leaf_137 ?_
            refine Sm_cVI (As := [.ref (G.2.2.1 16)]) (b := (G.1 10)) (st := []) (n := 1) E exOk wC_as (fun _ h => cC_Tokens_takes 16 u10 h) gk_Parser_29 dk_Tokens_takes rfl ⟨rfl, rfl⟩ ⟨Nat.le_of_ble_eq_true rfl, Nat.le_of_ble_eq_true rfl⟩ (rvW (q0 := 10) (ci := 9) E rfl rfl rfl) rfl (Nat.le_of_ble_eq_true rfl) d_Parser_leaf_140 fun r11 u12 _ => ?_
            refine Sm_if_eq (tgt := 160) E d_Parser_leaf_143 (by decide) (fun _ => ?_) (fun _ => ?_)
            · refine Sm_iconst (v := (-1)) E d_Parser_leaf_160 (by decide) ?_
              exact Sm_retI hR d_Parser_leaf_161
            · refine Sm_aload_n E d_Parser_leaf_146 rfl 1 rfl ?_
              refine gfC_28_nodes E fl_Parser_15 d_Parser_leaf_147 ?_
              refine Sm_iconst (v := 3) E d_Parser_leaf_150 (by decide) ?_
              refine Sm_iconst (v := 0) E d_Parser_leaf_151 (by decide) ?_
              refine Sm_iconst (v := (-1)) E d_Parser_leaf_152 (by decide) ?_
              refine Sm_iconst (v := (-1)) E d_Parser_leaf_153 (by decide) ?_
              refine Sm_cVI (As := [.int 3, .int 0, .int (-1), .int (-1)]) (b := (G.1 14)) (st := []) (n := 4) E exOk wC_as (fun _ h => cC_Nodes_leaf 3 0 (-1) (-1) u12 h) gk_Parser_365 dk_Nodes_leaf rfl ⟨rfl, rfl⟩ ⟨Nat.le_of_ble_eq_true rfl, Nat.le_of_ble_eq_true rfl⟩ (rvW (q0 := 14) (ci := 5) E rfl rfl rfl) rfl (Nat.le_of_ble_eq_true rfl) d_Parser_leaf_154 fun r13 u14 _ => ?_
              refine Sm_goto (tgt := 161) E d_Parser_leaf_157 (by decide) ?_
              exact Sm_retI hR d_Parser_leaf_161
          · refine Sm_aload_n E d_Parser_leaf_121 rfl 1 rfl ?_
            refine gfC_28_nodes E fl_Parser_15 d_Parser_leaf_122 ?_
            refine Sm_iconst (v := 3) E d_Parser_leaf_125 (by decide) ?_
            refine Sm_iconst (v := 1) E d_Parser_leaf_126 (by decide) ?_
            refine Sm_iconst (v := (-1)) E d_Parser_leaf_127 (by decide) ?_
            refine Sm_iconst (v := (-1)) E d_Parser_leaf_128 (by decide) ?_
            refine Sm_cVI (As := [.int 3, .int 1, .int (-1), .int (-1)]) (b := (G.1 14)) (st := []) (n := 4) E exOk wC_as (fun _ h => cC_Nodes_leaf 3 1 (-1) (-1) u10 h) gk_Parser_365 dk_Nodes_leaf rfl ⟨rfl, rfl⟩ ⟨Nat.le_of_ble_eq_true rfl, Nat.le_of_ble_eq_true rfl⟩ (rvW (q0 := 14) (ci := 5) E rfl rfl rfl) rfl (Nat.le_of_ble_eq_true rfl) d_Parser_leaf_129 fun r15 u16 _ => ?_
            exact Sm_retI hR d_Parser_leaf_132
        · refine Sm_aload_n E d_Parser_leaf_96 rfl 1 rfl ?_
          refine gfC_28_nodes E fl_Parser_15 d_Parser_leaf_97 ?_
          refine Sm_iconst (v := 0) E d_Parser_leaf_100 (by decide) ?_
          refine Sm_iconst (v := (-1)) E d_Parser_leaf_101 (by decide) ?_
          refine Sm_iconst (v := (-1)) E d_Parser_leaf_102 (by decide) ?_
          refine Sm_iconst (v := (-1)) E d_Parser_leaf_103 (by decide) ?_
          refine Sm_cVI (As := [.int 0, .int (-1), .int (-1), .int (-1)]) (b := (G.1 14)) (st := []) (n := 4) E exOk wC_as (fun _ h => cC_Nodes_leaf 0 (-1) (-1) (-1) u8 h) gk_Parser_365 dk_Nodes_leaf rfl ⟨rfl, rfl⟩ ⟨Nat.le_of_ble_eq_true rfl, Nat.le_of_ble_eq_true rfl⟩ (rvW (q0 := 14) (ci := 5) E rfl rfl rfl) rfl (Nat.le_of_ble_eq_true rfl) d_Parser_leaf_104 fun r17 u18 _ => ?_
          exact Sm_retI hR d_Parser_leaf_107
      · refine Sm_aload_n E d_Parser_leaf_63 rfl 1 rfl ?_
        refine gfC_28_nodes E fl_Parser_15 d_Parser_leaf_64 ?_
        refine Sm_bipush (v := 28) E d_Parser_leaf_67 (by decide) ?_
        refine Sm_aload_n E d_Parser_leaf_69 rfl 1 rfl ?_
        refine gfC_28_tokens E fl_Parser_9 d_Parser_leaf_70 ?_
        refine Sm_iload_n E d_Parser_leaf_73 rfl 0 rfl ?_
        refine Sm_cVj (As := [.int r5]) (b := (G.1 10)) (st := [.int 28, .ref (G.1 14)]) (n := 1) E exOk wC_as (fun _ h => cC_Tokens_numberOf r5 u6 h) gk_Parser_261 dk_Tokens_numberOf rfl ⟨rfl, rfl⟩ ⟨Nat.le_of_ble_eq_true rfl, Nat.le_of_ble_eq_true rfl⟩ (rvW (q0 := 10) (ci := 9) E rfl rfl rfl) rfl (Nat.le_of_ble_eq_true rfl) d_Parser_leaf_74 fun r19 _ => ?_
        refine Sm_l2i E d_Parser_leaf_77 ?_
        refine Sm_iconst (v := (-1)) E d_Parser_leaf_78 (by decide) ?_
        refine Sm_iconst (v := (-1)) E d_Parser_leaf_79 (by decide) ?_
        refine Sm_cVI (As := [.int 28, .int (Int64.toInt32 r19), .int (-1), .int (-1)]) (b := (G.1 14)) (st := []) (n := 4) E exOk wC_as (fun _ h => cC_Nodes_leaf 28 (Int64.toInt32 r19) (-1) (-1) u6 h) gk_Parser_365 dk_Nodes_leaf rfl ⟨rfl, rfl⟩ ⟨Nat.le_of_ble_eq_true rfl, Nat.le_of_ble_eq_true rfl⟩ (rvW (q0 := 14) (ci := 5) E rfl rfl rfl) rfl (Nat.le_of_ble_eq_true rfl) d_Parser_leaf_80 fun r20 u21 _ => ?_
        exact Sm_retI hR d_Parser_leaf_83
    · refine Sm_aload_n E d_Parser_leaf_38 rfl 1 rfl ?_
      refine gfC_28_nodes E fl_Parser_15 d_Parser_leaf_39 ?_
      refine Sm_iconst (v := 2) E d_Parser_leaf_42 (by decide) ?_
      refine Sm_iconst (v := (-1)) E d_Parser_leaf_43 (by decide) ?_
      refine Sm_iload_n E d_Parser_leaf_44 rfl 0 rfl ?_
      refine Sm_iconst (v := (-1)) E d_Parser_leaf_45 (by decide) ?_
      refine Sm_cVI (As := [.int 2, .int (-1), .int r3, .int (-1)]) (b := (G.1 14)) (st := []) (n := 4) E exOk wC_as (fun _ h => cC_Nodes_leaf 2 (-1) r3 (-1) u4 h) gk_Parser_365 dk_Nodes_leaf rfl ⟨rfl, rfl⟩ ⟨Nat.le_of_ble_eq_true rfl, Nat.le_of_ble_eq_true rfl⟩ (rvW (q0 := 14) (ci := 5) E rfl rfl rfl) rfl (Nat.le_of_ble_eq_true rfl) d_Parser_leaf_46 fun r22 u23 _ => ?_
      exact Sm_retI hR d_Parser_leaf_49
  · refine Sm_aload_n E d_Parser_leaf_13 rfl 1 rfl ?_
    refine gfC_28_nodes E fl_Parser_15 d_Parser_leaf_14 ?_
    refine Sm_iconst (v := 1) E d_Parser_leaf_17 (by decide) ?_
    refine Sm_iconst (v := (-1)) E d_Parser_leaf_18 (by decide) ?_
    refine Sm_iload_n E d_Parser_leaf_19 rfl 0 rfl ?_
    refine Sm_iconst (v := (-1)) E d_Parser_leaf_20 (by decide) ?_
    refine Sm_cVI (As := [.int 1, .int (-1), .int r1, .int (-1)]) (b := (G.1 14)) (st := []) (n := 4) E exOk wC_as (fun _ h => cC_Nodes_leaf 1 (-1) r1 (-1) u2 h) gk_Parser_365 dk_Nodes_leaf rfl ⟨rfl, rfl⟩ ⟨Nat.le_of_ble_eq_true rfl, Nat.le_of_ble_eq_true rfl⟩ (rvW (q0 := 14) (ci := 5) E rfl rfl rfl) rfl (Nat.le_of_ble_eq_true rfl) d_Parser_leaf_21 fun r24 u25 _ => ?_
    exact Sm_retI hR d_Parser_leaf_24
set_option maxRecDepth 100000 in
set_option maxHeartbeats 4000000 in
theorem tC_Parser_place_J26 {X : Cx} {G : Gx} {res : Int32 × St} (E : EC X G prog_6_method_41_code R_Parser 3 { frames := 5, cells := 0, slots := 0, locals := 109 }) (hR : RtI X vwCl (wC G) prog_6_method_41_code res) : ∀ (x1 : Int32) (u : St), SC X G 3 res (mC_Parser_place_J26 x1 u) u 26 [(0, .ref (G.1 28)), (1, .int x1)] [] := by
  intro x1 u
  rw [mC_Parser_place_J26]
  refine Sm_iload_n E d_Parser_place_26 rfl 1 rfl ?_
  refine Sm_if_ge (tgt := 34) E d_Parser_place_27 (by decide) (fun _ => ?_) (fun _ => ?_)
  · refine Sm_aload_n E d_Parser_place_34 rfl 0 rfl ?_
    refine gfC_28_nodes E fl_Parser_15 d_Parser_place_35 ?_
    refine Sm_iconst (v := 4) E d_Parser_place_38 (by decide) ?_
    refine Sm_iconst (v := (-1)) E d_Parser_place_39 (by decide) ?_
    refine Sm_iload_n E d_Parser_place_40 rfl 1 rfl ?_
    refine Sm_iconst (v := (-1)) E d_Parser_place_41 (by decide) ?_
    refine Sm_cVI (As := [.int 4, .int (-1), .int x1, .int (-1)]) (b := (G.1 14)) (st := []) (n := 4) E exOk wC_as (fun _ h => cC_Nodes_leaf 4 (-1) x1 (-1) u h) gk_Parser_365 dk_Nodes_leaf rfl ⟨rfl, rfl⟩ ⟨Nat.le_of_ble_eq_true rfl, Nat.le_of_ble_eq_true rfl⟩ (rvW (q0 := 14) (ci := 5) E rfl rfl rfl) rfl (Nat.le_of_ble_eq_true rfl) d_Parser_place_42 fun r3 u4 _ => ?_
    exact Sm_retI hR d_Parser_place_45
  · refine Sm_iconst (v := (-1)) E d_Parser_place_30 (by decide) ?_
    refine Sm_goto (tgt := 45) E d_Parser_place_31 (by decide) ?_
    exact Sm_retI hR d_Parser_place_45
set_option maxRecDepth 100000 in
set_option maxHeartbeats 4000000 in
theorem cC_Parser_place {l : Launch} {D : va_G} {G : Gx} (u : St) {res : Int32 × St} (hm : mC_Parser_place u = some res) : KC l D G y_Parser_place (.code y_Parser_place prog_6_method_41_code 3 (some .int)) { frames := 5, cells := 0, slots := 0, locals := 109 } [.ref (G.1 28)] u (qI D vwCl (wC G) (tyW G) (adsC G) res) := by
  refine Ct_I (by decide) wC_as (Nat.le_of_ble_eq_true rfl) hm (fun X _ _ E hR => ?_)
  refine Sm_lvs (lv' := [(0, .ref (G.1 28))]) rfl ?_
  rw [mC_Parser_place]
  refine Sm_aload_n E d_Parser_place_0 rfl 0 rfl ?_
  refine gfC_28_tokens E fl_Parser_9 d_Parser_place_1 ?_
  refine Sm_iconst (v := 1) E d_Parser_place_4 (by decide) ?_
  refine Sm_cVI (As := [.int 1]) (b := (G.1 10)) (st := []) (n := 1) E exOk wC_as (fun _ h => cC_Tokens_take 1 u h) gk_Parser_129 dk_Tokens_take rfl ⟨rfl, rfl⟩ ⟨Nat.le_of_ble_eq_true rfl, Nat.le_of_ble_eq_true rfl⟩ (rvW (q0 := 10) (ci := 9) E rfl rfl rfl) rfl (Nat.le_of_ble_eq_true rfl) d_Parser_place_5 fun r1 u2 _ => ?_
  refine Sm_istore_n (lv' := [(1, .int r1), (0, .ref (G.1 28))]) E d_Parser_place_8 rfl (by decide) rfl ?_
  refine Sm_iload_n E d_Parser_place_9 rfl 0 rfl ?_
  refine Sm_if_lt (tgt := 26) E d_Parser_place_10 (by decide) (fun _ => ?_) (fun _ => ?_)
  · exact Sm_sub [1, 0] rfl (tC_Parser_place_J26 E hR _ _)
  · refine Sm_aload_n E d_Parser_place_13 rfl 1 rfl ?_
    refine gfC_28_tokens E fl_Parser_9 d_Parser_place_14 ?_
    refine Sm_ldcS_w E sr_Parser_379 d_Parser_place_17 ?_
    refine Sm_cVI (As := [.ref (G.2.2.1 17)]) (b := (G.1 10)) (st := []) (n := 1) E exOk wC_as (fun _ h => cC_Tokens_takes 17 u2 h) gk_Parser_29 dk_Tokens_takes rfl ⟨rfl, rfl⟩ ⟨Nat.le_of_ble_eq_true rfl, Nat.le_of_ble_eq_true rfl⟩ (rvW (q0 := 10) (ci := 9) E rfl rfl rfl) rfl (Nat.le_of_ble_eq_true rfl) d_Parser_place_20 fun r5 u6 _ => ?_
    refine Sm_if_ne (tgt := 46) E d_Parser_place_23 (by decide) (fun _ => ?_) (fun _ => ?_)
    · refine Sm_aload_n E d_Parser_place_46 rfl 1 rfl ?_
      refine gfC_28_tokens E fl_Parser_9 d_Parser_place_47 ?_
      refine Sm_iconst (v := 1) E d_Parser_place_50 (by decide) ?_
      refine Sm_cVI (As := [.int 1]) (b := (G.1 10)) (st := []) (n := 1) E exOk wC_as (fun _ h => cC_Tokens_take 1 u6 h) gk_Parser_129 dk_Tokens_take rfl ⟨rfl, rfl⟩ ⟨Nat.le_of_ble_eq_true rfl, Nat.le_of_ble_eq_true rfl⟩ (rvW (q0 := 10) (ci := 9) E rfl rfl rfl) rfl (Nat.le_of_ble_eq_true rfl) d_Parser_place_51 fun r7 u8 _ => ?_
      refine Sm_istore_n (lv' := [(2, .int r7), (1, .int r1), (0, .ref (G.1 28))]) E d_Parser_place_54 rfl (by decide) rfl ?_
      refine Sm_iload_n E d_Parser_place_55 rfl 0 rfl ?_
      refine Sm_if_ge (tgt := 63) E d_Parser_place_56 (by decide) (fun _ => ?_) (fun _ => ?_)
      · refine Sm_aload_n E d_Parser_place_63 rfl 2 rfl ?_
        refine gfC_28_nodes E fl_Parser_15 d_Parser_place_64 ?_
        refine Sm_iconst (v := 4) E d_Parser_place_67 (by decide) ?_
        refine Sm_iconst (v := (-1)) E d_Parser_place_68 (by decide) ?_
        refine Sm_iload_n E d_Parser_place_69 rfl 0 rfl ?_
        refine Sm_iload_n E d_Parser_place_70 rfl 1 rfl ?_
        refine Sm_cVI (As := [.int 4, .int (-1), .int r7, .int r1]) (b := (G.1 14)) (st := []) (n := 4) E exOk wC_as (fun _ h => cC_Nodes_leaf 4 (-1) r7 r1 u8 h) gk_Parser_365 dk_Nodes_leaf rfl ⟨rfl, rfl⟩ ⟨Nat.le_of_ble_eq_true rfl, Nat.le_of_ble_eq_true rfl⟩ (rvW (q0 := 14) (ci := 5) E rfl rfl rfl) rfl (Nat.le_of_ble_eq_true rfl) d_Parser_place_71 fun r9 u10 _ => ?_
        exact Sm_retI hR d_Parser_place_74
      · refine Sm_iconst (v := (-1)) E d_Parser_place_59 (by decide) ?_
        refine Sm_goto (tgt := 74) E d_Parser_place_60 (by decide) ?_
        exact Sm_retI hR d_Parser_place_74
    · exact Sm_sub [1, 0] rfl (tC_Parser_place_J26 E hR _ _)
def rcCC (n : Nat) (G : Gx) (t : Nat) (a b c d : Int32) (u : St) (res : Int32 × St) : Prop := match t with
  | 0 => ∀ (l : Launch) (D : va_G), KC l D G y_Parser_aggregated (.code y_Parser_aggregated prog_6_method_38_code 4 (some .int)) (rmGC n) [.ref (G.1 28), .int a, .int b] u (qI D vwCl (wC G) (tyW G) (adsC G) res)
  | 1 => ∀ (l : Launch) (D : va_G), KC l D G y_Parser_operand (.code y_Parser_operand prog_6_method_37_code 4 (some .int)) (rmGC n) [.ref (G.1 28), .int a] u (qI D vwCl (wC G) (tyW G) (adsC G) res)
  | 2 => ∀ (l : Launch) (D : va_G), KC l D G y_Parser_among (.code y_Parser_among prog_6_method_36_code 8 (some .int)) (rmGC n) [.ref (G.1 28), .int a, .int b, .int c] u (qI D vwCl (wC G) (tyW G) (adsC G) res)
  | 3 => ∀ (l : Launch) (D : va_G), KC l D G y_Parser_between (.code y_Parser_between prog_6_method_35_code 7 (some .int)) (rmGC n) [.ref (G.1 28), .int a, .int b, .int c] u (qI D vwCl (wC G) (tyW G) (adsC G) res)
  | 4 => ∀ (l : Launch) (D : va_G), KC l D G y_Parser_comparison (.code y_Parser_comparison prog_6_method_34_code 7 (some .int)) (rmGC n) [.ref (G.1 28), .int a, .int b, .int c, .int d] u (qI D vwCl (wC G) (tyW G) (adsC G) res)
  | 5 => ∀ (l : Launch) (D : va_G), KC l D G y_Parser_expression (.code y_Parser_expression prog_6_method_33_code 12 (some .int)) (rmGC n) [.ref (G.1 28), .int a, .int b] u (qI D vwCl (wC G) (tyW G) (adsC G) res)
  | _ => True
set_option maxRecDepth 100000 in
set_option maxHeartbeats 4000000 in
theorem tC_Parser_aggregated_J62 {X : Cx} {G : Gx} {res : Int32 × St} (rc : Nat → Int32 → Int32 → Int32 → Int32 → St → Option (Int32 × St)) (n0 : Nat) (hrc : ∀ (t : Nat) (a b c d : Int32) (u : St) (res : Int32 × St), rc t a b c d u = some res → rcCC n0 G t a b c d u res) (E : EC X G prog_6_method_38_code R_Parser 4 (rmGC (n0 + 1))) (hR : RtI X vwCl (wC G) prog_6_method_38_code res) : ∀ (s0 : Int32) (u : St), SC X G 4 res (mC_Parser_aggregated_J62 rc s0 u) u 62 [(0, .ref (G.1 28))] [.int s0] := by
  intro s0 u
  rw [mC_Parser_aggregated_J62]
  refine Sm_istore_n (lv' := [(3, .int s0), (0, .ref (G.1 28))]) E d_Parser_aggregated_62 rfl (by decide) rfl ?_
  refine Sm_aload_n E d_Parser_aggregated_63 rfl 1 rfl ?_
  refine gfC_28_tokens E fl_Parser_9 d_Parser_aggregated_64 ?_
  refine Sm_ldcS E sr_Parser_155 d_Parser_aggregated_67 ?_
  refine Sm_cVI (As := [.ref (G.2.2.1 9)]) (b := (G.1 10)) (st := []) (n := 1) E exOk wC_as (fun _ h => cC_Tokens_takes 9 u h) gk_Parser_29 dk_Tokens_takes rfl ⟨rfl, rfl⟩ ⟨(by show 4 + 1 ≤ n0 + 1 + 6; omega), (by show 8 + (5 + 11) + 85 ≤ 31 * (n0 + 1) + 131; omega)⟩ (rvW (q0 := 10) (ci := 9) E rfl rfl rfl) rfl (Nat.le_of_ble_eq_true rfl) d_Parser_aggregated_69 fun r7 u8 _ => ?_
  refine Sm_if_eq (tgt := 79) E d_Parser_aggregated_72 (by decide) (fun _ => ?_) (fun _ => ?_)
  · refine Sm_iconst (v := (-1)) E d_Parser_aggregated_79 (by decide) ?_
    exact Sm_retI hR d_Parser_aggregated_80
  · refine Sm_iload_n E d_Parser_aggregated_75 rfl 0 rfl ?_
    refine Sm_goto (tgt := 80) E d_Parser_aggregated_76 (by decide) ?_
    exact Sm_retI hR d_Parser_aggregated_80
set_option maxRecDepth 100000 in
set_option maxHeartbeats 4000000 in
theorem tC_Parser_aggregated_J46 {X : Cx} {G : Gx} {res : Int32 × St} (rc : Nat → Int32 → Int32 → Int32 → Int32 → St → Option (Int32 × St)) (n0 : Nat) (hrc : ∀ (t : Nat) (a b c d : Int32) (u : St) (res : Int32 × St), rc t a b c d u = some res → rcCC n0 G t a b c d u res) (E : EC X G prog_6_method_38_code R_Parser 4 (rmGC (n0 + 1))) (hR : RtI X vwCl (wC G) prog_6_method_38_code res) : ∀ (x1 : Int32) (x2 : Int32) (u : St), SC X G 4 res (mC_Parser_aggregated_J46 rc x1 x2 u) u 46 [(0, .ref (G.1 28)), (1, .int x1), (2, .int x2)] [] := by
  intro x1 x2 u
  rw [mC_Parser_aggregated_J46]
  refine Sm_aload_n E d_Parser_aggregated_46 rfl 0 rfl ?_
  refine gfC_28_nodes E fl_Parser_15 d_Parser_aggregated_47 ?_
  refine Sm_iload_n E d_Parser_aggregated_50 rfl 1 rfl ?_
  refine Sm_aload_n E d_Parser_aggregated_51 rfl 0 rfl ?_
  refine Sm_iconst (v := 1) E d_Parser_aggregated_52 (by decide) ?_
  refine Sm_iload_n E d_Parser_aggregated_53 rfl 2 rfl ?_
  refine Sm_iconst (v := 1) E d_Parser_aggregated_54 (by decide) ?_
  refine Sm_iadd E d_Parser_aggregated_55 ?_
  refine Sm_cVI (As := [.int 1, .int (x2 + 1)]) (b := (G.1 28)) (st := [.int x1, .ref (G.1 14)]) (n := 2) E exOk wC_as (fun _ h => hrc 5 _ _ _ _ _ _ h X.2.1 (xD X)) gk_Parser_192 dk_Parser_expression rfl ⟨rfl, rfl⟩ ⟨(by show n0 + 6 + 1 ≤ n0 + 1 + 6; omega), (by show 8 + (12 + 11) + (31 * n0 + 131) ≤ 31 * (n0 + 1) + 131; omega)⟩ (rvW (q0 := 28) (ci := 6) E rfl rfl rfl) rfl (Nat.le_of_ble_eq_true rfl) d_Parser_aggregated_56 fun r3 u4 _ => ?_
  refine Sm_cVI (As := [.int x1, .int r3]) (b := (G.1 14)) (st := []) (n := 2) E exOk wC_as (fun _ h => cC_Nodes_top x1 r3 u4 h) gk_Parser_309 dk_Nodes_top rfl ⟨rfl, rfl⟩ ⟨(by show 1 + 1 ≤ n0 + 1 + 6; omega), (by show 8 + (4 + 11) + 25 ≤ 31 * (n0 + 1) + 131; omega)⟩ (rvW (q0 := 14) (ci := 5) E rfl rfl rfl) rfl (Nat.le_of_ble_eq_true rfl) d_Parser_aggregated_59 fun r5 u6 _ => ?_
  exact Sm_sub [0] rfl (tC_Parser_aggregated_J62 rc n0 hrc E hR _ _)
set_option maxRecDepth 100000 in
set_option maxHeartbeats 4000000 in
theorem cC_Parser_aggregated_o {l : Launch} {D : va_G} {G : Gx} (rc : Nat → Int32 → Int32 → Int32 → Int32 → St → Option (Int32 × St)) (n0 : Nat) (hrc : ∀ (t : Nat) (a b c d : Int32) (u : St) (res : Int32 × St), rc t a b c d u = some res → rcCC n0 G t a b c d u res) (x1 : Int32) (x2 : Int32) (u : St) {res : Int32 × St} (hm : mC_Parser_aggregated_o rc x1 x2 u = some res) : KC l D G y_Parser_aggregated (.code y_Parser_aggregated prog_6_method_38_code 4 (some .int)) (rmGC (n0 + 1)) [.ref (G.1 28), .int x1, .int x2] u (qI D vwCl (wC G) (tyW G) (adsC G) res) := by
  refine Ct_I (by decide) wC_as (Nat.le_of_ble_eq_true rfl) hm (fun X _ _ E hR => ?_)
  refine Sm_lvs (lv' := [(0, .ref (G.1 28)), (1, .int x1), (2, .int x2)]) rfl ?_
  rw [mC_Parser_aggregated_o]
  refine Sm_aload_n E d_Parser_aggregated_0 rfl 0 rfl ?_
  refine gfC_28_tokens E fl_Parser_9 d_Parser_aggregated_1 ?_
  refine Sm_ldcS E sr_Parser_150 d_Parser_aggregated_4 ?_
  refine Sm_cVI (As := [.ref (G.2.2.1 8)]) (b := (G.1 10)) (st := []) (n := 1) E exOk wC_as (fun _ h => cC_Tokens_takes 8 u h) gk_Parser_29 dk_Tokens_takes rfl ⟨rfl, rfl⟩ ⟨(by show 4 + 1 ≤ n0 + 1 + 6; omega), (by show 8 + (5 + 11) + 85 ≤ 31 * (n0 + 1) + 131; omega)⟩ (rvW (q0 := 10) (ci := 9) E rfl rfl rfl) rfl (Nat.le_of_ble_eq_true rfl) d_Parser_aggregated_6 fun r1 u2 _ => ?_
  refine Sm_if_ne (tgt := 14) E d_Parser_aggregated_9 (by decide) (fun _ => ?_) (fun _ => ?_)
  · refine Sm_iload_n E d_Parser_aggregated_14 rfl 1 rfl ?_
    refine Sm_bipush (v := 6) E d_Parser_aggregated_15 (by decide) ?_
    refine Sm_icmp_ne (tgt := 46) E d_Parser_aggregated_17 (by decide) (fun _ => ?_) (fun _ => ?_)
    · exact Sm_sub [0, 1, 2] rfl (tC_Parser_aggregated_J46 rc n0 hrc E hR _ _ _)
    · refine Sm_aload_n E d_Parser_aggregated_20 rfl 0 rfl ?_
      refine gfC_28_tokens E fl_Parser_9 d_Parser_aggregated_21 ?_
      refine Sm_ldcS E sr_Parser_216 d_Parser_aggregated_24 ?_
      refine Sm_cVI (As := [.ref (G.2.2.1 5)]) (b := (G.1 10)) (st := []) (n := 1) E exOk wC_as (fun _ h => cC_Tokens_takes 5 u2 h) gk_Parser_29 dk_Tokens_takes rfl ⟨rfl, rfl⟩ ⟨(by show 4 + 1 ≤ n0 + 1 + 6; omega), (by show 8 + (5 + 11) + 85 ≤ 31 * (n0 + 1) + 131; omega)⟩ (rvW (q0 := 10) (ci := 9) E rfl rfl rfl) rfl (Nat.le_of_ble_eq_true rfl) d_Parser_aggregated_26 fun r9 u10 _ => ?_
      refine Sm_if_eq (tgt := 46) E d_Parser_aggregated_29 (by decide) (fun _ => ?_) (fun _ => ?_)
      · exact Sm_sub [0, 1, 2] rfl (tC_Parser_aggregated_J46 rc n0 hrc E hR _ _ _)
      · refine Sm_aload_n E d_Parser_aggregated_32 rfl 0 rfl ?_
        refine gfC_28_nodes E fl_Parser_15 d_Parser_aggregated_33 ?_
        refine Sm_iconst (v := 5) E d_Parser_aggregated_36 (by decide) ?_
        refine Sm_iconst (v := (-1)) E d_Parser_aggregated_37 (by decide) ?_
        refine Sm_iconst (v := (-1)) E d_Parser_aggregated_38 (by decide) ?_
        refine Sm_iconst (v := (-1)) E d_Parser_aggregated_39 (by decide) ?_
        refine Sm_cVI (As := [.int 5, .int (-1), .int (-1), .int (-1)]) (b := (G.1 14)) (st := []) (n := 4) E exOk wC_as (fun _ h => cC_Nodes_leaf 5 (-1) (-1) (-1) u10 h) gk_Parser_365 dk_Nodes_leaf rfl ⟨rfl, rfl⟩ ⟨(by show 0 + 1 ≤ n0 + 1 + 6; omega), (by show 8 + (6 + 11) + 0 ≤ 31 * (n0 + 1) + 131; omega)⟩ (rvW (q0 := 14) (ci := 5) E rfl rfl rfl) rfl (Nat.le_of_ble_eq_true rfl) d_Parser_aggregated_40 fun r11 u12 _ => ?_
        refine Sm_goto (tgt := 62) E d_Parser_aggregated_43 (by decide) ?_
        exact Sm_sub [0] rfl (tC_Parser_aggregated_J62 rc n0 hrc E hR _ _)
  · refine Sm_iconst (v := (-1)) E d_Parser_aggregated_12 (by decide) ?_
    exact Sm_retI hR d_Parser_aggregated_13
set_option maxRecDepth 100000 in
set_option maxHeartbeats 4000000 in
theorem tC_Parser_operand_J92 {X : Cx} {G : Gx} {res : Int32 × St} (rc : Nat → Int32 → Int32 → Int32 → Int32 → St → Option (Int32 × St)) (n0 : Nat) (hrc : ∀ (t : Nat) (a b c d : Int32) (u : St) (res : Int32 × St), rc t a b c d u = some res → rcCC n0 G t a b c d u res) (E : EC X G prog_6_method_37_code R_Parser 4 (rmGC (n0 + 1))) (hR : RtI X vwCl (wC G) prog_6_method_37_code res) : ∀ (x1 : Int32) (s0 : Int32) (u : St), SC X G 4 res (mC_Parser_operand_J92 rc x1 s0 u) u 92 [(0, .ref (G.1 28)), (1, .int x1)] [.int s0] := by
  intro x1 s0 u
  rw [mC_Parser_operand_J92]
  refine Sm_istore_n (lv' := [(2, .int s0), (0, .ref (G.1 28)), (1, .int x1)]) E d_Parser_operand_92 rfl (by decide) rfl ?_
  refine Sm_iload_n E d_Parser_operand_93 rfl 0 rfl ?_
  refine Sm_if_lt (tgt := 104) E d_Parser_operand_94 (by decide) (fun _ => ?_) (fun _ => ?_)
  · refine Sm_aload_n E d_Parser_operand_104 rfl 1 rfl ?_
    refine Sm_cVI (As := []) (b := (G.1 28)) (st := []) (n := 0) E exOk wC_as (fun _ h => cC_Parser_leaf u h) gk_Parser_362 dk_Parser_leaf rfl ⟨rfl, rfl⟩ ⟨(by show 5 + 1 ≤ n0 + 1 + 6; omega), (by show 8 + (2 + 11) + 109 ≤ 31 * (n0 + 1) + 131; omega)⟩ (rvW (q0 := 28) (ci := 6) E rfl rfl rfl) rfl (Nat.le_of_ble_eq_true rfl) d_Parser_operand_105 fun r5 u6 _ => ?_
    refine Sm_istore_n (lv' := [(3, .int r5), (2, .int s0), (0, .ref (G.1 28)), (1, .int x1)]) E d_Parser_operand_108 rfl (by decide) rfl ?_
    refine Sm_iload_n E d_Parser_operand_109 rfl 0 rfl ?_
    refine Sm_if_ge (tgt := 120) E d_Parser_operand_110 (by decide) (fun _ => ?_) (fun _ => ?_)
    · refine Sm_iload_n E d_Parser_operand_120 rfl 0 rfl ?_
      exact Sm_retI hR d_Parser_operand_121
    · refine Sm_aload_n E d_Parser_operand_113 rfl 2 rfl ?_
      refine Sm_cVI (As := []) (b := (G.1 28)) (st := []) (n := 0) E exOk wC_as (fun _ h => cC_Parser_place u6 h) gk_Parser_253 dk_Parser_place rfl ⟨rfl, rfl⟩ ⟨(by show 5 + 1 ≤ n0 + 1 + 6; omega), (by show 8 + (3 + 11) + 109 ≤ 31 * (n0 + 1) + 131; omega)⟩ (rvW (q0 := 28) (ci := 6) E rfl rfl rfl) rfl (Nat.le_of_ble_eq_true rfl) d_Parser_operand_114 fun r7 u8 _ => ?_
      refine Sm_goto (tgt := 121) E d_Parser_operand_117 (by decide) ?_
      exact Sm_retI hR d_Parser_operand_121
  · refine Sm_aload_n E d_Parser_operand_97 rfl 1 rfl ?_
    refine Sm_iload_n E d_Parser_operand_98 rfl 0 rfl ?_
    refine Sm_iload_n E d_Parser_operand_99 rfl 2 rfl ?_
    refine Sm_cVI (As := [.int s0, .int x1]) (b := (G.1 28)) (st := []) (n := 2) E exOk wC_as (fun _ h => hrc 0 _ _ _ _ _ _ h X.2.1 (xD X)) gk_Parser_359 dk_Parser_aggregated rfl ⟨rfl, rfl⟩ ⟨(by show n0 + 6 + 1 ≤ n0 + 1 + 6; omega), (by show 8 + (4 + 11) + (31 * n0 + 131) ≤ 31 * (n0 + 1) + 131; omega)⟩ (rvW (q0 := 28) (ci := 6) E rfl rfl rfl) rfl (Nat.le_of_ble_eq_true rfl) d_Parser_operand_100 fun r9 u10 _ => ?_
    exact Sm_retI hR d_Parser_operand_103
set_option maxRecDepth 100000 in
set_option maxHeartbeats 4000000 in
theorem cC_Parser_operand_o {l : Launch} {D : va_G} {G : Gx} (rc : Nat → Int32 → Int32 → Int32 → Int32 → St → Option (Int32 × St)) (n0 : Nat) (hrc : ∀ (t : Nat) (a b c d : Int32) (u : St) (res : Int32 × St), rc t a b c d u = some res → rcCC n0 G t a b c d u res) (x1 : Int32) (u : St) {res : Int32 × St} (hm : mC_Parser_operand_o rc x1 u = some res) : KC l D G y_Parser_operand (.code y_Parser_operand prog_6_method_37_code 4 (some .int)) (rmGC (n0 + 1)) [.ref (G.1 28), .int x1] u (qI D vwCl (wC G) (tyW G) (adsC G) res) := by
  refine Ct_I (by decide) wC_as (Nat.le_of_ble_eq_true rfl) hm (fun X _ _ E hR => ?_)
  refine Sm_lvs (lv' := [(0, .ref (G.1 28)), (1, .int x1)]) rfl ?_
  rw [mC_Parser_operand_o]
  refine Sm_iload_n E d_Parser_operand_0 rfl 1 rfl ?_
  refine Sm_bipush (v := 20) E d_Parser_operand_1 (by decide) ?_
  refine Sm_icmp_le (tgt := 8) E d_Parser_operand_3 (by decide) (fun _ => ?_) (fun _ => ?_)
  · refine Sm_aload_n E d_Parser_operand_8 rfl 0 rfl ?_
    refine gfC_28_tokens E fl_Parser_9 d_Parser_operand_9 ?_
    refine Sm_ldcS_w E sr_Parser_354 d_Parser_operand_12 ?_
    refine Sm_cVI (As := [.ref (G.2.2.1 7)]) (b := (G.1 10)) (st := []) (n := 1) E exOk wC_as (fun _ h => cC_Tokens_takes 7 u h) gk_Parser_29 dk_Tokens_takes rfl ⟨rfl, rfl⟩ ⟨(by show 4 + 1 ≤ n0 + 1 + 6; omega), (by show 8 + (5 + 11) + 85 ≤ 31 * (n0 + 1) + 131; omega)⟩ (rvW (q0 := 10) (ci := 9) E rfl rfl rfl) rfl (Nat.le_of_ble_eq_true rfl) d_Parser_operand_15 fun r1 u2 _ => ?_
    refine Sm_if_eq (tgt := 38) E d_Parser_operand_18 (by decide) (fun _ => ?_) (fun _ => ?_)
    · refine Sm_aload_n E d_Parser_operand_38 rfl 0 rfl ?_
      refine gfC_28_tokens E fl_Parser_9 d_Parser_operand_39 ?_
      refine Sm_ldcS E sr_Parser_150 d_Parser_operand_42 ?_
      refine Sm_cVI (As := [.ref (G.2.2.1 8)]) (b := (G.1 10)) (st := []) (n := 1) E exOk wC_as (fun _ h => cC_Tokens_takes 8 u2 h) gk_Parser_29 dk_Tokens_takes rfl ⟨rfl, rfl⟩ ⟨(by show 4 + 1 ≤ n0 + 1 + 6; omega), (by show 8 + (5 + 11) + 85 ≤ 31 * (n0 + 1) + 131; omega)⟩ (rvW (q0 := 10) (ci := 9) E rfl rfl rfl) rfl (Nat.le_of_ble_eq_true rfl) d_Parser_operand_44 fun r3 u4 _ => ?_
      refine Sm_if_eq (tgt := 77) E d_Parser_operand_47 (by decide) (fun _ => ?_) (fun _ => ?_)
      · refine Sm_aload_n E d_Parser_operand_77 rfl 0 rfl ?_
        refine gfC_28_inItems E fl_Parser_221 d_Parser_operand_78 ?_
        refine Sm_if_eq (tgt := 91) E d_Parser_operand_81 (by decide) (fun _ => ?_) (fun _ => ?_)
        · refine Sm_iconst (v := (-1)) E d_Parser_operand_91 (by decide) ?_
          exact Sm_sub [0, 1] rfl (tC_Parser_operand_J92 rc n0 hrc E hR _ _ _)
        · refine Sm_aload_n E d_Parser_operand_84 rfl 0 rfl ?_
          refine Sm_cVI (As := []) (b := (G.1 28)) (st := []) (n := 0) E exOk wC_as (fun _ h => cC_Parser_aggregate u4 h) gk_Parser_356 dk_Parser_aggregate rfl ⟨rfl, rfl⟩ ⟨(by show 5 + 1 ≤ n0 + 1 + 6; omega), (by show 8 + (1 + 11) + 109 ≤ 31 * (n0 + 1) + 131; omega)⟩ (rvW (q0 := 28) (ci := 6) E rfl rfl rfl) rfl (Nat.le_of_ble_eq_true rfl) d_Parser_operand_85 fun r11 u12 _ => ?_
          refine Sm_goto (tgt := 92) E d_Parser_operand_88 (by decide) ?_
          exact Sm_sub [0, 1] rfl (tC_Parser_operand_J92 rc n0 hrc E hR _ _ _)
      · refine Sm_aload_n E d_Parser_operand_50 rfl 0 rfl ?_
        refine Sm_iconst (v := 1) E d_Parser_operand_51 (by decide) ?_
        refine Sm_iload_n E d_Parser_operand_52 rfl 1 rfl ?_
        refine Sm_iconst (v := 1) E d_Parser_operand_53 (by decide) ?_
        refine Sm_iadd E d_Parser_operand_54 ?_
        refine Sm_cVI (As := [.int 1, .int (x1 + 1)]) (b := (G.1 28)) (st := []) (n := 2) E exOk wC_as (fun _ h => hrc 5 _ _ _ _ _ _ h X.2.1 (xD X)) gk_Parser_192 dk_Parser_expression rfl ⟨rfl, rfl⟩ ⟨(by show n0 + 6 + 1 ≤ n0 + 1 + 6; omega), (by show 8 + (12 + 11) + (31 * n0 + 131) ≤ 31 * (n0 + 1) + 131; omega)⟩ (rvW (q0 := 28) (ci := 6) E rfl rfl rfl) rfl (Nat.le_of_ble_eq_true rfl) d_Parser_operand_55 fun r13 u14 _ => ?_
        refine Sm_istore_n (lv' := [(2, .int r13), (0, .ref (G.1 28)), (1, .int x1)]) E d_Parser_operand_58 rfl (by decide) rfl ?_
        refine Sm_aload_n E d_Parser_operand_59 rfl 1 rfl ?_
        refine gfC_28_tokens E fl_Parser_9 d_Parser_operand_60 ?_
        refine Sm_ldcS E sr_Parser_155 d_Parser_operand_63 ?_
        refine Sm_cVI (As := [.ref (G.2.2.1 9)]) (b := (G.1 10)) (st := []) (n := 1) E exOk wC_as (fun _ h => cC_Tokens_takes 9 u14 h) gk_Parser_29 dk_Tokens_takes rfl ⟨rfl, rfl⟩ ⟨(by show 4 + 1 ≤ n0 + 1 + 6; omega), (by show 8 + (5 + 11) + 85 ≤ 31 * (n0 + 1) + 131; omega)⟩ (rvW (q0 := 10) (ci := 9) E rfl rfl rfl) rfl (Nat.le_of_ble_eq_true rfl) d_Parser_operand_65 fun r15 u16 _ => ?_
        refine Sm_if_eq (tgt := 75) E d_Parser_operand_68 (by decide) (fun _ => ?_) (fun _ => ?_)
        · refine Sm_iconst (v := (-1)) E d_Parser_operand_75 (by decide) ?_
          exact Sm_retI hR d_Parser_operand_76
        · refine Sm_iload_n E d_Parser_operand_71 rfl 0 rfl ?_
          refine Sm_goto (tgt := 76) E d_Parser_operand_72 (by decide) ?_
          exact Sm_retI hR d_Parser_operand_76
    · refine Sm_aload_n E d_Parser_operand_21 rfl 0 rfl ?_
      refine gfC_28_nodes E fl_Parser_15 d_Parser_operand_22 ?_
      refine Sm_bipush (v := 10) E d_Parser_operand_25 (by decide) ?_
      refine Sm_aload_n E d_Parser_operand_27 rfl 0 rfl ?_
      refine Sm_iload_n E d_Parser_operand_28 rfl 1 rfl ?_
      refine Sm_iconst (v := 1) E d_Parser_operand_29 (by decide) ?_
      refine Sm_iadd E d_Parser_operand_30 ?_
      refine Sm_cVI (As := [.int (x1 + 1)]) (b := (G.1 28)) (st := [.int 10, .ref (G.1 14)]) (n := 1) E exOk wC_as (fun _ h => hrc 1 _ _ _ _ _ _ h X.2.1 (xD X)) gk_Parser_312 dk_Parser_operand rfl ⟨rfl, rfl⟩ ⟨(by show n0 + 6 + 1 ≤ n0 + 1 + 6; omega), (by show 8 + (4 + 11) + (31 * n0 + 131) ≤ 31 * (n0 + 1) + 131; omega)⟩ (rvW (q0 := 28) (ci := 6) E rfl rfl rfl) rfl (Nat.le_of_ble_eq_true rfl) d_Parser_operand_31 fun r17 u18 _ => ?_
      refine Sm_cVI (As := [.int 10, .int r17]) (b := (G.1 14)) (st := []) (n := 2) E exOk wC_as (fun _ h => cC_Nodes_top 10 r17 u18 h) gk_Parser_309 dk_Nodes_top rfl ⟨rfl, rfl⟩ ⟨(by show 1 + 1 ≤ n0 + 1 + 6; omega), (by show 8 + (4 + 11) + 25 ≤ 31 * (n0 + 1) + 131; omega)⟩ (rvW (q0 := 14) (ci := 5) E rfl rfl rfl) rfl (Nat.le_of_ble_eq_true rfl) d_Parser_operand_34 fun r19 u20 _ => ?_
      exact Sm_retI hR d_Parser_operand_37
  · refine Sm_iconst (v := (-1)) E d_Parser_operand_6 (by decide) ?_
    exact Sm_retI hR d_Parser_operand_7
set_option maxRecDepth 100000 in
set_option maxHeartbeats 4000000 in
theorem tC_Parser_among_L37 {X : Cx} {G : Gx} {res : Int32 × St} (rc : Nat → Int32 → Int32 → Int32 → Int32 → St → Option (Int32 × St)) (n0 : Nat) (hrc : ∀ (t : Nat) (a b c d : Int32) (u : St) (res : Int32 × St), rc t a b c d u = some res → rcCC n0 G t a b c d u res) (E : EC X G prog_6_method_36_code R_Parser 8 (rmGC (n0 + 1))) (hR : RtI X vwCl (wC G) prog_6_method_36_code res) : ∀ (n : Nat) (x1 : Int32) (x2 : Int32) (x3 : Int32) (x4 : Int32) (x5 : Int32) (u : St), SC X G 8 res (mC_Parser_among_L37 rc n x1 x2 x3 x4 x5 u) u 37 [(0, .ref (G.1 28)), (1, .int x1), (2, .int x2), (3, .int x3), (4, .int x4), (5, .int x5)] [] := by
  intro n
  induction n with
  | zero => intro x1 x2 x3 x4 x5 u; exact Sm_none
  | succ n h37 =>
    intro x1 x2 x3 x4 x5 u
    rw [mC_Parser_among_L37]
    refine Sm_iload E d_Parser_among_37 5 rfl ?_
    refine Sm_sipush (v := 2000) E d_Parser_among_39 (by decide) ?_
    refine Sm_icmp_ge (tgt := 115) E d_Parser_among_42 (by decide) (fun _ => ?_) (fun _ => ?_)
    · refine Sm_aload_n E d_Parser_among_115 rfl 0 rfl ?_
      refine gfC_28_tokens E fl_Parser_9 d_Parser_among_116 ?_
      refine Sm_ldcS E sr_Parser_155 d_Parser_among_119 ?_
      refine Sm_cVI (As := [.ref (G.2.2.1 9)]) (b := (G.1 10)) (st := []) (n := 1) E exOk wC_as (fun _ h => cC_Tokens_takes 9 u h) gk_Parser_29 dk_Tokens_takes rfl ⟨rfl, rfl⟩ ⟨(by show 4 + 1 ≤ n0 + 1 + 6; omega), (by show 8 + (5 + 11) + 85 ≤ 31 * (n0 + 1) + 131; omega)⟩ (rvW (q0 := 10) (ci := 9) E rfl rfl rfl) rfl (Nat.le_of_ble_eq_true rfl) d_Parser_among_121 fun r7 u8 _ => ?_
      refine Sm_if_eq (tgt := 132) E d_Parser_among_124 (by decide) (fun _ => ?_) (fun _ => ?_)
      · refine Sm_iconst (v := (-1)) E d_Parser_among_132 (by decide) ?_
        exact Sm_retI hR d_Parser_among_133
      · refine Sm_iload E d_Parser_among_127 4 rfl ?_
        refine Sm_goto (tgt := 133) E d_Parser_among_129 (by decide) ?_
        exact Sm_retI hR d_Parser_among_133
    · refine Sm_iload E d_Parser_among_45 4 rfl ?_
      refine Sm_if_lt (tgt := 115) E d_Parser_among_47 (by decide) (fun _ => ?_) (fun _ => ?_)
      · refine Sm_aload_n E d_Parser_among_115 rfl 0 rfl ?_
        refine gfC_28_tokens E fl_Parser_9 d_Parser_among_116 ?_
        refine Sm_ldcS E sr_Parser_155 d_Parser_among_119 ?_
        refine Sm_cVI (As := [.ref (G.2.2.1 9)]) (b := (G.1 10)) (st := []) (n := 1) E exOk wC_as (fun _ h => cC_Tokens_takes 9 u h) gk_Parser_29 dk_Tokens_takes rfl ⟨rfl, rfl⟩ ⟨(by show 4 + 1 ≤ n0 + 1 + 6; omega), (by show 8 + (5 + 11) + 85 ≤ 31 * (n0 + 1) + 131; omega)⟩ (rvW (q0 := 10) (ci := 9) E rfl rfl rfl) rfl (Nat.le_of_ble_eq_true rfl) d_Parser_among_121 fun r9 u10 _ => ?_
        refine Sm_if_eq (tgt := 132) E d_Parser_among_124 (by decide) (fun _ => ?_) (fun _ => ?_)
        · refine Sm_iconst (v := (-1)) E d_Parser_among_132 (by decide) ?_
          exact Sm_retI hR d_Parser_among_133
        · refine Sm_iload E d_Parser_among_127 4 rfl ?_
          refine Sm_goto (tgt := 133) E d_Parser_among_129 (by decide) ?_
          exact Sm_retI hR d_Parser_among_133
      · refine Sm_aload_n E d_Parser_among_50 rfl 0 rfl ?_
        refine gfC_28_tokens E fl_Parser_9 d_Parser_among_51 ?_
        refine Sm_ldcS E sr_Parser_162 d_Parser_among_54 ?_
        refine Sm_cVI (As := [.ref (G.2.2.1 33)]) (b := (G.1 10)) (st := []) (n := 1) E exOk wC_as (fun _ h => cC_Tokens_takes 33 u h) gk_Parser_29 dk_Tokens_takes rfl ⟨rfl, rfl⟩ ⟨(by show 4 + 1 ≤ n0 + 1 + 6; omega), (by show 8 + (5 + 11) + 85 ≤ 31 * (n0 + 1) + 131; omega)⟩ (rvW (q0 := 10) (ci := 9) E rfl rfl rfl) rfl (Nat.le_of_ble_eq_true rfl) d_Parser_among_56 fun r11 u12 _ => ?_
        refine Sm_if_eq (tgt := 115) E d_Parser_among_59 (by decide) (fun _ => ?_) (fun _ => ?_)
        · refine Sm_aload_n E d_Parser_among_115 rfl 0 rfl ?_
          refine gfC_28_tokens E fl_Parser_9 d_Parser_among_116 ?_
          refine Sm_ldcS E sr_Parser_155 d_Parser_among_119 ?_
          refine Sm_cVI (As := [.ref (G.2.2.1 9)]) (b := (G.1 10)) (st := []) (n := 1) E exOk wC_as (fun _ h => cC_Tokens_takes 9 u12 h) gk_Parser_29 dk_Tokens_takes rfl ⟨rfl, rfl⟩ ⟨(by show 4 + 1 ≤ n0 + 1 + 6; omega), (by show 8 + (5 + 11) + 85 ≤ 31 * (n0 + 1) + 131; omega)⟩ (rvW (q0 := 10) (ci := 9) E rfl rfl rfl) rfl (Nat.le_of_ble_eq_true rfl) d_Parser_among_121 fun r13 u14 _ => ?_
          refine Sm_if_eq (tgt := 132) E d_Parser_among_124 (by decide) (fun _ => ?_) (fun _ => ?_)
          · refine Sm_iconst (v := (-1)) E d_Parser_among_132 (by decide) ?_
            exact Sm_retI hR d_Parser_among_133
          · refine Sm_iload E d_Parser_among_127 4 rfl ?_
            refine Sm_goto (tgt := 133) E d_Parser_among_129 (by decide) ?_
            exact Sm_retI hR d_Parser_among_133
        · refine Sm_aload_n E d_Parser_among_62 rfl 0 rfl ?_
          refine gfC_28_nodes E fl_Parser_15 d_Parser_among_63 ?_
          refine Sm_iload_n E d_Parser_among_66 rfl 1 rfl ?_
          refine Sm_iload_n E d_Parser_among_67 rfl 2 rfl ?_
          refine Sm_cVI (As := [.int x1, .int x2]) (b := (G.1 14)) (st := []) (n := 2) E exOk wC_as (fun _ h => cC_Nodes_again x1 x2 u12 h) gk_Parser_351 dk_Nodes_again rfl ⟨rfl, rfl⟩ ⟨(by show 2 + 1 ≤ n0 + 1 + 6; omega), (by show 8 + (6 + 11) + 67 ≤ 31 * (n0 + 1) + 131; omega)⟩ (rvW (q0 := 14) (ci := 5) E rfl rfl rfl) rfl (Nat.le_of_ble_eq_true rfl) d_Parser_among_68 fun r15 u16 _ => ?_
          refine Sm_istore (lv' := [(6, .int r15), (0, .ref (G.1 28)), (1, .int x1), (2, .int x2), (3, .int x3), (4, .int x4), (5, .int x5)]) E d_Parser_among_71 (by decide) rfl ?_
          refine Sm_aload_n E d_Parser_among_73 rfl 1 rfl ?_
          refine gfC_28_nodes E fl_Parser_15 d_Parser_among_74 ?_
          refine Sm_bipush (v := 17) E d_Parser_among_77 (by decide) ?_
          refine Sm_iload E d_Parser_among_79 0 rfl ?_
          refine Sm_aload_n E d_Parser_among_81 rfl 1 rfl ?_
          refine Sm_iconst (v := 1) E d_Parser_among_82 (by decide) ?_
          refine Sm_iload_n E d_Parser_among_83 rfl 4 rfl ?_
          refine Sm_iconst (v := 1) E d_Parser_among_84 (by decide) ?_
          refine Sm_iadd E d_Parser_among_85 ?_
          refine Sm_cVI (As := [.int 1, .int (x3 + 1)]) (b := (G.1 28)) (st := [.int r15, .int 17, .ref (G.1 14)]) (n := 2) E exOk wC_as (fun _ h => hrc 5 _ _ _ _ _ _ h X.2.1 (xD X)) gk_Parser_192 dk_Parser_expression rfl ⟨rfl, rfl⟩ ⟨(by show n0 + 6 + 1 ≤ n0 + 1 + 6; omega), (by show 8 + (12 + 11) + (31 * n0 + 131) ≤ 31 * (n0 + 1) + 131; omega)⟩ (rvW (q0 := 28) (ci := 6) E rfl rfl rfl) rfl (Nat.le_of_ble_eq_true rfl) d_Parser_among_86 fun r17 u18 _ => ?_
          refine Sm_cVI (As := [.int 17, .int r15, .int r17]) (b := (G.1 14)) (st := []) (n := 3) E exOk wC_as (fun _ h => cC_Nodes_join 17 r15 r17 u18 h) gk_Parser_335 dk_Nodes_join rfl ⟨rfl, rfl⟩ ⟨(by show 1 + 1 ≤ n0 + 1 + 6; omega), (by show 8 + (5 + 11) + 25 ≤ 31 * (n0 + 1) + 131; omega)⟩ (rvW (q0 := 14) (ci := 5) E rfl rfl rfl) rfl (Nat.le_of_ble_eq_true rfl) d_Parser_among_89 fun r19 u20 _ => ?_
          refine Sm_istore (lv' := [(7, .int r19), (6, .int r15), (0, .ref (G.1 28)), (1, .int x1), (2, .int x2), (3, .int x3), (4, .int x4), (5, .int x5)]) E d_Parser_among_92 (by decide) rfl ?_
          refine Sm_aload_n E d_Parser_among_94 rfl 2 rfl ?_
          refine gfC_28_nodes E fl_Parser_15 d_Parser_among_95 ?_
          refine Sm_bipush (v := 27) E d_Parser_among_98 (by decide) ?_
          refine Sm_iload E d_Parser_among_100 6 rfl ?_
          refine Sm_iload E d_Parser_among_102 0 rfl ?_
          refine Sm_cVI (As := [.int 27, .int x4, .int r19]) (b := (G.1 14)) (st := []) (n := 3) E exOk wC_as (fun _ h => cC_Nodes_join 27 x4 r19 u20 h) gk_Parser_335 dk_Nodes_join rfl ⟨rfl, rfl⟩ ⟨(by show 1 + 1 ≤ n0 + 1 + 6; omega), (by show 8 + (5 + 11) + 25 ≤ 31 * (n0 + 1) + 131; omega)⟩ (rvW (q0 := 14) (ci := 5) E rfl rfl rfl) rfl (Nat.le_of_ble_eq_true rfl) d_Parser_among_104 fun r21 u22 _ => ?_
          refine Sm_istore (lv' := [(4, .int r21), (7, .int r19), (6, .int r15), (0, .ref (G.1 28)), (1, .int x1), (2, .int x2), (3, .int x3), (5, .int x5)]) E d_Parser_among_107 (by decide) rfl ?_
          refine Sm_iinc (k := 7) (d := 1) E d_Parser_among_109 rfl rfl (by decide) fun y23 _ => Sm_lvs (lv' := [(5, .int y23), (4, .int r21), (7, .int r19), (6, .int r15), (0, .ref (G.1 28)), (1, .int x1), (2, .int x2), (3, .int x3)]) rfl ?_
          refine Sm_goto (tgt := 37) E d_Parser_among_112 (by decide) ?_
          exact Sm_sub [4, 5, 6, 7, 1, 0] rfl (h37 _ _ _ _ _ _)
set_option maxRecDepth 100000 in
set_option maxHeartbeats 4000000 in
theorem cC_Parser_among_o {l : Launch} {D : va_G} {G : Gx} (rc : Nat → Int32 → Int32 → Int32 → Int32 → St → Option (Int32 × St)) (n0 : Nat) (hrc : ∀ (t : Nat) (a b c d : Int32) (u : St) (res : Int32 × St), rc t a b c d u = some res → rcCC n0 G t a b c d u res) (x1 : Int32) (x2 : Int32) (x3 : Int32) (u : St) {res : Int32 × St} (hm : mC_Parser_among_o rc x1 x2 x3 u = some res) : KC l D G y_Parser_among (.code y_Parser_among prog_6_method_36_code 8 (some .int)) (rmGC (n0 + 1)) [.ref (G.1 28), .int x1, .int x2, .int x3] u (qI D vwCl (wC G) (tyW G) (adsC G) res) := by
  refine Ct_I (by decide) wC_as (Nat.le_of_ble_eq_true rfl) hm (fun X _ _ E hR => ?_)
  refine Sm_lvs (lv' := [(0, .ref (G.1 28)), (1, .int x1), (2, .int x2), (3, .int x3)]) rfl ?_
  rw [mC_Parser_among_o]
  refine Sm_aload_n E d_Parser_among_0 rfl 0 rfl ?_
  refine gfC_28_tokens E fl_Parser_9 d_Parser_among_1 ?_
  refine Sm_ldcS E sr_Parser_150 d_Parser_among_4 ?_
  refine Sm_cVI (As := [.ref (G.2.2.1 8)]) (b := (G.1 10)) (st := []) (n := 1) E exOk wC_as (fun _ h => cC_Tokens_takes 8 u h) gk_Parser_29 dk_Tokens_takes rfl ⟨rfl, rfl⟩ ⟨(by show 4 + 1 ≤ n0 + 1 + 6; omega), (by show 8 + (5 + 11) + 85 ≤ 31 * (n0 + 1) + 131; omega)⟩ (rvW (q0 := 10) (ci := 9) E rfl rfl rfl) rfl (Nat.le_of_ble_eq_true rfl) d_Parser_among_6 fun r1 u2 _ => ?_
  refine Sm_if_ne (tgt := 14) E d_Parser_among_9 (by decide) (fun _ => ?_) (fun _ => ?_)
  · refine Sm_aload_n E d_Parser_among_14 rfl 0 rfl ?_
    refine gfC_28_nodes E fl_Parser_15 d_Parser_among_15 ?_
    refine Sm_bipush (v := 17) E d_Parser_among_18 (by decide) ?_
    refine Sm_iload_n E d_Parser_among_20 rfl 2 rfl ?_
    refine Sm_aload_n E d_Parser_among_21 rfl 0 rfl ?_
    refine Sm_iconst (v := 1) E d_Parser_among_22 (by decide) ?_
    refine Sm_iload_n E d_Parser_among_23 rfl 3 rfl ?_
    refine Sm_iconst (v := 1) E d_Parser_among_24 (by decide) ?_
    refine Sm_iadd E d_Parser_among_25 ?_
    refine Sm_cVI (As := [.int 1, .int (x3 + 1)]) (b := (G.1 28)) (st := [.int x2, .int 17, .ref (G.1 14)]) (n := 2) E exOk wC_as (fun _ h => hrc 5 _ _ _ _ _ _ h X.2.1 (xD X)) gk_Parser_192 dk_Parser_expression rfl ⟨rfl, rfl⟩ ⟨(by show n0 + 6 + 1 ≤ n0 + 1 + 6; omega), (by show 8 + (12 + 11) + (31 * n0 + 131) ≤ 31 * (n0 + 1) + 131; omega)⟩ (rvW (q0 := 28) (ci := 6) E rfl rfl rfl) rfl (Nat.le_of_ble_eq_true rfl) d_Parser_among_26 fun r3 u4 _ => ?_
    refine Sm_cVI (As := [.int 17, .int x2, .int r3]) (b := (G.1 14)) (st := []) (n := 3) E exOk wC_as (fun _ h => cC_Nodes_join 17 x2 r3 u4 h) gk_Parser_335 dk_Nodes_join rfl ⟨rfl, rfl⟩ ⟨(by show 1 + 1 ≤ n0 + 1 + 6; omega), (by show 8 + (5 + 11) + 25 ≤ 31 * (n0 + 1) + 131; omega)⟩ (rvW (q0 := 14) (ci := 5) E rfl rfl rfl) rfl (Nat.le_of_ble_eq_true rfl) d_Parser_among_29 fun r5 u6 _ => ?_
    refine Sm_istore (lv' := [(4, .int r5), (0, .ref (G.1 28)), (1, .int x1), (2, .int x2), (3, .int x3)]) E d_Parser_among_32 (by decide) rfl ?_
    refine Sm_iconst (v := 0) E d_Parser_among_34 (by decide) ?_
    refine Sm_istore (lv' := [(5, .int 0), (4, .int r5), (0, .ref (G.1 28)), (1, .int x1), (2, .int x2), (3, .int x3)]) E d_Parser_among_35 (by decide) rfl ?_
    exact Sm_sub [2, 3, 4, 5, 1, 0] rfl (tC_Parser_among_L37 rc n0 hrc E hR FU _ _ _ _ _ _)
  · refine Sm_iconst (v := (-1)) E d_Parser_among_12 (by decide) ?_
    exact Sm_retI hR d_Parser_among_13
set_option maxRecDepth 100000 in
set_option maxHeartbeats 4000000 in
theorem cC_Parser_between_o {l : Launch} {D : va_G} {G : Gx} (rc : Nat → Int32 → Int32 → Int32 → Int32 → St → Option (Int32 × St)) (n0 : Nat) (hrc : ∀ (t : Nat) (a b c d : Int32) (u : St) (res : Int32 × St), rc t a b c d u = some res → rcCC n0 G t a b c d u res) (x1 : Int32) (x2 : Int32) (x3 : Int32) (u : St) {res : Int32 × St} (hm : mC_Parser_between_o rc x1 x2 x3 u = some res) : KC l D G y_Parser_between (.code y_Parser_between prog_6_method_35_code 7 (some .int)) (rmGC (n0 + 1)) [.ref (G.1 28), .int x1, .int x2, .int x3] u (qI D vwCl (wC G) (tyW G) (adsC G) res) := by
  refine Ct_I (by decide) wC_as (Nat.le_of_ble_eq_true rfl) hm (fun X _ _ E hR => ?_)
  refine Sm_lvs (lv' := [(0, .ref (G.1 28)), (1, .int x1), (2, .int x2), (3, .int x3)]) rfl ?_
  rw [mC_Parser_between_o]
  refine Sm_aload_n E d_Parser_between_0 rfl 0 rfl ?_
  refine gfC_28_nodes E fl_Parser_15 d_Parser_between_1 ?_
  refine Sm_bipush (v := 22) E d_Parser_between_4 (by decide) ?_
  refine Sm_iload_n E d_Parser_between_6 rfl 2 rfl ?_
  refine Sm_aload_n E d_Parser_between_7 rfl 0 rfl ?_
  refine Sm_iconst (v := 5) E d_Parser_between_8 (by decide) ?_
  refine Sm_iload_n E d_Parser_between_9 rfl 3 rfl ?_
  refine Sm_cVI (As := [.int 5, .int x3]) (b := (G.1 28)) (st := [.int x2, .int 22, .ref (G.1 14)]) (n := 2) E exOk wC_as (fun _ h => hrc 5 _ _ _ _ _ _ h X.2.1 (xD X)) gk_Parser_192 dk_Parser_expression rfl ⟨rfl, rfl⟩ ⟨(by show n0 + 6 + 1 ≤ n0 + 1 + 6; omega), (by show 8 + (12 + 11) + (31 * n0 + 131) ≤ 31 * (n0 + 1) + 131; omega)⟩ (rvW (q0 := 28) (ci := 6) E rfl rfl rfl) rfl (Nat.le_of_ble_eq_true rfl) d_Parser_between_10 fun r1 u2 _ => ?_
  refine Sm_cVI (As := [.int 22, .int x2, .int r1]) (b := (G.1 14)) (st := []) (n := 3) E exOk wC_as (fun _ h => cC_Nodes_join 22 x2 r1 u2 h) gk_Parser_335 dk_Nodes_join rfl ⟨rfl, rfl⟩ ⟨(by show 1 + 1 ≤ n0 + 1 + 6; omega), (by show 8 + (5 + 11) + 25 ≤ 31 * (n0 + 1) + 131; omega)⟩ (rvW (q0 := 14) (ci := 5) E rfl rfl rfl) rfl (Nat.le_of_ble_eq_true rfl) d_Parser_between_13 fun r3 u4 _ => ?_
  refine Sm_istore (lv' := [(4, .int r3), (0, .ref (G.1 28)), (1, .int x1), (2, .int x2), (3, .int x3)]) E d_Parser_between_16 (by decide) rfl ?_
  refine Sm_iload E d_Parser_between_18 0 rfl ?_
  refine Sm_if_lt (tgt := 36) E d_Parser_between_20 (by decide) (fun _ => ?_) (fun _ => ?_)
  · refine Sm_iconst (v := (-1)) E d_Parser_between_36 (by decide) ?_
    exact Sm_retI hR d_Parser_between_37
  · refine Sm_aload_n E d_Parser_between_23 rfl 1 rfl ?_
    refine gfC_28_tokens E fl_Parser_9 d_Parser_between_24 ?_
    refine Sm_ldcS_w E sr_Parser_349 d_Parser_between_27 ?_
    refine Sm_cVI (As := [.ref (G.2.2.1 19)]) (b := (G.1 10)) (st := []) (n := 1) E exOk wC_as (fun _ h => cC_Tokens_takes 19 u4 h) gk_Parser_29 dk_Tokens_takes rfl ⟨rfl, rfl⟩ ⟨(by show 4 + 1 ≤ n0 + 1 + 6; omega), (by show 8 + (5 + 11) + 85 ≤ 31 * (n0 + 1) + 131; omega)⟩ (rvW (q0 := 10) (ci := 9) E rfl rfl rfl) rfl (Nat.le_of_ble_eq_true rfl) d_Parser_between_30 fun r5 u6 _ => ?_
    refine Sm_if_ne (tgt := 38) E d_Parser_between_33 (by decide) (fun _ => ?_) (fun _ => ?_)
    · refine Sm_aload_n E d_Parser_between_38 rfl 1 rfl ?_
      refine gfC_28_nodes E fl_Parser_15 d_Parser_between_39 ?_
      refine Sm_iload_n E d_Parser_between_42 rfl 2 rfl ?_
      refine Sm_iload_n E d_Parser_between_43 rfl 3 rfl ?_
      refine Sm_cVI (As := [.int x1, .int x2]) (b := (G.1 14)) (st := []) (n := 2) E exOk wC_as (fun _ h => cC_Nodes_again x1 x2 u6 h) gk_Parser_351 dk_Nodes_again rfl ⟨rfl, rfl⟩ ⟨(by show 2 + 1 ≤ n0 + 1 + 6; omega), (by show 8 + (6 + 11) + 67 ≤ 31 * (n0 + 1) + 131; omega)⟩ (rvW (q0 := 14) (ci := 5) E rfl rfl rfl) rfl (Nat.le_of_ble_eq_true rfl) d_Parser_between_44 fun r7 u8 _ => ?_
      refine Sm_istore (lv' := [(5, .int r7), (4, .int r3), (0, .ref (G.1 28)), (1, .int x1), (2, .int x2), (3, .int x3)]) E d_Parser_between_47 (by decide) rfl ?_
      refine Sm_aload_n E d_Parser_between_49 rfl 2 rfl ?_
      refine gfC_28_nodes E fl_Parser_15 d_Parser_between_50 ?_
      refine Sm_bipush (v := 20) E d_Parser_between_53 (by decide) ?_
      refine Sm_iload E d_Parser_between_55 0 rfl ?_
      refine Sm_aload_n E d_Parser_between_57 rfl 2 rfl ?_
      refine Sm_iconst (v := 5) E d_Parser_between_58 (by decide) ?_
      refine Sm_iload_n E d_Parser_between_59 rfl 5 rfl ?_
      refine Sm_cVI (As := [.int 5, .int x3]) (b := (G.1 28)) (st := [.int r7, .int 20, .ref (G.1 14)]) (n := 2) E exOk wC_as (fun _ h => hrc 5 _ _ _ _ _ _ h X.2.1 (xD X)) gk_Parser_192 dk_Parser_expression rfl ⟨rfl, rfl⟩ ⟨(by show n0 + 6 + 1 ≤ n0 + 1 + 6; omega), (by show 8 + (12 + 11) + (31 * n0 + 131) ≤ 31 * (n0 + 1) + 131; omega)⟩ (rvW (q0 := 28) (ci := 6) E rfl rfl rfl) rfl (Nat.le_of_ble_eq_true rfl) d_Parser_between_60 fun r9 u10 _ => ?_
      refine Sm_cVI (As := [.int 20, .int r7, .int r9]) (b := (G.1 14)) (st := []) (n := 3) E exOk wC_as (fun _ h => cC_Nodes_join 20 r7 r9 u10 h) gk_Parser_335 dk_Nodes_join rfl ⟨rfl, rfl⟩ ⟨(by show 1 + 1 ≤ n0 + 1 + 6; omega), (by show 8 + (5 + 11) + 25 ≤ 31 * (n0 + 1) + 131; omega)⟩ (rvW (q0 := 14) (ci := 5) E rfl rfl rfl) rfl (Nat.le_of_ble_eq_true rfl) d_Parser_between_63 fun r11 u12 _ => ?_
      refine Sm_istore (lv' := [(6, .int r11), (5, .int r7), (4, .int r3), (0, .ref (G.1 28)), (1, .int x1), (2, .int x2), (3, .int x3)]) E d_Parser_between_66 (by decide) rfl ?_
      refine Sm_aload_n E d_Parser_between_68 rfl 3 rfl ?_
      refine gfC_28_nodes E fl_Parser_15 d_Parser_between_69 ?_
      refine Sm_bipush (v := 26) E d_Parser_between_72 (by decide) ?_
      refine Sm_iload E d_Parser_between_74 2 rfl ?_
      refine Sm_iload E d_Parser_between_76 0 rfl ?_
      refine Sm_cVI (As := [.int 26, .int r3, .int r11]) (b := (G.1 14)) (st := []) (n := 3) E exOk wC_as (fun _ h => cC_Nodes_join 26 r3 r11 u12 h) gk_Parser_335 dk_Nodes_join rfl ⟨rfl, rfl⟩ ⟨(by show 1 + 1 ≤ n0 + 1 + 6; omega), (by show 8 + (5 + 11) + 25 ≤ 31 * (n0 + 1) + 131; omega)⟩ (rvW (q0 := 14) (ci := 5) E rfl rfl rfl) rfl (Nat.le_of_ble_eq_true rfl) d_Parser_between_78 fun r13 u14 _ => ?_
      exact Sm_retI hR d_Parser_between_81
    · refine Sm_iconst (v := (-1)) E d_Parser_between_36 (by decide) ?_
      exact Sm_retI hR d_Parser_between_37
set_option maxRecDepth 100000 in
set_option maxHeartbeats 4000000 in
theorem tC_Parser_comparison_J158 {X : Cx} {G : Gx} {res : Int32 × St} (rc : Nat → Int32 → Int32 → Int32 → Int32 → St → Option (Int32 × St)) (n0 : Nat) (hrc : ∀ (t : Nat) (a b c d : Int32) (u : St) (res : Int32 × St), rc t a b c d u = some res → rcCC n0 G t a b c d u res) (E : EC X G prog_6_method_34_code R_Parser 7 (rmGC (n0 + 1))) (hR : RtI X vwCl (wC G) prog_6_method_34_code res) : ∀ (x5 : Int32) (x6 : Int32) (u : St), SC X G 7 res (mC_Parser_comparison_J158 rc x5 x6 u) u 158 [(0, .ref (G.1 28)), (5, .int x5), (6, .int x6)] [] := by
  intro x5 x6 u
  rw [mC_Parser_comparison_J158]
  refine Sm_iload E d_Parser_comparison_158 1 rfl ?_
  refine Sm_if_eq (tgt := 177) E d_Parser_comparison_160 (by decide) (fun _ => ?_) (fun _ => ?_)
  · refine Sm_iload E d_Parser_comparison_177 2 rfl ?_
    exact Sm_retI hR d_Parser_comparison_179
  · refine Sm_aload_n E d_Parser_comparison_163 rfl 0 rfl ?_
    refine gfC_28_nodes E fl_Parser_15 d_Parser_comparison_164 ?_
    refine Sm_bipush (v := 25) E d_Parser_comparison_167 (by decide) ?_
    refine Sm_iload E d_Parser_comparison_169 2 rfl ?_
    refine Sm_cVI (As := [.int 25, .int x6]) (b := (G.1 14)) (st := []) (n := 2) E exOk wC_as (fun _ h => cC_Nodes_top 25 x6 u h) gk_Parser_309 dk_Nodes_top rfl ⟨rfl, rfl⟩ ⟨(by show 1 + 1 ≤ n0 + 1 + 6; omega), (by show 8 + (4 + 11) + 25 ≤ 31 * (n0 + 1) + 131; omega)⟩ (rvW (q0 := 14) (ci := 5) E rfl rfl rfl) rfl (Nat.le_of_ble_eq_true rfl) d_Parser_comparison_171 fun r3 u4 _ => ?_
    refine Sm_goto (tgt := 179) E d_Parser_comparison_174 (by decide) ?_
    exact Sm_retI hR d_Parser_comparison_179
set_option maxRecDepth 100000 in
set_option maxHeartbeats 4000000 in
theorem tC_Parser_comparison_J129 {X : Cx} {G : Gx} {res : Int32 × St} (rc : Nat → Int32 → Int32 → Int32 → Int32 → St → Option (Int32 × St)) (n0 : Nat) (hrc : ∀ (t : Nat) (a b c d : Int32) (u : St) (res : Int32 × St), rc t a b c d u = some res → rcCC n0 G t a b c d u res) (E : EC X G prog_6_method_34_code R_Parser 7 (rmGC (n0 + 1))) (hR : RtI X vwCl (wC G) prog_6_method_34_code res) : ∀ (x1 : Int32) (x2 : Int32) (x3 : Int32) (x4 : Int32) (x5 : Int32) (x6 : Int32) (u : St), SC X G 7 res (mC_Parser_comparison_J129 rc x1 x2 x3 x4 x5 x6 u) u 129 [(0, .ref (G.1 28)), (1, .int x1), (2, .int x2), (3, .int x3), (4, .int x4), (5, .int x5), (6, .int x6)] [] := by
  intro x1 x2 x3 x4 x5 x6 u
  rw [mC_Parser_comparison_J129]
  refine Sm_iload_n E d_Parser_comparison_129 rfl 1 rfl ?_
  refine Sm_bipush (v := 30) E d_Parser_comparison_130 (by decide) ?_
  refine Sm_icmp_eq (tgt := 148) E d_Parser_comparison_132 (by decide) (fun _ => ?_) (fun _ => ?_)
  · refine Sm_aload_n E d_Parser_comparison_148 rfl 0 rfl ?_
    refine Sm_iload_n E d_Parser_comparison_149 rfl 2 rfl ?_
    refine Sm_iload_n E d_Parser_comparison_150 rfl 3 rfl ?_
    refine Sm_iload E d_Parser_comparison_151 4 rfl ?_
    refine Sm_cVI (As := [.int x2, .int x3, .int x4]) (b := (G.1 28)) (st := []) (n := 3) E exOk wC_as (fun _ h => hrc 2 _ _ _ _ _ _ h X.2.1 (xD X)) gk_Parser_346 dk_Parser_among rfl ⟨rfl, rfl⟩ ⟨(by show n0 + 6 + 1 ≤ n0 + 1 + 6; omega), (by show 8 + (8 + 11) + (31 * n0 + 131) ≤ 31 * (n0 + 1) + 131; omega)⟩ (rvW (q0 := 28) (ci := 6) E rfl rfl rfl) rfl (Nat.le_of_ble_eq_true rfl) d_Parser_comparison_153 fun r5 u6 _ => ?_
    refine Sm_istore (lv' := [(6, .int r5), (0, .ref (G.1 28)), (1, .int x1), (2, .int x2), (3, .int x3), (4, .int x4), (5, .int x5)]) E d_Parser_comparison_156 (by decide) rfl ?_
    exact Sm_sub [1, 6, 0] rfl (tC_Parser_comparison_J158 rc n0 hrc E hR _ _ _)
  · refine Sm_aload_n E d_Parser_comparison_135 rfl 0 rfl ?_
    refine gfC_28_tokens E fl_Parser_9 d_Parser_comparison_136 ?_
    refine Sm_ldcS_w E sr_Parser_344 d_Parser_comparison_139 ?_
    refine Sm_cVI (As := [.ref (G.2.2.1 22)]) (b := (G.1 10)) (st := []) (n := 1) E exOk wC_as (fun _ h => cC_Tokens_takes 22 u h) gk_Parser_29 dk_Tokens_takes rfl ⟨rfl, rfl⟩ ⟨(by show 4 + 1 ≤ n0 + 1 + 6; omega), (by show 8 + (5 + 11) + 85 ≤ 31 * (n0 + 1) + 131; omega)⟩ (rvW (q0 := 10) (ci := 9) E rfl rfl rfl) rfl (Nat.le_of_ble_eq_true rfl) d_Parser_comparison_142 fun r7 u8 _ => ?_
    refine Sm_if_eq (tgt := 158) E d_Parser_comparison_145 (by decide) (fun _ => ?_) (fun _ => ?_)
    · exact Sm_sub [0, 5, 6] rfl (tC_Parser_comparison_J158 rc n0 hrc E hR _ _ _)
    · refine Sm_aload_n E d_Parser_comparison_148 rfl 0 rfl ?_
      refine Sm_iload_n E d_Parser_comparison_149 rfl 2 rfl ?_
      refine Sm_iload_n E d_Parser_comparison_150 rfl 3 rfl ?_
      refine Sm_iload E d_Parser_comparison_151 4 rfl ?_
      refine Sm_cVI (As := [.int x2, .int x3, .int x4]) (b := (G.1 28)) (st := []) (n := 3) E exOk wC_as (fun _ h => hrc 2 _ _ _ _ _ _ h X.2.1 (xD X)) gk_Parser_346 dk_Parser_among rfl ⟨rfl, rfl⟩ ⟨(by show n0 + 6 + 1 ≤ n0 + 1 + 6; omega), (by show 8 + (8 + 11) + (31 * n0 + 131) ≤ 31 * (n0 + 1) + 131; omega)⟩ (rvW (q0 := 28) (ci := 6) E rfl rfl rfl) rfl (Nat.le_of_ble_eq_true rfl) d_Parser_comparison_153 fun r9 u10 _ => ?_
      refine Sm_istore (lv' := [(6, .int r9), (0, .ref (G.1 28)), (1, .int x1), (2, .int x2), (3, .int x3), (4, .int x4), (5, .int x5)]) E d_Parser_comparison_156 (by decide) rfl ?_
      exact Sm_sub [1, 6, 0] rfl (tC_Parser_comparison_J158 rc n0 hrc E hR _ _ _)
set_option maxRecDepth 100000 in
set_option maxHeartbeats 4000000 in
theorem tC_Parser_comparison_J87 {X : Cx} {G : Gx} {res : Int32 × St} (rc : Nat → Int32 → Int32 → Int32 → Int32 → St → Option (Int32 × St)) (n0 : Nat) (hrc : ∀ (t : Nat) (a b c d : Int32) (u : St) (res : Int32 × St), rc t a b c d u = some res → rcCC n0 G t a b c d u res) (E : EC X G prog_6_method_34_code R_Parser 7 (rmGC (n0 + 1))) (hR : RtI X vwCl (wC G) prog_6_method_34_code res) : ∀ (x1 : Int32) (x2 : Int32) (x3 : Int32) (x4 : Int32) (s0 : Int32) (u : St), SC X G 7 res (mC_Parser_comparison_J87 rc x1 x2 x3 x4 s0 u) u 87 [(0, .ref (G.1 28)), (1, .int x1), (2, .int x2), (3, .int x3), (4, .int x4)] [.int s0] := by
  intro x1 x2 x3 x4 s0 u
  rw [mC_Parser_comparison_J87]
  refine Sm_istore (lv' := [(5, .int s0), (0, .ref (G.1 28)), (1, .int x1), (2, .int x2), (3, .int x3), (4, .int x4)]) E d_Parser_comparison_87 (by decide) rfl ?_
  refine Sm_iconst (v := (-1)) E d_Parser_comparison_89 (by decide) ?_
  refine Sm_istore (lv' := [(6, .int (-1)), (5, .int s0), (0, .ref (G.1 28)), (1, .int x1), (2, .int x2), (3, .int x3), (4, .int x4)]) E d_Parser_comparison_90 (by decide) rfl ?_
  refine Sm_iload_n E d_Parser_comparison_92 rfl 3 rfl ?_
  refine Sm_bipush (v := 29) E d_Parser_comparison_93 (by decide) ?_
  refine Sm_icmp_eq (tgt := 116) E d_Parser_comparison_95 (by decide) (fun _ => ?_) (fun _ => ?_)
  · refine Sm_aload_n E d_Parser_comparison_116 rfl 2 rfl ?_
    refine Sm_iload_n E d_Parser_comparison_117 rfl 4 rfl ?_
    refine Sm_iload_n E d_Parser_comparison_118 rfl 5 rfl ?_
    refine Sm_iload E d_Parser_comparison_119 6 rfl ?_
    refine Sm_cVI (As := [.int x2, .int x3, .int x4]) (b := (G.1 28)) (st := []) (n := 3) E exOk wC_as (fun _ h => hrc 3 _ _ _ _ _ _ h X.2.1 (xD X)) gk_Parser_341 dk_Parser_between rfl ⟨rfl, rfl⟩ ⟨(by show n0 + 6 + 1 ≤ n0 + 1 + 6; omega), (by show 8 + (7 + 11) + (31 * n0 + 131) ≤ 31 * (n0 + 1) + 131; omega)⟩ (rvW (q0 := 28) (ci := 6) E rfl rfl rfl) rfl (Nat.le_of_ble_eq_true rfl) d_Parser_comparison_121 fun r1 u2 _ => ?_
    refine Sm_istore (lv' := [(6, .int r1), (5, .int s0), (0, .ref (G.1 28)), (1, .int x1), (2, .int x2), (3, .int x3), (4, .int x4)]) E d_Parser_comparison_124 (by decide) rfl ?_
    refine Sm_goto (tgt := 158) E d_Parser_comparison_126 (by decide) ?_
    exact Sm_sub [2, 1, 0] rfl (tC_Parser_comparison_J158 rc n0 hrc E hR _ _ _)
  · refine Sm_iload E d_Parser_comparison_98 1 rfl ?_
    refine Sm_if_eq (tgt := 129) E d_Parser_comparison_100 (by decide) (fun _ => ?_) (fun _ => ?_)
    · exact Sm_sub [2, 3, 4, 5, 6, 1, 0] rfl (tC_Parser_comparison_J129 rc n0 hrc E hR _ _ _ _ _ _ _)
    · refine Sm_aload_n E d_Parser_comparison_103 rfl 2 rfl ?_
      refine gfC_28_tokens E fl_Parser_9 d_Parser_comparison_104 ?_
      refine Sm_ldcS_w E sr_Parser_339 d_Parser_comparison_107 ?_
      refine Sm_cVI (As := [.ref (G.2.2.1 21)]) (b := (G.1 10)) (st := []) (n := 1) E exOk wC_as (fun _ h => cC_Tokens_takes 21 u h) gk_Parser_29 dk_Tokens_takes rfl ⟨rfl, rfl⟩ ⟨(by show 4 + 1 ≤ n0 + 1 + 6; omega), (by show 8 + (5 + 11) + 85 ≤ 31 * (n0 + 1) + 131; omega)⟩ (rvW (q0 := 10) (ci := 9) E rfl rfl rfl) rfl (Nat.le_of_ble_eq_true rfl) d_Parser_comparison_110 fun r11 u12 _ => ?_
      refine Sm_if_eq (tgt := 129) E d_Parser_comparison_113 (by decide) (fun _ => ?_) (fun _ => ?_)
      · exact Sm_sub [2, 3, 4, 5, 6, 1, 0] rfl (tC_Parser_comparison_J129 rc n0 hrc E hR _ _ _ _ _ _ _)
      · refine Sm_aload_n E d_Parser_comparison_116 rfl 2 rfl ?_
        refine Sm_iload_n E d_Parser_comparison_117 rfl 4 rfl ?_
        refine Sm_iload_n E d_Parser_comparison_118 rfl 5 rfl ?_
        refine Sm_iload E d_Parser_comparison_119 6 rfl ?_
        refine Sm_cVI (As := [.int x2, .int x3, .int x4]) (b := (G.1 28)) (st := []) (n := 3) E exOk wC_as (fun _ h => hrc 3 _ _ _ _ _ _ h X.2.1 (xD X)) gk_Parser_341 dk_Parser_between rfl ⟨rfl, rfl⟩ ⟨(by show n0 + 6 + 1 ≤ n0 + 1 + 6; omega), (by show 8 + (7 + 11) + (31 * n0 + 131) ≤ 31 * (n0 + 1) + 131; omega)⟩ (rvW (q0 := 28) (ci := 6) E rfl rfl rfl) rfl (Nat.le_of_ble_eq_true rfl) d_Parser_comparison_121 fun r13 u14 _ => ?_
        refine Sm_istore (lv' := [(6, .int r13), (5, .int s0), (0, .ref (G.1 28)), (1, .int x1), (2, .int x2), (3, .int x3), (4, .int x4)]) E d_Parser_comparison_124 (by decide) rfl ?_
        refine Sm_goto (tgt := 158) E d_Parser_comparison_126 (by decide) ?_
        exact Sm_sub [2, 1, 0] rfl (tC_Parser_comparison_J158 rc n0 hrc E hR _ _ _)
set_option maxRecDepth 100000 in
set_option maxHeartbeats 4000000 in
theorem tC_Parser_comparison_J24 {X : Cx} {G : Gx} {res : Int32 × St} (rc : Nat → Int32 → Int32 → Int32 → Int32 → St → Option (Int32 × St)) (n0 : Nat) (hrc : ∀ (t : Nat) (a b c d : Int32) (u : St) (res : Int32 × St), rc t a b c d u = some res → rcCC n0 G t a b c d u res) (E : EC X G prog_6_method_34_code R_Parser 7 (rmGC (n0 + 1))) (hR : RtI X vwCl (wC G) prog_6_method_34_code res) : ∀ (x3 : Int32) (s0 : Int32) (u : St), SC X G 7 res (mC_Parser_comparison_J24 rc x3 s0 u) u 24 [(0, .ref (G.1 28)), (3, .int x3)] [.int s0] := by
  intro x3 s0 u
  rw [mC_Parser_comparison_J24]
  refine Sm_istore (lv' := [(5, .int s0), (0, .ref (G.1 28)), (3, .int x3)]) E d_Parser_comparison_24 (by decide) rfl ?_
  refine Sm_aload_n E d_Parser_comparison_26 rfl 1 rfl ?_
  refine gfC_28_tokens E fl_Parser_9 d_Parser_comparison_27 ?_
  refine Sm_ldcS E sr_Parser_170 d_Parser_comparison_30 ?_
  refine Sm_cVI (As := [.ref (G.2.2.1 14)]) (b := (G.1 10)) (st := []) (n := 1) E exOk wC_as (fun _ h => cC_Tokens_takes 14 u h) gk_Parser_29 dk_Tokens_takes rfl ⟨rfl, rfl⟩ ⟨(by show 4 + 1 ≤ n0 + 1 + 6; omega), (by show 8 + (5 + 11) + 85 ≤ 31 * (n0 + 1) + 131; omega)⟩ (rvW (q0 := 10) (ci := 9) E rfl rfl rfl) rfl (Nat.le_of_ble_eq_true rfl) d_Parser_comparison_32 fun r21 u22 _ => ?_
  refine Sm_if_eq (tgt := 51) E d_Parser_comparison_35 (by decide) (fun _ => ?_) (fun _ => ?_)
  · refine Sm_iconst (v := (-1)) E d_Parser_comparison_51 (by decide) ?_
    exact Sm_retI hR d_Parser_comparison_52
  · refine Sm_aload_n E d_Parser_comparison_38 rfl 1 rfl ?_
    refine gfC_28_nodes E fl_Parser_15 d_Parser_comparison_39 ?_
    refine Sm_iload E d_Parser_comparison_42 0 rfl ?_
    refine Sm_iload_n E d_Parser_comparison_44 rfl 2 rfl ?_
    refine Sm_cVI (As := [.int s0, .int x3]) (b := (G.1 14)) (st := []) (n := 2) E exOk wC_as (fun _ h => cC_Nodes_top s0 x3 u22 h) gk_Parser_309 dk_Nodes_top rfl ⟨rfl, rfl⟩ ⟨(by show 1 + 1 ≤ n0 + 1 + 6; omega), (by show 8 + (4 + 11) + 25 ≤ 31 * (n0 + 1) + 131; omega)⟩ (rvW (q0 := 14) (ci := 5) E rfl rfl rfl) rfl (Nat.le_of_ble_eq_true rfl) d_Parser_comparison_45 fun r23 u24 _ => ?_
    refine Sm_goto (tgt := 52) E d_Parser_comparison_48 (by decide) ?_
    exact Sm_retI hR d_Parser_comparison_52
set_option maxRecDepth 100000 in
set_option maxHeartbeats 4000000 in
theorem cC_Parser_comparison_o {l : Launch} {D : va_G} {G : Gx} (rc : Nat → Int32 → Int32 → Int32 → Int32 → St → Option (Int32 × St)) (n0 : Nat) (hrc : ∀ (t : Nat) (a b c d : Int32) (u : St) (res : Int32 × St), rc t a b c d u = some res → rcCC n0 G t a b c d u res) (x1 : Int32) (x2 : Int32) (x3 : Int32) (x4 : Int32) (u : St) {res : Int32 × St} (hm : mC_Parser_comparison_o rc x1 x2 x3 x4 u = some res) : KC l D G y_Parser_comparison (.code y_Parser_comparison prog_6_method_34_code 7 (some .int)) (rmGC (n0 + 1)) [.ref (G.1 28), .int x1, .int x2, .int x3, .int x4] u (qI D vwCl (wC G) (tyW G) (adsC G) res) := by
  refine Ct_I (by decide) wC_as (Nat.le_of_ble_eq_true rfl) hm (fun X _ _ E hR => ?_)
  refine Sm_lvs (lv' := [(0, .ref (G.1 28)), (1, .int x1), (2, .int x2), (3, .int x3), (4, .int x4)]) rfl ?_
  rw [mC_Parser_comparison_o]
  refine Sm_iload_n E d_Parser_comparison_0 rfl 1 rfl ?_
  refine Sm_bipush (v := 23) E d_Parser_comparison_1 (by decide) ?_
  refine Sm_icmp_ne (tgt := 53) E d_Parser_comparison_3 (by decide) (fun _ => ?_) (fun _ => ?_)
  · refine Sm_iload_n E d_Parser_comparison_53 rfl 1 rfl ?_
    refine Sm_bipush (v := 29) E d_Parser_comparison_54 (by decide) ?_
    refine Sm_icmp_ge (tgt := 76) E d_Parser_comparison_56 (by decide) (fun _ => ?_) (fun _ => ?_)
    · refine Sm_iload_n E d_Parser_comparison_76 rfl 1 rfl ?_
      refine Sm_bipush (v := 31) E d_Parser_comparison_77 (by decide) ?_
      refine Sm_icmp_ne (tgt := 86) E d_Parser_comparison_79 (by decide) (fun _ => ?_) (fun _ => ?_)
      · refine Sm_iconst (v := 0) E d_Parser_comparison_86 (by decide) ?_
        exact Sm_sub [0, 1, 2, 3, 4] rfl (tC_Parser_comparison_J87 rc n0 hrc E hR _ _ _ _ _ _)
      · refine Sm_iconst (v := 1) E d_Parser_comparison_82 (by decide) ?_
        refine Sm_goto (tgt := 87) E d_Parser_comparison_83 (by decide) ?_
        exact Sm_sub [0, 1, 2, 3, 4] rfl (tC_Parser_comparison_J87 rc n0 hrc E hR _ _ _ _ _ _)
    · refine Sm_aload_n E d_Parser_comparison_59 rfl 0 rfl ?_
      refine gfC_28_nodes E fl_Parser_15 d_Parser_comparison_60 ?_
      refine Sm_iload_n E d_Parser_comparison_63 rfl 1 rfl ?_
      refine Sm_iload_n E d_Parser_comparison_64 rfl 3 rfl ?_
      refine Sm_aload_n E d_Parser_comparison_65 rfl 0 rfl ?_
      refine Sm_iconst (v := 5) E d_Parser_comparison_66 (by decide) ?_
      refine Sm_iload E d_Parser_comparison_67 4 rfl ?_
      refine Sm_cVI (As := [.int 5, .int x4]) (b := (G.1 28)) (st := [.int x3, .int x1, .ref (G.1 14)]) (n := 2) E exOk wC_as (fun _ h => hrc 5 _ _ _ _ _ _ h X.2.1 (xD X)) gk_Parser_192 dk_Parser_expression rfl ⟨rfl, rfl⟩ ⟨(by show n0 + 6 + 1 ≤ n0 + 1 + 6; omega), (by show 8 + (12 + 11) + (31 * n0 + 131) ≤ 31 * (n0 + 1) + 131; omega)⟩ (rvW (q0 := 28) (ci := 6) E rfl rfl rfl) rfl (Nat.le_of_ble_eq_true rfl) d_Parser_comparison_69 fun r15 u16 _ => ?_
      refine Sm_cVI (As := [.int x1, .int x3, .int r15]) (b := (G.1 14)) (st := []) (n := 3) E exOk wC_as (fun _ h => cC_Nodes_join x1 x3 r15 u16 h) gk_Parser_335 dk_Nodes_join rfl ⟨rfl, rfl⟩ ⟨(by show 1 + 1 ≤ n0 + 1 + 6; omega), (by show 8 + (5 + 11) + 25 ≤ 31 * (n0 + 1) + 131; omega)⟩ (rvW (q0 := 14) (ci := 5) E rfl rfl rfl) rfl (Nat.le_of_ble_eq_true rfl) d_Parser_comparison_72 fun r17 u18 _ => ?_
      exact Sm_retI hR d_Parser_comparison_75
  · refine Sm_aload_n E d_Parser_comparison_6 rfl 0 rfl ?_
    refine gfC_28_tokens E fl_Parser_9 d_Parser_comparison_7 ?_
    refine Sm_ldcS E sr_Parser_168 d_Parser_comparison_10 ?_
    refine Sm_cVI (As := [.ref (G.2.2.1 6)]) (b := (G.1 10)) (st := []) (n := 1) E exOk wC_as (fun _ h => cC_Tokens_takes 6 u h) gk_Parser_29 dk_Tokens_takes rfl ⟨rfl, rfl⟩ ⟨(by show 4 + 1 ≤ n0 + 1 + 6; omega), (by show 8 + (5 + 11) + 85 ≤ 31 * (n0 + 1) + 131; omega)⟩ (rvW (q0 := 10) (ci := 9) E rfl rfl rfl) rfl (Nat.le_of_ble_eq_true rfl) d_Parser_comparison_12 fun r19 u20 _ => ?_
    refine Sm_if_eq (tgt := 23) E d_Parser_comparison_15 (by decide) (fun _ => ?_) (fun _ => ?_)
    · refine Sm_iload_n E d_Parser_comparison_23 rfl 1 rfl ?_
      exact Sm_sub [0, 3] rfl (tC_Parser_comparison_J24 rc n0 hrc E hR _ _ _)
    · refine Sm_bipush (v := 24) E d_Parser_comparison_18 (by decide) ?_
      refine Sm_goto (tgt := 24) E d_Parser_comparison_20 (by decide) ?_
      exact Sm_sub [0, 3] rfl (tC_Parser_comparison_J24 rc n0 hrc E hR _ _ _)
set_option maxRecDepth 100000 in
set_option maxHeartbeats 4000000 in
theorem tC_Parser_expression_J130 {X : Cx} {G : Gx} {res : Int32 × St} (rc : Nat → Int32 → Int32 → Int32 → Int32 → St → Option (Int32 × St)) (n0 : Nat) (hrc : ∀ (t : Nat) (a b c d : Int32) (u : St) (res : Int32 × St), rc t a b c d u = some res → rcCC n0 G t a b c d u res) (E : EC X G prog_6_method_33_code R_Parser 12 (rmGC (n0 + 1))) (hR : RtI X vwCl (wC G) prog_6_method_33_code res) {q88 : Int32 → Int32 → Int32 → Int32 → Int32 → Int32 → St → Option (Int32 × St)} (h88 : ∀ (x1 : Int32) (x2 : Int32) (x3 : Int32) (x5 : Int32) (x6 : Int32) (x7 : Int32) (u : St), SC X G 12 res (q88 x1 x2 x3 x5 x6 x7 u) u 88 [(0, .ref (G.1 28)), (1, .int x1), (2, .int x2), (3, .int x3), (5, .int x5), (6, .int x6), (7, .int x7)] []) : ∀ (x1 : Int32) (x2 : Int32) (x3 : Int32) (x5 : Int32) (x6 : Int32) (x7 : Int32) (x8 : Int32) (s0 : Int32) (u : St), SC X G 12 res (mC_Parser_expression_J130 rc q88 x1 x2 x3 x5 x6 x7 x8 s0 u) u 130 [(0, .ref (G.1 28)), (1, .int x1), (2, .int x2), (3, .int x3), (5, .int x5), (6, .int x6), (7, .int x7), (8, .int x8)] [.int s0] := by
  intro x1 x2 x3 x5 x6 x7 x8 s0 u
  rw [mC_Parser_expression_J130]
  refine Sm_istore (lv' := [(10, .int s0), (0, .ref (G.1 28)), (1, .int x1), (2, .int x2), (3, .int x3), (5, .int x5), (6, .int x6), (7, .int x7), (8, .int x8)]) E d_Parser_expression_130 (by decide) rfl ?_
  refine Sm_iload E d_Parser_expression_132 0 rfl ?_
  refine Sm_cSi (As := [.int s0]) (st := []) (n := 1) E exOk wC_as (fun _ h => cC_Parser_levelOf s0 u h) gk_Parser_324 dk_Parser_levelOf rfl ⟨rfl, rfl⟩ ⟨(by show 0 + 1 ≤ n0 + 1 + 6; omega), (by show 8 + (1 + 11) + 0 ≤ 31 * (n0 + 1) + 131; omega)⟩ rfl (Nat.le_of_ble_eq_true rfl) d_Parser_expression_134 fun r7 _ => ?_
  refine Sm_istore (lv' := [(11, .int r7), (10, .int s0), (0, .ref (G.1 28)), (1, .int x1), (2, .int x2), (3, .int x3), (5, .int x5), (6, .int x6), (7, .int x7), (8, .int x8)]) E d_Parser_expression_137 (by decide) rfl ?_
  refine Sm_iload E d_Parser_expression_139 0 rfl ?_
  refine Sm_iload_n E d_Parser_expression_141 rfl 3 rfl ?_
  refine Sm_icmp_lt (tgt := 152) E d_Parser_expression_142 (by decide) (fun _ => ?_) (fun _ => ?_)
  · refine Sm_aload_n E d_Parser_expression_152 rfl 2 rfl ?_
    refine gfC_28_tokens E fl_Parser_9 d_Parser_expression_153 ?_
    refine Sm_iload E d_Parser_expression_156 9 rfl ?_
    refine Sm_cVV (As := [.int x8]) (b := (G.1 10)) (st := []) (n := 1) E exOk wC_as (fun _ h => cC_Tokens_backTo x8 u h) gk_Parser_327 dk_Tokens_backTo rfl ⟨rfl, rfl⟩ ⟨(by show 0 + 1 ≤ n0 + 1 + 6; omega), (by show 8 + (2 + 11) + 0 ≤ 31 * (n0 + 1) + 131; omega)⟩ (rvW (q0 := 10) (ci := 9) E rfl rfl rfl) rfl (Nat.le_of_ble_eq_true rfl) d_Parser_expression_158 fun u8 _ => ?_
    refine Sm_goto (tgt := 220) E d_Parser_expression_161 (by decide) ?_
    refine Sm_iload E d_Parser_expression_220 7 rfl ?_
    exact Sm_retI hR d_Parser_expression_222
  · refine Sm_iload E d_Parser_expression_145 0 rfl ?_
    refine Sm_iload E d_Parser_expression_147 6 rfl ?_
    refine Sm_icmp_le (tgt := 164) E d_Parser_expression_149 (by decide) (fun _ => ?_) (fun _ => ?_)
    · refine Sm_iload E d_Parser_expression_164 0 rfl ?_
      refine Sm_iconst (v := 4) E d_Parser_expression_166 (by decide) ?_
      refine Sm_icmp_ne (tgt := 188) E d_Parser_expression_167 (by decide) (fun _ => ?_) (fun _ => ?_)
      · refine Sm_aload_n E d_Parser_expression_188 rfl 2 rfl ?_
        refine gfC_28_nodes E fl_Parser_15 d_Parser_expression_189 ?_
        refine Sm_iload E d_Parser_expression_192 1 rfl ?_
        refine Sm_iload E d_Parser_expression_194 7 rfl ?_
        refine Sm_aload_n E d_Parser_expression_196 rfl 2 rfl ?_
        refine Sm_iload E d_Parser_expression_197 0 rfl ?_
        refine Sm_iconst (v := 1) E d_Parser_expression_199 (by decide) ?_
        refine Sm_iadd E d_Parser_expression_200 ?_
        refine Sm_iload_n E d_Parser_expression_201 rfl 4 rfl ?_
        refine Sm_cVI (As := [.int (r7 + 1), .int x2]) (b := (G.1 28)) (st := [.int x6, .int s0, .ref (G.1 14)]) (n := 2) E exOk wC_as (fun _ h => hrc 5 _ _ _ _ _ _ h X.2.1 (xD X)) gk_Parser_192 dk_Parser_expression rfl ⟨rfl, rfl⟩ ⟨(by show n0 + 6 + 1 ≤ n0 + 1 + 6; omega), (by show 8 + (12 + 11) + (31 * n0 + 131) ≤ 31 * (n0 + 1) + 131; omega)⟩ (rvW (q0 := 28) (ci := 6) E rfl rfl rfl) rfl (Nat.le_of_ble_eq_true rfl) d_Parser_expression_202 fun r9 u10 _ => ?_
        refine Sm_cVI (As := [.int s0, .int x6, .int r9]) (b := (G.1 14)) (st := []) (n := 3) E exOk wC_as (fun _ h => cC_Nodes_join s0 x6 r9 u10 h) gk_Parser_335 dk_Nodes_join rfl ⟨rfl, rfl⟩ ⟨(by show 1 + 1 ≤ n0 + 1 + 6; omega), (by show 8 + (5 + 11) + 25 ≤ 31 * (n0 + 1) + 131; omega)⟩ (rvW (q0 := 14) (ci := 5) E rfl rfl rfl) rfl (Nat.le_of_ble_eq_true rfl) d_Parser_expression_205 fun r11 u12 _ => ?_
        refine Sm_istore (lv' := [(6, .int r11), (11, .int r7), (10, .int s0), (0, .ref (G.1 28)), (1, .int x1), (2, .int x2), (3, .int x3), (5, .int x5), (7, .int x7), (8, .int x8)]) E d_Parser_expression_208 (by decide) rfl ?_
        refine Sm_iload E d_Parser_expression_210 1 rfl ?_
        refine Sm_istore (lv' := [(5, .int r7), (6, .int r11), (11, .int r7), (10, .int s0), (0, .ref (G.1 28)), (1, .int x1), (2, .int x2), (3, .int x3), (7, .int x7), (8, .int x8)]) E d_Parser_expression_212 (by decide) rfl ?_
        refine Sm_iinc (k := 8) (d := 1) E d_Parser_expression_214 rfl rfl (by decide) fun y13 _ => Sm_lvs (lv' := [(7, .int y13), (5, .int r7), (6, .int r11), (11, .int r7), (10, .int s0), (0, .ref (G.1 28)), (1, .int x1), (2, .int x2), (3, .int x3), (8, .int x8)]) rfl ?_
        refine Sm_goto (tgt := 88) E d_Parser_expression_217 (by decide) ?_
        exact Sm_sub [5, 6, 7, 8, 1, 2, 0] rfl (h88 _ _ _ _ _ _ _)
      · refine Sm_aload_n E d_Parser_expression_170 rfl 2 rfl ?_
        refine Sm_iload E d_Parser_expression_171 1 rfl ?_
        refine Sm_iload_n E d_Parser_expression_173 rfl 5 rfl ?_
        refine Sm_iload E d_Parser_expression_174 7 rfl ?_
        refine Sm_iload_n E d_Parser_expression_176 rfl 4 rfl ?_
        refine Sm_cVI (As := [.int s0, .int x3, .int x6, .int x2]) (b := (G.1 28)) (st := []) (n := 4) E exOk wC_as (fun _ h => hrc 4 _ _ _ _ _ _ h X.2.1 (xD X)) gk_Parser_331 dk_Parser_comparison rfl ⟨rfl, rfl⟩ ⟨(by show n0 + 6 + 1 ≤ n0 + 1 + 6; omega), (by show 8 + (7 + 11) + (31 * n0 + 131) ≤ 31 * (n0 + 1) + 131; omega)⟩ (rvW (q0 := 28) (ci := 6) E rfl rfl rfl) rfl (Nat.le_of_ble_eq_true rfl) d_Parser_expression_177 fun r14 u15 _ => ?_
        refine Sm_istore (lv' := [(6, .int r14), (11, .int r7), (10, .int s0), (0, .ref (G.1 28)), (1, .int x1), (2, .int x2), (3, .int x3), (5, .int x5), (7, .int x7), (8, .int x8)]) E d_Parser_expression_180 (by decide) rfl ?_
        refine Sm_iconst (v := 2) E d_Parser_expression_182 (by decide) ?_
        refine Sm_istore (lv' := [(5, .int 2), (6, .int r14), (11, .int r7), (10, .int s0), (0, .ref (G.1 28)), (1, .int x1), (2, .int x2), (3, .int x3), (7, .int x7), (8, .int x8)]) E d_Parser_expression_183 (by decide) rfl ?_
        refine Sm_goto (tgt := 214) E d_Parser_expression_185 (by decide) ?_
        refine Sm_iinc (k := 8) (d := 1) E d_Parser_expression_214 rfl rfl (by decide) fun y16 _ => Sm_lvs (lv' := [(7, .int y16), (5, .int 2), (6, .int r14), (11, .int r7), (10, .int s0), (0, .ref (G.1 28)), (1, .int x1), (2, .int x2), (3, .int x3), (8, .int x8)]) rfl ?_
        refine Sm_goto (tgt := 88) E d_Parser_expression_217 (by decide) ?_
        exact Sm_sub [5, 6, 7, 8, 1, 2, 0] rfl (h88 _ _ _ _ _ _ _)
    · refine Sm_aload_n E d_Parser_expression_152 rfl 2 rfl ?_
      refine gfC_28_tokens E fl_Parser_9 d_Parser_expression_153 ?_
      refine Sm_iload E d_Parser_expression_156 9 rfl ?_
      refine Sm_cVV (As := [.int x8]) (b := (G.1 10)) (st := []) (n := 1) E exOk wC_as (fun _ h => cC_Tokens_backTo x8 u h) gk_Parser_327 dk_Tokens_backTo rfl ⟨rfl, rfl⟩ ⟨(by show 0 + 1 ≤ n0 + 1 + 6; omega), (by show 8 + (2 + 11) + 0 ≤ 31 * (n0 + 1) + 131; omega)⟩ (rvW (q0 := 10) (ci := 9) E rfl rfl rfl) rfl (Nat.le_of_ble_eq_true rfl) d_Parser_expression_158 fun u17 _ => ?_
      refine Sm_goto (tgt := 220) E d_Parser_expression_161 (by decide) ?_
      refine Sm_iload E d_Parser_expression_220 7 rfl ?_
      exact Sm_retI hR d_Parser_expression_222
set_option maxRecDepth 100000 in
set_option maxHeartbeats 4000000 in
theorem tC_Parser_expression_L88 {X : Cx} {G : Gx} {res : Int32 × St} (rc : Nat → Int32 → Int32 → Int32 → Int32 → St → Option (Int32 × St)) (n0 : Nat) (hrc : ∀ (t : Nat) (a b c d : Int32) (u : St) (res : Int32 × St), rc t a b c d u = some res → rcCC n0 G t a b c d u res) (E : EC X G prog_6_method_33_code R_Parser 12 (rmGC (n0 + 1))) (hR : RtI X vwCl (wC G) prog_6_method_33_code res) : ∀ (n : Nat) (x1 : Int32) (x2 : Int32) (x3 : Int32) (x5 : Int32) (x6 : Int32) (x7 : Int32) (u : St), SC X G 12 res (mC_Parser_expression_L88 rc n x1 x2 x3 x5 x6 x7 u) u 88 [(0, .ref (G.1 28)), (1, .int x1), (2, .int x2), (3, .int x3), (5, .int x5), (6, .int x6), (7, .int x7)] [] := by
  intro n
  induction n with
  | zero => intro x1 x2 x3 x5 x6 x7 u; exact Sm_none
  | succ n h88 =>
    intro x1 x2 x3 x5 x6 x7 u
    rw [mC_Parser_expression_L88]
    refine Sm_iload E d_Parser_expression_88 6 rfl ?_
    refine Sm_sipush (v := 2000) E d_Parser_expression_90 (by decide) ?_
    refine Sm_icmp_ge (tgt := 220) E d_Parser_expression_93 (by decide) (fun _ => ?_) (fun _ => ?_)
    · refine Sm_iload E d_Parser_expression_220 5 rfl ?_
      exact Sm_retI hR d_Parser_expression_222
    · refine Sm_iload E d_Parser_expression_96 5 rfl ?_
      refine Sm_if_lt (tgt := 220) E d_Parser_expression_98 (by decide) (fun _ => ?_) (fun _ => ?_)
      · refine Sm_iload E d_Parser_expression_220 5 rfl ?_
        exact Sm_retI hR d_Parser_expression_222
      · refine Sm_aload_n E d_Parser_expression_101 rfl 0 rfl ?_
        refine gfC_28_tokens E fl_Parser_9 d_Parser_expression_102 ?_
        refine Sm_cVi (As := []) (b := (G.1 10)) (st := []) (n := 0) E exOk wC_as (fun _ h => cC_Tokens_mark u h) gk_Parser_315 dk_Tokens_mark rfl ⟨rfl, rfl⟩ ⟨(by show 0 + 1 ≤ n0 + 1 + 6; omega), (by show 8 + (1 + 11) + 0 ≤ 31 * (n0 + 1) + 131; omega)⟩ (rvW (q0 := 10) (ci := 9) E rfl rfl rfl) rfl (Nat.le_of_ble_eq_true rfl) d_Parser_expression_105 fun r4 _ => ?_
        refine Sm_istore (lv' := [(8, .int r4), (0, .ref (G.1 28)), (1, .int x1), (2, .int x2), (3, .int x3), (5, .int x5), (6, .int x6), (7, .int x7)]) E d_Parser_expression_108 (by decide) rfl ?_
        refine Sm_aload_n E d_Parser_expression_110 rfl 1 rfl ?_
        refine Sm_cVI (As := []) (b := (G.1 28)) (st := []) (n := 0) E exOk wC_as (fun _ h => cC_Parser_wordBehind u h) gk_Parser_318 dk_Parser_wordBehind rfl ⟨rfl, rfl⟩ ⟨(by show 5 + 1 ≤ n0 + 1 + 6; omega), (by show 8 + (1 + 11) + 109 ≤ 31 * (n0 + 1) + 131; omega)⟩ (rvW (q0 := 28) (ci := 6) E rfl rfl rfl) rfl (Nat.le_of_ble_eq_true rfl) d_Parser_expression_111 fun r5 u6 _ => ?_
        refine Sm_istore (lv' := [(9, .int r5), (8, .int r4), (0, .ref (G.1 28)), (1, .int x1), (2, .int x2), (3, .int x3), (5, .int x5), (6, .int x6), (7, .int x7)]) E d_Parser_expression_114 (by decide) rfl ?_
        refine Sm_iload E d_Parser_expression_116 0 rfl ?_
        refine Sm_if_ge (tgt := 128) E d_Parser_expression_118 (by decide) (fun _ => ?_) (fun _ => ?_)
        · refine Sm_iload E d_Parser_expression_128 0 rfl ?_
          exact Sm_sub [2, 3, 4, 5, 6, 7, 8, 1] rfl (tC_Parser_expression_J130 rc n0 hrc E hR h88 _ _ _ _ _ _ _ _ _)
        · refine Sm_aload_n E d_Parser_expression_121 rfl 2 rfl ?_
          refine Sm_cVI (As := []) (b := (G.1 28)) (st := []) (n := 0) E exOk wC_as (fun _ h => cC_Parser_signBehind u6 h) gk_Parser_321 dk_Parser_signBehind rfl ⟨rfl, rfl⟩ ⟨(by show 5 + 1 ≤ n0 + 1 + 6; omega), (by show 8 + (1 + 11) + 109 ≤ 31 * (n0 + 1) + 131; omega)⟩ (rvW (q0 := 28) (ci := 6) E rfl rfl rfl) rfl (Nat.le_of_ble_eq_true rfl) d_Parser_expression_122 fun r18 u19 _ => ?_
          refine Sm_goto (tgt := 130) E d_Parser_expression_125 (by decide) ?_
          exact Sm_sub [2, 3, 4, 5, 6, 7, 8, 1] rfl (tC_Parser_expression_J130 rc n0 hrc E hR h88 _ _ _ _ _ _ _ _ _)
set_option maxRecDepth 100000 in
set_option maxHeartbeats 4000000 in
theorem tC_Parser_expression_J51 {X : Cx} {G : Gx} {res : Int32 × St} (rc : Nat → Int32 → Int32 → Int32 → Int32 → St → Option (Int32 × St)) (n0 : Nat) (hrc : ∀ (t : Nat) (a b c d : Int32) (u : St) (res : Int32 × St), rc t a b c d u = some res → rcCC n0 G t a b c d u res) (E : EC X G prog_6_method_33_code R_Parser 12 (rmGC (n0 + 1))) (hR : RtI X vwCl (wC G) prog_6_method_33_code res) : ∀ (x1 : Int32) (x2 : Int32) (x3 : Int32) (x4 : Int32) (s0 : Int32) (u : St), SC X G 12 res (mC_Parser_expression_J51 rc x1 x2 x3 x4 s0 u) u 51 [(0, .ref (G.1 28)), (1, .int x1), (2, .int x2), (3, .int x3), (4, .int x4)] [.int s0] := by
  intro x1 x2 x3 x4 s0 u
  rw [mC_Parser_expression_J51]
  refine Sm_istore (lv' := [(5, .int s0), (0, .ref (G.1 28)), (1, .int x1), (2, .int x2), (3, .int x3), (4, .int x4)]) E d_Parser_expression_51 (by decide) rfl ?_
  refine Sm_iload E d_Parser_expression_53 5 rfl ?_
  refine Sm_if_eq (tgt := 78) E d_Parser_expression_55 (by decide) (fun _ => ?_) (fun _ => ?_)
  · refine Sm_aload_n E d_Parser_expression_78 rfl 1 rfl ?_
    refine Sm_iload_n E d_Parser_expression_79 rfl 3 rfl ?_
    refine Sm_cVI (As := [.int x2]) (b := (G.1 28)) (st := []) (n := 1) E exOk wC_as (fun _ h => hrc 1 _ _ _ _ _ _ h X.2.1 (xD X)) gk_Parser_312 dk_Parser_operand rfl ⟨rfl, rfl⟩ ⟨(by show n0 + 6 + 1 ≤ n0 + 1 + 6; omega), (by show 8 + (4 + 11) + (31 * n0 + 131) ≤ 31 * (n0 + 1) + 131; omega)⟩ (rvW (q0 := 28) (ci := 6) E rfl rfl rfl) rfl (Nat.le_of_ble_eq_true rfl) d_Parser_expression_80 fun r2 u3 _ => ?_
    refine Sm_istore (lv' := [(6, .int r2), (5, .int s0), (0, .ref (G.1 28)), (1, .int x1), (2, .int x2), (3, .int x3), (4, .int x4)]) E d_Parser_expression_83 (by decide) rfl ?_
    refine Sm_iconst (v := 0) E d_Parser_expression_85 (by decide) ?_
    refine Sm_istore (lv' := [(7, .int 0), (6, .int r2), (5, .int s0), (0, .ref (G.1 28)), (1, .int x1), (2, .int x2), (3, .int x3), (4, .int x4)]) E d_Parser_expression_86 (by decide) rfl ?_
    exact Sm_sub [3, 4, 5, 6, 2, 1, 0] rfl (tC_Parser_expression_L88 rc n0 hrc E hR FU _ _ _ _ _ _ _)
  · refine Sm_aload_n E d_Parser_expression_58 rfl 1 rfl ?_
    refine gfC_28_nodes E fl_Parser_15 d_Parser_expression_59 ?_
    refine Sm_bipush (v := 25) E d_Parser_expression_62 (by decide) ?_
    refine Sm_aload_n E d_Parser_expression_64 rfl 1 rfl ?_
    refine Sm_iconst (v := 3) E d_Parser_expression_65 (by decide) ?_
    refine Sm_iload_n E d_Parser_expression_66 rfl 3 rfl ?_
    refine Sm_iconst (v := 1) E d_Parser_expression_67 (by decide) ?_
    refine Sm_iadd E d_Parser_expression_68 ?_
    refine Sm_cVI (As := [.int 3, .int (x2 + 1)]) (b := (G.1 28)) (st := [.int 25, .ref (G.1 14)]) (n := 2) E exOk wC_as (fun _ h => hrc 5 _ _ _ _ _ _ h X.2.1 (xD X)) gk_Parser_192 dk_Parser_expression rfl ⟨rfl, rfl⟩ ⟨(by show n0 + 6 + 1 ≤ n0 + 1 + 6; omega), (by show 8 + (12 + 11) + (31 * n0 + 131) ≤ 31 * (n0 + 1) + 131; omega)⟩ (rvW (q0 := 28) (ci := 6) E rfl rfl rfl) rfl (Nat.le_of_ble_eq_true rfl) d_Parser_expression_69 fun r20 u21 _ => ?_
    refine Sm_cVI (As := [.int 25, .int r20]) (b := (G.1 14)) (st := []) (n := 2) E exOk wC_as (fun _ h => cC_Nodes_top 25 r20 u21 h) gk_Parser_309 dk_Nodes_top rfl ⟨rfl, rfl⟩ ⟨(by show 1 + 1 ≤ n0 + 1 + 6; omega), (by show 8 + (4 + 11) + 25 ≤ 31 * (n0 + 1) + 131; omega)⟩ (rvW (q0 := 14) (ci := 5) E rfl rfl rfl) rfl (Nat.le_of_ble_eq_true rfl) d_Parser_expression_72 fun r22 u23 _ => ?_
    refine Sm_goto (tgt := 83) E d_Parser_expression_75 (by decide) ?_
    refine Sm_istore (lv' := [(6, .int r22), (5, .int s0), (0, .ref (G.1 28)), (1, .int x1), (2, .int x2), (3, .int x3), (4, .int x4)]) E d_Parser_expression_83 (by decide) rfl ?_
    refine Sm_iconst (v := 0) E d_Parser_expression_85 (by decide) ?_
    refine Sm_istore (lv' := [(7, .int 0), (6, .int r22), (5, .int s0), (0, .ref (G.1 28)), (1, .int x1), (2, .int x2), (3, .int x3), (4, .int x4)]) E d_Parser_expression_86 (by decide) rfl ?_
    exact Sm_sub [3, 4, 5, 6, 2, 1, 0] rfl (tC_Parser_expression_L88 rc n0 hrc E hR FU _ _ _ _ _ _ _)
set_option maxRecDepth 100000 in
set_option maxHeartbeats 4000000 in
theorem tC_Parser_expression_J37 {X : Cx} {G : Gx} {res : Int32 × St} (rc : Nat → Int32 → Int32 → Int32 → Int32 → St → Option (Int32 × St)) (n0 : Nat) (hrc : ∀ (t : Nat) (a b c d : Int32) (u : St) (res : Int32 × St), rc t a b c d u = some res → rcCC n0 G t a b c d u res) (E : EC X G prog_6_method_33_code R_Parser 12 (rmGC (n0 + 1))) (hR : RtI X vwCl (wC G) prog_6_method_33_code res) : ∀ (x1 : Int32) (x2 : Int32) (x3 : Int32) (u : St), SC X G 12 res (mC_Parser_expression_J37 rc x1 x2 x3 u) u 37 [(0, .ref (G.1 28)), (1, .int x1), (2, .int x2), (3, .int x3)] [] := by
  intro x1 x2 x3 u
  rw [mC_Parser_expression_J37]
  refine Sm_iconst (v := 0) E d_Parser_expression_37 (by decide) ?_
  refine Sm_istore (lv' := [(4, .int 0), (0, .ref (G.1 28)), (1, .int x1), (2, .int x2), (3, .int x3)]) E d_Parser_expression_38 (by decide) rfl ?_
  refine Sm_iload E d_Parser_expression_40 0 rfl ?_
  refine Sm_if_eq_t (tgt := 49) E d_Parser_expression_42 (by decide) (by decide) ?_
  refine Sm_bipush (v := 7) E d_Parser_expression_49 (by decide) ?_
  exact Sm_sub [1, 2, 3, 4, 0] rfl (tC_Parser_expression_J51 rc n0 hrc E hR _ _ _ _ _ _)
set_option maxRecDepth 100000 in
set_option maxHeartbeats 4000000 in
theorem cC_Parser_expression_o {l : Launch} {D : va_G} {G : Gx} (rc : Nat → Int32 → Int32 → Int32 → Int32 → St → Option (Int32 × St)) (n0 : Nat) (hrc : ∀ (t : Nat) (a b c d : Int32) (u : St) (res : Int32 × St), rc t a b c d u = some res → rcCC n0 G t a b c d u res) (x1 : Int32) (x2 : Int32) (u : St) {res : Int32 × St} (hm : mC_Parser_expression_o rc x1 x2 u = some res) : KC l D G y_Parser_expression (.code y_Parser_expression prog_6_method_33_code 12 (some .int)) (rmGC (n0 + 1)) [.ref (G.1 28), .int x1, .int x2] u (qI D vwCl (wC G) (tyW G) (adsC G) res) := by
  refine Ct_I (by decide) wC_as (Nat.le_of_ble_eq_true rfl) hm (fun X _ _ E hR => ?_)
  refine Sm_lvs (lv' := [(0, .ref (G.1 28)), (1, .int x1), (2, .int x2)]) rfl ?_
  rw [mC_Parser_expression_o]
  refine Sm_iload_n E d_Parser_expression_0 rfl 2 rfl ?_
  refine Sm_bipush (v := 20) E d_Parser_expression_1 (by decide) ?_
  refine Sm_icmp_le (tgt := 8) E d_Parser_expression_3 (by decide) (fun _ => ?_) (fun _ => ?_)
  · refine Sm_aload_n E d_Parser_expression_8 rfl 0 rfl ?_
    refine gfC_28_nodes E fl_Parser_15 d_Parser_expression_9 ?_
    refine Sm_cVi (As := []) (b := (G.1 14)) (st := []) (n := 0) E exOk wC_as (fun _ h => cC_Nodes_size u h) gk_Parser_305 dk_Nodes_size rfl ⟨rfl, rfl⟩ ⟨(by show 0 + 1 ≤ n0 + 1 + 6; omega), (by show 8 + (1 + 11) + 0 ≤ 31 * (n0 + 1) + 131; omega)⟩ (rvW (q0 := 14) (ci := 5) E rfl rfl rfl) rfl (Nat.le_of_ble_eq_true rfl) d_Parser_expression_12 fun r1 _ => ?_
    refine Sm_istore_n (lv' := [(3, .int r1), (0, .ref (G.1 28)), (1, .int x1), (2, .int x2)]) E d_Parser_expression_15 rfl (by decide) rfl ?_
    refine Sm_iload_n E d_Parser_expression_16 rfl 2 rfl ?_
    refine Sm_iconst (v := 3) E d_Parser_expression_17 (by decide) ?_
    refine Sm_icmp_gt (tgt := 37) E d_Parser_expression_18 (by decide) (fun _ => ?_) (fun _ => ?_)
    · exact Sm_sub [1, 2, 3, 0] rfl (tC_Parser_expression_J37 rc n0 hrc E hR _ _ _ _)
    · refine Sm_aload_n E d_Parser_expression_21 rfl 1 rfl ?_
      refine gfC_28_tokens E fl_Parser_9 d_Parser_expression_22 ?_
      refine Sm_ldcS E sr_Parser_168 d_Parser_expression_25 ?_
      refine Sm_cVI (As := [.ref (G.2.2.1 6)]) (b := (G.1 10)) (st := []) (n := 1) E exOk wC_as (fun _ h => cC_Tokens_takes 6 u h) gk_Parser_29 dk_Tokens_takes rfl ⟨rfl, rfl⟩ ⟨(by show 4 + 1 ≤ n0 + 1 + 6; omega), (by show 8 + (5 + 11) + 85 ≤ 31 * (n0 + 1) + 131; omega)⟩ (rvW (q0 := 10) (ci := 9) E rfl rfl rfl) rfl (Nat.le_of_ble_eq_true rfl) d_Parser_expression_27 fun r24 u25 _ => ?_
      refine Sm_if_eq (tgt := 37) E d_Parser_expression_30 (by decide) (fun _ => ?_) (fun _ => ?_)
      · exact Sm_sub [1, 2, 3, 0] rfl (tC_Parser_expression_J37 rc n0 hrc E hR _ _ _ _)
      · refine Sm_iconst (v := 1) E d_Parser_expression_33 (by decide) ?_
        refine Sm_goto (tgt := 38) E d_Parser_expression_34 (by decide) ?_
        refine Sm_istore (lv' := [(4, .int 1), (3, .int r1), (0, .ref (G.1 28)), (1, .int x1), (2, .int x2)]) E d_Parser_expression_38 (by decide) rfl ?_
        refine Sm_iload E d_Parser_expression_40 0 rfl ?_
        refine Sm_if_eq_f (tgt := 49) E d_Parser_expression_42 (by decide) (by decide) ?_
        refine Sm_iconst (v := 2) E d_Parser_expression_45 (by decide) ?_
        refine Sm_goto (tgt := 51) E d_Parser_expression_46 (by decide) ?_
        exact Sm_sub [2, 3, 4, 1, 0] rfl (tC_Parser_expression_J51 rc n0 hrc E hR _ _ _ _ _ _)
  · refine Sm_iconst (v := (-1)) E d_Parser_expression_6 (by decide) ?_
    exact Sm_retI hR d_Parser_expression_7
set_option maxRecDepth 100000 in
theorem cgC {G : Gx} : ∀ (n t : Nat) (a b c d : Int32) (u : St) (res : Int32 × St), grpC n t a b c d u = some res → rcCC n G t a b c d u res := by
  intro n
  induction n with
  | zero => intro t a b c d u res h; cases h
  | succ n ih =>
    intro t a b c d u res h
    match t, h with
    | 0, h => exact fun l D => cC_Parser_aggregated_o (grpC n) n ih a b u h
    | 1, h => exact fun l D => cC_Parser_operand_o (grpC n) n ih a u h
    | 2, h => exact fun l D => cC_Parser_among_o (grpC n) n ih a b c u h
    | 3, h => exact fun l D => cC_Parser_between_o (grpC n) n ih a b c u h
    | 4, h => exact fun l D => cC_Parser_comparison_o (grpC n) n ih a b c d u h
    | 5, h => exact fun l D => cC_Parser_expression_o (grpC n) n ih a b u h
    | t + 6, h => trivial
theorem cC_Parser_aggregated {l : Launch} {D : va_G} {G : Gx} (x1 : Int32) (x2 : Int32) (u : St) {res : Int32 × St} (hm : mC_Parser_aggregated DP x1 x2 u = some res) : KC l D G y_Parser_aggregated (.code y_Parser_aggregated prog_6_method_38_code 4 (some .int)) (rmGC DP) [.ref (G.1 28), .int x1, .int x2] u (qI D vwCl (wC G) (tyW G) (adsC G) res) := cgC DP 0 _ _ _ _ u res hm l D
theorem cC_Parser_operand {l : Launch} {D : va_G} {G : Gx} (x1 : Int32) (u : St) {res : Int32 × St} (hm : mC_Parser_operand DP x1 u = some res) : KC l D G y_Parser_operand (.code y_Parser_operand prog_6_method_37_code 4 (some .int)) (rmGC DP) [.ref (G.1 28), .int x1] u (qI D vwCl (wC G) (tyW G) (adsC G) res) := cgC DP 1 _ _ _ _ u res hm l D
theorem cC_Parser_among {l : Launch} {D : va_G} {G : Gx} (x1 : Int32) (x2 : Int32) (x3 : Int32) (u : St) {res : Int32 × St} (hm : mC_Parser_among DP x1 x2 x3 u = some res) : KC l D G y_Parser_among (.code y_Parser_among prog_6_method_36_code 8 (some .int)) (rmGC DP) [.ref (G.1 28), .int x1, .int x2, .int x3] u (qI D vwCl (wC G) (tyW G) (adsC G) res) := cgC DP 2 _ _ _ _ u res hm l D
theorem cC_Parser_between {l : Launch} {D : va_G} {G : Gx} (x1 : Int32) (x2 : Int32) (x3 : Int32) (u : St) {res : Int32 × St} (hm : mC_Parser_between DP x1 x2 x3 u = some res) : KC l D G y_Parser_between (.code y_Parser_between prog_6_method_35_code 7 (some .int)) (rmGC DP) [.ref (G.1 28), .int x1, .int x2, .int x3] u (qI D vwCl (wC G) (tyW G) (adsC G) res) := cgC DP 3 _ _ _ _ u res hm l D
theorem cC_Parser_comparison {l : Launch} {D : va_G} {G : Gx} (x1 : Int32) (x2 : Int32) (x3 : Int32) (x4 : Int32) (u : St) {res : Int32 × St} (hm : mC_Parser_comparison DP x1 x2 x3 x4 u = some res) : KC l D G y_Parser_comparison (.code y_Parser_comparison prog_6_method_34_code 7 (some .int)) (rmGC DP) [.ref (G.1 28), .int x1, .int x2, .int x3, .int x4] u (qI D vwCl (wC G) (tyW G) (adsC G) res) := cgC DP 4 _ _ _ _ u res hm l D
theorem cC_Parser_expression {l : Launch} {D : va_G} {G : Gx} (x1 : Int32) (x2 : Int32) (u : St) {res : Int32 × St} (hm : mC_Parser_expression DP x1 x2 u = some res) : KC l D G y_Parser_expression (.code y_Parser_expression prog_6_method_33_code 12 (some .int)) (rmGC DP) [.ref (G.1 28), .int x1, .int x2] u (qI D vwCl (wC G) (tyW G) (adsC G) res) := cgC DP 5 _ _ _ _ u res hm l D
set_option maxRecDepth 100000 in
set_option maxHeartbeats 4000000 in
theorem cC_Lists_add {l : Launch} {D : va_G} {G : Gx} (x1 : Int32) (x2 : Int32) (u : St) {res : St} (hm : mC_Lists_add x1 x2 u = some res) : KC l D G y_Lists_add (.code y_Lists_add prog_3_method_5_code 3 none) { frames := 0, cells := 0, slots := 0, locals := 0 } [.ref (G.1 24), .int x1, .int x2] u (qV D vwCl (wC G) (tyW G) (adsC G) res) := by
  refine Ct_V (by decide) wC_as (Nat.le_of_ble_eq_true rfl) hm (fun X _ _ E hR => ?_)
  refine Sm_lvs (lv' := [(0, .ref (G.1 24)), (1, .int x1), (2, .int x2)]) rfl ?_
  rw [mC_Lists_add]
  refine Sm_iload_n E d_Lists_add_0 rfl 1 rfl ?_
  refine Sm_if_lt (tgt := 24) E d_Lists_add_1 (by decide) (fun _ => ?_) (fun _ => ?_)
  · refine Sm_aload_n E d_Lists_add_24 rfl 0 rfl ?_
    refine Sm_iconst (v := 1) E d_Lists_add_25 (by decide) ?_
    refine pfC_24_over E fl_Lists_22 d_Lists_add_26 (by decide) rfl fun u1 _ => ?_
    exact Sm_retV hR d_Lists_add_29
  · refine Sm_iload_n E d_Lists_add_4 rfl 1 rfl ?_
    refine Sm_bipush (v := 14) E d_Lists_add_5 (by decide) ?_
    refine Sm_icmp_ge (tgt := 24) E d_Lists_add_7 (by decide) (fun _ => ?_) (fun _ => ?_)
    · refine Sm_aload_n E d_Lists_add_24 rfl 0 rfl ?_
      refine Sm_iconst (v := 1) E d_Lists_add_25 (by decide) ?_
      refine pfC_24_over E fl_Lists_22 d_Lists_add_26 (by decide) rfl fun u2 _ => ?_
      exact Sm_retV hR d_Lists_add_29
    · refine Sm_aload_n E d_Lists_add_10 rfl 0 rfl ?_
      refine gfC_24_sizes E fl_Lists_9 d_Lists_add_11 ?_
      refine Sm_iload_n E d_Lists_add_14 rfl 1 rfl ?_
      refine Sm_gd fun hi => ldC_25 E (inb_in hi) d_Lists_add_15 ?_
      refine Sm_gsA (j := 0) E (by decide) fl_Lists_26 d_Lists_add_16 ?_
      refine Sm_iload_n E d_Lists_add_19 rfl 1 rfl ?_
      refine Sm_gd fun hi => Sm_stl (j := 0) E (by decide) (inb_in hi) d_Lists_add_20 ?_
      refine Sm_icmp_lt (tgt := 30) E d_Lists_add_21 (by decide) (fun _ => ?_) (fun _ => ?_)
      · refine Sm_aload_n E d_Lists_add_30 rfl 0 rfl ?_
        refine gfC_24_entries E fl_Lists_13 d_Lists_add_31 ?_
        refine Sm_gsA (j := 1) E (by decide) fl_Lists_29 d_Lists_add_34 ?_
        refine Sm_iload_n E d_Lists_add_37 rfl 1 rfl ?_
        refine Sm_gd fun hi => Sm_stl (j := 1) E (by decide) (inb_in hi) d_Lists_add_38 ?_
        refine Sm_aload_n E d_Lists_add_39 rfl 0 rfl ?_
        refine gfC_24_sizes E fl_Lists_9 d_Lists_add_40 ?_
        refine Sm_iload_n E d_Lists_add_43 rfl 1 rfl ?_
        refine Sm_gd fun hi => ldC_25 E (inb_in hi) d_Lists_add_44 ?_
        refine Sm_iadd E d_Lists_add_45 ?_
        refine Sm_iload_n E d_Lists_add_46 rfl 2 rfl ?_
        refine Sm_gd fun hi => stC_26 E (inb_in hi) d_Lists_add_47 fun u3 _ => ?_
        refine Sm_aload_n E d_Lists_add_48 rfl 0 rfl ?_
        refine gfC_24_sizes E fl_Lists_9 d_Lists_add_49 ?_
        refine Sm_iload_n E d_Lists_add_52 rfl 1 rfl ?_
        refine Sm_dup2 E d_Lists_add_53 rfl rfl ?_
        refine Sm_gd fun hi => ldC_25 E (inb_in hi) d_Lists_add_54 ?_
        refine Sm_iconst (v := 1) E d_Lists_add_55 (by decide) ?_
        refine Sm_iadd E d_Lists_add_56 ?_
        refine Sm_gd fun hi => stC_25 E (inb_in hi) d_Lists_add_57 fun u4 _ => ?_
        exact Sm_retV hR d_Lists_add_58
      · refine Sm_aload_n E d_Lists_add_24 rfl 0 rfl ?_
        refine Sm_iconst (v := 1) E d_Lists_add_25 (by decide) ?_
        refine pfC_24_over E fl_Lists_22 d_Lists_add_26 (by decide) rfl fun u5 _ => ?_
        exact Sm_retV hR d_Lists_add_29
set_option maxRecDepth 100000 in
set_option maxHeartbeats 4000000 in
theorem tC_Parser_expressions_L2 {X : Cx} {G : Gx} {res : Int32 × St} (E : EC X G prog_6_method_15_code R_Parser 4 { frames := 407, cells := 0, slots := 0, locals := 12562 }) (hR : RtZ X vwCl (wC G) prog_6_method_15_code .boolean res) : ∀ (n : Nat) (x1 : Int32) (x2 : Int32) (u : St), SC X G 4 res (mC_Parser_expressions_L2 n x1 x2 u) u 2 [(0, .ref (G.1 28)), (1, .int x1), (2, .int x2)] [] := by
  intro n
  induction n with
  | zero => intro x1 x2 u; exact Sm_none
  | succ n h2 =>
    intro x1 x2 u
    rw [mC_Parser_expressions_L2]
    refine Sm_iload_n E d_Parser_expressions_2 rfl 2 rfl ?_
    refine Sm_sipush (v := 2000) E d_Parser_expressions_3 (by decide) ?_
    refine Sm_icmp_ge (tgt := 51) E d_Parser_expressions_6 (by decide) (fun _ => ?_) (fun _ => ?_)
    · refine Sm_iconst (v := 0) E d_Parser_expressions_51 (by decide) ?_
      exact Sm_retZ hR (by decide) d_Parser_expressions_52
    · refine Sm_aload_n E d_Parser_expressions_9 rfl 0 rfl ?_
      refine Sm_iconst (v := 1) E d_Parser_expressions_10 (by decide) ?_
      refine Sm_iconst (v := 0) E d_Parser_expressions_11 (by decide) ?_
      refine Sm_cVI (As := [.int 1, .int 0]) (b := (G.1 28)) (st := []) (n := 2) E exOk wC_as (fun _ h => cC_Parser_expression 1 0 u h) gk_Parser_192 dk_Parser_expression rfl ⟨rfl, rfl⟩ ⟨Nat.le_of_ble_eq_true rfl, Nat.le_of_ble_eq_true rfl⟩ (rvW (q0 := 28) (ci := 6) E rfl rfl rfl) rfl (Nat.le_of_ble_eq_true rfl) d_Parser_expressions_12 fun r1 u2 _ => ?_
      refine Sm_istore_n (lv' := [(3, .int r1), (0, .ref (G.1 28)), (1, .int x1), (2, .int x2)]) E d_Parser_expressions_15 rfl (by decide) rfl ?_
      refine Sm_iload_n E d_Parser_expressions_16 rfl 0 rfl ?_
      refine Sm_if_ge (tgt := 22) E d_Parser_expressions_17 (by decide) (fun _ => ?_) (fun _ => ?_)
      · refine Sm_aload_n E d_Parser_expressions_22 rfl 1 rfl ?_
        refine gfC_28_lists E fl_Parser_19 d_Parser_expressions_23 ?_
        refine Sm_iload_n E d_Parser_expressions_26 rfl 2 rfl ?_
        refine Sm_iload_n E d_Parser_expressions_27 rfl 0 rfl ?_
        refine Sm_cVV (As := [.int x1, .int r1]) (b := (G.1 24)) (st := []) (n := 2) E exOk wC_as (fun _ h => cC_Lists_add x1 r1 u2 h) gk_Parser_174 dk_Lists_add rfl ⟨rfl, rfl⟩ ⟨Nat.le_of_ble_eq_true rfl, Nat.le_of_ble_eq_true rfl⟩ (rvW (q0 := 24) (ci := 3) E rfl rfl rfl) rfl (Nat.le_of_ble_eq_true rfl) d_Parser_expressions_28 fun u3 _ => ?_
        refine Sm_aload_n E d_Parser_expressions_31 rfl 1 rfl ?_
        refine gfC_28_tokens E fl_Parser_9 d_Parser_expressions_32 ?_
        refine Sm_ldcS E sr_Parser_162 d_Parser_expressions_35 ?_
        refine Sm_cVI (As := [.ref (G.2.2.1 33)]) (b := (G.1 10)) (st := []) (n := 1) E exOk wC_as (fun _ h => cC_Tokens_takes 33 u3 h) gk_Parser_29 dk_Tokens_takes rfl ⟨rfl, rfl⟩ ⟨Nat.le_of_ble_eq_true rfl, Nat.le_of_ble_eq_true rfl⟩ (rvW (q0 := 10) (ci := 9) E rfl rfl rfl) rfl (Nat.le_of_ble_eq_true rfl) d_Parser_expressions_37 fun r4 u5 _ => ?_
        refine Sm_if_ne (tgt := 45) E d_Parser_expressions_40 (by decide) (fun _ => ?_) (fun _ => ?_)
        · refine Sm_iinc (k := 3) (d := 1) E d_Parser_expressions_45 rfl rfl (by decide) fun y6 _ => Sm_lvs (lv' := [(2, .int y6), (3, .int r1), (0, .ref (G.1 28)), (1, .int x1)]) rfl ?_
          refine Sm_goto (tgt := 2) E d_Parser_expressions_48 (by decide) ?_
          exact Sm_sub [2, 3, 0] rfl (h2 _ _ _)
        · refine Sm_iconst (v := 1) E d_Parser_expressions_43 (by decide) ?_
          exact Sm_retZ hR (by decide) d_Parser_expressions_44
      · refine Sm_iconst (v := 0) E d_Parser_expressions_20 (by decide) ?_
        exact Sm_retZ hR (by decide) d_Parser_expressions_21
set_option maxRecDepth 100000 in
set_option maxHeartbeats 4000000 in
theorem cC_Parser_expressions {l : Launch} {D : va_G} {G : Gx} (x1 : Int32) (u : St) {res : Int32 × St} (hm : mC_Parser_expressions x1 u = some res) : KC l D G y_Parser_expressions (.code y_Parser_expressions prog_6_method_15_code 4 (some .boolean)) { frames := 407, cells := 0, slots := 0, locals := 12562 } [.ref (G.1 28), .int x1] u (qI D vwCl (wC G) (tyW G) (adsC G) res) := by
  refine Ct_Z (by decide) wC_as (Nat.le_of_ble_eq_true rfl) hm (fun X _ _ E hR => ?_)
  refine Sm_lvs (lv' := [(0, .ref (G.1 28)), (1, .int x1)]) rfl ?_
  rw [mC_Parser_expressions]
  refine Sm_iconst (v := 0) E d_Parser_expressions_0 (by decide) ?_
  refine Sm_istore_n (lv' := [(2, .int 0), (0, .ref (G.1 28)), (1, .int x1)]) E d_Parser_expressions_1 rfl (by decide) rfl ?_
  exact Sm_sub [1, 2, 0] rfl (tC_Parser_expressions_L2 E hR FU _ _ _)
set_option maxRecDepth 100000 in
set_option maxHeartbeats 4000000 in
theorem cC_Parser_tableOfQuery {l : Launch} {D : va_G} {G : Gx} (u : St) {res : Int32 × St} (hm : mC_Parser_tableOfQuery u = some res) : KC l D G y_Parser_tableOfQuery (.code y_Parser_tableOfQuery prog_6_method_22_code 2 (some .boolean)) { frames := 1, cells := 0, slots := 0, locals := 22 } [.ref (G.1 28)] u (qI D vwCl (wC G) (tyW G) (adsC G) res) := by
  refine Ct_Z (by decide) wC_as (Nat.le_of_ble_eq_true rfl) hm (fun X _ _ E hR => ?_)
  refine Sm_lvs (lv' := [(0, .ref (G.1 28))]) rfl ?_
  rw [mC_Parser_tableOfQuery]
  refine Sm_aload_n E d_Parser_tableOfQuery_0 rfl 0 rfl ?_
  refine gfC_28_tokens E fl_Parser_9 d_Parser_tableOfQuery_1 ?_
  refine Sm_iconst (v := 1) E d_Parser_tableOfQuery_4 (by decide) ?_
  refine Sm_cVI (As := [.int 1]) (b := (G.1 10)) (st := []) (n := 1) E exOk wC_as (fun _ h => cC_Tokens_take 1 u h) gk_Parser_129 dk_Tokens_take rfl ⟨rfl, rfl⟩ ⟨Nat.le_of_ble_eq_true rfl, Nat.le_of_ble_eq_true rfl⟩ (rvW (q0 := 10) (ci := 9) E rfl rfl rfl) rfl (Nat.le_of_ble_eq_true rfl) d_Parser_tableOfQuery_5 fun r1 u2 _ => ?_
  refine Sm_istore_n (lv' := [(1, .int r1), (0, .ref (G.1 28))]) E d_Parser_tableOfQuery_8 rfl (by decide) rfl ?_
  refine Sm_aload_n E d_Parser_tableOfQuery_9 rfl 1 rfl ?_
  refine gfC_28_lists E fl_Parser_19 d_Parser_tableOfQuery_10 ?_
  refine Sm_bipush (v := 10) E d_Parser_tableOfQuery_13 (by decide) ?_
  refine Sm_iload_n E d_Parser_tableOfQuery_15 rfl 0 rfl ?_
  refine Sm_cVV (As := [.int 10, .int r1]) (b := (G.1 24)) (st := []) (n := 2) E exOk wC_as (fun _ h => cC_Lists_add 10 r1 u2 h) gk_Parser_174 dk_Lists_add rfl ⟨rfl, rfl⟩ ⟨Nat.le_of_ble_eq_true rfl, Nat.le_of_ble_eq_true rfl⟩ (rvW (q0 := 24) (ci := 3) E rfl rfl rfl) rfl (Nat.le_of_ble_eq_true rfl) d_Parser_tableOfQuery_16 fun u3 _ => ?_
  refine Sm_aload_n E d_Parser_tableOfQuery_19 rfl 1 rfl ?_
  refine gfC_28_lists E fl_Parser_19 d_Parser_tableOfQuery_20 ?_
  refine Sm_bipush (v := 11) E d_Parser_tableOfQuery_23 (by decide) ?_
  refine Sm_aload_n E d_Parser_tableOfQuery_25 rfl 1 rfl ?_
  refine gfC_28_tokens E fl_Parser_9 d_Parser_tableOfQuery_26 ?_
  refine Sm_iconst (v := 1) E d_Parser_tableOfQuery_29 (by decide) ?_
  refine Sm_cVI (As := [.int 1]) (b := (G.1 10)) (st := [.int 11, .ref (G.1 24)]) (n := 1) E exOk wC_as (fun _ h => cC_Tokens_take 1 u3 h) gk_Parser_129 dk_Tokens_take rfl ⟨rfl, rfl⟩ ⟨Nat.le_of_ble_eq_true rfl, Nat.le_of_ble_eq_true rfl⟩ (rvW (q0 := 10) (ci := 9) E rfl rfl rfl) rfl (Nat.le_of_ble_eq_true rfl) d_Parser_tableOfQuery_30 fun r4 u5 _ => ?_
  refine Sm_cVV (As := [.int 11, .int r4]) (b := (G.1 24)) (st := []) (n := 2) E exOk wC_as (fun _ h => cC_Lists_add 11 r4 u5 h) gk_Parser_174 dk_Lists_add rfl ⟨rfl, rfl⟩ ⟨Nat.le_of_ble_eq_true rfl, Nat.le_of_ble_eq_true rfl⟩ (rvW (q0 := 24) (ci := 3) E rfl rfl rfl) rfl (Nat.le_of_ble_eq_true rfl) d_Parser_tableOfQuery_33 fun u6 _ => ?_
  refine Sm_iload_n E d_Parser_tableOfQuery_36 rfl 0 rfl ?_
  refine Sm_if_lt (tgt := 44) E d_Parser_tableOfQuery_37 (by decide) (fun _ => ?_) (fun _ => ?_)
  · refine Sm_iconst (v := 0) E d_Parser_tableOfQuery_44 (by decide) ?_
    exact Sm_retZ hR (by decide) d_Parser_tableOfQuery_45
  · refine Sm_iconst (v := 1) E d_Parser_tableOfQuery_40 (by decide) ?_
    refine Sm_goto (tgt := 45) E d_Parser_tableOfQuery_41 (by decide) ?_
    exact Sm_retZ hR (by decide) d_Parser_tableOfQuery_45
set_option maxRecDepth 100000 in
set_option maxHeartbeats 4000000 in
theorem tC_Parser_from_L27 {X : Cx} {G : Gx} {res : Int32 × St} (E : EC X G prog_6_method_21_code R_Parser 3 { frames := 5, cells := 0, slots := 0, locals := 109 }) (hR : RtZ X vwCl (wC G) prog_6_method_21_code .boolean res) : ∀ (n : Nat) (x1 : Int32) (x2 : Int32) (u : St), SC X G 3 res (mC_Parser_from_L27 n x1 x2 u) u 27 [(0, .ref (G.1 28)), (1, .int x1), (2, .int x2)] [] := by
  intro n
  induction n with
  | zero => intro x1 x2 u; exact Sm_none
  | succ n h27 =>
    intro x1 x2 u
    rw [mC_Parser_from_L27]
    refine Sm_iload_n E d_Parser_from_27 rfl 2 rfl ?_
    refine Sm_sipush (v := 2000) E d_Parser_from_28 (by decide) ?_
    refine Sm_icmp_ge (tgt := 61) E d_Parser_from_31 (by decide) (fun _ => ?_) (fun _ => ?_)
    · refine Sm_iload_n E d_Parser_from_61 rfl 1 rfl ?_
      exact Sm_gd fun hz => Sm_retZ hR (zb_n hz) d_Parser_from_62
    · refine Sm_iload_n E d_Parser_from_34 rfl 1 rfl ?_
      refine Sm_if_eq (tgt := 61) E d_Parser_from_35 (by decide) (fun _ => ?_) (fun _ => ?_)
      · refine Sm_iload_n E d_Parser_from_61 rfl 1 rfl ?_
        exact Sm_gd fun hz => Sm_retZ hR (zb_n hz) d_Parser_from_62
      · refine Sm_aload_n E d_Parser_from_38 rfl 0 rfl ?_
        refine gfC_28_tokens E fl_Parser_9 d_Parser_from_39 ?_
        refine Sm_ldcS E sr_Parser_162 d_Parser_from_42 ?_
        refine Sm_cVI (As := [.ref (G.2.2.1 33)]) (b := (G.1 10)) (st := []) (n := 1) E exOk wC_as (fun _ h => cC_Tokens_takes 33 u h) gk_Parser_29 dk_Tokens_takes rfl ⟨rfl, rfl⟩ ⟨Nat.le_of_ble_eq_true rfl, Nat.le_of_ble_eq_true rfl⟩ (rvW (q0 := 10) (ci := 9) E rfl rfl rfl) rfl (Nat.le_of_ble_eq_true rfl) d_Parser_from_44 fun r3 u4 _ => ?_
        refine Sm_if_eq (tgt := 61) E d_Parser_from_47 (by decide) (fun _ => ?_) (fun _ => ?_)
        · refine Sm_iload_n E d_Parser_from_61 rfl 1 rfl ?_
          exact Sm_gd fun hz => Sm_retZ hR (zb_n hz) d_Parser_from_62
        · refine Sm_aload_n E d_Parser_from_50 rfl 0 rfl ?_
          refine Sm_cVI (As := []) (b := (G.1 28)) (st := []) (n := 0) E exOk wC_as (fun _ h => cC_Parser_tableOfQuery u4 h) gk_Parser_239 dk_Parser_tableOfQuery rfl ⟨rfl, rfl⟩ ⟨Nat.le_of_ble_eq_true rfl, Nat.le_of_ble_eq_true rfl⟩ (rvW (q0 := 28) (ci := 6) E rfl rfl rfl) rfl (Nat.le_of_ble_eq_true rfl) d_Parser_from_51 fun r5 u6 _ => ?_
          refine Sm_istore_n (lv' := [(1, .int r5), (0, .ref (G.1 28)), (2, .int x2)]) E d_Parser_from_54 rfl (by decide) rfl ?_
          refine Sm_iinc (k := 2) (d := 1) E d_Parser_from_55 rfl rfl (by decide) fun y7 _ => Sm_lvs (lv' := [(2, .int y7), (1, .int r5), (0, .ref (G.1 28))]) rfl ?_
          refine Sm_goto (tgt := 27) E d_Parser_from_58 (by decide) ?_
          exact Sm_sub [2, 1, 0] rfl (h27 _ _ _)
set_option maxRecDepth 100000 in
set_option maxHeartbeats 4000000 in
theorem cC_Parser_from {l : Launch} {D : va_G} {G : Gx} (u : St) {res : Int32 × St} (hm : mC_Parser_from u = some res) : KC l D G y_Parser_from (.code y_Parser_from prog_6_method_21_code 3 (some .boolean)) { frames := 5, cells := 0, slots := 0, locals := 109 } [.ref (G.1 28)] u (qI D vwCl (wC G) (tyW G) (adsC G) res) := by
  refine Ct_Z (by decide) wC_as (Nat.le_of_ble_eq_true rfl) hm (fun X _ _ E hR => ?_)
  refine Sm_lvs (lv' := [(0, .ref (G.1 28))]) rfl ?_
  rw [mC_Parser_from]
  refine Sm_aload_n E d_Parser_from_0 rfl 0 rfl ?_
  refine gfC_28_tokens E fl_Parser_9 d_Parser_from_1 ?_
  refine Sm_ldcS E sr_Parser_209 d_Parser_from_4 ?_
  refine Sm_cVI (As := [.ref (G.2.2.1 34)]) (b := (G.1 10)) (st := []) (n := 1) E exOk wC_as (fun _ h => cC_Tokens_takes 34 u h) gk_Parser_29 dk_Tokens_takes rfl ⟨rfl, rfl⟩ ⟨Nat.le_of_ble_eq_true rfl, Nat.le_of_ble_eq_true rfl⟩ (rvW (q0 := 10) (ci := 9) E rfl rfl rfl) rfl (Nat.le_of_ble_eq_true rfl) d_Parser_from_6 fun r1 u2 _ => ?_
  refine Sm_if_eq (tgt := 23) E d_Parser_from_9 (by decide) (fun _ => ?_) (fun _ => ?_)
  · refine Sm_iconst (v := 0) E d_Parser_from_23 (by decide) ?_
    refine Sm_istore_n (lv' := [(1, .int 0), (0, .ref (G.1 28))]) E d_Parser_from_24 rfl (by decide) rfl ?_
    refine Sm_iconst (v := 0) E d_Parser_from_25 (by decide) ?_
    refine Sm_istore_n (lv' := [(2, .int 0), (1, .int 0), (0, .ref (G.1 28))]) E d_Parser_from_26 rfl (by decide) rfl ?_
    exact Sm_sub [2, 1, 0] rfl (tC_Parser_from_L27 E hR FU _ _ _)
  · refine Sm_aload_n E d_Parser_from_12 rfl 0 rfl ?_
    refine Sm_cVI (As := []) (b := (G.1 28)) (st := []) (n := 0) E exOk wC_as (fun _ h => cC_Parser_tableOfQuery u2 h) gk_Parser_239 dk_Parser_tableOfQuery rfl ⟨rfl, rfl⟩ ⟨Nat.le_of_ble_eq_true rfl, Nat.le_of_ble_eq_true rfl⟩ (rvW (q0 := 28) (ci := 6) E rfl rfl rfl) rfl (Nat.le_of_ble_eq_true rfl) d_Parser_from_13 fun r8 u9 _ => ?_
    refine Sm_if_eq (tgt := 23) E d_Parser_from_16 (by decide) (fun _ => ?_) (fun _ => ?_)
    · refine Sm_iconst (v := 0) E d_Parser_from_23 (by decide) ?_
      refine Sm_istore_n (lv' := [(1, .int 0), (0, .ref (G.1 28))]) E d_Parser_from_24 rfl (by decide) rfl ?_
      refine Sm_iconst (v := 0) E d_Parser_from_25 (by decide) ?_
      refine Sm_istore_n (lv' := [(2, .int 0), (1, .int 0), (0, .ref (G.1 28))]) E d_Parser_from_26 rfl (by decide) rfl ?_
      exact Sm_sub [2, 1, 0] rfl (tC_Parser_from_L27 E hR FU _ _ _)
    · refine Sm_iconst (v := 1) E d_Parser_from_19 (by decide) ?_
      refine Sm_goto (tgt := 24) E d_Parser_from_20 (by decide) ?_
      refine Sm_istore_n (lv' := [(1, .int 1), (0, .ref (G.1 28))]) E d_Parser_from_24 rfl (by decide) rfl ?_
      refine Sm_iconst (v := 0) E d_Parser_from_25 (by decide) ?_
      refine Sm_istore_n (lv' := [(2, .int 0), (1, .int 1), (0, .ref (G.1 28))]) E d_Parser_from_26 rfl (by decide) rfl ?_
      exact Sm_sub [2, 1, 0] rfl (tC_Parser_from_L27 E hR FU _ _ _)
set_option maxRecDepth 100000 in
set_option maxHeartbeats 4000000 in
theorem cC_Parser_where {l : Launch} {D : va_G} {G : Gx} (u : St) {res : Int32 × St} (hm : mC_Parser_where u = some res) : KC l D G y_Parser_where (.code y_Parser_where prog_6_method_23_code 1 (some .boolean)) { frames := 407, cells := 0, slots := 0, locals := 12562 } [.ref (G.1 28)] u (qI D vwCl (wC G) (tyW G) (adsC G) res) := by
  refine Ct_Z (by decide) wC_as (Nat.le_of_ble_eq_true rfl) hm (fun X _ _ E hR => ?_)
  refine Sm_lvs (lv' := [(0, .ref (G.1 28))]) rfl ?_
  rw [mC_Parser_where]
  refine Sm_aload_n E d_Parser_where_0 rfl 0 rfl ?_
  refine gfC_28_tokens E fl_Parser_9 d_Parser_where_1 ?_
  refine Sm_ldcS E sr_Parser_242 d_Parser_where_4 ?_
  refine Sm_cVI (As := [.ref (G.2.2.1 35)]) (b := (G.1 10)) (st := []) (n := 1) E exOk wC_as (fun _ h => cC_Tokens_takes 35 u h) gk_Parser_29 dk_Tokens_takes rfl ⟨rfl, rfl⟩ ⟨Nat.le_of_ble_eq_true rfl, Nat.le_of_ble_eq_true rfl⟩ (rvW (q0 := 10) (ci := 9) E rfl rfl rfl) rfl (Nat.le_of_ble_eq_true rfl) d_Parser_where_6 fun r1 u2 _ => ?_
  refine Sm_if_ne (tgt := 14) E d_Parser_where_9 (by decide) (fun _ => ?_) (fun _ => ?_)
  · refine Sm_aload_n E d_Parser_where_14 rfl 0 rfl ?_
    refine gfC_28_statement E fl_Parser_23 d_Parser_where_15 ?_
    refine Sm_aload_n E d_Parser_where_18 rfl 0 rfl ?_
    refine Sm_iconst (v := 1) E d_Parser_where_19 (by decide) ?_
    refine Sm_iconst (v := 0) E d_Parser_where_20 (by decide) ?_
    refine Sm_cVI (As := [.int 1, .int 0]) (b := (G.1 28)) (st := [.ref (G.1 27)]) (n := 2) E exOk wC_as (fun _ h => cC_Parser_expression 1 0 u2 h) gk_Parser_192 dk_Parser_expression rfl ⟨rfl, rfl⟩ ⟨Nat.le_of_ble_eq_true rfl, Nat.le_of_ble_eq_true rfl⟩ (rvW (q0 := 28) (ci := 6) E rfl rfl rfl) rfl (Nat.le_of_ble_eq_true rfl) d_Parser_where_21 fun r3 u4 _ => ?_
    refine pfC_27_where E fl_Parser_244 d_Parser_where_24 fun u5 _ => ?_
    refine Sm_aload_n E d_Parser_where_27 rfl 0 rfl ?_
    refine gfC_28_statement E fl_Parser_23 d_Parser_where_28 ?_
    refine gfC_27_where E fl_Parser_244 d_Parser_where_31 ?_
    refine Sm_if_lt (tgt := 41) E d_Parser_where_34 (by decide) (fun _ => ?_) (fun _ => ?_)
    · refine Sm_iconst (v := 0) E d_Parser_where_41 (by decide) ?_
      exact Sm_retZ hR (by decide) d_Parser_where_42
    · refine Sm_iconst (v := 1) E d_Parser_where_37 (by decide) ?_
      refine Sm_goto (tgt := 42) E d_Parser_where_38 (by decide) ?_
      exact Sm_retZ hR (by decide) d_Parser_where_42
  · refine Sm_iconst (v := 1) E d_Parser_where_12 (by decide) ?_
    exact Sm_retZ hR (by decide) d_Parser_where_13
set_option maxRecDepth 100000 in
set_option maxHeartbeats 4000000 in
theorem cC_Parser_group {l : Launch} {D : va_G} {G : Gx} (u : St) {res : Int32 × St} (hm : mC_Parser_group u = some res) : KC l D G y_Parser_group (.code y_Parser_group prog_6_method_25_code 2 (some .boolean)) { frames := 6, cells := 0, slots := 0, locals := 131 } [.ref (G.1 28)] u (qI D vwCl (wC G) (tyW G) (adsC G) res) := by
  refine Ct_Z (by decide) wC_as (Nat.le_of_ble_eq_true rfl) hm (fun X _ _ E hR => ?_)
  refine Sm_lvs (lv' := [(0, .ref (G.1 28))]) rfl ?_
  rw [mC_Parser_group]
  refine Sm_aload_n E d_Parser_group_0 rfl 0 rfl ?_
  refine Sm_cVI (As := []) (b := (G.1 28)) (st := []) (n := 0) E exOk wC_as (fun _ h => cC_Parser_place u h) gk_Parser_253 dk_Parser_place rfl ⟨rfl, rfl⟩ ⟨Nat.le_of_ble_eq_true rfl, Nat.le_of_ble_eq_true rfl⟩ (rvW (q0 := 28) (ci := 6) E rfl rfl rfl) rfl (Nat.le_of_ble_eq_true rfl) d_Parser_group_1 fun r1 u2 _ => ?_
  refine Sm_istore_n (lv' := [(1, .int r1), (0, .ref (G.1 28))]) E d_Parser_group_4 rfl (by decide) rfl ?_
  refine Sm_iload_n E d_Parser_group_5 rfl 0 rfl ?_
  refine Sm_if_lt (tgt := 18) E d_Parser_group_6 (by decide) (fun _ => ?_) (fun _ => ?_)
  · refine Sm_iload_n E d_Parser_group_18 rfl 0 rfl ?_
    refine Sm_if_lt (tgt := 26) E d_Parser_group_19 (by decide) (fun _ => ?_) (fun _ => ?_)
    · refine Sm_iconst (v := 0) E d_Parser_group_26 (by decide) ?_
      exact Sm_retZ hR (by decide) d_Parser_group_27
    · refine Sm_iconst (v := 1) E d_Parser_group_22 (by decide) ?_
      refine Sm_goto (tgt := 27) E d_Parser_group_23 (by decide) ?_
      exact Sm_retZ hR (by decide) d_Parser_group_27
  · refine Sm_aload_n E d_Parser_group_9 rfl 1 rfl ?_
    refine gfC_28_lists E fl_Parser_19 d_Parser_group_10 ?_
    refine Sm_iconst (v := 1) E d_Parser_group_13 (by decide) ?_
    refine Sm_iload_n E d_Parser_group_14 rfl 0 rfl ?_
    refine Sm_cVV (As := [.int 1, .int r1]) (b := (G.1 24)) (st := []) (n := 2) E exOk wC_as (fun _ h => cC_Lists_add 1 r1 u2 h) gk_Parser_174 dk_Lists_add rfl ⟨rfl, rfl⟩ ⟨Nat.le_of_ble_eq_true rfl, Nat.le_of_ble_eq_true rfl⟩ (rvW (q0 := 24) (ci := 3) E rfl rfl rfl) rfl (Nat.le_of_ble_eq_true rfl) d_Parser_group_15 fun u3 _ => ?_
    refine Sm_iload_n E d_Parser_group_18 rfl 0 rfl ?_
    refine Sm_if_lt (tgt := 26) E d_Parser_group_19 (by decide) (fun _ => ?_) (fun _ => ?_)
    · refine Sm_iconst (v := 0) E d_Parser_group_26 (by decide) ?_
      exact Sm_retZ hR (by decide) d_Parser_group_27
    · refine Sm_iconst (v := 1) E d_Parser_group_22 (by decide) ?_
      refine Sm_goto (tgt := 27) E d_Parser_group_23 (by decide) ?_
      exact Sm_retZ hR (by decide) d_Parser_group_27
set_option maxRecDepth 100000 in
set_option maxHeartbeats 4000000 in
theorem tC_Parser_groups_L41 {X : Cx} {G : Gx} {res : Int32 × St} (E : EC X G prog_6_method_24_code R_Parser 3 { frames := 7, cells := 0, slots := 0, locals := 152 }) (hR : RtZ X vwCl (wC G) prog_6_method_24_code .boolean res) : ∀ (n : Nat) (x1 : Int32) (x2 : Int32) (u : St), SC X G 3 res (mC_Parser_groups_L41 n x1 x2 u) u 41 [(0, .ref (G.1 28)), (1, .int x1), (2, .int x2)] [] := by
  intro n
  induction n with
  | zero => intro x1 x2 u; exact Sm_none
  | succ n h41 =>
    intro x1 x2 u
    rw [mC_Parser_groups_L41]
    refine Sm_iload_n E d_Parser_groups_41 rfl 2 rfl ?_
    refine Sm_sipush (v := 2000) E d_Parser_groups_42 (by decide) ?_
    refine Sm_icmp_ge (tgt := 75) E d_Parser_groups_45 (by decide) (fun _ => ?_) (fun _ => ?_)
    · refine Sm_iload_n E d_Parser_groups_75 rfl 1 rfl ?_
      exact Sm_gd fun hz => Sm_retZ hR (zb_n hz) d_Parser_groups_76
    · refine Sm_iload_n E d_Parser_groups_48 rfl 1 rfl ?_
      refine Sm_if_eq (tgt := 75) E d_Parser_groups_49 (by decide) (fun _ => ?_) (fun _ => ?_)
      · refine Sm_iload_n E d_Parser_groups_75 rfl 1 rfl ?_
        exact Sm_gd fun hz => Sm_retZ hR (zb_n hz) d_Parser_groups_76
      · refine Sm_aload_n E d_Parser_groups_52 rfl 0 rfl ?_
        refine gfC_28_tokens E fl_Parser_9 d_Parser_groups_53 ?_
        refine Sm_ldcS E sr_Parser_162 d_Parser_groups_56 ?_
        refine Sm_cVI (As := [.ref (G.2.2.1 33)]) (b := (G.1 10)) (st := []) (n := 1) E exOk wC_as (fun _ h => cC_Tokens_takes 33 u h) gk_Parser_29 dk_Tokens_takes rfl ⟨rfl, rfl⟩ ⟨Nat.le_of_ble_eq_true rfl, Nat.le_of_ble_eq_true rfl⟩ (rvW (q0 := 10) (ci := 9) E rfl rfl rfl) rfl (Nat.le_of_ble_eq_true rfl) d_Parser_groups_58 fun r5 u6 _ => ?_
        refine Sm_if_eq (tgt := 75) E d_Parser_groups_61 (by decide) (fun _ => ?_) (fun _ => ?_)
        · refine Sm_iload_n E d_Parser_groups_75 rfl 1 rfl ?_
          exact Sm_gd fun hz => Sm_retZ hR (zb_n hz) d_Parser_groups_76
        · refine Sm_aload_n E d_Parser_groups_64 rfl 0 rfl ?_
          refine Sm_cVI (As := []) (b := (G.1 28)) (st := []) (n := 0) E exOk wC_as (fun _ h => cC_Parser_group u6 h) gk_Parser_250 dk_Parser_group rfl ⟨rfl, rfl⟩ ⟨Nat.le_of_ble_eq_true rfl, Nat.le_of_ble_eq_true rfl⟩ (rvW (q0 := 28) (ci := 6) E rfl rfl rfl) rfl (Nat.le_of_ble_eq_true rfl) d_Parser_groups_65 fun r7 u8 _ => ?_
          refine Sm_istore_n (lv' := [(1, .int r7), (0, .ref (G.1 28)), (2, .int x2)]) E d_Parser_groups_68 rfl (by decide) rfl ?_
          refine Sm_iinc (k := 2) (d := 1) E d_Parser_groups_69 rfl rfl (by decide) fun y9 _ => Sm_lvs (lv' := [(2, .int y9), (1, .int r7), (0, .ref (G.1 28))]) rfl ?_
          refine Sm_goto (tgt := 41) E d_Parser_groups_72 (by decide) ?_
          exact Sm_sub [2, 1, 0] rfl (h41 _ _ _)
set_option maxRecDepth 100000 in
set_option maxHeartbeats 4000000 in
theorem cC_Parser_groups {l : Launch} {D : va_G} {G : Gx} (u : St) {res : Int32 × St} (hm : mC_Parser_groups u = some res) : KC l D G y_Parser_groups (.code y_Parser_groups prog_6_method_24_code 3 (some .boolean)) { frames := 7, cells := 0, slots := 0, locals := 152 } [.ref (G.1 28)] u (qI D vwCl (wC G) (tyW G) (adsC G) res) := by
  refine Ct_Z (by decide) wC_as (Nat.le_of_ble_eq_true rfl) hm (fun X _ _ E hR => ?_)
  refine Sm_lvs (lv' := [(0, .ref (G.1 28))]) rfl ?_
  rw [mC_Parser_groups]
  refine Sm_aload_n E d_Parser_groups_0 rfl 0 rfl ?_
  refine gfC_28_tokens E fl_Parser_9 d_Parser_groups_1 ?_
  refine Sm_ldcS E sr_Parser_246 d_Parser_groups_4 ?_
  refine Sm_cVI (As := [.ref (G.2.2.1 36)]) (b := (G.1 10)) (st := []) (n := 1) E exOk wC_as (fun _ h => cC_Tokens_takes 36 u h) gk_Parser_29 dk_Tokens_takes rfl ⟨rfl, rfl⟩ ⟨Nat.le_of_ble_eq_true rfl, Nat.le_of_ble_eq_true rfl⟩ (rvW (q0 := 10) (ci := 9) E rfl rfl rfl) rfl (Nat.le_of_ble_eq_true rfl) d_Parser_groups_6 fun r1 u2 _ => ?_
  refine Sm_if_ne (tgt := 14) E d_Parser_groups_9 (by decide) (fun _ => ?_) (fun _ => ?_)
  · refine Sm_aload_n E d_Parser_groups_14 rfl 0 rfl ?_
    refine gfC_28_tokens E fl_Parser_9 d_Parser_groups_15 ?_
    refine Sm_ldcS E sr_Parser_248 d_Parser_groups_18 ?_
    refine Sm_cVI (As := [.ref (G.2.2.1 37)]) (b := (G.1 10)) (st := []) (n := 1) E exOk wC_as (fun _ h => cC_Tokens_takes 37 u2 h) gk_Parser_29 dk_Tokens_takes rfl ⟨rfl, rfl⟩ ⟨Nat.le_of_ble_eq_true rfl, Nat.le_of_ble_eq_true rfl⟩ (rvW (q0 := 10) (ci := 9) E rfl rfl rfl) rfl (Nat.le_of_ble_eq_true rfl) d_Parser_groups_20 fun r3 u4 _ => ?_
    refine Sm_if_eq (tgt := 37) E d_Parser_groups_23 (by decide) (fun _ => ?_) (fun _ => ?_)
    · refine Sm_iconst (v := 0) E d_Parser_groups_37 (by decide) ?_
      refine Sm_istore_n (lv' := [(1, .int 0), (0, .ref (G.1 28))]) E d_Parser_groups_38 rfl (by decide) rfl ?_
      refine Sm_iconst (v := 0) E d_Parser_groups_39 (by decide) ?_
      refine Sm_istore_n (lv' := [(2, .int 0), (1, .int 0), (0, .ref (G.1 28))]) E d_Parser_groups_40 rfl (by decide) rfl ?_
      exact Sm_sub [2, 1, 0] rfl (tC_Parser_groups_L41 E hR FU _ _ _)
    · refine Sm_aload_n E d_Parser_groups_26 rfl 0 rfl ?_
      refine Sm_cVI (As := []) (b := (G.1 28)) (st := []) (n := 0) E exOk wC_as (fun _ h => cC_Parser_group u4 h) gk_Parser_250 dk_Parser_group rfl ⟨rfl, rfl⟩ ⟨Nat.le_of_ble_eq_true rfl, Nat.le_of_ble_eq_true rfl⟩ (rvW (q0 := 28) (ci := 6) E rfl rfl rfl) rfl (Nat.le_of_ble_eq_true rfl) d_Parser_groups_27 fun r10 u11 _ => ?_
      refine Sm_if_eq (tgt := 37) E d_Parser_groups_30 (by decide) (fun _ => ?_) (fun _ => ?_)
      · refine Sm_iconst (v := 0) E d_Parser_groups_37 (by decide) ?_
        refine Sm_istore_n (lv' := [(1, .int 0), (0, .ref (G.1 28))]) E d_Parser_groups_38 rfl (by decide) rfl ?_
        refine Sm_iconst (v := 0) E d_Parser_groups_39 (by decide) ?_
        refine Sm_istore_n (lv' := [(2, .int 0), (1, .int 0), (0, .ref (G.1 28))]) E d_Parser_groups_40 rfl (by decide) rfl ?_
        exact Sm_sub [2, 1, 0] rfl (tC_Parser_groups_L41 E hR FU _ _ _)
      · refine Sm_iconst (v := 1) E d_Parser_groups_33 (by decide) ?_
        refine Sm_goto (tgt := 38) E d_Parser_groups_34 (by decide) ?_
        refine Sm_istore_n (lv' := [(1, .int 1), (0, .ref (G.1 28))]) E d_Parser_groups_38 rfl (by decide) rfl ?_
        refine Sm_iconst (v := 0) E d_Parser_groups_39 (by decide) ?_
        refine Sm_istore_n (lv' := [(2, .int 0), (1, .int 1), (0, .ref (G.1 28))]) E d_Parser_groups_40 rfl (by decide) rfl ?_
        exact Sm_sub [2, 1, 0] rfl (tC_Parser_groups_L41 E hR FU _ _ _)
  · refine Sm_iconst (v := 1) E d_Parser_groups_12 (by decide) ?_
    exact Sm_retZ hR (by decide) d_Parser_groups_13
set_option maxRecDepth 100000 in
set_option maxHeartbeats 4000000 in
theorem tC_Parser_order_J47 {X : Cx} {G : Gx} {res : Int32 × St} (E : EC X G prog_6_method_27_code R_Parser 5 { frames := 5, cells := 0, slots := 0, locals := 109 }) (hR : RtZ X vwCl (wC G) prog_6_method_27_code .boolean res) : ∀ (s0 : Int32) (u : St), SC X G 5 res (mC_Parser_order_J47 s0 u) u 47 [(0, .ref (G.1 28))] [.int s0] := by
  intro s0 u
  rw [mC_Parser_order_J47]
  refine Sm_istore (lv' := [(4, .int s0), (0, .ref (G.1 28))]) E d_Parser_order_47 (by decide) rfl ?_
  refine Sm_aload_n E d_Parser_order_49 rfl 1 rfl ?_
  refine gfC_28_lists E fl_Parser_19 d_Parser_order_50 ?_
  refine Sm_iconst (v := 2) E d_Parser_order_53 (by decide) ?_
  refine Sm_aload_n E d_Parser_order_54 rfl 1 rfl ?_
  refine gfC_28_tokens E fl_Parser_9 d_Parser_order_55 ?_
  refine Sm_ldcS_w E sr_Parser_267 d_Parser_order_58 ?_
  refine Sm_cVI (As := [.ref (G.2.2.1 39)]) (b := (G.1 10)) (st := [.int 2, .ref (G.1 24)]) (n := 1) E exOk wC_as (fun _ h => cC_Tokens_takes 39 u h) gk_Parser_29 dk_Tokens_takes rfl ⟨rfl, rfl⟩ ⟨Nat.le_of_ble_eq_true rfl, Nat.le_of_ble_eq_true rfl⟩ (rvW (q0 := 10) (ci := 9) E rfl rfl rfl) rfl (Nat.le_of_ble_eq_true rfl) d_Parser_order_61 fun r4 u5 _ => ?_
  refine Sm_if_eq (tgt := 74) E d_Parser_order_64 (by decide) (fun _ => ?_) (fun _ => ?_)
  · refine Sm_iload E d_Parser_order_74 0 rfl ?_
    refine Sm_cVV (As := [.int 2, .int s0]) (b := (G.1 24)) (st := []) (n := 2) E exOk wC_as (fun _ h => cC_Lists_add 2 s0 u5 h) gk_Parser_174 dk_Lists_add rfl ⟨rfl, rfl⟩ ⟨Nat.le_of_ble_eq_true rfl, Nat.le_of_ble_eq_true rfl⟩ (rvW (q0 := 24) (ci := 3) E rfl rfl rfl) rfl (Nat.le_of_ble_eq_true rfl) d_Parser_order_76 fun u6 _ => ?_
    refine Sm_iconst (v := 1) E d_Parser_order_79 (by decide) ?_
    exact Sm_retZ hR (by decide) d_Parser_order_80
  · refine Sm_iconst (v := (-1)) E d_Parser_order_67 (by decide) ?_
    refine Sm_iload E d_Parser_order_68 0 rfl ?_
    refine Sm_isub E d_Parser_order_70 ?_
    refine Sm_goto (tgt := 76) E d_Parser_order_71 (by decide) ?_
    refine Sm_cVV (As := [.int 2, .int ((-1) - s0)]) (b := (G.1 24)) (st := []) (n := 2) E exOk wC_as (fun _ h => cC_Lists_add 2 ((-1) - s0) u5 h) gk_Parser_174 dk_Lists_add rfl ⟨rfl, rfl⟩ ⟨Nat.le_of_ble_eq_true rfl, Nat.le_of_ble_eq_true rfl⟩ (rvW (q0 := 24) (ci := 3) E rfl rfl rfl) rfl (Nat.le_of_ble_eq_true rfl) d_Parser_order_76 fun u7 _ => ?_
    refine Sm_iconst (v := 1) E d_Parser_order_79 (by decide) ?_
    exact Sm_retZ hR (by decide) d_Parser_order_80
set_option maxRecDepth 100000 in
set_option maxHeartbeats 4000000 in
theorem cC_Parser_order {l : Launch} {D : va_G} {G : Gx} (u : St) {res : Int32 × St} (hm : mC_Parser_order u = some res) : KC l D G y_Parser_order (.code y_Parser_order prog_6_method_27_code 5 (some .boolean)) { frames := 5, cells := 0, slots := 0, locals := 109 } [.ref (G.1 28)] u (qI D vwCl (wC G) (tyW G) (adsC G) res) := by
  refine Ct_Z (by decide) wC_as (Nat.le_of_ble_eq_true rfl) hm (fun X _ _ E hR => ?_)
  refine Sm_lvs (lv' := [(0, .ref (G.1 28))]) rfl ?_
  rw [mC_Parser_order]
  refine Sm_aload_n E d_Parser_order_0 rfl 0 rfl ?_
  refine gfC_28_tokens E fl_Parser_9 d_Parser_order_1 ?_
  refine Sm_iconst (v := 2) E d_Parser_order_4 (by decide) ?_
  refine Sm_cVI (As := [.int 2]) (b := (G.1 10)) (st := []) (n := 1) E exOk wC_as (fun _ h => cC_Tokens_take 2 u h) gk_Parser_129 dk_Tokens_take rfl ⟨rfl, rfl⟩ ⟨Nat.le_of_ble_eq_true rfl, Nat.le_of_ble_eq_true rfl⟩ (rvW (q0 := 10) (ci := 9) E rfl rfl rfl) rfl (Nat.le_of_ble_eq_true rfl) d_Parser_order_5 fun r1 u2 _ => ?_
  refine Sm_istore_n (lv' := [(1, .int r1), (0, .ref (G.1 28))]) E d_Parser_order_8 rfl (by decide) rfl ?_
  refine Sm_iload_n E d_Parser_order_9 rfl 0 rfl ?_
  refine Sm_if_ge (tgt := 15) E d_Parser_order_10 (by decide) (fun _ => ?_) (fun _ => ?_)
  · refine Sm_aload_n E d_Parser_order_15 rfl 1 rfl ?_
    refine gfC_28_tokens E fl_Parser_9 d_Parser_order_16 ?_
    refine Sm_iload_n E d_Parser_order_19 rfl 0 rfl ?_
    refine Sm_cVj (As := [.int r1]) (b := (G.1 10)) (st := []) (n := 1) E exOk wC_as (fun _ h => cC_Tokens_numberOf r1 u2 h) gk_Parser_261 dk_Tokens_numberOf rfl ⟨rfl, rfl⟩ ⟨Nat.le_of_ble_eq_true rfl, Nat.le_of_ble_eq_true rfl⟩ (rvW (q0 := 10) (ci := 9) E rfl rfl rfl) rfl (Nat.le_of_ble_eq_true rfl) d_Parser_order_20 fun r3 _ => ?_
    refine Sm_lstore_n (lv' := [(2, .long r3), (1, .int r1), (0, .ref (G.1 28))]) E d_Parser_order_23 rfl (by decide) rfl ?_
    refine Sm_lload_n E d_Parser_order_24 rfl 0 rfl ?_
    refine Sm_lconst (v := 1) E d_Parser_order_25 (by decide) ?_
    refine Sm_lcmp E d_Parser_order_26 ?_
    refine Sm_if_lt (tgt := 38) E d_Parser_order_27 (by decide) (fun _ => ?_) (fun _ => ?_)
    · refine Sm_bipush (v := 8) E d_Parser_order_38 (by decide) ?_
      refine Sm_goto (tgt := 47) E d_Parser_order_40 (by decide) ?_
      exact Sm_sub [2] rfl (tC_Parser_order_J47 E hR _ _)
    · refine Sm_lload_n E d_Parser_order_30 rfl 0 rfl ?_
      refine Sm_ldc2 (v := 8) E kc_Parser_265 d_Parser_order_31 ?_
      refine Sm_lcmp E d_Parser_order_34 ?_
      refine Sm_if_le (tgt := 43) E d_Parser_order_35 (by decide) (fun _ => ?_) (fun _ => ?_)
      · refine Sm_lload_n E d_Parser_order_43 rfl 0 rfl ?_
        refine Sm_l2i E d_Parser_order_44 ?_
        refine Sm_iconst (v := 1) E d_Parser_order_45 (by decide) ?_
        refine Sm_isub E d_Parser_order_46 ?_
        exact Sm_sub [2] rfl (tC_Parser_order_J47 E hR _ _)
      · refine Sm_bipush (v := 8) E d_Parser_order_38 (by decide) ?_
        refine Sm_goto (tgt := 47) E d_Parser_order_40 (by decide) ?_
        exact Sm_sub [2] rfl (tC_Parser_order_J47 E hR _ _)
  · refine Sm_iconst (v := 0) E d_Parser_order_13 (by decide) ?_
    exact Sm_retZ hR (by decide) d_Parser_order_14
