set_option maxRecDepth 100000 in
set_option maxHeartbeats 4000000 in
theorem tC_Parser_orders_L42 {X : Cx} {G : Gx} {res : Int32 × St} (E : EC X G prog_6_method_26_code R_Parser 3 { frames := 6, cells := 0, slots := 0, locals := 133 }) (hR : RtZ X vwCl (wC G) prog_6_method_26_code .boolean res) : ∀ (n : Nat) (x1 : Int32) (x2 : Int32) (u : St), SC X G 3 res (mC_Parser_orders_L42 n x1 x2 u) u 42 [(0, .ref (G.1 28)), (1, .int x1), (2, .int x2)] [] := by
  intro n
  induction n with
  | zero => intro x1 x2 u; exact Sm_none
  | succ n h42 =>
    intro x1 x2 u
    rw [mC_Parser_orders_L42]
    refine Sm_iload_n E d_Parser_orders_42 rfl 2 rfl ?_
    refine Sm_sipush (v := 2000) E d_Parser_orders_43 (by decide) ?_
    refine Sm_icmp_ge (tgt := 76) E d_Parser_orders_46 (by decide) (fun _ => ?_) (fun _ => ?_)
    · refine Sm_iload_n E d_Parser_orders_76 rfl 1 rfl ?_
      exact Sm_gd fun hz => Sm_retZ hR (zb_n hz) d_Parser_orders_77
    · refine Sm_iload_n E d_Parser_orders_49 rfl 1 rfl ?_
      refine Sm_if_eq (tgt := 76) E d_Parser_orders_50 (by decide) (fun _ => ?_) (fun _ => ?_)
      · refine Sm_iload_n E d_Parser_orders_76 rfl 1 rfl ?_
        exact Sm_gd fun hz => Sm_retZ hR (zb_n hz) d_Parser_orders_77
      · refine Sm_aload_n E d_Parser_orders_53 rfl 0 rfl ?_
        refine gfC_28_tokens E fl_Parser_9 d_Parser_orders_54 ?_
        refine Sm_ldcS E sr_Parser_162 d_Parser_orders_57 ?_
        refine Sm_cVI (As := [.ref (G.2.2.1 33)]) (b := (G.1 10)) (st := []) (n := 1) E exOk wC_as (fun _ h => cC_Tokens_takes 33 u h) gk_Parser_29 dk_Tokens_takes rfl ⟨rfl, rfl⟩ ⟨Nat.le_of_ble_eq_true rfl, Nat.le_of_ble_eq_true rfl⟩ (rvW (q0 := 10) (ci := 9) E rfl rfl rfl) rfl (Nat.le_of_ble_eq_true rfl) d_Parser_orders_59 fun r5 u6 _ => ?_
        refine Sm_if_eq (tgt := 76) E d_Parser_orders_62 (by decide) (fun _ => ?_) (fun _ => ?_)
        · refine Sm_iload_n E d_Parser_orders_76 rfl 1 rfl ?_
          exact Sm_gd fun hz => Sm_retZ hR (zb_n hz) d_Parser_orders_77
        · refine Sm_aload_n E d_Parser_orders_65 rfl 0 rfl ?_
          refine Sm_cVI (As := []) (b := (G.1 28)) (st := []) (n := 0) E exOk wC_as (fun _ h => cC_Parser_order u6 h) gk_Parser_258 dk_Parser_order rfl ⟨rfl, rfl⟩ ⟨Nat.le_of_ble_eq_true rfl, Nat.le_of_ble_eq_true rfl⟩ (rvW (q0 := 28) (ci := 6) E rfl rfl rfl) rfl (Nat.le_of_ble_eq_true rfl) d_Parser_orders_66 fun r7 u8 _ => ?_
          refine Sm_istore_n (lv' := [(1, .int r7), (0, .ref (G.1 28)), (2, .int x2)]) E d_Parser_orders_69 rfl (by decide) rfl ?_
          refine Sm_iinc (k := 2) (d := 1) E d_Parser_orders_70 rfl rfl (by decide) fun y9 _ => Sm_lvs (lv' := [(2, .int y9), (1, .int r7), (0, .ref (G.1 28))]) rfl ?_
          refine Sm_goto (tgt := 42) E d_Parser_orders_73 (by decide) ?_
          exact Sm_sub [2, 1, 0] rfl (h42 _ _ _)
set_option maxRecDepth 100000 in
set_option maxHeartbeats 4000000 in
theorem cC_Parser_orders {l : Launch} {D : va_G} {G : Gx} (u : St) {res : Int32 × St} (hm : mC_Parser_orders u = some res) : KC l D G y_Parser_orders (.code y_Parser_orders prog_6_method_26_code 3 (some .boolean)) { frames := 6, cells := 0, slots := 0, locals := 133 } [.ref (G.1 28)] u (qI D vwCl (wC G) (tyW G) (adsC G) res) := by
  refine Ct_Z (by decide) wC_as (Nat.le_of_ble_eq_true rfl) hm (fun X _ _ E hR => ?_)
  refine Sm_lvs (lv' := [(0, .ref (G.1 28))]) rfl ?_
  rw [mC_Parser_orders]
  refine Sm_aload_n E d_Parser_orders_0 rfl 0 rfl ?_
  refine gfC_28_tokens E fl_Parser_9 d_Parser_orders_1 ?_
  refine Sm_ldcS_w E sr_Parser_256 d_Parser_orders_4 ?_
  refine Sm_cVI (As := [.ref (G.2.2.1 38)]) (b := (G.1 10)) (st := []) (n := 1) E exOk wC_as (fun _ h => cC_Tokens_takes 38 u h) gk_Parser_29 dk_Tokens_takes rfl ⟨rfl, rfl⟩ ⟨Nat.le_of_ble_eq_true rfl, Nat.le_of_ble_eq_true rfl⟩ (rvW (q0 := 10) (ci := 9) E rfl rfl rfl) rfl (Nat.le_of_ble_eq_true rfl) d_Parser_orders_7 fun r1 u2 _ => ?_
  refine Sm_if_ne (tgt := 15) E d_Parser_orders_10 (by decide) (fun _ => ?_) (fun _ => ?_)
  · refine Sm_aload_n E d_Parser_orders_15 rfl 0 rfl ?_
    refine gfC_28_tokens E fl_Parser_9 d_Parser_orders_16 ?_
    refine Sm_ldcS E sr_Parser_248 d_Parser_orders_19 ?_
    refine Sm_cVI (As := [.ref (G.2.2.1 37)]) (b := (G.1 10)) (st := []) (n := 1) E exOk wC_as (fun _ h => cC_Tokens_takes 37 u2 h) gk_Parser_29 dk_Tokens_takes rfl ⟨rfl, rfl⟩ ⟨Nat.le_of_ble_eq_true rfl, Nat.le_of_ble_eq_true rfl⟩ (rvW (q0 := 10) (ci := 9) E rfl rfl rfl) rfl (Nat.le_of_ble_eq_true rfl) d_Parser_orders_21 fun r3 u4 _ => ?_
    refine Sm_if_eq (tgt := 38) E d_Parser_orders_24 (by decide) (fun _ => ?_) (fun _ => ?_)
    · refine Sm_iconst (v := 0) E d_Parser_orders_38 (by decide) ?_
      refine Sm_istore_n (lv' := [(1, .int 0), (0, .ref (G.1 28))]) E d_Parser_orders_39 rfl (by decide) rfl ?_
      refine Sm_iconst (v := 0) E d_Parser_orders_40 (by decide) ?_
      refine Sm_istore_n (lv' := [(2, .int 0), (1, .int 0), (0, .ref (G.1 28))]) E d_Parser_orders_41 rfl (by decide) rfl ?_
      exact Sm_sub [2, 1, 0] rfl (tC_Parser_orders_L42 E hR FU _ _ _)
    · refine Sm_aload_n E d_Parser_orders_27 rfl 0 rfl ?_
      refine Sm_cVI (As := []) (b := (G.1 28)) (st := []) (n := 0) E exOk wC_as (fun _ h => cC_Parser_order u4 h) gk_Parser_258 dk_Parser_order rfl ⟨rfl, rfl⟩ ⟨Nat.le_of_ble_eq_true rfl, Nat.le_of_ble_eq_true rfl⟩ (rvW (q0 := 28) (ci := 6) E rfl rfl rfl) rfl (Nat.le_of_ble_eq_true rfl) d_Parser_orders_28 fun r10 u11 _ => ?_
      refine Sm_if_eq (tgt := 38) E d_Parser_orders_31 (by decide) (fun _ => ?_) (fun _ => ?_)
      · refine Sm_iconst (v := 0) E d_Parser_orders_38 (by decide) ?_
        refine Sm_istore_n (lv' := [(1, .int 0), (0, .ref (G.1 28))]) E d_Parser_orders_39 rfl (by decide) rfl ?_
        refine Sm_iconst (v := 0) E d_Parser_orders_40 (by decide) ?_
        refine Sm_istore_n (lv' := [(2, .int 0), (1, .int 0), (0, .ref (G.1 28))]) E d_Parser_orders_41 rfl (by decide) rfl ?_
        exact Sm_sub [2, 1, 0] rfl (tC_Parser_orders_L42 E hR FU _ _ _)
      · refine Sm_iconst (v := 1) E d_Parser_orders_34 (by decide) ?_
        refine Sm_goto (tgt := 39) E d_Parser_orders_35 (by decide) ?_
        refine Sm_istore_n (lv' := [(1, .int 1), (0, .ref (G.1 28))]) E d_Parser_orders_39 rfl (by decide) rfl ?_
        refine Sm_iconst (v := 0) E d_Parser_orders_40 (by decide) ?_
        refine Sm_istore_n (lv' := [(2, .int 0), (1, .int 1), (0, .ref (G.1 28))]) E d_Parser_orders_41 rfl (by decide) rfl ?_
        exact Sm_sub [2, 1, 0] rfl (tC_Parser_orders_L42 E hR FU _ _ _)
  · refine Sm_iconst (v := 1) E d_Parser_orders_13 (by decide) ?_
    exact Sm_retZ hR (by decide) d_Parser_orders_14
set_option maxRecDepth 100000 in
set_option maxHeartbeats 4000000 in
theorem cC_Parser_limit {l : Launch} {D : va_G} {G : Gx} (u : St) {res : Int32 × St} (hm : mC_Parser_limit u = some res) : KC l D G y_Parser_limit (.code y_Parser_limit prog_6_method_28_code 2 (some .boolean)) { frames := 5, cells := 0, slots := 0, locals := 109 } [.ref (G.1 28)] u (qI D vwCl (wC G) (tyW G) (adsC G) res) := by
  refine Ct_Z (by decide) wC_as (Nat.le_of_ble_eq_true rfl) hm (fun X _ _ E hR => ?_)
  refine Sm_lvs (lv' := [(0, .ref (G.1 28))]) rfl ?_
  rw [mC_Parser_limit]
  refine Sm_aload_n E d_Parser_limit_0 rfl 0 rfl ?_
  refine gfC_28_tokens E fl_Parser_9 d_Parser_limit_1 ?_
  refine Sm_ldcS_w E sr_Parser_269 d_Parser_limit_4 ?_
  refine Sm_cVI (As := [.ref (G.2.2.1 40)]) (b := (G.1 10)) (st := []) (n := 1) E exOk wC_as (fun _ h => cC_Tokens_takes 40 u h) gk_Parser_29 dk_Tokens_takes rfl ⟨rfl, rfl⟩ ⟨Nat.le_of_ble_eq_true rfl, Nat.le_of_ble_eq_true rfl⟩ (rvW (q0 := 10) (ci := 9) E rfl rfl rfl) rfl (Nat.le_of_ble_eq_true rfl) d_Parser_limit_7 fun r1 u2 _ => ?_
  refine Sm_if_ne (tgt := 15) E d_Parser_limit_10 (by decide) (fun _ => ?_) (fun _ => ?_)
  · refine Sm_aload_n E d_Parser_limit_15 rfl 0 rfl ?_
    refine gfC_28_tokens E fl_Parser_9 d_Parser_limit_16 ?_
    refine Sm_iconst (v := 2) E d_Parser_limit_19 (by decide) ?_
    refine Sm_cVI (As := [.int 2]) (b := (G.1 10)) (st := []) (n := 1) E exOk wC_as (fun _ h => cC_Tokens_take 2 u2 h) gk_Parser_129 dk_Tokens_take rfl ⟨rfl, rfl⟩ ⟨Nat.le_of_ble_eq_true rfl, Nat.le_of_ble_eq_true rfl⟩ (rvW (q0 := 10) (ci := 9) E rfl rfl rfl) rfl (Nat.le_of_ble_eq_true rfl) d_Parser_limit_20 fun r3 u4 _ => ?_
    refine Sm_istore_n (lv' := [(1, .int r3), (0, .ref (G.1 28))]) E d_Parser_limit_23 rfl (by decide) rfl ?_
    refine Sm_aload_n E d_Parser_limit_24 rfl 1 rfl ?_
    refine gfC_28_statement E fl_Parser_23 d_Parser_limit_25 ?_
    refine Sm_aload_n E d_Parser_limit_28 rfl 1 rfl ?_
    refine gfC_28_tokens E fl_Parser_9 d_Parser_limit_29 ?_
    refine Sm_iload_n E d_Parser_limit_32 rfl 0 rfl ?_
    refine Sm_cVj (As := [.int r3]) (b := (G.1 10)) (st := [.ref (G.1 27)]) (n := 1) E exOk wC_as (fun _ h => cC_Tokens_numberOf r3 u4 h) gk_Parser_261 dk_Tokens_numberOf rfl ⟨rfl, rfl⟩ ⟨Nat.le_of_ble_eq_true rfl, Nat.le_of_ble_eq_true rfl⟩ (rvW (q0 := 10) (ci := 9) E rfl rfl rfl) rfl (Nat.le_of_ble_eq_true rfl) d_Parser_limit_33 fun r5 _ => ?_
    refine Sm_ldc2 (v := 2147483647) E kc_Parser_271 d_Parser_limit_36 ?_
    refine Sm_mminL E ml_Parser_273 ⟨Nat.le_of_ble_eq_true rfl, Nat.le_of_ble_eq_true rfl⟩ (Nat.le_of_ble_eq_true rfl) d_Parser_limit_39 ?_
    refine Sm_l2i E d_Parser_limit_42 ?_
    refine pfC_27_limit E fl_Parser_279 d_Parser_limit_43 fun u6 _ => ?_
    refine Sm_iload_n E d_Parser_limit_46 rfl 0 rfl ?_
    refine Sm_if_lt (tgt := 54) E d_Parser_limit_47 (by decide) (fun _ => ?_) (fun _ => ?_)
    · refine Sm_iconst (v := 0) E d_Parser_limit_54 (by decide) ?_
      exact Sm_retZ hR (by decide) d_Parser_limit_55
    · refine Sm_iconst (v := 1) E d_Parser_limit_50 (by decide) ?_
      refine Sm_goto (tgt := 55) E d_Parser_limit_51 (by decide) ?_
      exact Sm_retZ hR (by decide) d_Parser_limit_55
  · refine Sm_iconst (v := 1) E d_Parser_limit_13 (by decide) ?_
    exact Sm_retZ hR (by decide) d_Parser_limit_14
set_option maxRecDepth 100000 in
set_option maxHeartbeats 4000000 in
theorem cC_Parser_lock {l : Launch} {D : va_G} {G : Gx} (u : St) {res : Int32 × St} (hm : mC_Parser_lock u = some res) : KC l D G y_Parser_lock (.code y_Parser_lock prog_6_method_29_code 1 (some .boolean)) { frames := 5, cells := 0, slots := 0, locals := 109 } [.ref (G.1 28)] u (qI D vwCl (wC G) (tyW G) (adsC G) res) := by
  refine Ct_Z (by decide) wC_as (Nat.le_of_ble_eq_true rfl) hm (fun X _ _ E hR => ?_)
  refine Sm_lvs (lv' := [(0, .ref (G.1 28))]) rfl ?_
  rw [mC_Parser_lock]
  refine Sm_aload_n E d_Parser_lock_0 rfl 0 rfl ?_
  refine gfC_28_tokens E fl_Parser_9 d_Parser_lock_1 ?_
  refine Sm_ldcS_w E sr_Parser_281 d_Parser_lock_4 ?_
  refine Sm_cVI (As := [.ref (G.2.2.1 41)]) (b := (G.1 10)) (st := []) (n := 1) E exOk wC_as (fun _ h => cC_Tokens_takes 41 u h) gk_Parser_29 dk_Tokens_takes rfl ⟨rfl, rfl⟩ ⟨Nat.le_of_ble_eq_true rfl, Nat.le_of_ble_eq_true rfl⟩ (rvW (q0 := 10) (ci := 9) E rfl rfl rfl) rfl (Nat.le_of_ble_eq_true rfl) d_Parser_lock_7 fun r1 u2 _ => ?_
  refine Sm_if_ne (tgt := 15) E d_Parser_lock_10 (by decide) (fun _ => ?_) (fun _ => ?_)
  · refine Sm_aload_n E d_Parser_lock_15 rfl 0 rfl ?_
    refine gfC_28_statement E fl_Parser_23 d_Parser_lock_16 ?_
    refine Sm_aload_n E d_Parser_lock_19 rfl 0 rfl ?_
    refine gfC_28_tokens E fl_Parser_9 d_Parser_lock_20 ?_
    refine Sm_ldcS_w E sr_Parser_283 d_Parser_lock_23 ?_
    refine Sm_cVI (As := [.ref (G.2.2.1 42)]) (b := (G.1 10)) (st := [.ref (G.1 27)]) (n := 1) E exOk wC_as (fun _ h => cC_Tokens_takes 42 u2 h) gk_Parser_29 dk_Tokens_takes rfl ⟨rfl, rfl⟩ ⟨Nat.le_of_ble_eq_true rfl, Nat.le_of_ble_eq_true rfl⟩ (rvW (q0 := 10) (ci := 9) E rfl rfl rfl) rfl (Nat.le_of_ble_eq_true rfl) d_Parser_lock_26 fun r3 u4 _ => ?_
    refine Sm_if_eq (tgt := 36) E d_Parser_lock_29 (by decide) (fun _ => ?_) (fun _ => ?_)
    · refine Sm_aload_n E d_Parser_lock_36 rfl 0 rfl ?_
      refine gfC_28_tokens E fl_Parser_9 d_Parser_lock_37 ?_
      refine Sm_ldcS E sr_Parser_61 d_Parser_lock_40 ?_
      refine Sm_cVI (As := [.ref (G.2.2.1 43)]) (b := (G.1 10)) (st := [.ref (G.1 27)]) (n := 1) E exOk wC_as (fun _ h => cC_Tokens_takes 43 u4 h) gk_Parser_29 dk_Tokens_takes rfl ⟨rfl, rfl⟩ ⟨Nat.le_of_ble_eq_true rfl, Nat.le_of_ble_eq_true rfl⟩ (rvW (q0 := 10) (ci := 9) E rfl rfl rfl) rfl (Nat.le_of_ble_eq_true rfl) d_Parser_lock_42 fun r5 u6 _ => ?_
      refine Sm_if_eq (tgt := 52) E d_Parser_lock_45 (by decide) (fun _ => ?_) (fun _ => ?_)
      · refine Sm_iconst (v := 0) E d_Parser_lock_52 (by decide) ?_
        refine pfC_27_mode E fl_Parser_285 d_Parser_lock_53 fun u7 _ => ?_
        refine Sm_aload_n E d_Parser_lock_56 rfl 0 rfl ?_
        refine gfC_28_statement E fl_Parser_23 d_Parser_lock_57 ?_
        refine gfC_27_mode E fl_Parser_285 d_Parser_lock_60 ?_
        refine Sm_if_le (tgt := 70) E d_Parser_lock_63 (by decide) (fun _ => ?_) (fun _ => ?_)
        · refine Sm_iconst (v := 0) E d_Parser_lock_70 (by decide) ?_
          exact Sm_retZ hR (by decide) d_Parser_lock_71
        · refine Sm_iconst (v := 1) E d_Parser_lock_66 (by decide) ?_
          refine Sm_goto (tgt := 71) E d_Parser_lock_67 (by decide) ?_
          exact Sm_retZ hR (by decide) d_Parser_lock_71
      · refine Sm_iconst (v := 2) E d_Parser_lock_48 (by decide) ?_
        refine Sm_goto (tgt := 53) E d_Parser_lock_49 (by decide) ?_
        refine pfC_27_mode E fl_Parser_285 d_Parser_lock_53 fun u8 _ => ?_
        refine Sm_aload_n E d_Parser_lock_56 rfl 0 rfl ?_
        refine gfC_28_statement E fl_Parser_23 d_Parser_lock_57 ?_
        refine gfC_27_mode E fl_Parser_285 d_Parser_lock_60 ?_
        refine Sm_if_le (tgt := 70) E d_Parser_lock_63 (by decide) (fun _ => ?_) (fun _ => ?_)
        · refine Sm_iconst (v := 0) E d_Parser_lock_70 (by decide) ?_
          exact Sm_retZ hR (by decide) d_Parser_lock_71
        · refine Sm_iconst (v := 1) E d_Parser_lock_66 (by decide) ?_
          refine Sm_goto (tgt := 71) E d_Parser_lock_67 (by decide) ?_
          exact Sm_retZ hR (by decide) d_Parser_lock_71
    · refine Sm_iconst (v := 1) E d_Parser_lock_32 (by decide) ?_
      refine Sm_goto (tgt := 53) E d_Parser_lock_33 (by decide) ?_
      refine pfC_27_mode E fl_Parser_285 d_Parser_lock_53 fun u9 _ => ?_
      refine Sm_aload_n E d_Parser_lock_56 rfl 0 rfl ?_
      refine gfC_28_statement E fl_Parser_23 d_Parser_lock_57 ?_
      refine gfC_27_mode E fl_Parser_285 d_Parser_lock_60 ?_
      refine Sm_if_le (tgt := 70) E d_Parser_lock_63 (by decide) (fun _ => ?_) (fun _ => ?_)
      · refine Sm_iconst (v := 0) E d_Parser_lock_70 (by decide) ?_
        exact Sm_retZ hR (by decide) d_Parser_lock_71
      · refine Sm_iconst (v := 1) E d_Parser_lock_66 (by decide) ?_
        refine Sm_goto (tgt := 71) E d_Parser_lock_67 (by decide) ?_
        exact Sm_retZ hR (by decide) d_Parser_lock_71
  · refine Sm_iconst (v := 1) E d_Parser_lock_13 (by decide) ?_
    exact Sm_retZ hR (by decide) d_Parser_lock_14
set_option maxRecDepth 100000 in
set_option maxHeartbeats 4000000 in
theorem cC_Parser_is {l : Launch} {D : va_G} {G : Gx} (x1 : Int32) (u : St) {res : Int32 × St} (hm : mC_Parser_is x1 u = some res) : KC l D G y_Parser_is (.code y_Parser_is prog_6_method_6_code 2 (some .boolean)) { frames := 0, cells := 0, slots := 0, locals := 0 } [.ref (G.1 28), .int x1] u (qI D vwCl (wC G) (tyW G) (adsC G) res) := by
  refine Ct_Z (by decide) wC_as (Nat.le_of_ble_eq_true rfl) hm (fun X _ _ E hR => ?_)
  refine Sm_lvs (lv' := [(0, .ref (G.1 28)), (1, .int x1)]) rfl ?_
  rw [mC_Parser_is]
  refine Sm_aload_n E d_Parser_is_0 rfl 0 rfl ?_
  refine gfC_28_statement E fl_Parser_23 d_Parser_is_1 ?_
  refine Sm_iload_n E d_Parser_is_4 rfl 1 rfl ?_
  refine pfC_27_deed E fl_Parser_86 d_Parser_is_5 fun u1 _ => ?_
  refine Sm_iconst (v := 1) E d_Parser_is_8 (by decide) ?_
  exact Sm_retZ hR (by decide) d_Parser_is_9
set_option maxRecDepth 100000 in
set_option maxHeartbeats 4000000 in
theorem tC_Parser_query_J60 {X : Cx} {G : Gx} {res : Int32 × St} (E : EC X G prog_6_method_20_code R_Parser 3 { frames := 408, cells := 0, slots := 0, locals := 12585 }) (hR : RtZ X vwCl (wC G) prog_6_method_20_code .boolean res) : ∀ (x1 : Int32) (s0 : Int32) (u : St), SC X G 3 res (mC_Parser_query_J60 x1 s0 u) u 60 [(0, .ref (G.1 28)), (1, .int x1)] [.int s0] := by
  intro x1 s0 u
  rw [mC_Parser_query_J60]
  refine Sm_istore_n (lv' := [(2, .int s0), (0, .ref (G.1 28)), (1, .int x1)]) E d_Parser_query_60 rfl (by decide) rfl ?_
  refine Sm_aload_n E d_Parser_query_61 rfl 1 rfl ?_
  refine Sm_iconst (v := 0) E d_Parser_query_62 (by decide) ?_
  refine pfC_28_inItems E fl_Parser_221 d_Parser_query_63 (by decide) rfl fun u8 _ => ?_
  refine Sm_iload_n E d_Parser_query_66 rfl 0 rfl ?_
  refine Sm_if_eq (tgt := 124) E d_Parser_query_67 (by decide) (fun _ => ?_) (fun _ => ?_)
  · refine Sm_iconst (v := 0) E d_Parser_query_124 (by decide) ?_
    exact Sm_retZ hR (by decide) d_Parser_query_125
  · refine Sm_aload_n E d_Parser_query_70 rfl 1 rfl ?_
    refine Sm_cVI (As := []) (b := (G.1 28)) (st := []) (n := 0) E exOk wC_as (fun _ h => cC_Parser_from u8 h) gk_Parser_224 dk_Parser_from rfl ⟨rfl, rfl⟩ ⟨Nat.le_of_ble_eq_true rfl, Nat.le_of_ble_eq_true rfl⟩ (rvW (q0 := 28) (ci := 6) E rfl rfl rfl) rfl (Nat.le_of_ble_eq_true rfl) d_Parser_query_71 fun r9 u10 _ => ?_
    refine Sm_if_eq (tgt := 124) E d_Parser_query_74 (by decide) (fun _ => ?_) (fun _ => ?_)
    · refine Sm_iconst (v := 0) E d_Parser_query_124 (by decide) ?_
      exact Sm_retZ hR (by decide) d_Parser_query_125
    · refine Sm_aload_n E d_Parser_query_77 rfl 1 rfl ?_
      refine Sm_cVI (As := []) (b := (G.1 28)) (st := []) (n := 0) E exOk wC_as (fun _ h => cC_Parser_where u10 h) gk_Parser_204 dk_Parser_where rfl ⟨rfl, rfl⟩ ⟨Nat.le_of_ble_eq_true rfl, Nat.le_of_ble_eq_true rfl⟩ (rvW (q0 := 28) (ci := 6) E rfl rfl rfl) rfl (Nat.le_of_ble_eq_true rfl) d_Parser_query_78 fun r11 u12 _ => ?_
      refine Sm_if_eq (tgt := 124) E d_Parser_query_81 (by decide) (fun _ => ?_) (fun _ => ?_)
      · refine Sm_iconst (v := 0) E d_Parser_query_124 (by decide) ?_
        exact Sm_retZ hR (by decide) d_Parser_query_125
      · refine Sm_aload_n E d_Parser_query_84 rfl 1 rfl ?_
        refine Sm_cVI (As := []) (b := (G.1 28)) (st := []) (n := 0) E exOk wC_as (fun _ h => cC_Parser_groups u12 h) gk_Parser_227 dk_Parser_groups rfl ⟨rfl, rfl⟩ ⟨Nat.le_of_ble_eq_true rfl, Nat.le_of_ble_eq_true rfl⟩ (rvW (q0 := 28) (ci := 6) E rfl rfl rfl) rfl (Nat.le_of_ble_eq_true rfl) d_Parser_query_85 fun r13 u14 _ => ?_
        refine Sm_if_eq (tgt := 124) E d_Parser_query_88 (by decide) (fun _ => ?_) (fun _ => ?_)
        · refine Sm_iconst (v := 0) E d_Parser_query_124 (by decide) ?_
          exact Sm_retZ hR (by decide) d_Parser_query_125
        · refine Sm_aload_n E d_Parser_query_91 rfl 1 rfl ?_
          refine Sm_cVI (As := []) (b := (G.1 28)) (st := []) (n := 0) E exOk wC_as (fun _ h => cC_Parser_orders u14 h) gk_Parser_230 dk_Parser_orders rfl ⟨rfl, rfl⟩ ⟨Nat.le_of_ble_eq_true rfl, Nat.le_of_ble_eq_true rfl⟩ (rvW (q0 := 28) (ci := 6) E rfl rfl rfl) rfl (Nat.le_of_ble_eq_true rfl) d_Parser_query_92 fun r15 u16 _ => ?_
          refine Sm_if_eq (tgt := 124) E d_Parser_query_95 (by decide) (fun _ => ?_) (fun _ => ?_)
          · refine Sm_iconst (v := 0) E d_Parser_query_124 (by decide) ?_
            exact Sm_retZ hR (by decide) d_Parser_query_125
          · refine Sm_aload_n E d_Parser_query_98 rfl 1 rfl ?_
            refine Sm_cVI (As := []) (b := (G.1 28)) (st := []) (n := 0) E exOk wC_as (fun _ h => cC_Parser_limit u16 h) gk_Parser_233 dk_Parser_limit rfl ⟨rfl, rfl⟩ ⟨Nat.le_of_ble_eq_true rfl, Nat.le_of_ble_eq_true rfl⟩ (rvW (q0 := 28) (ci := 6) E rfl rfl rfl) rfl (Nat.le_of_ble_eq_true rfl) d_Parser_query_99 fun r17 u18 _ => ?_
            refine Sm_if_eq (tgt := 124) E d_Parser_query_102 (by decide) (fun _ => ?_) (fun _ => ?_)
            · refine Sm_iconst (v := 0) E d_Parser_query_124 (by decide) ?_
              exact Sm_retZ hR (by decide) d_Parser_query_125
            · refine Sm_aload_n E d_Parser_query_105 rfl 1 rfl ?_
              refine Sm_cVI (As := []) (b := (G.1 28)) (st := []) (n := 0) E exOk wC_as (fun _ h => cC_Parser_lock u18 h) gk_Parser_236 dk_Parser_lock rfl ⟨rfl, rfl⟩ ⟨Nat.le_of_ble_eq_true rfl, Nat.le_of_ble_eq_true rfl⟩ (rvW (q0 := 28) (ci := 6) E rfl rfl rfl) rfl (Nat.le_of_ble_eq_true rfl) d_Parser_query_106 fun r19 u20 _ => ?_
              refine Sm_if_eq (tgt := 124) E d_Parser_query_109 (by decide) (fun _ => ?_) (fun _ => ?_)
              · refine Sm_iconst (v := 0) E d_Parser_query_124 (by decide) ?_
                exact Sm_retZ hR (by decide) d_Parser_query_125
              · refine Sm_aload_n E d_Parser_query_112 rfl 1 rfl ?_
                refine Sm_iload_n E d_Parser_query_113 rfl 2 rfl ?_
                refine Sm_cVI (As := [.int x1]) (b := (G.1 28)) (st := []) (n := 1) E exOk wC_as (fun _ h => cC_Parser_is x1 u20 h) gk_Parser_102 dk_Parser_is rfl ⟨rfl, rfl⟩ ⟨Nat.le_of_ble_eq_true rfl, Nat.le_of_ble_eq_true rfl⟩ (rvW (q0 := 28) (ci := 6) E rfl rfl rfl) rfl (Nat.le_of_ble_eq_true rfl) d_Parser_query_114 fun r21 u22 _ => ?_
                refine Sm_if_eq (tgt := 124) E d_Parser_query_117 (by decide) (fun _ => ?_) (fun _ => ?_)
                · refine Sm_iconst (v := 0) E d_Parser_query_124 (by decide) ?_
                  exact Sm_retZ hR (by decide) d_Parser_query_125
                · refine Sm_iconst (v := 1) E d_Parser_query_120 (by decide) ?_
                  refine Sm_goto (tgt := 125) E d_Parser_query_121 (by decide) ?_
                  exact Sm_retZ hR (by decide) d_Parser_query_125
set_option maxRecDepth 100000 in
set_option maxHeartbeats 4000000 in
theorem cC_Parser_query {l : Launch} {D : va_G} {G : Gx} (x1 : Int32) (u : St) {res : Int32 × St} (hm : mC_Parser_query x1 u = some res) : KC l D G y_Parser_query (.code y_Parser_query prog_6_method_20_code 3 (some .boolean)) { frames := 408, cells := 0, slots := 0, locals := 12585 } [.ref (G.1 28), .int x1] u (qI D vwCl (wC G) (tyW G) (adsC G) res) := by
  refine Ct_Z (by decide) wC_as (Nat.le_of_ble_eq_true rfl) hm (fun X _ _ E hR => ?_)
  refine Sm_lvs (lv' := [(0, .ref (G.1 28)), (1, .int x1)]) rfl ?_
  rw [mC_Parser_query]
  refine Sm_aload_n E d_Parser_query_0 rfl 0 rfl ?_
  refine gfC_28_statement E fl_Parser_23 d_Parser_query_1 ?_
  refine Sm_aload_n E d_Parser_query_4 rfl 0 rfl ?_
  refine gfC_28_tokens E fl_Parser_9 d_Parser_query_5 ?_
  refine Sm_ldcS E sr_Parser_211 d_Parser_query_8 ?_
  refine Sm_cVI (As := [.ref (G.2.2.1 4)]) (b := (G.1 10)) (st := [.ref (G.1 27)]) (n := 1) E exOk wC_as (fun _ h => cC_Tokens_takes 4 u h) gk_Parser_29 dk_Tokens_takes rfl ⟨rfl, rfl⟩ ⟨Nat.le_of_ble_eq_true rfl, Nat.le_of_ble_eq_true rfl⟩ (rvW (q0 := 10) (ci := 9) E rfl rfl rfl) rfl (Nat.le_of_ble_eq_true rfl) d_Parser_query_10 fun r1 u2 _ => ?_
  refine Sm_gd fun hz => pfC_27_distinct E fl_Parser_213 d_Parser_query_13 (zb_n hz) (zb_f hz) fun u3 _ => ?_
  refine Sm_aload_n E d_Parser_query_16 rfl 0 rfl ?_
  refine gfC_28_statement E fl_Parser_23 d_Parser_query_17 ?_
  refine Sm_aload_n E d_Parser_query_20 rfl 0 rfl ?_
  refine gfC_28_tokens E fl_Parser_9 d_Parser_query_21 ?_
  refine Sm_ldcS E sr_Parser_216 d_Parser_query_24 ?_
  refine Sm_cVI (As := [.ref (G.2.2.1 5)]) (b := (G.1 10)) (st := [.ref (G.1 27)]) (n := 1) E exOk wC_as (fun _ h => cC_Tokens_takes 5 u3 h) gk_Parser_29 dk_Tokens_takes rfl ⟨rfl, rfl⟩ ⟨Nat.le_of_ble_eq_true rfl, Nat.le_of_ble_eq_true rfl⟩ (rvW (q0 := 10) (ci := 9) E rfl rfl rfl) rfl (Nat.le_of_ble_eq_true rfl) d_Parser_query_26 fun r4 u5 _ => ?_
  refine Sm_gd fun hz => pfC_27_star E fl_Parser_218 d_Parser_query_29 (zb_n hz) (zb_f hz) fun u6 _ => ?_
  refine Sm_aload_n E d_Parser_query_32 rfl 0 rfl ?_
  refine Sm_iconst (v := 1) E d_Parser_query_33 (by decide) ?_
  refine pfC_28_inItems E fl_Parser_221 d_Parser_query_34 (by decide) rfl fun u7 _ => ?_
  refine Sm_aload_n E d_Parser_query_37 rfl 0 rfl ?_
  refine gfC_28_statement E fl_Parser_23 d_Parser_query_38 ?_
  refine gfC_27_star E fl_Parser_218 d_Parser_query_41 ?_
  refine Sm_if_ne (tgt := 55) E d_Parser_query_44 (by decide) (fun _ => ?_) (fun _ => ?_)
  · refine Sm_iconst (v := 1) E d_Parser_query_55 (by decide) ?_
    refine Sm_goto (tgt := 60) E d_Parser_query_56 (by decide) ?_
    exact Sm_sub [0, 1] rfl (tC_Parser_query_J60 E hR _ _ _)
  · refine Sm_aload_n E d_Parser_query_47 rfl 0 rfl ?_
    refine Sm_iconst (v := 0) E d_Parser_query_48 (by decide) ?_
    refine Sm_cVI (As := [.int 0]) (b := (G.1 28)) (st := []) (n := 1) E exOk wC_as (fun _ h => cC_Parser_expressions 0 u7 h) gk_Parser_186 dk_Parser_expressions rfl ⟨rfl, rfl⟩ ⟨Nat.le_of_ble_eq_true rfl, Nat.le_of_ble_eq_true rfl⟩ (rvW (q0 := 28) (ci := 6) E rfl rfl rfl) rfl (Nat.le_of_ble_eq_true rfl) d_Parser_query_49 fun r23 u24 _ => ?_
    refine Sm_if_eq (tgt := 59) E d_Parser_query_52 (by decide) (fun _ => ?_) (fun _ => ?_)
    · refine Sm_iconst (v := 0) E d_Parser_query_59 (by decide) ?_
      exact Sm_sub [0, 1] rfl (tC_Parser_query_J60 E hR _ _ _)
    · refine Sm_iconst (v := 1) E d_Parser_query_55 (by decide) ?_
      refine Sm_goto (tgt := 60) E d_Parser_query_56 (by decide) ?_
      exact Sm_sub [0, 1] rfl (tC_Parser_query_J60 E hR _ _ _)
set_option maxRecDepth 100000 in
set_option maxHeartbeats 4000000 in
theorem cC_Parser_target {l : Launch} {D : va_G} {G : Gx} (u : St) {res : Int32 × St} (hm : mC_Parser_target u = some res) : KC l D G y_Parser_target (.code y_Parser_target prog_6_method_8_code 1 (some .boolean)) { frames := 1, cells := 0, slots := 0, locals := 21 } [.ref (G.1 28)] u (qI D vwCl (wC G) (tyW G) (adsC G) res) := by
  refine Ct_Z (by decide) wC_as (Nat.le_of_ble_eq_true rfl) hm (fun X _ _ E hR => ?_)
  refine Sm_lvs (lv' := [(0, .ref (G.1 28))]) rfl ?_
  rw [mC_Parser_target]
  refine Sm_aload_n E d_Parser_target_0 rfl 0 rfl ?_
  refine gfC_28_statement E fl_Parser_23 d_Parser_target_1 ?_
  refine Sm_aload_n E d_Parser_target_4 rfl 0 rfl ?_
  refine gfC_28_tokens E fl_Parser_9 d_Parser_target_5 ?_
  refine Sm_iconst (v := 1) E d_Parser_target_8 (by decide) ?_
  refine Sm_cVI (As := [.int 1]) (b := (G.1 10)) (st := [.ref (G.1 27)]) (n := 1) E exOk wC_as (fun _ h => cC_Tokens_take 1 u h) gk_Parser_129 dk_Tokens_take rfl ⟨rfl, rfl⟩ ⟨Nat.le_of_ble_eq_true rfl, Nat.le_of_ble_eq_true rfl⟩ (rvW (q0 := 10) (ci := 9) E rfl rfl rfl) rfl (Nat.le_of_ble_eq_true rfl) d_Parser_target_9 fun r1 u2 _ => ?_
  refine pfC_27_tableName E fl_Parser_135 d_Parser_target_12 fun u3 _ => ?_
  refine Sm_aload_n E d_Parser_target_15 rfl 0 rfl ?_
  refine gfC_28_statement E fl_Parser_23 d_Parser_target_16 ?_
  refine gfC_27_tableName E fl_Parser_135 d_Parser_target_19 ?_
  refine Sm_if_lt (tgt := 29) E d_Parser_target_22 (by decide) (fun _ => ?_) (fun _ => ?_)
  · refine Sm_iconst (v := 0) E d_Parser_target_29 (by decide) ?_
    exact Sm_retZ hR (by decide) d_Parser_target_30
  · refine Sm_iconst (v := 1) E d_Parser_target_25 (by decide) ?_
    refine Sm_goto (tgt := 30) E d_Parser_target_26 (by decide) ?_
    exact Sm_retZ hR (by decide) d_Parser_target_30
set_option maxRecDepth 100000 in
set_option maxHeartbeats 4000000 in
theorem cC_Lists_size {l : Launch} {D : va_G} {G : Gx} (x1 : Int32) (u : St) {res : Int32} (hm : mC_Lists_size x1 u = some res) : KC l D G y_Lists_size (.code y_Lists_size prog_3_method_4_code 2 (some .int)) { frames := 0, cells := 0, slots := 0, locals := 0 } [.ref (G.1 24), .int x1] u (qI D vwCl (wC G) (tyW G) (adsC G) (res, u)) := by
  refine Ct_i (by decide) wC_as (Nat.le_of_ble_eq_true rfl) hm (fun X _ _ E hR => ?_)
  refine Sm_lvs (lv' := [(0, .ref (G.1 24)), (1, .int x1)]) rfl ?_
  rw [mC_Lists_size]
  refine Sm_iload_n E d_Lists_size_0 rfl 1 rfl ?_
  refine Sm_if_lt (tgt := 10) E d_Lists_size_1 (by decide) (fun _ => ?_) (fun _ => ?_)
  · refine Sm_iconst (v := 0) E d_Lists_size_10 (by decide) ?_
    refine Sm_goto (tgt := 20) E d_Lists_size_11 (by decide) ?_
    exact Sm_reti hR d_Lists_size_20
  · refine Sm_iload_n E d_Lists_size_4 rfl 1 rfl ?_
    refine Sm_bipush (v := 14) E d_Lists_size_5 (by decide) ?_
    refine Sm_icmp_lt (tgt := 14) E d_Lists_size_7 (by decide) (fun _ => ?_) (fun _ => ?_)
    · refine Sm_aload_n E d_Lists_size_14 rfl 0 rfl ?_
      refine gfC_24_sizes E fl_Lists_9 d_Lists_size_15 ?_
      refine Sm_iload_n E d_Lists_size_18 rfl 1 rfl ?_
      refine Sm_gd fun hi => ldC_25 E (inb_in hi) d_Lists_size_19 ?_
      exact Sm_reti hR d_Lists_size_20
    · refine Sm_iconst (v := 0) E d_Lists_size_10 (by decide) ?_
      refine Sm_goto (tgt := 20) E d_Lists_size_11 (by decide) ?_
      exact Sm_reti hR d_Lists_size_20
set_option maxRecDepth 100000 in
set_option maxHeartbeats 4000000 in
theorem tC_Parser_rows_J101 {X : Cx} {G : Gx} {res : Int32 × St} (E : EC X G prog_6_method_13_code R_Parser 3 { frames := 408, cells := 0, slots := 0, locals := 12585 }) (hR : RtZ X vwCl (wC G) prog_6_method_13_code .boolean res) : ∀ (x1 : Int32) (u : St), SC X G 3 res (mC_Parser_rows_J101 x1 u) u 101 [(0, .ref (G.1 28)), (1, .int x1)] [] := by
  intro x1 u
  rw [mC_Parser_rows_J101]
  refine Sm_iload_n E d_Parser_rows_101 rfl 1 rfl ?_
  refine Sm_if_eq (tgt := 117) E d_Parser_rows_102 (by decide) (fun _ => ?_) (fun _ => ?_)
  · refine Sm_iconst (v := 0) E d_Parser_rows_117 (by decide) ?_
    exact Sm_retZ hR (by decide) d_Parser_rows_118
  · refine Sm_aload_n E d_Parser_rows_105 rfl 0 rfl ?_
    refine Sm_iconst (v := 4) E d_Parser_rows_106 (by decide) ?_
    refine Sm_cVI (As := [.int 4]) (b := (G.1 28)) (st := []) (n := 1) E exOk wC_as (fun _ h => cC_Parser_is 4 u h) gk_Parser_102 dk_Parser_is rfl ⟨rfl, rfl⟩ ⟨Nat.le_of_ble_eq_true rfl, Nat.le_of_ble_eq_true rfl⟩ (rvW (q0 := 28) (ci := 6) E rfl rfl rfl) rfl (Nat.le_of_ble_eq_true rfl) d_Parser_rows_107 fun r3 u4 _ => ?_
    refine Sm_if_eq (tgt := 117) E d_Parser_rows_110 (by decide) (fun _ => ?_) (fun _ => ?_)
    · refine Sm_iconst (v := 0) E d_Parser_rows_117 (by decide) ?_
      exact Sm_retZ hR (by decide) d_Parser_rows_118
    · refine Sm_iconst (v := 1) E d_Parser_rows_113 (by decide) ?_
      refine Sm_goto (tgt := 118) E d_Parser_rows_114 (by decide) ?_
      exact Sm_retZ hR (by decide) d_Parser_rows_118
set_option maxRecDepth 100000 in
set_option maxHeartbeats 4000000 in
theorem tC_Parser_rows_J61 {X : Cx} {G : Gx} {res : Int32 × St} (E : EC X G prog_6_method_13_code R_Parser 3 { frames := 408, cells := 0, slots := 0, locals := 12585 }) (hR : RtZ X vwCl (wC G) prog_6_method_13_code .boolean res) {q12 : Int32 → Int32 → St → Option (Int32 × St)} (h12 : ∀ (x1 : Int32) (x2 : Int32) (u : St), SC X G 3 res (q12 x1 x2 u) u 12 [(0, .ref (G.1 28)), (1, .int x1), (2, .int x2)] []) : ∀ (x2 : Int32) (s0 : Int32) (u : St), SC X G 3 res (mC_Parser_rows_J61 q12 x2 s0 u) u 61 [(0, .ref (G.1 28)), (2, .int x2)] [.int s0] := by
  intro x2 s0 u
  rw [mC_Parser_rows_J61]
  refine Sm_istore_n (lv' := [(1, .int s0), (0, .ref (G.1 28)), (2, .int x2)]) E d_Parser_rows_61 rfl (by decide) rfl ?_
  refine Sm_aload_n E d_Parser_rows_62 rfl 1 rfl ?_
  refine gfC_28_lists E fl_Parser_19 d_Parser_rows_63 ?_
  refine Sm_bipush (v := 12) E d_Parser_rows_66 (by decide) ?_
  refine Sm_aload_n E d_Parser_rows_68 rfl 1 rfl ?_
  refine gfC_28_lists E fl_Parser_19 d_Parser_rows_69 ?_
  refine Sm_bipush (v := 6) E d_Parser_rows_72 (by decide) ?_
  refine Sm_cVi (As := [.int 6]) (b := (G.1 24)) (st := [.int 12, .ref (G.1 24)]) (n := 1) E exOk wC_as (fun _ h => cC_Lists_size 6 u h) gk_Parser_189 dk_Lists_size rfl ⟨rfl, rfl⟩ ⟨Nat.le_of_ble_eq_true rfl, Nat.le_of_ble_eq_true rfl⟩ (rvW (q0 := 24) (ci := 3) E rfl rfl rfl) rfl (Nat.le_of_ble_eq_true rfl) d_Parser_rows_74 fun r7 _ => ?_
  refine Sm_cVV (As := [.int 12, .int r7]) (b := (G.1 24)) (st := []) (n := 2) E exOk wC_as (fun _ h => cC_Lists_add 12 r7 u h) gk_Parser_174 dk_Lists_add rfl ⟨rfl, rfl⟩ ⟨Nat.le_of_ble_eq_true rfl, Nat.le_of_ble_eq_true rfl⟩ (rvW (q0 := 24) (ci := 3) E rfl rfl rfl) rfl (Nat.le_of_ble_eq_true rfl) d_Parser_rows_77 fun u8 _ => ?_
  refine Sm_aload_n E d_Parser_rows_80 rfl 1 rfl ?_
  refine gfC_28_tokens E fl_Parser_9 d_Parser_rows_81 ?_
  refine Sm_ldcS E sr_Parser_162 d_Parser_rows_84 ?_
  refine Sm_cVI (As := [.ref (G.2.2.1 33)]) (b := (G.1 10)) (st := []) (n := 1) E exOk wC_as (fun _ h => cC_Tokens_takes 33 u8 h) gk_Parser_29 dk_Tokens_takes rfl ⟨rfl, rfl⟩ ⟨Nat.le_of_ble_eq_true rfl, Nat.le_of_ble_eq_true rfl⟩ (rvW (q0 := 10) (ci := 9) E rfl rfl rfl) rfl (Nat.le_of_ble_eq_true rfl) d_Parser_rows_86 fun r9 u10 _ => ?_
  refine Sm_if_ne (tgt := 95) E d_Parser_rows_89 (by decide) (fun _ => ?_) (fun _ => ?_)
  · refine Sm_iinc (k := 2) (d := 1) E d_Parser_rows_95 rfl rfl (by decide) fun y11 _ => Sm_lvs (lv' := [(2, .int y11), (1, .int s0), (0, .ref (G.1 28))]) rfl ?_
    refine Sm_goto (tgt := 12) E d_Parser_rows_98 (by decide) ?_
    exact Sm_sub [2, 1, 0] rfl (h12 _ _ _)
  · refine Sm_goto (tgt := 101) E d_Parser_rows_92 (by decide) ?_
    exact Sm_sub [1, 0] rfl (tC_Parser_rows_J101 E hR _ _)
set_option maxRecDepth 100000 in
set_option maxHeartbeats 4000000 in
theorem tC_Parser_rows_L12 {X : Cx} {G : Gx} {res : Int32 × St} (E : EC X G prog_6_method_13_code R_Parser 3 { frames := 408, cells := 0, slots := 0, locals := 12585 }) (hR : RtZ X vwCl (wC G) prog_6_method_13_code .boolean res) : ∀ (n : Nat) (x1 : Int32) (x2 : Int32) (u : St), SC X G 3 res (mC_Parser_rows_L12 n x1 x2 u) u 12 [(0, .ref (G.1 28)), (1, .int x1), (2, .int x2)] [] := by
  intro n
  induction n with
  | zero => intro x1 x2 u; exact Sm_none
  | succ n h12 =>
    intro x1 x2 u
    rw [mC_Parser_rows_L12]
    refine Sm_iload_n E d_Parser_rows_12 rfl 2 rfl ?_
    refine Sm_sipush (v := 2000) E d_Parser_rows_13 (by decide) ?_
    refine Sm_icmp_ge (tgt := 101) E d_Parser_rows_16 (by decide) (fun _ => ?_) (fun _ => ?_)
    · exact Sm_sub [0, 1] rfl (tC_Parser_rows_J101 E hR _ _)
    · refine Sm_iload_n E d_Parser_rows_19 rfl 1 rfl ?_
      refine Sm_if_eq (tgt := 101) E d_Parser_rows_20 (by decide) (fun _ => ?_) (fun _ => ?_)
      · exact Sm_sub [0, 1] rfl (tC_Parser_rows_J101 E hR _ _)
      · refine Sm_aload_n E d_Parser_rows_23 rfl 0 rfl ?_
        refine gfC_28_tokens E fl_Parser_9 d_Parser_rows_24 ?_
        refine Sm_ldcS E sr_Parser_150 d_Parser_rows_27 ?_
        refine Sm_cVI (As := [.ref (G.2.2.1 8)]) (b := (G.1 10)) (st := []) (n := 1) E exOk wC_as (fun _ h => cC_Tokens_takes 8 u h) gk_Parser_29 dk_Tokens_takes rfl ⟨rfl, rfl⟩ ⟨Nat.le_of_ble_eq_true rfl, Nat.le_of_ble_eq_true rfl⟩ (rvW (q0 := 10) (ci := 9) E rfl rfl rfl) rfl (Nat.le_of_ble_eq_true rfl) d_Parser_rows_29 fun r5 u6 _ => ?_
        refine Sm_if_eq (tgt := 60) E d_Parser_rows_32 (by decide) (fun _ => ?_) (fun _ => ?_)
        · refine Sm_iconst (v := 0) E d_Parser_rows_60 (by decide) ?_
          exact Sm_sub [0, 2] rfl (tC_Parser_rows_J61 E hR h12 _ _ _)
        · refine Sm_aload_n E d_Parser_rows_35 rfl 0 rfl ?_
          refine Sm_bipush (v := 6) E d_Parser_rows_36 (by decide) ?_
          refine Sm_cVI (As := [.int 6]) (b := (G.1 28)) (st := []) (n := 1) E exOk wC_as (fun _ h => cC_Parser_expressions 6 u6 h) gk_Parser_186 dk_Parser_expressions rfl ⟨rfl, rfl⟩ ⟨Nat.le_of_ble_eq_true rfl, Nat.le_of_ble_eq_true rfl⟩ (rvW (q0 := 28) (ci := 6) E rfl rfl rfl) rfl (Nat.le_of_ble_eq_true rfl) d_Parser_rows_38 fun r12 u13 _ => ?_
          refine Sm_if_eq (tgt := 60) E d_Parser_rows_41 (by decide) (fun _ => ?_) (fun _ => ?_)
          · refine Sm_iconst (v := 0) E d_Parser_rows_60 (by decide) ?_
            exact Sm_sub [0, 2] rfl (tC_Parser_rows_J61 E hR h12 _ _ _)
          · refine Sm_aload_n E d_Parser_rows_44 rfl 0 rfl ?_
            refine gfC_28_tokens E fl_Parser_9 d_Parser_rows_45 ?_
            refine Sm_ldcS E sr_Parser_155 d_Parser_rows_48 ?_
            refine Sm_cVI (As := [.ref (G.2.2.1 9)]) (b := (G.1 10)) (st := []) (n := 1) E exOk wC_as (fun _ h => cC_Tokens_takes 9 u13 h) gk_Parser_29 dk_Tokens_takes rfl ⟨rfl, rfl⟩ ⟨Nat.le_of_ble_eq_true rfl, Nat.le_of_ble_eq_true rfl⟩ (rvW (q0 := 10) (ci := 9) E rfl rfl rfl) rfl (Nat.le_of_ble_eq_true rfl) d_Parser_rows_50 fun r14 u15 _ => ?_
            refine Sm_if_eq (tgt := 60) E d_Parser_rows_53 (by decide) (fun _ => ?_) (fun _ => ?_)
            · refine Sm_iconst (v := 0) E d_Parser_rows_60 (by decide) ?_
              exact Sm_sub [0, 2] rfl (tC_Parser_rows_J61 E hR h12 _ _ _)
            · refine Sm_iconst (v := 1) E d_Parser_rows_56 (by decide) ?_
              refine Sm_goto (tgt := 61) E d_Parser_rows_57 (by decide) ?_
              exact Sm_sub [0, 2] rfl (tC_Parser_rows_J61 E hR h12 _ _ _)
set_option maxRecDepth 100000 in
set_option maxHeartbeats 4000000 in
theorem cC_Parser_rows {l : Launch} {D : va_G} {G : Gx} (u : St) {res : Int32 × St} (hm : mC_Parser_rows u = some res) : KC l D G y_Parser_rows (.code y_Parser_rows prog_6_method_13_code 3 (some .boolean)) { frames := 408, cells := 0, slots := 0, locals := 12585 } [.ref (G.1 28)] u (qI D vwCl (wC G) (tyW G) (adsC G) res) := by
  refine Ct_Z (by decide) wC_as (Nat.le_of_ble_eq_true rfl) hm (fun X _ _ E hR => ?_)
  refine Sm_lvs (lv' := [(0, .ref (G.1 28))]) rfl ?_
  rw [mC_Parser_rows]
  refine Sm_aload_n E d_Parser_rows_0 rfl 0 rfl ?_
  refine gfC_28_tokens E fl_Parser_9 d_Parser_rows_1 ?_
  refine Sm_ldcS E sr_Parser_184 d_Parser_rows_4 ?_
  refine Sm_cVI (As := [.ref (G.2.2.1 46)]) (b := (G.1 10)) (st := []) (n := 1) E exOk wC_as (fun _ h => cC_Tokens_takes 46 u h) gk_Parser_29 dk_Tokens_takes rfl ⟨rfl, rfl⟩ ⟨Nat.le_of_ble_eq_true rfl, Nat.le_of_ble_eq_true rfl⟩ (rvW (q0 := 10) (ci := 9) E rfl rfl rfl) rfl (Nat.le_of_ble_eq_true rfl) d_Parser_rows_6 fun r1 u2 _ => ?_
  refine Sm_istore_n (lv' := [(1, .int r1), (0, .ref (G.1 28))]) E d_Parser_rows_9 rfl (by decide) rfl ?_
  refine Sm_iconst (v := 0) E d_Parser_rows_10 (by decide) ?_
  refine Sm_istore_n (lv' := [(2, .int 0), (1, .int r1), (0, .ref (G.1 28))]) E d_Parser_rows_11 rfl (by decide) rfl ?_
  exact Sm_sub [2, 1, 0] rfl (tC_Parser_rows_L12 E hR FU _ _ _)
set_option maxRecDepth 100000 in
set_option maxHeartbeats 4000000 in
theorem tC_Parser_setting_J35 {X : Cx} {G : Gx} {res : Int32 × St} (E : EC X G prog_6_method_17_code R_Parser 3 { frames := 407, cells := 0, slots := 0, locals := 12562 }) (hR : RtZ X vwCl (wC G) prog_6_method_17_code .boolean res) : ∀ (x1 : Int32) (s0 : Int32) (u : St), SC X G 3 res (mC_Parser_setting_J35 x1 s0 u) u 35 [(0, .ref (G.1 28)), (1, .int x1)] [.int s0] := by
  intro x1 s0 u
  rw [mC_Parser_setting_J35]
  refine Sm_istore_n (lv' := [(2, .int s0), (0, .ref (G.1 28)), (1, .int x1)]) E d_Parser_setting_35 rfl (by decide) rfl ?_
  refine Sm_aload_n E d_Parser_setting_36 rfl 1 rfl ?_
  refine gfC_28_lists E fl_Parser_19 d_Parser_setting_37 ?_
  refine Sm_bipush (v := 13) E d_Parser_setting_40 (by decide) ?_
  refine Sm_iload_n E d_Parser_setting_42 rfl 2 rfl ?_
  refine Sm_cVV (As := [.int 13, .int x1]) (b := (G.1 24)) (st := []) (n := 2) E exOk wC_as (fun _ h => cC_Lists_add 13 x1 u h) gk_Parser_174 dk_Lists_add rfl ⟨rfl, rfl⟩ ⟨Nat.le_of_ble_eq_true rfl, Nat.le_of_ble_eq_true rfl⟩ (rvW (q0 := 24) (ci := 3) E rfl rfl rfl) rfl (Nat.le_of_ble_eq_true rfl) d_Parser_setting_43 fun u3 _ => ?_
  refine Sm_aload_n E d_Parser_setting_46 rfl 1 rfl ?_
  refine gfC_28_lists E fl_Parser_19 d_Parser_setting_47 ?_
  refine Sm_iconst (v := 5) E d_Parser_setting_50 (by decide) ?_
  refine Sm_iload_n E d_Parser_setting_51 rfl 0 rfl ?_
  refine Sm_cVV (As := [.int 5, .int s0]) (b := (G.1 24)) (st := []) (n := 2) E exOk wC_as (fun _ h => cC_Lists_add 5 s0 u3 h) gk_Parser_174 dk_Lists_add rfl ⟨rfl, rfl⟩ ⟨Nat.le_of_ble_eq_true rfl, Nat.le_of_ble_eq_true rfl⟩ (rvW (q0 := 24) (ci := 3) E rfl rfl rfl) rfl (Nat.le_of_ble_eq_true rfl) d_Parser_setting_52 fun u4 _ => ?_
  refine Sm_iload_n E d_Parser_setting_55 rfl 0 rfl ?_
  refine Sm_if_lt (tgt := 63) E d_Parser_setting_56 (by decide) (fun _ => ?_) (fun _ => ?_)
  · refine Sm_iconst (v := 0) E d_Parser_setting_63 (by decide) ?_
    exact Sm_retZ hR (by decide) d_Parser_setting_64
  · refine Sm_iconst (v := 1) E d_Parser_setting_59 (by decide) ?_
    refine Sm_goto (tgt := 64) E d_Parser_setting_60 (by decide) ?_
    exact Sm_retZ hR (by decide) d_Parser_setting_64
set_option maxRecDepth 100000 in
set_option maxHeartbeats 4000000 in
theorem cC_Parser_setting {l : Launch} {D : va_G} {G : Gx} (u : St) {res : Int32 × St} (hm : mC_Parser_setting u = some res) : KC l D G y_Parser_setting (.code y_Parser_setting prog_6_method_17_code 3 (some .boolean)) { frames := 407, cells := 0, slots := 0, locals := 12562 } [.ref (G.1 28)] u (qI D vwCl (wC G) (tyW G) (adsC G) res) := by
  refine Ct_Z (by decide) wC_as (Nat.le_of_ble_eq_true rfl) hm (fun X _ _ E hR => ?_)
  refine Sm_lvs (lv' := [(0, .ref (G.1 28))]) rfl ?_
  rw [mC_Parser_setting]
  refine Sm_aload_n E d_Parser_setting_0 rfl 0 rfl ?_
  refine gfC_28_tokens E fl_Parser_9 d_Parser_setting_1 ?_
  refine Sm_iconst (v := 1) E d_Parser_setting_4 (by decide) ?_
  refine Sm_cVI (As := [.int 1]) (b := (G.1 10)) (st := []) (n := 1) E exOk wC_as (fun _ h => cC_Tokens_take 1 u h) gk_Parser_129 dk_Tokens_take rfl ⟨rfl, rfl⟩ ⟨Nat.le_of_ble_eq_true rfl, Nat.le_of_ble_eq_true rfl⟩ (rvW (q0 := 10) (ci := 9) E rfl rfl rfl) rfl (Nat.le_of_ble_eq_true rfl) d_Parser_setting_5 fun r1 u2 _ => ?_
  refine Sm_istore_n (lv' := [(1, .int r1), (0, .ref (G.1 28))]) E d_Parser_setting_8 rfl (by decide) rfl ?_
  refine Sm_iload_n E d_Parser_setting_9 rfl 0 rfl ?_
  refine Sm_if_lt (tgt := 34) E d_Parser_setting_10 (by decide) (fun _ => ?_) (fun _ => ?_)
  · refine Sm_iconst (v := (-1)) E d_Parser_setting_34 (by decide) ?_
    exact Sm_sub [1, 0] rfl (tC_Parser_setting_J35 E hR _ _ _)
  · refine Sm_aload_n E d_Parser_setting_13 rfl 1 rfl ?_
    refine gfC_28_tokens E fl_Parser_9 d_Parser_setting_14 ?_
    refine Sm_ldcS E sr_Parser_207 d_Parser_setting_17 ?_
    refine Sm_cVI (As := [.ref (G.2.2.1 23)]) (b := (G.1 10)) (st := []) (n := 1) E exOk wC_as (fun _ h => cC_Tokens_takes 23 u2 h) gk_Parser_29 dk_Tokens_takes rfl ⟨rfl, rfl⟩ ⟨Nat.le_of_ble_eq_true rfl, Nat.le_of_ble_eq_true rfl⟩ (rvW (q0 := 10) (ci := 9) E rfl rfl rfl) rfl (Nat.le_of_ble_eq_true rfl) d_Parser_setting_19 fun r5 u6 _ => ?_
    refine Sm_if_eq (tgt := 34) E d_Parser_setting_22 (by decide) (fun _ => ?_) (fun _ => ?_)
    · refine Sm_iconst (v := (-1)) E d_Parser_setting_34 (by decide) ?_
      exact Sm_sub [1, 0] rfl (tC_Parser_setting_J35 E hR _ _ _)
    · refine Sm_aload_n E d_Parser_setting_25 rfl 1 rfl ?_
      refine Sm_iconst (v := 1) E d_Parser_setting_26 (by decide) ?_
      refine Sm_iconst (v := 0) E d_Parser_setting_27 (by decide) ?_
      refine Sm_cVI (As := [.int 1, .int 0]) (b := (G.1 28)) (st := []) (n := 2) E exOk wC_as (fun _ h => cC_Parser_expression 1 0 u6 h) gk_Parser_192 dk_Parser_expression rfl ⟨rfl, rfl⟩ ⟨Nat.le_of_ble_eq_true rfl, Nat.le_of_ble_eq_true rfl⟩ (rvW (q0 := 28) (ci := 6) E rfl rfl rfl) rfl (Nat.le_of_ble_eq_true rfl) d_Parser_setting_28 fun r7 u8 _ => ?_
      refine Sm_goto (tgt := 35) E d_Parser_setting_31 (by decide) ?_
      exact Sm_sub [1, 0] rfl (tC_Parser_setting_J35 E hR _ _ _)
set_option maxRecDepth 100000 in
set_option maxHeartbeats 4000000 in
theorem cC_Parser_ownTable {l : Launch} {D : va_G} {G : Gx} (u : St) {res : St} (hm : mC_Parser_ownTable u = some res) : KC l D G y_Parser_ownTable (.code y_Parser_ownTable prog_6_method_19_code 1 none) { frames := 1, cells := 0, slots := 0, locals := 22 } [.ref (G.1 28)] u (qV D vwCl (wC G) (tyW G) (adsC G) res) := by
  refine Ct_V (by decide) wC_as (Nat.le_of_ble_eq_true rfl) hm (fun X _ _ E hR => ?_)
  refine Sm_lvs (lv' := [(0, .ref (G.1 28))]) rfl ?_
  rw [mC_Parser_ownTable]
  refine Sm_aload_n E d_Parser_ownTable_0 rfl 0 rfl ?_
  refine gfC_28_lists E fl_Parser_19 d_Parser_ownTable_1 ?_
  refine Sm_bipush (v := 10) E d_Parser_ownTable_4 (by decide) ?_
  refine Sm_aload_n E d_Parser_ownTable_6 rfl 0 rfl ?_
  refine gfC_28_statement E fl_Parser_23 d_Parser_ownTable_7 ?_
  refine gfC_27_tableName E fl_Parser_135 d_Parser_ownTable_10 ?_
  refine Sm_cVV (As := [.int 10, .int (u.1 12)]) (b := (G.1 24)) (st := []) (n := 2) E exOk wC_as (fun _ h => cC_Lists_add 10 (u.1 12) u h) gk_Parser_174 dk_Lists_add rfl ⟨rfl, rfl⟩ ⟨Nat.le_of_ble_eq_true rfl, Nat.le_of_ble_eq_true rfl⟩ (rvW (q0 := 24) (ci := 3) E rfl rfl rfl) rfl (Nat.le_of_ble_eq_true rfl) d_Parser_ownTable_13 fun u1 _ => ?_
  refine Sm_aload_n E d_Parser_ownTable_16 rfl 0 rfl ?_
  refine gfC_28_lists E fl_Parser_19 d_Parser_ownTable_17 ?_
  refine Sm_bipush (v := 11) E d_Parser_ownTable_20 (by decide) ?_
  refine Sm_iconst (v := (-1)) E d_Parser_ownTable_22 (by decide) ?_
  refine Sm_cVV (As := [.int 11, .int (-1)]) (b := (G.1 24)) (st := []) (n := 2) E exOk wC_as (fun _ h => cC_Lists_add 11 (-1) u1 h) gk_Parser_174 dk_Lists_add rfl ⟨rfl, rfl⟩ ⟨Nat.le_of_ble_eq_true rfl, Nat.le_of_ble_eq_true rfl⟩ (rvW (q0 := 24) (ci := 3) E rfl rfl rfl) rfl (Nat.le_of_ble_eq_true rfl) d_Parser_ownTable_23 fun u2 _ => ?_
  exact Sm_retV hR d_Parser_ownTable_26
set_option maxRecDepth 100000 in
set_option maxHeartbeats 4000000 in
theorem tC_Parser_update_J68 {X : Cx} {G : Gx} {res : Int32 × St} (E : EC X G prog_6_method_16_code R_Parser 3 { frames := 408, cells := 0, slots := 0, locals := 12584 }) (hR : RtZ X vwCl (wC G) prog_6_method_16_code .boolean res) : ∀ (x1 : Int32) (u : St), SC X G 3 res (mC_Parser_update_J68 x1 u) u 68 [(0, .ref (G.1 28)), (1, .int x1)] [] := by
  intro x1 u
  rw [mC_Parser_update_J68]
  refine Sm_aload_n E d_Parser_update_68 rfl 0 rfl ?_
  refine Sm_cVV (As := []) (b := (G.1 28)) (st := []) (n := 0) E exOk wC_as (fun _ h => cC_Parser_ownTable u h) gk_Parser_201 dk_Parser_ownTable rfl ⟨rfl, rfl⟩ ⟨Nat.le_of_ble_eq_true rfl, Nat.le_of_ble_eq_true rfl⟩ (rvW (q0 := 28) (ci := 6) E rfl rfl rfl) rfl (Nat.le_of_ble_eq_true rfl) d_Parser_update_69 fun u3 _ => ?_
  refine Sm_iload_n E d_Parser_update_72 rfl 1 rfl ?_
  refine Sm_if_eq (tgt := 96) E d_Parser_update_73 (by decide) (fun _ => ?_) (fun _ => ?_)
  · refine Sm_iconst (v := 0) E d_Parser_update_96 (by decide) ?_
    exact Sm_retZ hR (by decide) d_Parser_update_97
  · refine Sm_aload_n E d_Parser_update_76 rfl 0 rfl ?_
    refine Sm_cVI (As := []) (b := (G.1 28)) (st := []) (n := 0) E exOk wC_as (fun _ h => cC_Parser_where u3 h) gk_Parser_204 dk_Parser_where rfl ⟨rfl, rfl⟩ ⟨Nat.le_of_ble_eq_true rfl, Nat.le_of_ble_eq_true rfl⟩ (rvW (q0 := 28) (ci := 6) E rfl rfl rfl) rfl (Nat.le_of_ble_eq_true rfl) d_Parser_update_77 fun r4 u5 _ => ?_
    refine Sm_if_eq (tgt := 96) E d_Parser_update_80 (by decide) (fun _ => ?_) (fun _ => ?_)
    · refine Sm_iconst (v := 0) E d_Parser_update_96 (by decide) ?_
      exact Sm_retZ hR (by decide) d_Parser_update_97
    · refine Sm_aload_n E d_Parser_update_83 rfl 0 rfl ?_
      refine Sm_bipush (v := 6) E d_Parser_update_84 (by decide) ?_
      refine Sm_cVI (As := [.int 6]) (b := (G.1 28)) (st := []) (n := 1) E exOk wC_as (fun _ h => cC_Parser_is 6 u5 h) gk_Parser_102 dk_Parser_is rfl ⟨rfl, rfl⟩ ⟨Nat.le_of_ble_eq_true rfl, Nat.le_of_ble_eq_true rfl⟩ (rvW (q0 := 28) (ci := 6) E rfl rfl rfl) rfl (Nat.le_of_ble_eq_true rfl) d_Parser_update_86 fun r6 u7 _ => ?_
      refine Sm_if_eq (tgt := 96) E d_Parser_update_89 (by decide) (fun _ => ?_) (fun _ => ?_)
      · refine Sm_iconst (v := 0) E d_Parser_update_96 (by decide) ?_
        exact Sm_retZ hR (by decide) d_Parser_update_97
      · refine Sm_iconst (v := 1) E d_Parser_update_92 (by decide) ?_
        refine Sm_goto (tgt := 97) E d_Parser_update_93 (by decide) ?_
        exact Sm_retZ hR (by decide) d_Parser_update_97
set_option maxRecDepth 100000 in
set_option maxHeartbeats 4000000 in
theorem tC_Parser_update_L34 {X : Cx} {G : Gx} {res : Int32 × St} (E : EC X G prog_6_method_16_code R_Parser 3 { frames := 408, cells := 0, slots := 0, locals := 12584 }) (hR : RtZ X vwCl (wC G) prog_6_method_16_code .boolean res) : ∀ (n : Nat) (x1 : Int32) (x2 : Int32) (u : St), SC X G 3 res (mC_Parser_update_L34 n x1 x2 u) u 34 [(0, .ref (G.1 28)), (1, .int x1), (2, .int x2)] [] := by
  intro n
  induction n with
  | zero => intro x1 x2 u; exact Sm_none
  | succ n h34 =>
    intro x1 x2 u
    rw [mC_Parser_update_L34]
    refine Sm_iload_n E d_Parser_update_34 rfl 2 rfl ?_
    refine Sm_sipush (v := 2000) E d_Parser_update_35 (by decide) ?_
    refine Sm_icmp_ge (tgt := 68) E d_Parser_update_38 (by decide) (fun _ => ?_) (fun _ => ?_)
    · exact Sm_sub [0, 1] rfl (tC_Parser_update_J68 E hR _ _)
    · refine Sm_iload_n E d_Parser_update_41 rfl 1 rfl ?_
      refine Sm_if_eq (tgt := 68) E d_Parser_update_42 (by decide) (fun _ => ?_) (fun _ => ?_)
      · exact Sm_sub [0, 1] rfl (tC_Parser_update_J68 E hR _ _)
      · refine Sm_aload_n E d_Parser_update_45 rfl 0 rfl ?_
        refine gfC_28_tokens E fl_Parser_9 d_Parser_update_46 ?_
        refine Sm_ldcS E sr_Parser_162 d_Parser_update_49 ?_
        refine Sm_cVI (As := [.ref (G.2.2.1 33)]) (b := (G.1 10)) (st := []) (n := 1) E exOk wC_as (fun _ h => cC_Tokens_takes 33 u h) gk_Parser_29 dk_Tokens_takes rfl ⟨rfl, rfl⟩ ⟨Nat.le_of_ble_eq_true rfl, Nat.le_of_ble_eq_true rfl⟩ (rvW (q0 := 10) (ci := 9) E rfl rfl rfl) rfl (Nat.le_of_ble_eq_true rfl) d_Parser_update_51 fun r8 u9 _ => ?_
        refine Sm_if_eq (tgt := 68) E d_Parser_update_54 (by decide) (fun _ => ?_) (fun _ => ?_)
        · exact Sm_sub [0, 1] rfl (tC_Parser_update_J68 E hR _ _)
        · refine Sm_aload_n E d_Parser_update_57 rfl 0 rfl ?_
          refine Sm_cVI (As := []) (b := (G.1 28)) (st := []) (n := 0) E exOk wC_as (fun _ h => cC_Parser_setting u9 h) gk_Parser_198 dk_Parser_setting rfl ⟨rfl, rfl⟩ ⟨Nat.le_of_ble_eq_true rfl, Nat.le_of_ble_eq_true rfl⟩ (rvW (q0 := 28) (ci := 6) E rfl rfl rfl) rfl (Nat.le_of_ble_eq_true rfl) d_Parser_update_58 fun r10 u11 _ => ?_
          refine Sm_istore_n (lv' := [(1, .int r10), (0, .ref (G.1 28)), (2, .int x2)]) E d_Parser_update_61 rfl (by decide) rfl ?_
          refine Sm_iinc (k := 2) (d := 1) E d_Parser_update_62 rfl rfl (by decide) fun y12 _ => Sm_lvs (lv' := [(2, .int y12), (1, .int r10), (0, .ref (G.1 28))]) rfl ?_
          refine Sm_goto (tgt := 34) E d_Parser_update_65 (by decide) ?_
          exact Sm_sub [2, 1, 0] rfl (h34 _ _ _)
set_option maxRecDepth 100000 in
set_option maxHeartbeats 4000000 in
theorem cC_Parser_update {l : Launch} {D : va_G} {G : Gx} (u : St) {res : Int32 × St} (hm : mC_Parser_update u = some res) : KC l D G y_Parser_update (.code y_Parser_update prog_6_method_16_code 3 (some .boolean)) { frames := 408, cells := 0, slots := 0, locals := 12584 } [.ref (G.1 28)] u (qI D vwCl (wC G) (tyW G) (adsC G) res) := by
  refine Ct_Z (by decide) wC_as (Nat.le_of_ble_eq_true rfl) hm (fun X _ _ E hR => ?_)
  refine Sm_lvs (lv' := [(0, .ref (G.1 28))]) rfl ?_
  rw [mC_Parser_update]
  refine Sm_aload_n E d_Parser_update_0 rfl 0 rfl ?_
  refine Sm_cVI (As := []) (b := (G.1 28)) (st := []) (n := 0) E exOk wC_as (fun _ h => cC_Parser_target u h) gk_Parser_55 dk_Parser_target rfl ⟨rfl, rfl⟩ ⟨Nat.le_of_ble_eq_true rfl, Nat.le_of_ble_eq_true rfl⟩ (rvW (q0 := 28) (ci := 6) E rfl rfl rfl) rfl (Nat.le_of_ble_eq_true rfl) d_Parser_update_1 fun r1 u2 _ => ?_
  refine Sm_if_eq (tgt := 30) E d_Parser_update_4 (by decide) (fun _ => ?_) (fun _ => ?_)
  · refine Sm_iconst (v := 0) E d_Parser_update_30 (by decide) ?_
    refine Sm_istore_n (lv' := [(1, .int 0), (0, .ref (G.1 28))]) E d_Parser_update_31 rfl (by decide) rfl ?_
    refine Sm_iconst (v := 0) E d_Parser_update_32 (by decide) ?_
    refine Sm_istore_n (lv' := [(2, .int 0), (1, .int 0), (0, .ref (G.1 28))]) E d_Parser_update_33 rfl (by decide) rfl ?_
    exact Sm_sub [2, 1, 0] rfl (tC_Parser_update_L34 E hR FU _ _ _)
  · refine Sm_aload_n E d_Parser_update_7 rfl 0 rfl ?_
    refine gfC_28_tokens E fl_Parser_9 d_Parser_update_8 ?_
    refine Sm_ldcS E sr_Parser_196 d_Parser_update_11 ?_
    refine Sm_cVI (As := [.ref (G.2.2.1 47)]) (b := (G.1 10)) (st := []) (n := 1) E exOk wC_as (fun _ h => cC_Tokens_takes 47 u2 h) gk_Parser_29 dk_Tokens_takes rfl ⟨rfl, rfl⟩ ⟨Nat.le_of_ble_eq_true rfl, Nat.le_of_ble_eq_true rfl⟩ (rvW (q0 := 10) (ci := 9) E rfl rfl rfl) rfl (Nat.le_of_ble_eq_true rfl) d_Parser_update_13 fun r13 u14 _ => ?_
    refine Sm_if_eq (tgt := 30) E d_Parser_update_16 (by decide) (fun _ => ?_) (fun _ => ?_)
    · refine Sm_iconst (v := 0) E d_Parser_update_30 (by decide) ?_
      refine Sm_istore_n (lv' := [(1, .int 0), (0, .ref (G.1 28))]) E d_Parser_update_31 rfl (by decide) rfl ?_
      refine Sm_iconst (v := 0) E d_Parser_update_32 (by decide) ?_
      refine Sm_istore_n (lv' := [(2, .int 0), (1, .int 0), (0, .ref (G.1 28))]) E d_Parser_update_33 rfl (by decide) rfl ?_
      exact Sm_sub [2, 1, 0] rfl (tC_Parser_update_L34 E hR FU _ _ _)
    · refine Sm_aload_n E d_Parser_update_19 rfl 0 rfl ?_
      refine Sm_cVI (As := []) (b := (G.1 28)) (st := []) (n := 0) E exOk wC_as (fun _ h => cC_Parser_setting u14 h) gk_Parser_198 dk_Parser_setting rfl ⟨rfl, rfl⟩ ⟨Nat.le_of_ble_eq_true rfl, Nat.le_of_ble_eq_true rfl⟩ (rvW (q0 := 28) (ci := 6) E rfl rfl rfl) rfl (Nat.le_of_ble_eq_true rfl) d_Parser_update_20 fun r15 u16 _ => ?_
      refine Sm_if_eq (tgt := 30) E d_Parser_update_23 (by decide) (fun _ => ?_) (fun _ => ?_)
      · refine Sm_iconst (v := 0) E d_Parser_update_30 (by decide) ?_
        refine Sm_istore_n (lv' := [(1, .int 0), (0, .ref (G.1 28))]) E d_Parser_update_31 rfl (by decide) rfl ?_
        refine Sm_iconst (v := 0) E d_Parser_update_32 (by decide) ?_
        refine Sm_istore_n (lv' := [(2, .int 0), (1, .int 0), (0, .ref (G.1 28))]) E d_Parser_update_33 rfl (by decide) rfl ?_
        exact Sm_sub [2, 1, 0] rfl (tC_Parser_update_L34 E hR FU _ _ _)
      · refine Sm_iconst (v := 1) E d_Parser_update_26 (by decide) ?_
        refine Sm_goto (tgt := 31) E d_Parser_update_27 (by decide) ?_
        refine Sm_istore_n (lv' := [(1, .int 1), (0, .ref (G.1 28))]) E d_Parser_update_31 rfl (by decide) rfl ?_
        refine Sm_iconst (v := 0) E d_Parser_update_32 (by decide) ?_
        refine Sm_istore_n (lv' := [(2, .int 0), (1, .int 1), (0, .ref (G.1 28))]) E d_Parser_update_33 rfl (by decide) rfl ?_
        exact Sm_sub [2, 1, 0] rfl (tC_Parser_update_L34 E hR FU _ _ _)
set_option maxRecDepth 100000 in
set_option maxHeartbeats 4000000 in
theorem tC_Parser_delete_J24 {X : Cx} {G : Gx} {res : Int32 × St} (E : EC X G prog_6_method_18_code R_Parser 2 { frames := 408, cells := 0, slots := 0, locals := 12582 }) (hR : RtZ X vwCl (wC G) prog_6_method_18_code .boolean res) : ∀ (s0 : Int32) (u : St), SC X G 2 res (mC_Parser_delete_J24 s0 u) u 24 [(0, .ref (G.1 28))] [.int s0] := by
  intro s0 u
  rw [mC_Parser_delete_J24]
  refine Sm_istore_n (lv' := [(1, .int s0), (0, .ref (G.1 28))]) E d_Parser_delete_24 rfl (by decide) rfl ?_
  refine Sm_aload_n E d_Parser_delete_25 rfl 1 rfl ?_
  refine Sm_cVV (As := []) (b := (G.1 28)) (st := []) (n := 0) E exOk wC_as (fun _ h => cC_Parser_ownTable u h) gk_Parser_201 dk_Parser_ownTable rfl ⟨rfl, rfl⟩ ⟨Nat.le_of_ble_eq_true rfl, Nat.le_of_ble_eq_true rfl⟩ (rvW (q0 := 28) (ci := 6) E rfl rfl rfl) rfl (Nat.le_of_ble_eq_true rfl) d_Parser_delete_26 fun u3 _ => ?_
  refine Sm_iload_n E d_Parser_delete_29 rfl 0 rfl ?_
  refine Sm_if_eq (tgt := 53) E d_Parser_delete_30 (by decide) (fun _ => ?_) (fun _ => ?_)
  · refine Sm_iconst (v := 0) E d_Parser_delete_53 (by decide) ?_
    exact Sm_retZ hR (by decide) d_Parser_delete_54
  · refine Sm_aload_n E d_Parser_delete_33 rfl 1 rfl ?_
    refine Sm_cVI (As := []) (b := (G.1 28)) (st := []) (n := 0) E exOk wC_as (fun _ h => cC_Parser_where u3 h) gk_Parser_204 dk_Parser_where rfl ⟨rfl, rfl⟩ ⟨Nat.le_of_ble_eq_true rfl, Nat.le_of_ble_eq_true rfl⟩ (rvW (q0 := 28) (ci := 6) E rfl rfl rfl) rfl (Nat.le_of_ble_eq_true rfl) d_Parser_delete_34 fun r4 u5 _ => ?_
    refine Sm_if_eq (tgt := 53) E d_Parser_delete_37 (by decide) (fun _ => ?_) (fun _ => ?_)
    · refine Sm_iconst (v := 0) E d_Parser_delete_53 (by decide) ?_
      exact Sm_retZ hR (by decide) d_Parser_delete_54
    · refine Sm_aload_n E d_Parser_delete_40 rfl 1 rfl ?_
      refine Sm_bipush (v := 7) E d_Parser_delete_41 (by decide) ?_
      refine Sm_cVI (As := [.int 7]) (b := (G.1 28)) (st := []) (n := 1) E exOk wC_as (fun _ h => cC_Parser_is 7 u5 h) gk_Parser_102 dk_Parser_is rfl ⟨rfl, rfl⟩ ⟨Nat.le_of_ble_eq_true rfl, Nat.le_of_ble_eq_true rfl⟩ (rvW (q0 := 28) (ci := 6) E rfl rfl rfl) rfl (Nat.le_of_ble_eq_true rfl) d_Parser_delete_43 fun r6 u7 _ => ?_
      refine Sm_if_eq (tgt := 53) E d_Parser_delete_46 (by decide) (fun _ => ?_) (fun _ => ?_)
      · refine Sm_iconst (v := 0) E d_Parser_delete_53 (by decide) ?_
        exact Sm_retZ hR (by decide) d_Parser_delete_54
      · refine Sm_iconst (v := 1) E d_Parser_delete_49 (by decide) ?_
        refine Sm_goto (tgt := 54) E d_Parser_delete_50 (by decide) ?_
        exact Sm_retZ hR (by decide) d_Parser_delete_54
set_option maxRecDepth 100000 in
set_option maxHeartbeats 4000000 in
theorem cC_Parser_delete {l : Launch} {D : va_G} {G : Gx} (u : St) {res : Int32 × St} (hm : mC_Parser_delete u = some res) : KC l D G y_Parser_delete (.code y_Parser_delete prog_6_method_18_code 2 (some .boolean)) { frames := 408, cells := 0, slots := 0, locals := 12582 } [.ref (G.1 28)] u (qI D vwCl (wC G) (tyW G) (adsC G) res) := by
  refine Ct_Z (by decide) wC_as (Nat.le_of_ble_eq_true rfl) hm (fun X _ _ E hR => ?_)
  refine Sm_lvs (lv' := [(0, .ref (G.1 28))]) rfl ?_
  rw [mC_Parser_delete]
  refine Sm_aload_n E d_Parser_delete_0 rfl 0 rfl ?_
  refine gfC_28_tokens E fl_Parser_9 d_Parser_delete_1 ?_
  refine Sm_ldcS E sr_Parser_209 d_Parser_delete_4 ?_
  refine Sm_cVI (As := [.ref (G.2.2.1 34)]) (b := (G.1 10)) (st := []) (n := 1) E exOk wC_as (fun _ h => cC_Tokens_takes 34 u h) gk_Parser_29 dk_Tokens_takes rfl ⟨rfl, rfl⟩ ⟨Nat.le_of_ble_eq_true rfl, Nat.le_of_ble_eq_true rfl⟩ (rvW (q0 := 10) (ci := 9) E rfl rfl rfl) rfl (Nat.le_of_ble_eq_true rfl) d_Parser_delete_6 fun r1 u2 _ => ?_
  refine Sm_if_eq (tgt := 23) E d_Parser_delete_9 (by decide) (fun _ => ?_) (fun _ => ?_)
  · refine Sm_iconst (v := 0) E d_Parser_delete_23 (by decide) ?_
    exact Sm_sub [0] rfl (tC_Parser_delete_J24 E hR _ _)
  · refine Sm_aload_n E d_Parser_delete_12 rfl 0 rfl ?_
    refine Sm_cVI (As := []) (b := (G.1 28)) (st := []) (n := 0) E exOk wC_as (fun _ h => cC_Parser_target u2 h) gk_Parser_55 dk_Parser_target rfl ⟨rfl, rfl⟩ ⟨Nat.le_of_ble_eq_true rfl, Nat.le_of_ble_eq_true rfl⟩ (rvW (q0 := 28) (ci := 6) E rfl rfl rfl) rfl (Nat.le_of_ble_eq_true rfl) d_Parser_delete_13 fun r8 u9 _ => ?_
    refine Sm_if_eq (tgt := 23) E d_Parser_delete_16 (by decide) (fun _ => ?_) (fun _ => ?_)
    · refine Sm_iconst (v := 0) E d_Parser_delete_23 (by decide) ?_
      exact Sm_sub [0] rfl (tC_Parser_delete_J24 E hR _ _)
    · refine Sm_iconst (v := 1) E d_Parser_delete_19 (by decide) ?_
      refine Sm_goto (tgt := 24) E d_Parser_delete_20 (by decide) ?_
      exact Sm_sub [0] rfl (tC_Parser_delete_J24 E hR _ _)
set_option maxRecDepth 100000 in
set_option maxHeartbeats 4000000 in
theorem tC_Parser_execute_J48 {X : Cx} {G : Gx} {res : Int32 × St} (E : EC X G prog_6_method_14_code R_Parser 2 { frames := 408, cells := 0, slots := 0, locals := 12585 }) (hR : RtZ X vwCl (wC G) prog_6_method_14_code .boolean res) : ∀ (x1 : Int32) (u : St), SC X G 2 res (mC_Parser_execute_J48 x1 u) u 48 [(0, .ref (G.1 28)), (1, .int x1)] [] := by
  intro x1 u
  rw [mC_Parser_execute_J48]
  refine Sm_iload_n E d_Parser_execute_48 rfl 1 rfl ?_
  refine Sm_if_eq (tgt := 65) E d_Parser_execute_49 (by decide) (fun _ => ?_) (fun _ => ?_)
  · refine Sm_iconst (v := 0) E d_Parser_execute_65 (by decide) ?_
    exact Sm_retZ hR (by decide) d_Parser_execute_66
  · refine Sm_aload_n E d_Parser_execute_52 rfl 0 rfl ?_
    refine Sm_bipush (v := 17) E d_Parser_execute_53 (by decide) ?_
    refine Sm_cVI (As := [.int 17]) (b := (G.1 28)) (st := []) (n := 1) E exOk wC_as (fun _ h => cC_Parser_is 17 u h) gk_Parser_102 dk_Parser_is rfl ⟨rfl, rfl⟩ ⟨Nat.le_of_ble_eq_true rfl, Nat.le_of_ble_eq_true rfl⟩ (rvW (q0 := 28) (ci := 6) E rfl rfl rfl) rfl (Nat.le_of_ble_eq_true rfl) d_Parser_execute_55 fun r3 u4 _ => ?_
    refine Sm_if_eq (tgt := 65) E d_Parser_execute_58 (by decide) (fun _ => ?_) (fun _ => ?_)
    · refine Sm_iconst (v := 0) E d_Parser_execute_65 (by decide) ?_
      exact Sm_retZ hR (by decide) d_Parser_execute_66
    · refine Sm_iconst (v := 1) E d_Parser_execute_61 (by decide) ?_
      refine Sm_goto (tgt := 66) E d_Parser_execute_62 (by decide) ?_
      exact Sm_retZ hR (by decide) d_Parser_execute_66
set_option maxRecDepth 100000 in
set_option maxHeartbeats 4000000 in
theorem cC_Parser_execute {l : Launch} {D : va_G} {G : Gx} (u : St) {res : Int32 × St} (hm : mC_Parser_execute u = some res) : KC l D G y_Parser_execute (.code y_Parser_execute prog_6_method_14_code 2 (some .boolean)) { frames := 408, cells := 0, slots := 0, locals := 12585 } [.ref (G.1 28)] u (qI D vwCl (wC G) (tyW G) (adsC G) res) := by
  refine Ct_Z (by decide) wC_as (Nat.le_of_ble_eq_true rfl) hm (fun X _ _ E hR => ?_)
  refine Sm_lvs (lv' := [(0, .ref (G.1 28))]) rfl ?_
  rw [mC_Parser_execute]
  refine Sm_aload_n E d_Parser_execute_0 rfl 0 rfl ?_
  refine Sm_cVI (As := []) (b := (G.1 28)) (st := []) (n := 0) E exOk wC_as (fun _ h => cC_Parser_title u h) gk_Parser_39 dk_Parser_title rfl ⟨rfl, rfl⟩ ⟨Nat.le_of_ble_eq_true rfl, Nat.le_of_ble_eq_true rfl⟩ (rvW (q0 := 28) (ci := 6) E rfl rfl rfl) rfl (Nat.le_of_ble_eq_true rfl) d_Parser_execute_1 fun r1 u2 _ => ?_
  refine Sm_istore_n (lv' := [(1, .int r1), (0, .ref (G.1 28))]) E d_Parser_execute_4 rfl (by decide) rfl ?_
  refine Sm_iload_n E d_Parser_execute_5 rfl 0 rfl ?_
  refine Sm_if_eq (tgt := 48) E d_Parser_execute_6 (by decide) (fun _ => ?_) (fun _ => ?_)
  · exact Sm_sub [1, 0] rfl (tC_Parser_execute_J48 E hR _ _)
  · refine Sm_aload_n E d_Parser_execute_9 rfl 1 rfl ?_
    refine gfC_28_tokens E fl_Parser_9 d_Parser_execute_10 ?_
    refine Sm_ldcS E sr_Parser_150 d_Parser_execute_13 ?_
    refine Sm_cVI (As := [.ref (G.2.2.1 8)]) (b := (G.1 10)) (st := []) (n := 1) E exOk wC_as (fun _ h => cC_Tokens_takes 8 u2 h) gk_Parser_29 dk_Tokens_takes rfl ⟨rfl, rfl⟩ ⟨Nat.le_of_ble_eq_true rfl, Nat.le_of_ble_eq_true rfl⟩ (rvW (q0 := 10) (ci := 9) E rfl rfl rfl) rfl (Nat.le_of_ble_eq_true rfl) d_Parser_execute_15 fun r5 u6 _ => ?_
    refine Sm_if_eq (tgt := 48) E d_Parser_execute_18 (by decide) (fun _ => ?_) (fun _ => ?_)
    · exact Sm_sub [1, 0] rfl (tC_Parser_execute_J48 E hR _ _)
    · refine Sm_aload_n E d_Parser_execute_21 rfl 1 rfl ?_
      refine Sm_bipush (v := 9) E d_Parser_execute_22 (by decide) ?_
      refine Sm_cVI (As := [.int 9]) (b := (G.1 28)) (st := []) (n := 1) E exOk wC_as (fun _ h => cC_Parser_expressions 9 u6 h) gk_Parser_186 dk_Parser_expressions rfl ⟨rfl, rfl⟩ ⟨Nat.le_of_ble_eq_true rfl, Nat.le_of_ble_eq_true rfl⟩ (rvW (q0 := 28) (ci := 6) E rfl rfl rfl) rfl (Nat.le_of_ble_eq_true rfl) d_Parser_execute_24 fun r7 u8 _ => ?_
      refine Sm_if_eq (tgt := 46) E d_Parser_execute_27 (by decide) (fun _ => ?_) (fun _ => ?_)
      · refine Sm_iconst (v := 0) E d_Parser_execute_46 (by decide) ?_
        refine Sm_istore_n (lv' := [(1, .int 0), (0, .ref (G.1 28))]) E d_Parser_execute_47 rfl (by decide) rfl ?_
        exact Sm_sub [1, 0] rfl (tC_Parser_execute_J48 E hR _ _)
      · refine Sm_aload_n E d_Parser_execute_30 rfl 1 rfl ?_
        refine gfC_28_tokens E fl_Parser_9 d_Parser_execute_31 ?_
        refine Sm_ldcS E sr_Parser_155 d_Parser_execute_34 ?_
        refine Sm_cVI (As := [.ref (G.2.2.1 9)]) (b := (G.1 10)) (st := []) (n := 1) E exOk wC_as (fun _ h => cC_Tokens_takes 9 u8 h) gk_Parser_29 dk_Tokens_takes rfl ⟨rfl, rfl⟩ ⟨Nat.le_of_ble_eq_true rfl, Nat.le_of_ble_eq_true rfl⟩ (rvW (q0 := 10) (ci := 9) E rfl rfl rfl) rfl (Nat.le_of_ble_eq_true rfl) d_Parser_execute_36 fun r9 u10 _ => ?_
        refine Sm_if_eq (tgt := 46) E d_Parser_execute_39 (by decide) (fun _ => ?_) (fun _ => ?_)
        · refine Sm_iconst (v := 0) E d_Parser_execute_46 (by decide) ?_
          refine Sm_istore_n (lv' := [(1, .int 0), (0, .ref (G.1 28))]) E d_Parser_execute_47 rfl (by decide) rfl ?_
          exact Sm_sub [1, 0] rfl (tC_Parser_execute_J48 E hR _ _)
        · refine Sm_iconst (v := 1) E d_Parser_execute_42 (by decide) ?_
          refine Sm_goto (tgt := 47) E d_Parser_execute_43 (by decide) ?_
          refine Sm_istore_n (lv' := [(1, .int 1), (0, .ref (G.1 28))]) E d_Parser_execute_47 rfl (by decide) rfl ?_
          exact Sm_sub [1, 0] rfl (tC_Parser_execute_J48 E hR _ _)
set_option maxRecDepth 100000 in
set_option maxHeartbeats 4000000 in
theorem cC_Parser_typeWord {l : Launch} {D : va_G} {G : Gx} (u : St) {res : Int32 × St} (hm : mC_Parser_typeWord u = some res) : KC l D G y_Parser_typeWord (.code y_Parser_typeWord prog_6_method_12_code 1 (some .int)) { frames := 5, cells := 0, slots := 0, locals := 109 } [.ref (G.1 28)] u (qI D vwCl (wC G) (tyW G) (adsC G) res) := by
  refine Ct_I (by decide) wC_as (Nat.le_of_ble_eq_true rfl) hm (fun X _ _ E hR => ?_)
  refine Sm_lvs (lv' := [(0, .ref (G.1 28))]) rfl ?_
  rw [mC_Parser_typeWord]
  refine Sm_aload_n E d_Parser_typeWord_0 rfl 0 rfl ?_
  refine gfC_28_tokens E fl_Parser_9 d_Parser_typeWord_1 ?_
  refine Sm_ldcS E sr_Parser_178 d_Parser_typeWord_4 ?_
  refine Sm_cVI (As := [.ref (G.2.2.1 52)]) (b := (G.1 10)) (st := []) (n := 1) E exOk wC_as (fun _ h => cC_Tokens_takes 52 u h) gk_Parser_29 dk_Tokens_takes rfl ⟨rfl, rfl⟩ ⟨Nat.le_of_ble_eq_true rfl, Nat.le_of_ble_eq_true rfl⟩ (rvW (q0 := 10) (ci := 9) E rfl rfl rfl) rfl (Nat.le_of_ble_eq_true rfl) d_Parser_typeWord_6 fun r1 u2 _ => ?_
  refine Sm_if_eq (tgt := 14) E d_Parser_typeWord_9 (by decide) (fun _ => ?_) (fun _ => ?_)
  · refine Sm_aload_n E d_Parser_typeWord_14 rfl 0 rfl ?_
    refine gfC_28_tokens E fl_Parser_9 d_Parser_typeWord_15 ?_
    refine Sm_ldcS E sr_Parser_180 d_Parser_typeWord_18 ?_
    refine Sm_cVI (As := [.ref (G.2.2.1 53)]) (b := (G.1 10)) (st := []) (n := 1) E exOk wC_as (fun _ h => cC_Tokens_takes 53 u2 h) gk_Parser_29 dk_Tokens_takes rfl ⟨rfl, rfl⟩ ⟨Nat.le_of_ble_eq_true rfl, Nat.le_of_ble_eq_true rfl⟩ (rvW (q0 := 10) (ci := 9) E rfl rfl rfl) rfl (Nat.le_of_ble_eq_true rfl) d_Parser_typeWord_20 fun r3 u4 _ => ?_
    refine Sm_if_eq (tgt := 28) E d_Parser_typeWord_23 (by decide) (fun _ => ?_) (fun _ => ?_)
    · refine Sm_aload_n E d_Parser_typeWord_28 rfl 0 rfl ?_
      refine gfC_28_tokens E fl_Parser_9 d_Parser_typeWord_29 ?_
      refine Sm_ldcS E sr_Parser_182 d_Parser_typeWord_32 ?_
      refine Sm_cVI (As := [.ref (G.2.2.1 54)]) (b := (G.1 10)) (st := []) (n := 1) E exOk wC_as (fun _ h => cC_Tokens_takes 54 u4 h) gk_Parser_29 dk_Tokens_takes rfl ⟨rfl, rfl⟩ ⟨Nat.le_of_ble_eq_true rfl, Nat.le_of_ble_eq_true rfl⟩ (rvW (q0 := 10) (ci := 9) E rfl rfl rfl) rfl (Nat.le_of_ble_eq_true rfl) d_Parser_typeWord_34 fun r5 u6 _ => ?_
      refine Sm_if_eq (tgt := 44) E d_Parser_typeWord_37 (by decide) (fun _ => ?_) (fun _ => ?_)
      · refine Sm_iconst (v := 0) E d_Parser_typeWord_44 (by decide) ?_
        exact Sm_retI hR d_Parser_typeWord_45
      · refine Sm_iconst (v := 3) E d_Parser_typeWord_40 (by decide) ?_
        refine Sm_goto (tgt := 45) E d_Parser_typeWord_41 (by decide) ?_
        exact Sm_retI hR d_Parser_typeWord_45
    · refine Sm_iconst (v := 2) E d_Parser_typeWord_26 (by decide) ?_
      exact Sm_retI hR d_Parser_typeWord_27
  · refine Sm_iconst (v := 1) E d_Parser_typeWord_12 (by decide) ?_
    exact Sm_retI hR d_Parser_typeWord_13
set_option maxRecDepth 100000 in
set_option maxHeartbeats 4000000 in
theorem tC_Parser_newColumn_J90 {X : Cx} {G : Gx} {res : Int32 × St} (E : EC X G prog_6_method_11_code R_Parser 5 { frames := 6, cells := 0, slots := 0, locals := 129 }) (hR : RtZ X vwCl (wC G) prog_6_method_11_code .boolean res) : ∀ (x4 : Int32) (s1 : Int32) (s2 : Int32) (s3 : Int32) (u : St), SC X G 5 res (mC_Parser_newColumn_J90 x4 s1 s2 s3 u) u 90 [(4, .int x4)] [.int s3, .int s2, .int s1, .ref (G.1 24)] := by
  intro x4 s1 s2 s3 u
  rw [mC_Parser_newColumn_J90]
  refine Sm_iadd E d_Parser_newColumn_90 ?_
  refine Sm_iload E d_Parser_newColumn_91 0 rfl ?_
  refine Sm_if_eq (tgt := 101) E d_Parser_newColumn_93 (by decide) (fun _ => ?_) (fun _ => ?_)
  · refine Sm_iconst (v := 0) E d_Parser_newColumn_101 (by decide) ?_
    refine Sm_iadd E d_Parser_newColumn_102 ?_
    refine Sm_cVV (As := [.int s1, .int ((s2 + s3) + 0)]) (b := (G.1 24)) (st := []) (n := 2) E exOk wC_as (fun _ h => cC_Lists_add s1 ((s2 + s3) + 0) u h) gk_Parser_174 dk_Lists_add rfl ⟨rfl, rfl⟩ ⟨Nat.le_of_ble_eq_true rfl, Nat.le_of_ble_eq_true rfl⟩ (rvW (q0 := 24) (ci := 3) E rfl rfl rfl) rfl (Nat.le_of_ble_eq_true rfl) d_Parser_newColumn_103 fun u10 _ => ?_
    refine Sm_iconst (v := 1) E d_Parser_newColumn_106 (by decide) ?_
    exact Sm_retZ hR (by decide) d_Parser_newColumn_107
  · refine Sm_bipush (v := 20) E d_Parser_newColumn_96 (by decide) ?_
    refine Sm_goto (tgt := 102) E d_Parser_newColumn_98 (by decide) ?_
    refine Sm_iadd E d_Parser_newColumn_102 ?_
    refine Sm_cVV (As := [.int s1, .int ((s2 + s3) + 20)]) (b := (G.1 24)) (st := []) (n := 2) E exOk wC_as (fun _ h => cC_Lists_add s1 ((s2 + s3) + 20) u h) gk_Parser_174 dk_Lists_add rfl ⟨rfl, rfl⟩ ⟨Nat.le_of_ble_eq_true rfl, Nat.le_of_ble_eq_true rfl⟩ (rvW (q0 := 24) (ci := 3) E rfl rfl rfl) rfl (Nat.le_of_ble_eq_true rfl) d_Parser_newColumn_103 fun u11 _ => ?_
    refine Sm_iconst (v := 1) E d_Parser_newColumn_106 (by decide) ?_
    exact Sm_retZ hR (by decide) d_Parser_newColumn_107
set_option maxRecDepth 100000 in
set_option maxHeartbeats 4000000 in
theorem tC_Parser_newColumn_J52 {X : Cx} {G : Gx} {res : Int32 × St} (E : EC X G prog_6_method_11_code R_Parser 5 { frames := 6, cells := 0, slots := 0, locals := 129 }) (hR : RtZ X vwCl (wC G) prog_6_method_11_code .boolean res) : ∀ (x1 : Int32) (x2 : Int32) (x3 : Int32) (u : St), SC X G 5 res (mC_Parser_newColumn_J52 x1 x2 x3 u) u 52 [(0, .ref (G.1 28)), (1, .int x1), (2, .int x2), (3, .int x3)] [] := by
  intro x1 x2 x3 u
  rw [mC_Parser_newColumn_J52]
  refine Sm_aload_n E d_Parser_newColumn_52 rfl 0 rfl ?_
  refine gfC_28_tokens E fl_Parser_9 d_Parser_newColumn_53 ?_
  refine Sm_ldcS E sr_Parser_141 d_Parser_newColumn_56 ?_
  refine Sm_cVI (As := [.ref (G.2.2.1 55)]) (b := (G.1 10)) (st := []) (n := 1) E exOk wC_as (fun _ h => cC_Tokens_takes 55 u h) gk_Parser_29 dk_Tokens_takes rfl ⟨rfl, rfl⟩ ⟨Nat.le_of_ble_eq_true rfl, Nat.le_of_ble_eq_true rfl⟩ (rvW (q0 := 10) (ci := 9) E rfl rfl rfl) rfl (Nat.le_of_ble_eq_true rfl) d_Parser_newColumn_58 fun r7 u8 _ => ?_
  refine Sm_istore (lv' := [(4, .int r7), (0, .ref (G.1 28)), (1, .int x1), (2, .int x2), (3, .int x3)]) E d_Parser_newColumn_61 (by decide) rfl ?_
  refine Sm_aload_n E d_Parser_newColumn_63 rfl 1 rfl ?_
  refine gfC_28_lists E fl_Parser_19 d_Parser_newColumn_64 ?_
  refine Sm_bipush (v := 13) E d_Parser_newColumn_67 (by decide) ?_
  refine Sm_iload_n E d_Parser_newColumn_69 rfl 2 rfl ?_
  refine Sm_cVV (As := [.int 13, .int x1]) (b := (G.1 24)) (st := []) (n := 2) E exOk wC_as (fun _ h => cC_Lists_add 13 x1 u8 h) gk_Parser_174 dk_Lists_add rfl ⟨rfl, rfl⟩ ⟨Nat.le_of_ble_eq_true rfl, Nat.le_of_ble_eq_true rfl⟩ (rvW (q0 := 24) (ci := 3) E rfl rfl rfl) rfl (Nat.le_of_ble_eq_true rfl) d_Parser_newColumn_70 fun u9 _ => ?_
  refine Sm_aload_n E d_Parser_newColumn_73 rfl 1 rfl ?_
  refine gfC_28_lists E fl_Parser_19 d_Parser_newColumn_74 ?_
  refine Sm_bipush (v := 7) E d_Parser_newColumn_77 (by decide) ?_
  refine Sm_iload_n E d_Parser_newColumn_79 rfl 3 rfl ?_
  refine Sm_iload_n E d_Parser_newColumn_80 rfl 4 rfl ?_
  refine Sm_if_eq (tgt := 89) E d_Parser_newColumn_81 (by decide) (fun _ => ?_) (fun _ => ?_)
  · refine Sm_iconst (v := 0) E d_Parser_newColumn_89 (by decide) ?_
    exact Sm_sub [0] rfl (tC_Parser_newColumn_J90 E hR _ _ _ _ _)
  · refine Sm_bipush (v := 10) E d_Parser_newColumn_84 (by decide) ?_
    refine Sm_goto (tgt := 90) E d_Parser_newColumn_86 (by decide) ?_
    exact Sm_sub [0] rfl (tC_Parser_newColumn_J90 E hR _ _ _ _ _)
set_option maxRecDepth 100000 in
set_option maxHeartbeats 4000000 in
theorem cC_Parser_newColumn {l : Launch} {D : va_G} {G : Gx} (u : St) {res : Int32 × St} (hm : mC_Parser_newColumn u = some res) : KC l D G y_Parser_newColumn (.code y_Parser_newColumn prog_6_method_11_code 5 (some .boolean)) { frames := 6, cells := 0, slots := 0, locals := 129 } [.ref (G.1 28)] u (qI D vwCl (wC G) (tyW G) (adsC G) res) := by
  refine Ct_Z (by decide) wC_as (Nat.le_of_ble_eq_true rfl) hm (fun X _ _ E hR => ?_)
  refine Sm_lvs (lv' := [(0, .ref (G.1 28))]) rfl ?_
  rw [mC_Parser_newColumn]
  refine Sm_aload_n E d_Parser_newColumn_0 rfl 0 rfl ?_
  refine gfC_28_tokens E fl_Parser_9 d_Parser_newColumn_1 ?_
  refine Sm_iconst (v := 1) E d_Parser_newColumn_4 (by decide) ?_
  refine Sm_cVI (As := [.int 1]) (b := (G.1 10)) (st := []) (n := 1) E exOk wC_as (fun _ h => cC_Tokens_take 1 u h) gk_Parser_129 dk_Tokens_take rfl ⟨rfl, rfl⟩ ⟨Nat.le_of_ble_eq_true rfl, Nat.le_of_ble_eq_true rfl⟩ (rvW (q0 := 10) (ci := 9) E rfl rfl rfl) rfl (Nat.le_of_ble_eq_true rfl) d_Parser_newColumn_5 fun r1 u2 _ => ?_
  refine Sm_istore_n (lv' := [(1, .int r1), (0, .ref (G.1 28))]) E d_Parser_newColumn_8 rfl (by decide) rfl ?_
  refine Sm_aload_n E d_Parser_newColumn_9 rfl 1 rfl ?_
  refine Sm_cVI (As := []) (b := (G.1 28)) (st := []) (n := 0) E exOk wC_as (fun _ h => cC_Parser_typeWord u2 h) gk_Parser_164 dk_Parser_typeWord rfl ⟨rfl, rfl⟩ ⟨Nat.le_of_ble_eq_true rfl, Nat.le_of_ble_eq_true rfl⟩ (rvW (q0 := 28) (ci := 6) E rfl rfl rfl) rfl (Nat.le_of_ble_eq_true rfl) d_Parser_newColumn_10 fun r3 u4 _ => ?_
  refine Sm_istore_n (lv' := [(2, .int r3), (1, .int r1), (0, .ref (G.1 28))]) E d_Parser_newColumn_13 rfl (by decide) rfl ?_
  refine Sm_iload_n E d_Parser_newColumn_14 rfl 1 rfl ?_
  refine Sm_if_lt (tgt := 22) E d_Parser_newColumn_15 (by decide) (fun _ => ?_) (fun _ => ?_)
  · refine Sm_iconst (v := 0) E d_Parser_newColumn_22 (by decide) ?_
    exact Sm_retZ hR (by decide) d_Parser_newColumn_23
  · refine Sm_iload_n E d_Parser_newColumn_18 rfl 0 rfl ?_
    refine Sm_if_ne (tgt := 24) E d_Parser_newColumn_19 (by decide) (fun _ => ?_) (fun _ => ?_)
    · refine Sm_aload_n E d_Parser_newColumn_24 rfl 2 rfl ?_
      refine gfC_28_tokens E fl_Parser_9 d_Parser_newColumn_25 ?_
      refine Sm_ldcS E sr_Parser_168 d_Parser_newColumn_28 ?_
      refine Sm_cVI (As := [.ref (G.2.2.1 6)]) (b := (G.1 10)) (st := []) (n := 1) E exOk wC_as (fun _ h => cC_Tokens_takes 6 u4 h) gk_Parser_29 dk_Tokens_takes rfl ⟨rfl, rfl⟩ ⟨Nat.le_of_ble_eq_true rfl, Nat.le_of_ble_eq_true rfl⟩ (rvW (q0 := 10) (ci := 9) E rfl rfl rfl) rfl (Nat.le_of_ble_eq_true rfl) d_Parser_newColumn_30 fun r5 u6 _ => ?_
      refine Sm_istore_n (lv' := [(3, .int r5), (2, .int r3), (1, .int r1), (0, .ref (G.1 28))]) E d_Parser_newColumn_33 rfl (by decide) rfl ?_
      refine Sm_iload_n E d_Parser_newColumn_34 rfl 0 rfl ?_
      refine Sm_if_eq (tgt := 52) E d_Parser_newColumn_35 (by decide) (fun _ => ?_) (fun _ => ?_)
      · exact Sm_sub [3, 2, 1, 0] rfl (tC_Parser_newColumn_J52 E hR _ _ _ _)
      · refine Sm_aload_n E d_Parser_newColumn_38 rfl 3 rfl ?_
        refine gfC_28_tokens E fl_Parser_9 d_Parser_newColumn_39 ?_
        refine Sm_ldcS E sr_Parser_170 d_Parser_newColumn_42 ?_
        refine Sm_cVI (As := [.ref (G.2.2.1 14)]) (b := (G.1 10)) (st := []) (n := 1) E exOk wC_as (fun _ h => cC_Tokens_takes 14 u6 h) gk_Parser_29 dk_Tokens_takes rfl ⟨rfl, rfl⟩ ⟨Nat.le_of_ble_eq_true rfl, Nat.le_of_ble_eq_true rfl⟩ (rvW (q0 := 10) (ci := 9) E rfl rfl rfl) rfl (Nat.le_of_ble_eq_true rfl) d_Parser_newColumn_44 fun r12 u13 _ => ?_
        refine Sm_if_ne (tgt := 52) E d_Parser_newColumn_47 (by decide) (fun _ => ?_) (fun _ => ?_)
        · exact Sm_sub [3, 2, 1, 0] rfl (tC_Parser_newColumn_J52 E hR _ _ _ _)
        · refine Sm_iconst (v := 0) E d_Parser_newColumn_50 (by decide) ?_
          exact Sm_retZ hR (by decide) d_Parser_newColumn_51
    · refine Sm_iconst (v := 0) E d_Parser_newColumn_22 (by decide) ?_
      exact Sm_retZ hR (by decide) d_Parser_newColumn_23
set_option maxRecDepth 100000 in
set_option maxHeartbeats 4000000 in
theorem tC_Parser_columns_J61 {X : Cx} {G : Gx} {res : Int32 × St} (E : EC X G prog_6_method_10_code R_Parser 3 { frames := 7, cells := 0, slots := 0, locals := 153 }) (hR : RtZ X vwCl (wC G) prog_6_method_10_code .boolean res) : ∀ (x1 : Int32) (u : St), SC X G 3 res (mC_Parser_columns_J61 x1 u) u 61 [(0, .ref (G.1 28)), (1, .int x1)] [] := by
  intro x1 u
  rw [mC_Parser_columns_J61]
  refine Sm_iload_n E d_Parser_columns_61 rfl 1 rfl ?_
  refine Sm_if_eq (tgt := 81) E d_Parser_columns_62 (by decide) (fun _ => ?_) (fun _ => ?_)
  · refine Sm_iconst (v := 0) E d_Parser_columns_81 (by decide) ?_
    exact Sm_retZ hR (by decide) d_Parser_columns_82
  · refine Sm_aload_n E d_Parser_columns_65 rfl 0 rfl ?_
    refine gfC_28_tokens E fl_Parser_9 d_Parser_columns_66 ?_
    refine Sm_ldcS E sr_Parser_155 d_Parser_columns_69 ?_
    refine Sm_cVI (As := [.ref (G.2.2.1 9)]) (b := (G.1 10)) (st := []) (n := 1) E exOk wC_as (fun _ h => cC_Tokens_takes 9 u h) gk_Parser_29 dk_Tokens_takes rfl ⟨rfl, rfl⟩ ⟨Nat.le_of_ble_eq_true rfl, Nat.le_of_ble_eq_true rfl⟩ (rvW (q0 := 10) (ci := 9) E rfl rfl rfl) rfl (Nat.le_of_ble_eq_true rfl) d_Parser_columns_71 fun r3 u4 _ => ?_
    refine Sm_if_eq (tgt := 81) E d_Parser_columns_74 (by decide) (fun _ => ?_) (fun _ => ?_)
    · refine Sm_iconst (v := 0) E d_Parser_columns_81 (by decide) ?_
      exact Sm_retZ hR (by decide) d_Parser_columns_82
    · refine Sm_iconst (v := 1) E d_Parser_columns_77 (by decide) ?_
      refine Sm_goto (tgt := 82) E d_Parser_columns_78 (by decide) ?_
      exact Sm_retZ hR (by decide) d_Parser_columns_82
set_option maxRecDepth 100000 in
set_option maxHeartbeats 4000000 in
theorem tC_Parser_columns_L27 {X : Cx} {G : Gx} {res : Int32 × St} (E : EC X G prog_6_method_10_code R_Parser 3 { frames := 7, cells := 0, slots := 0, locals := 153 }) (hR : RtZ X vwCl (wC G) prog_6_method_10_code .boolean res) : ∀ (n : Nat) (x1 : Int32) (x2 : Int32) (u : St), SC X G 3 res (mC_Parser_columns_L27 n x1 x2 u) u 27 [(0, .ref (G.1 28)), (1, .int x1), (2, .int x2)] [] := by
  intro n
  induction n with
  | zero => intro x1 x2 u; exact Sm_none
  | succ n h27 =>
    intro x1 x2 u
    rw [mC_Parser_columns_L27]
    refine Sm_iload_n E d_Parser_columns_27 rfl 2 rfl ?_
    refine Sm_sipush (v := 2000) E d_Parser_columns_28 (by decide) ?_
    refine Sm_icmp_ge (tgt := 61) E d_Parser_columns_31 (by decide) (fun _ => ?_) (fun _ => ?_)
    · exact Sm_sub [0, 1] rfl (tC_Parser_columns_J61 E hR _ _)
    · refine Sm_iload_n E d_Parser_columns_34 rfl 1 rfl ?_
      refine Sm_if_eq (tgt := 61) E d_Parser_columns_35 (by decide) (fun _ => ?_) (fun _ => ?_)
      · exact Sm_sub [0, 1] rfl (tC_Parser_columns_J61 E hR _ _)
      · refine Sm_aload_n E d_Parser_columns_38 rfl 0 rfl ?_
        refine gfC_28_tokens E fl_Parser_9 d_Parser_columns_39 ?_
        refine Sm_ldcS E sr_Parser_162 d_Parser_columns_42 ?_
        refine Sm_cVI (As := [.ref (G.2.2.1 33)]) (b := (G.1 10)) (st := []) (n := 1) E exOk wC_as (fun _ h => cC_Tokens_takes 33 u h) gk_Parser_29 dk_Tokens_takes rfl ⟨rfl, rfl⟩ ⟨Nat.le_of_ble_eq_true rfl, Nat.le_of_ble_eq_true rfl⟩ (rvW (q0 := 10) (ci := 9) E rfl rfl rfl) rfl (Nat.le_of_ble_eq_true rfl) d_Parser_columns_44 fun r5 u6 _ => ?_
        refine Sm_if_eq (tgt := 61) E d_Parser_columns_47 (by decide) (fun _ => ?_) (fun _ => ?_)
        · exact Sm_sub [0, 1] rfl (tC_Parser_columns_J61 E hR _ _)
        · refine Sm_aload_n E d_Parser_columns_50 rfl 0 rfl ?_
          refine Sm_cVI (As := []) (b := (G.1 28)) (st := []) (n := 0) E exOk wC_as (fun _ h => cC_Parser_newColumn u6 h) gk_Parser_157 dk_Parser_newColumn rfl ⟨rfl, rfl⟩ ⟨Nat.le_of_ble_eq_true rfl, Nat.le_of_ble_eq_true rfl⟩ (rvW (q0 := 28) (ci := 6) E rfl rfl rfl) rfl (Nat.le_of_ble_eq_true rfl) d_Parser_columns_51 fun r7 u8 _ => ?_
          refine Sm_istore_n (lv' := [(1, .int r7), (0, .ref (G.1 28)), (2, .int x2)]) E d_Parser_columns_54 rfl (by decide) rfl ?_
          refine Sm_iinc (k := 2) (d := 1) E d_Parser_columns_55 rfl rfl (by decide) fun y9 _ => Sm_lvs (lv' := [(2, .int y9), (1, .int r7), (0, .ref (G.1 28))]) rfl ?_
          refine Sm_goto (tgt := 27) E d_Parser_columns_58 (by decide) ?_
          exact Sm_sub [2, 1, 0] rfl (h27 _ _ _)
set_option maxRecDepth 100000 in
set_option maxHeartbeats 4000000 in
theorem cC_Parser_columns {l : Launch} {D : va_G} {G : Gx} (u : St) {res : Int32 × St} (hm : mC_Parser_columns u = some res) : KC l D G y_Parser_columns (.code y_Parser_columns prog_6_method_10_code 3 (some .boolean)) { frames := 7, cells := 0, slots := 0, locals := 153 } [.ref (G.1 28)] u (qI D vwCl (wC G) (tyW G) (adsC G) res) := by
  refine Ct_Z (by decide) wC_as (Nat.le_of_ble_eq_true rfl) hm (fun X _ _ E hR => ?_)
  refine Sm_lvs (lv' := [(0, .ref (G.1 28))]) rfl ?_
  rw [mC_Parser_columns]
  refine Sm_aload_n E d_Parser_columns_0 rfl 0 rfl ?_
  refine gfC_28_tokens E fl_Parser_9 d_Parser_columns_1 ?_
  refine Sm_ldcS E sr_Parser_150 d_Parser_columns_4 ?_
  refine Sm_cVI (As := [.ref (G.2.2.1 8)]) (b := (G.1 10)) (st := []) (n := 1) E exOk wC_as (fun _ h => cC_Tokens_takes 8 u h) gk_Parser_29 dk_Tokens_takes rfl ⟨rfl, rfl⟩ ⟨Nat.le_of_ble_eq_true rfl, Nat.le_of_ble_eq_true rfl⟩ (rvW (q0 := 10) (ci := 9) E rfl rfl rfl) rfl (Nat.le_of_ble_eq_true rfl) d_Parser_columns_6 fun r1 u2 _ => ?_
  refine Sm_if_eq (tgt := 23) E d_Parser_columns_9 (by decide) (fun _ => ?_) (fun _ => ?_)
  · refine Sm_iconst (v := 0) E d_Parser_columns_23 (by decide) ?_
    refine Sm_istore_n (lv' := [(1, .int 0), (0, .ref (G.1 28))]) E d_Parser_columns_24 rfl (by decide) rfl ?_
    refine Sm_iconst (v := 0) E d_Parser_columns_25 (by decide) ?_
    refine Sm_istore_n (lv' := [(2, .int 0), (1, .int 0), (0, .ref (G.1 28))]) E d_Parser_columns_26 rfl (by decide) rfl ?_
    exact Sm_sub [2, 1, 0] rfl (tC_Parser_columns_L27 E hR FU _ _ _)
  · refine Sm_aload_n E d_Parser_columns_12 rfl 0 rfl ?_
    refine Sm_cVI (As := []) (b := (G.1 28)) (st := []) (n := 0) E exOk wC_as (fun _ h => cC_Parser_newColumn u2 h) gk_Parser_157 dk_Parser_newColumn rfl ⟨rfl, rfl⟩ ⟨Nat.le_of_ble_eq_true rfl, Nat.le_of_ble_eq_true rfl⟩ (rvW (q0 := 28) (ci := 6) E rfl rfl rfl) rfl (Nat.le_of_ble_eq_true rfl) d_Parser_columns_13 fun r10 u11 _ => ?_
    refine Sm_if_eq (tgt := 23) E d_Parser_columns_16 (by decide) (fun _ => ?_) (fun _ => ?_)
    · refine Sm_iconst (v := 0) E d_Parser_columns_23 (by decide) ?_
      refine Sm_istore_n (lv' := [(1, .int 0), (0, .ref (G.1 28))]) E d_Parser_columns_24 rfl (by decide) rfl ?_
      refine Sm_iconst (v := 0) E d_Parser_columns_25 (by decide) ?_
      refine Sm_istore_n (lv' := [(2, .int 0), (1, .int 0), (0, .ref (G.1 28))]) E d_Parser_columns_26 rfl (by decide) rfl ?_
      exact Sm_sub [2, 1, 0] rfl (tC_Parser_columns_L27 E hR FU _ _ _)
    · refine Sm_iconst (v := 1) E d_Parser_columns_19 (by decide) ?_
      refine Sm_goto (tgt := 24) E d_Parser_columns_20 (by decide) ?_
      refine Sm_istore_n (lv' := [(1, .int 1), (0, .ref (G.1 28))]) E d_Parser_columns_24 rfl (by decide) rfl ?_
      refine Sm_iconst (v := 0) E d_Parser_columns_25 (by decide) ?_
      refine Sm_istore_n (lv' := [(2, .int 0), (1, .int 1), (0, .ref (G.1 28))]) E d_Parser_columns_26 rfl (by decide) rfl ?_
      exact Sm_sub [2, 1, 0] rfl (tC_Parser_columns_L27 E hR FU _ _ _)
set_option maxRecDepth 100000 in
set_option maxHeartbeats 4000000 in
theorem cC_Parser_create {l : Launch} {D : va_G} {G : Gx} (u : St) {res : Int32 × St} (hm : mC_Parser_create u = some res) : KC l D G y_Parser_create (.code y_Parser_create prog_6_method_9_code 1 (some .boolean)) { frames := 8, cells := 0, slots := 0, locals := 175 } [.ref (G.1 28)] u (qI D vwCl (wC G) (tyW G) (adsC G) res) := by
  refine Ct_Z (by decide) wC_as (Nat.le_of_ble_eq_true rfl) hm (fun X _ _ E hR => ?_)
  refine Sm_lvs (lv' := [(0, .ref (G.1 28))]) rfl ?_
  rw [mC_Parser_create]
  refine Sm_aload_n E d_Parser_create_0 rfl 0 rfl ?_
  refine gfC_28_tokens E fl_Parser_9 d_Parser_create_1 ?_
  refine Sm_ldcS E sr_Parser_100 d_Parser_create_4 ?_
  refine Sm_cVI (As := [.ref (G.2.2.1 51)]) (b := (G.1 10)) (st := []) (n := 1) E exOk wC_as (fun _ h => cC_Tokens_takes 51 u h) gk_Parser_29 dk_Tokens_takes rfl ⟨rfl, rfl⟩ ⟨Nat.le_of_ble_eq_true rfl, Nat.le_of_ble_eq_true rfl⟩ (rvW (q0 := 10) (ci := 9) E rfl rfl rfl) rfl (Nat.le_of_ble_eq_true rfl) d_Parser_create_6 fun r1 u2 _ => ?_
  refine Sm_if_eq (tgt := 40) E d_Parser_create_9 (by decide) (fun _ => ?_) (fun _ => ?_)
  · refine Sm_aload_n E d_Parser_create_40 rfl 0 rfl ?_
    refine gfC_28_statement E fl_Parser_23 d_Parser_create_41 ?_
    refine Sm_aload_n E d_Parser_create_44 rfl 0 rfl ?_
    refine gfC_28_tokens E fl_Parser_9 d_Parser_create_45 ?_
    refine Sm_ldcS E sr_Parser_141 d_Parser_create_48 ?_
    refine Sm_cVI (As := [.ref (G.2.2.1 55)]) (b := (G.1 10)) (st := [.ref (G.1 27)]) (n := 1) E exOk wC_as (fun _ h => cC_Tokens_takes 55 u2 h) gk_Parser_29 dk_Tokens_takes rfl ⟨rfl, rfl⟩ ⟨Nat.le_of_ble_eq_true rfl, Nat.le_of_ble_eq_true rfl⟩ (rvW (q0 := 10) (ci := 9) E rfl rfl rfl) rfl (Nat.le_of_ble_eq_true rfl) d_Parser_create_50 fun r3 u4 _ => ?_
    refine Sm_gd fun hz => pfC_27_unique E fl_Parser_143 d_Parser_create_53 (zb_n hz) (zb_f hz) fun u5 _ => ?_
    refine Sm_aload_n E d_Parser_create_56 rfl 0 rfl ?_
    refine gfC_28_tokens E fl_Parser_9 d_Parser_create_57 ?_
    refine Sm_ldcS E sr_Parser_146 d_Parser_create_60 ?_
    refine Sm_cVI (As := [.ref (G.2.2.1 56)]) (b := (G.1 10)) (st := []) (n := 1) E exOk wC_as (fun _ h => cC_Tokens_takes 56 u5 h) gk_Parser_29 dk_Tokens_takes rfl ⟨rfl, rfl⟩ ⟨Nat.le_of_ble_eq_true rfl, Nat.le_of_ble_eq_true rfl⟩ (rvW (q0 := 10) (ci := 9) E rfl rfl rfl) rfl (Nat.le_of_ble_eq_true rfl) d_Parser_create_62 fun r6 u7 _ => ?_
    refine Sm_if_eq (tgt := 99) E d_Parser_create_65 (by decide) (fun _ => ?_) (fun _ => ?_)
    · refine Sm_iconst (v := 0) E d_Parser_create_99 (by decide) ?_
      exact Sm_retZ hR (by decide) d_Parser_create_100
    · refine Sm_aload_n E d_Parser_create_68 rfl 0 rfl ?_
      refine gfC_28_tokens E fl_Parser_9 d_Parser_create_69 ?_
      refine Sm_ldcS E sr_Parser_148 d_Parser_create_72 ?_
      refine Sm_cVI (As := [.ref (G.2.2.1 57)]) (b := (G.1 10)) (st := []) (n := 1) E exOk wC_as (fun _ h => cC_Tokens_takes 57 u7 h) gk_Parser_29 dk_Tokens_takes rfl ⟨rfl, rfl⟩ ⟨Nat.le_of_ble_eq_true rfl, Nat.le_of_ble_eq_true rfl⟩ (rvW (q0 := 10) (ci := 9) E rfl rfl rfl) rfl (Nat.le_of_ble_eq_true rfl) d_Parser_create_74 fun r8 u9 _ => ?_
      refine Sm_if_eq (tgt := 99) E d_Parser_create_77 (by decide) (fun _ => ?_) (fun _ => ?_)
      · refine Sm_iconst (v := 0) E d_Parser_create_99 (by decide) ?_
        exact Sm_retZ hR (by decide) d_Parser_create_100
      · refine Sm_aload_n E d_Parser_create_80 rfl 0 rfl ?_
        refine Sm_cVI (As := []) (b := (G.1 28)) (st := []) (n := 0) E exOk wC_as (fun _ h => cC_Parser_target u9 h) gk_Parser_55 dk_Parser_target rfl ⟨rfl, rfl⟩ ⟨Nat.le_of_ble_eq_true rfl, Nat.le_of_ble_eq_true rfl⟩ (rvW (q0 := 28) (ci := 6) E rfl rfl rfl) rfl (Nat.le_of_ble_eq_true rfl) d_Parser_create_81 fun r10 u11 _ => ?_
        refine Sm_if_eq (tgt := 99) E d_Parser_create_84 (by decide) (fun _ => ?_) (fun _ => ?_)
        · refine Sm_iconst (v := 0) E d_Parser_create_99 (by decide) ?_
          exact Sm_retZ hR (by decide) d_Parser_create_100
        · refine Sm_aload_n E d_Parser_create_87 rfl 0 rfl ?_
          refine gfC_28_tokens E fl_Parser_9 d_Parser_create_88 ?_
          refine Sm_ldcS E sr_Parser_150 d_Parser_create_91 ?_
          refine Sm_cVI (As := [.ref (G.2.2.1 8)]) (b := (G.1 10)) (st := []) (n := 1) E exOk wC_as (fun _ h => cC_Tokens_takes 8 u11 h) gk_Parser_29 dk_Tokens_takes rfl ⟨rfl, rfl⟩ ⟨Nat.le_of_ble_eq_true rfl, Nat.le_of_ble_eq_true rfl⟩ (rvW (q0 := 10) (ci := 9) E rfl rfl rfl) rfl (Nat.le_of_ble_eq_true rfl) d_Parser_create_93 fun r12 u13 _ => ?_
          refine Sm_if_ne (tgt := 101) E d_Parser_create_96 (by decide) (fun _ => ?_) (fun _ => ?_)
          · refine Sm_aload_n E d_Parser_create_101 rfl 0 rfl ?_
            refine gfC_28_statement E fl_Parser_23 d_Parser_create_102 ?_
            refine Sm_aload_n E d_Parser_create_105 rfl 0 rfl ?_
            refine gfC_28_tokens E fl_Parser_9 d_Parser_create_106 ?_
            refine Sm_iconst (v := 1) E d_Parser_create_109 (by decide) ?_
            refine Sm_cVI (As := [.int 1]) (b := (G.1 10)) (st := [.ref (G.1 27)]) (n := 1) E exOk wC_as (fun _ h => cC_Tokens_take 1 u13 h) gk_Parser_129 dk_Tokens_take rfl ⟨rfl, rfl⟩ ⟨Nat.le_of_ble_eq_true rfl, Nat.le_of_ble_eq_true rfl⟩ (rvW (q0 := 10) (ci := 9) E rfl rfl rfl) rfl (Nat.le_of_ble_eq_true rfl) d_Parser_create_110 fun r14 u15 _ => ?_
            refine pfC_27_columnName E fl_Parser_152 d_Parser_create_113 fun u16 _ => ?_
            refine Sm_aload_n E d_Parser_create_116 rfl 0 rfl ?_
            refine gfC_28_statement E fl_Parser_23 d_Parser_create_117 ?_
            refine gfC_27_columnName E fl_Parser_152 d_Parser_create_120 ?_
            refine Sm_if_lt (tgt := 150) E d_Parser_create_123 (by decide) (fun _ => ?_) (fun _ => ?_)
            · refine Sm_iconst (v := 0) E d_Parser_create_150 (by decide) ?_
              exact Sm_retZ hR (by decide) d_Parser_create_151
            · refine Sm_aload_n E d_Parser_create_126 rfl 0 rfl ?_
              refine gfC_28_tokens E fl_Parser_9 d_Parser_create_127 ?_
              refine Sm_ldcS E sr_Parser_155 d_Parser_create_130 ?_
              refine Sm_cVI (As := [.ref (G.2.2.1 9)]) (b := (G.1 10)) (st := []) (n := 1) E exOk wC_as (fun _ h => cC_Tokens_takes 9 u16 h) gk_Parser_29 dk_Tokens_takes rfl ⟨rfl, rfl⟩ ⟨Nat.le_of_ble_eq_true rfl, Nat.le_of_ble_eq_true rfl⟩ (rvW (q0 := 10) (ci := 9) E rfl rfl rfl) rfl (Nat.le_of_ble_eq_true rfl) d_Parser_create_132 fun r17 u18 _ => ?_
              refine Sm_if_eq (tgt := 150) E d_Parser_create_135 (by decide) (fun _ => ?_) (fun _ => ?_)
              · refine Sm_iconst (v := 0) E d_Parser_create_150 (by decide) ?_
                exact Sm_retZ hR (by decide) d_Parser_create_151
              · refine Sm_aload_n E d_Parser_create_138 rfl 0 rfl ?_
                refine Sm_iconst (v := 2) E d_Parser_create_139 (by decide) ?_
                refine Sm_cVI (As := [.int 2]) (b := (G.1 28)) (st := []) (n := 1) E exOk wC_as (fun _ h => cC_Parser_is 2 u18 h) gk_Parser_102 dk_Parser_is rfl ⟨rfl, rfl⟩ ⟨Nat.le_of_ble_eq_true rfl, Nat.le_of_ble_eq_true rfl⟩ (rvW (q0 := 28) (ci := 6) E rfl rfl rfl) rfl (Nat.le_of_ble_eq_true rfl) d_Parser_create_140 fun r19 u20 _ => ?_
                refine Sm_if_eq (tgt := 150) E d_Parser_create_143 (by decide) (fun _ => ?_) (fun _ => ?_)
                · refine Sm_iconst (v := 0) E d_Parser_create_150 (by decide) ?_
                  exact Sm_retZ hR (by decide) d_Parser_create_151
                · refine Sm_iconst (v := 1) E d_Parser_create_146 (by decide) ?_
                  refine Sm_goto (tgt := 151) E d_Parser_create_147 (by decide) ?_
                  exact Sm_retZ hR (by decide) d_Parser_create_151
          · refine Sm_iconst (v := 0) E d_Parser_create_99 (by decide) ?_
            exact Sm_retZ hR (by decide) d_Parser_create_100
  · refine Sm_aload_n E d_Parser_create_12 rfl 0 rfl ?_
    refine Sm_cVI (As := []) (b := (G.1 28)) (st := []) (n := 0) E exOk wC_as (fun _ h => cC_Parser_title u2 h) gk_Parser_39 dk_Parser_title rfl ⟨rfl, rfl⟩ ⟨Nat.le_of_ble_eq_true rfl, Nat.le_of_ble_eq_true rfl⟩ (rvW (q0 := 28) (ci := 6) E rfl rfl rfl) rfl (Nat.le_of_ble_eq_true rfl) d_Parser_create_13 fun r21 u22 _ => ?_
    refine Sm_if_eq (tgt := 38) E d_Parser_create_16 (by decide) (fun _ => ?_) (fun _ => ?_)
    · refine Sm_iconst (v := 0) E d_Parser_create_38 (by decide) ?_
      exact Sm_retZ hR (by decide) d_Parser_create_39
    · refine Sm_aload_n E d_Parser_create_19 rfl 0 rfl ?_
      refine Sm_cVI (As := []) (b := (G.1 28)) (st := []) (n := 0) E exOk wC_as (fun _ h => cC_Parser_columns u22 h) gk_Parser_138 dk_Parser_columns rfl ⟨rfl, rfl⟩ ⟨Nat.le_of_ble_eq_true rfl, Nat.le_of_ble_eq_true rfl⟩ (rvW (q0 := 28) (ci := 6) E rfl rfl rfl) rfl (Nat.le_of_ble_eq_true rfl) d_Parser_create_20 fun r23 u24 _ => ?_
      refine Sm_if_eq (tgt := 38) E d_Parser_create_23 (by decide) (fun _ => ?_) (fun _ => ?_)
      · refine Sm_iconst (v := 0) E d_Parser_create_38 (by decide) ?_
        exact Sm_retZ hR (by decide) d_Parser_create_39
      · refine Sm_aload_n E d_Parser_create_26 rfl 0 rfl ?_
        refine Sm_iconst (v := 1) E d_Parser_create_27 (by decide) ?_
        refine Sm_cVI (As := [.int 1]) (b := (G.1 28)) (st := []) (n := 1) E exOk wC_as (fun _ h => cC_Parser_is 1 u24 h) gk_Parser_102 dk_Parser_is rfl ⟨rfl, rfl⟩ ⟨Nat.le_of_ble_eq_true rfl, Nat.le_of_ble_eq_true rfl⟩ (rvW (q0 := 28) (ci := 6) E rfl rfl rfl) rfl (Nat.le_of_ble_eq_true rfl) d_Parser_create_28 fun r25 u26 _ => ?_
        refine Sm_if_eq (tgt := 38) E d_Parser_create_31 (by decide) (fun _ => ?_) (fun _ => ?_)
        · refine Sm_iconst (v := 0) E d_Parser_create_38 (by decide) ?_
          exact Sm_retZ hR (by decide) d_Parser_create_39
        · refine Sm_iconst (v := 1) E d_Parser_create_34 (by decide) ?_
          refine Sm_goto (tgt := 39) E d_Parser_create_35 (by decide) ?_
          exact Sm_retZ hR (by decide) d_Parser_create_39
set_option maxRecDepth 100000 in
set_option maxHeartbeats 4000000 in
theorem cC_Parser_begin {l : Launch} {D : va_G} {G : Gx} (u : St) {res : Int32 × St} (hm : mC_Parser_begin u = some res) : KC l D G y_Parser_begin (.code y_Parser_begin prog_6_method_30_code 1 (some .boolean)) { frames := 5, cells := 0, slots := 0, locals := 109 } [.ref (G.1 28)] u (qI D vwCl (wC G) (tyW G) (adsC G) res) := by
  refine Ct_Z (by decide) wC_as (Nat.le_of_ble_eq_true rfl) hm (fun X _ _ E hR => ?_)
  refine Sm_lvs (lv' := [(0, .ref (G.1 28))]) rfl ?_
  rw [mC_Parser_begin]
  refine Sm_aload_n E d_Parser_begin_0 rfl 0 rfl ?_
  refine gfC_28_statement E fl_Parser_23 d_Parser_begin_1 ?_
  refine Sm_bipush (v := 9) E d_Parser_begin_4 (by decide) ?_
  refine pfC_27_deed E fl_Parser_86 d_Parser_begin_6 fun u1 _ => ?_
  refine Sm_aload_n E d_Parser_begin_9 rfl 0 rfl ?_
  refine gfC_28_tokens E fl_Parser_9 d_Parser_begin_10 ?_
  refine Sm_ldcS_w E sr_Parser_288 d_Parser_begin_13 ?_
  refine Sm_cVI (As := [.ref (G.2.2.1 60)]) (b := (G.1 10)) (st := []) (n := 1) E exOk wC_as (fun _ h => cC_Tokens_takes 60 u1 h) gk_Parser_29 dk_Tokens_takes rfl ⟨rfl, rfl⟩ ⟨Nat.le_of_ble_eq_true rfl, Nat.le_of_ble_eq_true rfl⟩ (rvW (q0 := 10) (ci := 9) E rfl rfl rfl) rfl (Nat.le_of_ble_eq_true rfl) d_Parser_begin_16 fun r2 u3 _ => ?_
  refine Sm_if_eq (tgt := 33) E d_Parser_begin_19 (by decide) (fun _ => ?_) (fun _ => ?_)
  · refine Sm_aload_n E d_Parser_begin_33 rfl 0 rfl ?_
    refine gfC_28_tokens E fl_Parser_9 d_Parser_begin_34 ?_
    refine Sm_ldcS_w E sr_Parser_292 d_Parser_begin_37 ?_
    refine Sm_cVI (As := [.ref (G.2.2.1 62)]) (b := (G.1 10)) (st := []) (n := 1) E exOk wC_as (fun _ h => cC_Tokens_takes 62 u3 h) gk_Parser_29 dk_Tokens_takes rfl ⟨rfl, rfl⟩ ⟨Nat.le_of_ble_eq_true rfl, Nat.le_of_ble_eq_true rfl⟩ (rvW (q0 := 10) (ci := 9) E rfl rfl rfl) rfl (Nat.le_of_ble_eq_true rfl) d_Parser_begin_40 fun r4 u5 _ => ?_
    refine Sm_if_eq (tgt := 65) E d_Parser_begin_43 (by decide) (fun _ => ?_) (fun _ => ?_)
    · refine Sm_aload_n E d_Parser_begin_65 rfl 0 rfl ?_
      refine gfC_28_statement E fl_Parser_23 d_Parser_begin_66 ?_
      refine Sm_aload_n E d_Parser_begin_69 rfl 0 rfl ?_
      refine gfC_28_tokens E fl_Parser_9 d_Parser_begin_70 ?_
      refine Sm_ldcS_w E sr_Parser_294 d_Parser_begin_73 ?_
      refine Sm_cVI (As := [.ref (G.2.2.1 63)]) (b := (G.1 10)) (st := [.ref (G.1 27)]) (n := 1) E exOk wC_as (fun _ h => cC_Tokens_takes 63 u5 h) gk_Parser_29 dk_Tokens_takes rfl ⟨rfl, rfl⟩ ⟨Nat.le_of_ble_eq_true rfl, Nat.le_of_ble_eq_true rfl⟩ (rvW (q0 := 10) (ci := 9) E rfl rfl rfl) rfl (Nat.le_of_ble_eq_true rfl) d_Parser_begin_76 fun r6 u7 _ => ?_
      refine Sm_if_eq (tgt := 86) E d_Parser_begin_79 (by decide) (fun _ => ?_) (fun _ => ?_)
      · refine Sm_iconst (v := 0) E d_Parser_begin_86 (by decide) ?_
        refine pfC_27_mode E fl_Parser_285 d_Parser_begin_87 fun u8 _ => ?_
        refine Sm_iconst (v := 1) E d_Parser_begin_90 (by decide) ?_
        exact Sm_retZ hR (by decide) d_Parser_begin_91
      · refine Sm_iconst (v := 2) E d_Parser_begin_82 (by decide) ?_
        refine Sm_goto (tgt := 87) E d_Parser_begin_83 (by decide) ?_
        refine pfC_27_mode E fl_Parser_285 d_Parser_begin_87 fun u9 _ => ?_
        refine Sm_iconst (v := 1) E d_Parser_begin_90 (by decide) ?_
        exact Sm_retZ hR (by decide) d_Parser_begin_91
    · refine Sm_aload_n E d_Parser_begin_46 rfl 0 rfl ?_
      refine gfC_28_statement E fl_Parser_23 d_Parser_begin_47 ?_
      refine Sm_iconst (v := 1) E d_Parser_begin_50 (by decide) ?_
      refine pfC_27_mode E fl_Parser_285 d_Parser_begin_51 fun u10 _ => ?_
      refine Sm_aload_n E d_Parser_begin_54 rfl 0 rfl ?_
      refine gfC_28_tokens E fl_Parser_9 d_Parser_begin_55 ?_
      refine Sm_ldcS_w E sr_Parser_288 d_Parser_begin_58 ?_
      refine Sm_cVI (As := [.ref (G.2.2.1 60)]) (b := (G.1 10)) (st := []) (n := 1) E exOk wC_as (fun _ h => cC_Tokens_takes 60 u10 h) gk_Parser_29 dk_Tokens_takes rfl ⟨rfl, rfl⟩ ⟨Nat.le_of_ble_eq_true rfl, Nat.le_of_ble_eq_true rfl⟩ (rvW (q0 := 10) (ci := 9) E rfl rfl rfl) rfl (Nat.le_of_ble_eq_true rfl) d_Parser_begin_61 fun r11 u12 _ => ?_
      exact Sm_gd fun hz => Sm_retZ hR (zb_n hz) d_Parser_begin_64
  · refine Sm_aload_n E d_Parser_begin_22 rfl 0 rfl ?_
    refine gfC_28_tokens E fl_Parser_9 d_Parser_begin_23 ?_
    refine Sm_ldcS_w E sr_Parser_290 d_Parser_begin_26 ?_
    refine Sm_cVI (As := [.ref (G.2.2.1 61)]) (b := (G.1 10)) (st := []) (n := 1) E exOk wC_as (fun _ h => cC_Tokens_takes 61 u3 h) gk_Parser_29 dk_Tokens_takes rfl ⟨rfl, rfl⟩ ⟨Nat.le_of_ble_eq_true rfl, Nat.le_of_ble_eq_true rfl⟩ (rvW (q0 := 10) (ci := 9) E rfl rfl rfl) rfl (Nat.le_of_ble_eq_true rfl) d_Parser_begin_29 fun r13 u14 _ => ?_
    exact Sm_gd fun hz => Sm_retZ hR (zb_n hz) d_Parser_begin_32
set_option maxRecDepth 100000 in
set_option maxHeartbeats 4000000 in
theorem cC_Parser_shareMode {l : Launch} {D : va_G} {G : Gx} (u : St) {res : Int32 × St} (hm : mC_Parser_shareMode u = some res) : KC l D G y_Parser_shareMode (.code y_Parser_shareMode prog_6_method_32_code 1 (some .int)) { frames := 5, cells := 0, slots := 0, locals := 109 } [.ref (G.1 28)] u (qI D vwCl (wC G) (tyW G) (adsC G) res) := by
  refine Ct_I (by decide) wC_as (Nat.le_of_ble_eq_true rfl) hm (fun X _ _ E hR => ?_)
  refine Sm_lvs (lv' := [(0, .ref (G.1 28))]) rfl ?_
  rw [mC_Parser_shareMode]
  refine Sm_aload_n E d_Parser_shareMode_0 rfl 0 rfl ?_
  refine gfC_28_tokens E fl_Parser_9 d_Parser_shareMode_1 ?_
  refine Sm_ldcS E sr_Parser_61 d_Parser_shareMode_4 ?_
  refine Sm_cVI (As := [.ref (G.2.2.1 43)]) (b := (G.1 10)) (st := []) (n := 1) E exOk wC_as (fun _ h => cC_Tokens_takes 43 u h) gk_Parser_29 dk_Tokens_takes rfl ⟨rfl, rfl⟩ ⟨Nat.le_of_ble_eq_true rfl, Nat.le_of_ble_eq_true rfl⟩ (rvW (q0 := 10) (ci := 9) E rfl rfl rfl) rfl (Nat.le_of_ble_eq_true rfl) d_Parser_shareMode_6 fun r1 u2 _ => ?_
  refine Sm_if_eq (tgt := 31) E d_Parser_shareMode_9 (by decide) (fun _ => ?_) (fun _ => ?_)
  · refine Sm_aload_n E d_Parser_shareMode_31 rfl 0 rfl ?_
    refine gfC_28_tokens E fl_Parser_9 d_Parser_shareMode_32 ?_
    refine Sm_ldcS_w E sr_Parser_300 d_Parser_shareMode_35 ?_
    refine Sm_cVI (As := [.ref (G.2.2.1 72)]) (b := (G.1 10)) (st := []) (n := 1) E exOk wC_as (fun _ h => cC_Tokens_takes 72 u2 h) gk_Parser_29 dk_Tokens_takes rfl ⟨rfl, rfl⟩ ⟨Nat.le_of_ble_eq_true rfl, Nat.le_of_ble_eq_true rfl⟩ (rvW (q0 := 10) (ci := 9) E rfl rfl rfl) rfl (Nat.le_of_ble_eq_true rfl) d_Parser_shareMode_38 fun r3 u4 _ => ?_
    refine Sm_if_eq (tgt := 64) E d_Parser_shareMode_41 (by decide) (fun _ => ?_) (fun _ => ?_)
    · refine Sm_iconst (v := 5) E d_Parser_shareMode_64 (by decide) ?_
      exact Sm_retI hR d_Parser_shareMode_65
    · refine Sm_aload_n E d_Parser_shareMode_44 rfl 0 rfl ?_
      refine gfC_28_tokens E fl_Parser_9 d_Parser_shareMode_45 ?_
      refine Sm_ldcS_w E sr_Parser_298 d_Parser_shareMode_48 ?_
      refine Sm_cVI (As := [.ref (G.2.2.1 71)]) (b := (G.1 10)) (st := []) (n := 1) E exOk wC_as (fun _ h => cC_Tokens_takes 71 u4 h) gk_Parser_29 dk_Tokens_takes rfl ⟨rfl, rfl⟩ ⟨Nat.le_of_ble_eq_true rfl, Nat.le_of_ble_eq_true rfl⟩ (rvW (q0 := 10) (ci := 9) E rfl rfl rfl) rfl (Nat.le_of_ble_eq_true rfl) d_Parser_shareMode_51 fun r5 u6 _ => ?_
      refine Sm_if_eq (tgt := 62) E d_Parser_shareMode_54 (by decide) (fun _ => ?_) (fun _ => ?_)
      · refine Sm_iconst (v := 0) E d_Parser_shareMode_62 (by decide) ?_
        exact Sm_retI hR d_Parser_shareMode_63
      · refine Sm_bipush (v := 6) E d_Parser_shareMode_57 (by decide) ?_
        refine Sm_goto (tgt := 63) E d_Parser_shareMode_59 (by decide) ?_
        exact Sm_retI hR d_Parser_shareMode_63
  · refine Sm_aload_n E d_Parser_shareMode_12 rfl 0 rfl ?_
    refine gfC_28_tokens E fl_Parser_9 d_Parser_shareMode_13 ?_
    refine Sm_ldcS_w E sr_Parser_298 d_Parser_shareMode_16 ?_
    refine Sm_cVI (As := [.ref (G.2.2.1 71)]) (b := (G.1 10)) (st := []) (n := 1) E exOk wC_as (fun _ h => cC_Tokens_takes 71 u2 h) gk_Parser_29 dk_Tokens_takes rfl ⟨rfl, rfl⟩ ⟨Nat.le_of_ble_eq_true rfl, Nat.le_of_ble_eq_true rfl⟩ (rvW (q0 := 10) (ci := 9) E rfl rfl rfl) rfl (Nat.le_of_ble_eq_true rfl) d_Parser_shareMode_19 fun r7 u8 _ => ?_
    refine Sm_if_eq (tgt := 29) E d_Parser_shareMode_22 (by decide) (fun _ => ?_) (fun _ => ?_)
    · refine Sm_iconst (v := 0) E d_Parser_shareMode_29 (by decide) ?_
      exact Sm_retI hR d_Parser_shareMode_30
    · refine Sm_iconst (v := 4) E d_Parser_shareMode_25 (by decide) ?_
      refine Sm_goto (tgt := 30) E d_Parser_shareMode_26 (by decide) ?_
      exact Sm_retI hR d_Parser_shareMode_30
set_option maxRecDepth 100000 in
set_option maxHeartbeats 4000000 in
theorem tC_Parser_lockMode_J111 {X : Cx} {G : Gx} {res : Int32 × St} (E : EC X G prog_6_method_31_code R_Parser 1 { frames := 6, cells := 0, slots := 0, locals := 129 }) (hR : RtZ X vwCl (wC G) prog_6_method_31_code .boolean res) : ∀ (s1 : Int32) (u : St), SC X G 1 res (mC_Parser_lockMode_J111 s1 u) u 111 [(0, .ref (G.1 28))] [.int s1, .ref (G.1 27)] := by
  intro s1 u
  rw [mC_Parser_lockMode_J111]
  refine pfC_27_mode E fl_Parser_285 d_Parser_lockMode_111 fun u18 _ => ?_
  refine Sm_goto (tgt := 170) E d_Parser_lockMode_114 (by decide) ?_
  refine Sm_aload_n E d_Parser_lockMode_170 rfl 0 rfl ?_
  refine gfC_28_statement E fl_Parser_23 d_Parser_lockMode_171 ?_
  refine gfC_27_mode E fl_Parser_285 d_Parser_lockMode_174 ?_
  refine Sm_if_le (tgt := 184) E d_Parser_lockMode_177 (by decide) (fun _ => ?_) (fun _ => ?_)
  · refine Sm_iconst (v := 0) E d_Parser_lockMode_184 (by decide) ?_
    exact Sm_retZ hR (by decide) d_Parser_lockMode_185
  · refine Sm_iconst (v := 1) E d_Parser_lockMode_180 (by decide) ?_
    refine Sm_goto (tgt := 185) E d_Parser_lockMode_181 (by decide) ?_
    exact Sm_retZ hR (by decide) d_Parser_lockMode_185
set_option maxRecDepth 100000 in
set_option maxHeartbeats 4000000 in
theorem tC_Parser_lockMode_J53 {X : Cx} {G : Gx} {res : Int32 × St} (E : EC X G prog_6_method_31_code R_Parser 1 { frames := 6, cells := 0, slots := 0, locals := 129 }) (hR : RtZ X vwCl (wC G) prog_6_method_31_code .boolean res) : ∀ (s1 : Int32) (u : St), SC X G 1 res (mC_Parser_lockMode_J53 s1 u) u 53 [(0, .ref (G.1 28))] [.int s1, .ref (G.1 27)] := by
  intro s1 u
  rw [mC_Parser_lockMode_J53]
  refine pfC_27_mode E fl_Parser_285 d_Parser_lockMode_53 fun u23 _ => ?_
  refine Sm_goto (tgt := 170) E d_Parser_lockMode_56 (by decide) ?_
  refine Sm_aload_n E d_Parser_lockMode_170 rfl 0 rfl ?_
  refine gfC_28_statement E fl_Parser_23 d_Parser_lockMode_171 ?_
  refine gfC_27_mode E fl_Parser_285 d_Parser_lockMode_174 ?_
  refine Sm_if_le (tgt := 184) E d_Parser_lockMode_177 (by decide) (fun _ => ?_) (fun _ => ?_)
  · refine Sm_iconst (v := 0) E d_Parser_lockMode_184 (by decide) ?_
    exact Sm_retZ hR (by decide) d_Parser_lockMode_185
  · refine Sm_iconst (v := 1) E d_Parser_lockMode_180 (by decide) ?_
    refine Sm_goto (tgt := 185) E d_Parser_lockMode_181 (by decide) ?_
    exact Sm_retZ hR (by decide) d_Parser_lockMode_185
set_option maxRecDepth 100000 in
set_option maxHeartbeats 4000000 in
theorem cC_Parser_lockMode {l : Launch} {D : va_G} {G : Gx} (u : St) {res : Int32 × St} (hm : mC_Parser_lockMode u = some res) : KC l D G y_Parser_lockMode (.code y_Parser_lockMode prog_6_method_31_code 1 (some .boolean)) { frames := 6, cells := 0, slots := 0, locals := 129 } [.ref (G.1 28)] u (qI D vwCl (wC G) (tyW G) (adsC G) res) := by
  refine Ct_Z (by decide) wC_as (Nat.le_of_ble_eq_true rfl) hm (fun X _ _ E hR => ?_)
  refine Sm_lvs (lv' := [(0, .ref (G.1 28))]) rfl ?_
  rw [mC_Parser_lockMode]
  refine Sm_aload_n E d_Parser_lockMode_0 rfl 0 rfl ?_
  refine gfC_28_tokens E fl_Parser_9 d_Parser_lockMode_1 ?_
  refine Sm_ldcS_w E sr_Parser_296 d_Parser_lockMode_4 ?_
  refine Sm_cVI (As := [.ref (G.2.2.1 70)]) (b := (G.1 10)) (st := []) (n := 1) E exOk wC_as (fun _ h => cC_Tokens_takes 70 u h) gk_Parser_29 dk_Tokens_takes rfl ⟨rfl, rfl⟩ ⟨Nat.le_of_ble_eq_true rfl, Nat.le_of_ble_eq_true rfl⟩ (rvW (q0 := 10) (ci := 9) E rfl rfl rfl) rfl (Nat.le_of_ble_eq_true rfl) d_Parser_lockMode_7 fun r1 u2 _ => ?_
  refine Sm_if_eq (tgt := 59) E d_Parser_lockMode_10 (by decide) (fun _ => ?_) (fun _ => ?_)
  · refine Sm_aload_n E d_Parser_lockMode_59 rfl 0 rfl ?_
    refine gfC_28_tokens E fl_Parser_9 d_Parser_lockMode_60 ?_
    refine Sm_ldcS_w E sr_Parser_300 d_Parser_lockMode_63 ?_
    refine Sm_cVI (As := [.ref (G.2.2.1 72)]) (b := (G.1 10)) (st := []) (n := 1) E exOk wC_as (fun _ h => cC_Tokens_takes 72 u2 h) gk_Parser_29 dk_Tokens_takes rfl ⟨rfl, rfl⟩ ⟨Nat.le_of_ble_eq_true rfl, Nat.le_of_ble_eq_true rfl⟩ (rvW (q0 := 10) (ci := 9) E rfl rfl rfl) rfl (Nat.le_of_ble_eq_true rfl) d_Parser_lockMode_66 fun r3 u4 _ => ?_
    refine Sm_if_eq (tgt := 117) E d_Parser_lockMode_69 (by decide) (fun _ => ?_) (fun _ => ?_)
    · refine Sm_aload_n E d_Parser_lockMode_117 rfl 0 rfl ?_
      refine gfC_28_tokens E fl_Parser_9 d_Parser_lockMode_118 ?_
      refine Sm_ldcS_w E sr_Parser_283 d_Parser_lockMode_121 ?_
      refine Sm_cVI (As := [.ref (G.2.2.1 42)]) (b := (G.1 10)) (st := []) (n := 1) E exOk wC_as (fun _ h => cC_Tokens_takes 42 u4 h) gk_Parser_29 dk_Tokens_takes rfl ⟨rfl, rfl⟩ ⟨Nat.le_of_ble_eq_true rfl, Nat.le_of_ble_eq_true rfl⟩ (rvW (q0 := 10) (ci := 9) E rfl rfl rfl) rfl (Nat.le_of_ble_eq_true rfl) d_Parser_lockMode_124 fun r5 u6 _ => ?_
      refine Sm_if_eq (tgt := 144) E d_Parser_lockMode_127 (by decide) (fun _ => ?_) (fun _ => ?_)
      · refine Sm_aload_n E d_Parser_lockMode_144 rfl 0 rfl ?_
        refine gfC_28_statement E fl_Parser_23 d_Parser_lockMode_145 ?_
        refine Sm_aload_n E d_Parser_lockMode_148 rfl 0 rfl ?_
        refine gfC_28_tokens E fl_Parser_9 d_Parser_lockMode_149 ?_
        refine Sm_ldcS_w E sr_Parser_298 d_Parser_lockMode_152 ?_
        refine Sm_cVI (As := [.ref (G.2.2.1 71)]) (b := (G.1 10)) (st := [.ref (G.1 27)]) (n := 1) E exOk wC_as (fun _ h => cC_Tokens_takes 71 u6 h) gk_Parser_29 dk_Tokens_takes rfl ⟨rfl, rfl⟩ ⟨Nat.le_of_ble_eq_true rfl, Nat.le_of_ble_eq_true rfl⟩ (rvW (q0 := 10) (ci := 9) E rfl rfl rfl) rfl (Nat.le_of_ble_eq_true rfl) d_Parser_lockMode_155 fun r7 u8 _ => ?_
        refine Sm_if_eq (tgt := 166) E d_Parser_lockMode_158 (by decide) (fun _ => ?_) (fun _ => ?_)
        · refine Sm_iconst (v := 0) E d_Parser_lockMode_166 (by decide) ?_
          refine pfC_27_mode E fl_Parser_285 d_Parser_lockMode_167 fun u9 _ => ?_
          refine Sm_aload_n E d_Parser_lockMode_170 rfl 0 rfl ?_
          refine gfC_28_statement E fl_Parser_23 d_Parser_lockMode_171 ?_
          refine gfC_27_mode E fl_Parser_285 d_Parser_lockMode_174 ?_
          refine Sm_if_le (tgt := 184) E d_Parser_lockMode_177 (by decide) (fun _ => ?_) (fun _ => ?_)
          · refine Sm_iconst (v := 0) E d_Parser_lockMode_184 (by decide) ?_
            exact Sm_retZ hR (by decide) d_Parser_lockMode_185
          · refine Sm_iconst (v := 1) E d_Parser_lockMode_180 (by decide) ?_
            refine Sm_goto (tgt := 185) E d_Parser_lockMode_181 (by decide) ?_
            exact Sm_retZ hR (by decide) d_Parser_lockMode_185
        · refine Sm_bipush (v := 7) E d_Parser_lockMode_161 (by decide) ?_
          refine Sm_goto (tgt := 167) E d_Parser_lockMode_163 (by decide) ?_
          refine pfC_27_mode E fl_Parser_285 d_Parser_lockMode_167 fun u10 _ => ?_
          refine Sm_aload_n E d_Parser_lockMode_170 rfl 0 rfl ?_
          refine gfC_28_statement E fl_Parser_23 d_Parser_lockMode_171 ?_
          refine gfC_27_mode E fl_Parser_285 d_Parser_lockMode_174 ?_
          refine Sm_if_le (tgt := 184) E d_Parser_lockMode_177 (by decide) (fun _ => ?_) (fun _ => ?_)
          · refine Sm_iconst (v := 0) E d_Parser_lockMode_184 (by decide) ?_
            exact Sm_retZ hR (by decide) d_Parser_lockMode_185
          · refine Sm_iconst (v := 1) E d_Parser_lockMode_180 (by decide) ?_
            refine Sm_goto (tgt := 185) E d_Parser_lockMode_181 (by decide) ?_
            exact Sm_retZ hR (by decide) d_Parser_lockMode_185
      · refine Sm_aload_n E d_Parser_lockMode_130 rfl 0 rfl ?_
        refine gfC_28_statement E fl_Parser_23 d_Parser_lockMode_131 ?_
        refine Sm_aload_n E d_Parser_lockMode_134 rfl 0 rfl ?_
        refine Sm_cVI (As := []) (b := (G.1 28)) (st := [.ref (G.1 27)]) (n := 0) E exOk wC_as (fun _ h => cC_Parser_shareMode u6 h) gk_Parser_302 dk_Parser_shareMode rfl ⟨rfl, rfl⟩ ⟨Nat.le_of_ble_eq_true rfl, Nat.le_of_ble_eq_true rfl⟩ (rvW (q0 := 28) (ci := 6) E rfl rfl rfl) rfl (Nat.le_of_ble_eq_true rfl) d_Parser_lockMode_135 fun r11 u12 _ => ?_
        refine pfC_27_mode E fl_Parser_285 d_Parser_lockMode_138 fun u13 _ => ?_
        refine Sm_goto (tgt := 170) E d_Parser_lockMode_141 (by decide) ?_
        refine Sm_aload_n E d_Parser_lockMode_170 rfl 0 rfl ?_
        refine gfC_28_statement E fl_Parser_23 d_Parser_lockMode_171 ?_
        refine gfC_27_mode E fl_Parser_285 d_Parser_lockMode_174 ?_
        refine Sm_if_le (tgt := 184) E d_Parser_lockMode_177 (by decide) (fun _ => ?_) (fun _ => ?_)
        · refine Sm_iconst (v := 0) E d_Parser_lockMode_184 (by decide) ?_
          exact Sm_retZ hR (by decide) d_Parser_lockMode_185
        · refine Sm_iconst (v := 1) E d_Parser_lockMode_180 (by decide) ?_
          refine Sm_goto (tgt := 185) E d_Parser_lockMode_181 (by decide) ?_
          exact Sm_retZ hR (by decide) d_Parser_lockMode_185
    · refine Sm_aload_n E d_Parser_lockMode_72 rfl 0 rfl ?_
      refine gfC_28_statement E fl_Parser_23 d_Parser_lockMode_73 ?_
      refine Sm_aload_n E d_Parser_lockMode_76 rfl 0 rfl ?_
      refine gfC_28_tokens E fl_Parser_9 d_Parser_lockMode_77 ?_
      refine Sm_ldcS_w E sr_Parser_283 d_Parser_lockMode_80 ?_
      refine Sm_cVI (As := [.ref (G.2.2.1 42)]) (b := (G.1 10)) (st := [.ref (G.1 27)]) (n := 1) E exOk wC_as (fun _ h => cC_Tokens_takes 42 u4 h) gk_Parser_29 dk_Tokens_takes rfl ⟨rfl, rfl⟩ ⟨Nat.le_of_ble_eq_true rfl, Nat.le_of_ble_eq_true rfl⟩ (rvW (q0 := 10) (ci := 9) E rfl rfl rfl) rfl (Nat.le_of_ble_eq_true rfl) d_Parser_lockMode_83 fun r14 u15 _ => ?_
      refine Sm_if_eq (tgt := 93) E d_Parser_lockMode_86 (by decide) (fun _ => ?_) (fun _ => ?_)
      · refine Sm_aload_n E d_Parser_lockMode_93 rfl 0 rfl ?_
        refine gfC_28_tokens E fl_Parser_9 d_Parser_lockMode_94 ?_
        refine Sm_ldcS_w E sr_Parser_298 d_Parser_lockMode_97 ?_
        refine Sm_cVI (As := [.ref (G.2.2.1 71)]) (b := (G.1 10)) (st := [.ref (G.1 27)]) (n := 1) E exOk wC_as (fun _ h => cC_Tokens_takes 71 u15 h) gk_Parser_29 dk_Tokens_takes rfl ⟨rfl, rfl⟩ ⟨Nat.le_of_ble_eq_true rfl, Nat.le_of_ble_eq_true rfl⟩ (rvW (q0 := 10) (ci := 9) E rfl rfl rfl) rfl (Nat.le_of_ble_eq_true rfl) d_Parser_lockMode_100 fun r16 u17 _ => ?_
        refine Sm_if_eq (tgt := 110) E d_Parser_lockMode_103 (by decide) (fun _ => ?_) (fun _ => ?_)
        · refine Sm_iconst (v := 0) E d_Parser_lockMode_110 (by decide) ?_
          exact Sm_sub [0] rfl (tC_Parser_lockMode_J111 E hR _ _)
        · refine Sm_iconst (v := 3) E d_Parser_lockMode_106 (by decide) ?_
          refine Sm_goto (tgt := 111) E d_Parser_lockMode_107 (by decide) ?_
          exact Sm_sub [0] rfl (tC_Parser_lockMode_J111 E hR _ _)
      · refine Sm_iconst (v := 2) E d_Parser_lockMode_89 (by decide) ?_
        refine Sm_goto (tgt := 111) E d_Parser_lockMode_90 (by decide) ?_
        exact Sm_sub [0] rfl (tC_Parser_lockMode_J111 E hR _ _)
  · refine Sm_aload_n E d_Parser_lockMode_13 rfl 0 rfl ?_
    refine gfC_28_statement E fl_Parser_23 d_Parser_lockMode_14 ?_
    refine Sm_aload_n E d_Parser_lockMode_17 rfl 0 rfl ?_
    refine gfC_28_tokens E fl_Parser_9 d_Parser_lockMode_18 ?_
    refine Sm_ldcS_w E sr_Parser_283 d_Parser_lockMode_21 ?_
    refine Sm_cVI (As := [.ref (G.2.2.1 42)]) (b := (G.1 10)) (st := [.ref (G.1 27)]) (n := 1) E exOk wC_as (fun _ h => cC_Tokens_takes 42 u2 h) gk_Parser_29 dk_Tokens_takes rfl ⟨rfl, rfl⟩ ⟨Nat.le_of_ble_eq_true rfl, Nat.le_of_ble_eq_true rfl⟩ (rvW (q0 := 10) (ci := 9) E rfl rfl rfl) rfl (Nat.le_of_ble_eq_true rfl) d_Parser_lockMode_24 fun r19 u20 _ => ?_
    refine Sm_if_eq (tgt := 34) E d_Parser_lockMode_27 (by decide) (fun _ => ?_) (fun _ => ?_)
    · refine Sm_aload_n E d_Parser_lockMode_34 rfl 0 rfl ?_
      refine gfC_28_tokens E fl_Parser_9 d_Parser_lockMode_35 ?_
      refine Sm_ldcS_w E sr_Parser_298 d_Parser_lockMode_38 ?_
      refine Sm_cVI (As := [.ref (G.2.2.1 71)]) (b := (G.1 10)) (st := [.ref (G.1 27)]) (n := 1) E exOk wC_as (fun _ h => cC_Tokens_takes 71 u20 h) gk_Parser_29 dk_Tokens_takes rfl ⟨rfl, rfl⟩ ⟨Nat.le_of_ble_eq_true rfl, Nat.le_of_ble_eq_true rfl⟩ (rvW (q0 := 10) (ci := 9) E rfl rfl rfl) rfl (Nat.le_of_ble_eq_true rfl) d_Parser_lockMode_41 fun r21 u22 _ => ?_
      refine Sm_if_eq (tgt := 52) E d_Parser_lockMode_44 (by decide) (fun _ => ?_) (fun _ => ?_)
      · refine Sm_iconst (v := 0) E d_Parser_lockMode_52 (by decide) ?_
        exact Sm_sub [0] rfl (tC_Parser_lockMode_J53 E hR _ _)
      · refine Sm_bipush (v := 8) E d_Parser_lockMode_47 (by decide) ?_
        refine Sm_goto (tgt := 53) E d_Parser_lockMode_49 (by decide) ?_
        exact Sm_sub [0] rfl (tC_Parser_lockMode_J53 E hR _ _)
    · refine Sm_iconst (v := 1) E d_Parser_lockMode_30 (by decide) ?_
      refine Sm_goto (tgt := 53) E d_Parser_lockMode_31 (by decide) ?_
      exact Sm_sub [0] rfl (tC_Parser_lockMode_J53 E hR _ _)
set_option maxRecDepth 100000 in
set_option maxHeartbeats 4000000 in
theorem cC_Parser_otherDeed {l : Launch} {D : va_G} {G : Gx} (u : St) {res : Int32 × St} (hm : mC_Parser_otherDeed u = some res) : KC l D G y_Parser_otherDeed (.code y_Parser_otherDeed prog_6_method_5_code 1 (some .boolean)) { frames := 7, cells := 0, slots := 0, locals := 149 } [.ref (G.1 28)] u (qI D vwCl (wC G) (tyW G) (adsC G) res) := by
  refine Ct_Z (by decide) wC_as (Nat.le_of_ble_eq_true rfl) hm (fun X _ _ E hR => ?_)
  refine Sm_lvs (lv' := [(0, .ref (G.1 28))]) rfl ?_
  rw [mC_Parser_otherDeed]
  refine Sm_aload_n E d_Parser_otherDeed_0 rfl 0 rfl ?_
  refine gfC_28_tokens E fl_Parser_9 d_Parser_otherDeed_1 ?_
  refine Sm_ldcS E sr_Parser_98 d_Parser_otherDeed_4 ?_
  refine Sm_cVI (As := [.ref (G.2.2.1 58)]) (b := (G.1 10)) (st := []) (n := 1) E exOk wC_as (fun _ h => cC_Tokens_takes 58 u h) gk_Parser_29 dk_Tokens_takes rfl ⟨rfl, rfl⟩ ⟨Nat.le_of_ble_eq_true rfl, Nat.le_of_ble_eq_true rfl⟩ (rvW (q0 := 10) (ci := 9) E rfl rfl rfl) rfl (Nat.le_of_ble_eq_true rfl) d_Parser_otherDeed_6 fun r1 u2 _ => ?_
  refine Sm_if_eq (tgt := 45) E d_Parser_otherDeed_9 (by decide) (fun _ => ?_) (fun _ => ?_)
  · refine Sm_aload_n E d_Parser_otherDeed_45 rfl 0 rfl ?_
    refine gfC_28_tokens E fl_Parser_9 d_Parser_otherDeed_46 ?_
    refine Sm_ldcS E sr_Parser_105 d_Parser_otherDeed_49 ?_
    refine Sm_cVI (As := [.ref (G.2.2.1 59)]) (b := (G.1 10)) (st := []) (n := 1) E exOk wC_as (fun _ h => cC_Tokens_takes 59 u2 h) gk_Parser_29 dk_Tokens_takes rfl ⟨rfl, rfl⟩ ⟨Nat.le_of_ble_eq_true rfl, Nat.le_of_ble_eq_true rfl⟩ (rvW (q0 := 10) (ci := 9) E rfl rfl rfl) rfl (Nat.le_of_ble_eq_true rfl) d_Parser_otherDeed_51 fun r3 u4 _ => ?_
    refine Sm_if_eq (tgt := 62) E d_Parser_otherDeed_54 (by decide) (fun _ => ?_) (fun _ => ?_)
    · refine Sm_aload_n E d_Parser_otherDeed_62 rfl 0 rfl ?_
      refine gfC_28_tokens E fl_Parser_9 d_Parser_otherDeed_63 ?_
      refine Sm_ldcS E sr_Parser_110 d_Parser_otherDeed_66 ?_
      refine Sm_cVI (As := [.ref (G.2.2.1 64)]) (b := (G.1 10)) (st := []) (n := 1) E exOk wC_as (fun _ h => cC_Tokens_takes 64 u4 h) gk_Parser_29 dk_Tokens_takes rfl ⟨rfl, rfl⟩ ⟨Nat.le_of_ble_eq_true rfl, Nat.le_of_ble_eq_true rfl⟩ (rvW (q0 := 10) (ci := 9) E rfl rfl rfl) rfl (Nat.le_of_ble_eq_true rfl) d_Parser_otherDeed_68 fun r5 u6 _ => ?_
      refine Sm_if_eq (tgt := 81) E d_Parser_otherDeed_71 (by decide) (fun _ => ?_) (fun _ => ?_)
      · refine Sm_aload_n E d_Parser_otherDeed_81 rfl 0 rfl ?_
        refine gfC_28_tokens E fl_Parser_9 d_Parser_otherDeed_82 ?_
        refine Sm_ldcS E sr_Parser_112 d_Parser_otherDeed_85 ?_
        refine Sm_cVI (As := [.ref (G.2.2.1 65)]) (b := (G.1 10)) (st := []) (n := 1) E exOk wC_as (fun _ h => cC_Tokens_takes 65 u6 h) gk_Parser_29 dk_Tokens_takes rfl ⟨rfl, rfl⟩ ⟨Nat.le_of_ble_eq_true rfl, Nat.le_of_ble_eq_true rfl⟩ (rvW (q0 := 10) (ci := 9) E rfl rfl rfl) rfl (Nat.le_of_ble_eq_true rfl) d_Parser_otherDeed_87 fun r7 u8 _ => ?_
        refine Sm_if_eq (tgt := 136) E d_Parser_otherDeed_90 (by decide) (fun _ => ?_) (fun _ => ?_)
        · refine Sm_aload_n E d_Parser_otherDeed_136 rfl 0 rfl ?_
          refine gfC_28_tokens E fl_Parser_9 d_Parser_otherDeed_137 ?_
          refine Sm_ldcS E sr_Parser_116 d_Parser_otherDeed_140 ?_
          refine Sm_cVI (As := [.ref (G.2.2.1 67)]) (b := (G.1 10)) (st := []) (n := 1) E exOk wC_as (fun _ h => cC_Tokens_takes 67 u8 h) gk_Parser_29 dk_Tokens_takes rfl ⟨rfl, rfl⟩ ⟨Nat.le_of_ble_eq_true rfl, Nat.le_of_ble_eq_true rfl⟩ (rvW (q0 := 10) (ci := 9) E rfl rfl rfl) rfl (Nat.le_of_ble_eq_true rfl) d_Parser_otherDeed_142 fun r9 u10 _ => ?_
          refine Sm_if_eq (tgt := 170) E d_Parser_otherDeed_145 (by decide) (fun _ => ?_) (fun _ => ?_)
          · refine Sm_aload_n E d_Parser_otherDeed_170 rfl 0 rfl ?_
            refine gfC_28_tokens E fl_Parser_9 d_Parser_otherDeed_171 ?_
            refine Sm_ldcS E sr_Parser_118 d_Parser_otherDeed_174 ?_
            refine Sm_cVI (As := [.ref (G.2.2.1 68)]) (b := (G.1 10)) (st := []) (n := 1) E exOk wC_as (fun _ h => cC_Tokens_takes 68 u10 h) gk_Parser_29 dk_Tokens_takes rfl ⟨rfl, rfl⟩ ⟨Nat.le_of_ble_eq_true rfl, Nat.le_of_ble_eq_true rfl⟩ (rvW (q0 := 10) (ci := 9) E rfl rfl rfl) rfl (Nat.le_of_ble_eq_true rfl) d_Parser_otherDeed_176 fun r11 u12 _ => ?_
            refine Sm_if_eq (tgt := 204) E d_Parser_otherDeed_179 (by decide) (fun _ => ?_) (fun _ => ?_)
            · refine Sm_aload_n E d_Parser_otherDeed_204 rfl 0 rfl ?_
              refine gfC_28_tokens E fl_Parser_9 d_Parser_otherDeed_205 ?_
              refine Sm_ldcS E sr_Parser_120 d_Parser_otherDeed_208 ?_
              refine Sm_cVI (As := [.ref (G.2.2.1 69)]) (b := (G.1 10)) (st := []) (n := 1) E exOk wC_as (fun _ h => cC_Tokens_takes 69 u12 h) gk_Parser_29 dk_Tokens_takes rfl ⟨rfl, rfl⟩ ⟨Nat.le_of_ble_eq_true rfl, Nat.le_of_ble_eq_true rfl⟩ (rvW (q0 := 10) (ci := 9) E rfl rfl rfl) rfl (Nat.le_of_ble_eq_true rfl) d_Parser_otherDeed_210 fun r13 u14 _ => ?_
              refine Sm_if_eq (tgt := 245) E d_Parser_otherDeed_213 (by decide) (fun _ => ?_) (fun _ => ?_)
              · refine Sm_aload_n E d_Parser_otherDeed_245 rfl 0 rfl ?_
                refine gfC_28_tokens E fl_Parser_9 d_Parser_otherDeed_246 ?_
                refine Sm_ldcS E sr_Parser_125 d_Parser_otherDeed_249 ?_
                refine Sm_cVI (As := [.ref (G.2.2.1 73)]) (b := (G.1 10)) (st := []) (n := 1) E exOk wC_as (fun _ h => cC_Tokens_takes 73 u14 h) gk_Parser_29 dk_Tokens_takes rfl ⟨rfl, rfl⟩ ⟨Nat.le_of_ble_eq_true rfl, Nat.le_of_ble_eq_true rfl⟩ (rvW (q0 := 10) (ci := 9) E rfl rfl rfl) rfl (Nat.le_of_ble_eq_true rfl) d_Parser_otherDeed_251 fun r15 u16 _ => ?_
                refine Sm_if_eq (tgt := 279) E d_Parser_otherDeed_254 (by decide) (fun _ => ?_) (fun _ => ?_)
                · refine Sm_aload_n E d_Parser_otherDeed_279 rfl 0 rfl ?_
                  refine gfC_28_tokens E fl_Parser_9 d_Parser_otherDeed_280 ?_
                  refine Sm_ldcS E sr_Parser_127 d_Parser_otherDeed_283 ?_
                  refine Sm_cVI (As := [.ref (G.2.2.1 74)]) (b := (G.1 10)) (st := []) (n := 1) E exOk wC_as (fun _ h => cC_Tokens_takes 74 u16 h) gk_Parser_29 dk_Tokens_takes rfl ⟨rfl, rfl⟩ ⟨Nat.le_of_ble_eq_true rfl, Nat.le_of_ble_eq_true rfl⟩ (rvW (q0 := 10) (ci := 9) E rfl rfl rfl) rfl (Nat.le_of_ble_eq_true rfl) d_Parser_otherDeed_285 fun r17 u18 _ => ?_
                  refine Sm_if_eq (tgt := 304) E d_Parser_otherDeed_288 (by decide) (fun _ => ?_) (fun _ => ?_)
                  · refine Sm_iconst (v := 0) E d_Parser_otherDeed_304 (by decide) ?_
                    exact Sm_retZ hR (by decide) d_Parser_otherDeed_305
                  · refine Sm_aload_n E d_Parser_otherDeed_291 rfl 0 rfl ?_
                    refine Sm_bipush (v := 19) E d_Parser_otherDeed_292 (by decide) ?_
                    refine Sm_cVI (As := [.int 19]) (b := (G.1 28)) (st := []) (n := 1) E exOk wC_as (fun _ h => cC_Parser_is 19 u18 h) gk_Parser_102 dk_Parser_is rfl ⟨rfl, rfl⟩ ⟨Nat.le_of_ble_eq_true rfl, Nat.le_of_ble_eq_true rfl⟩ (rvW (q0 := 28) (ci := 6) E rfl rfl rfl) rfl (Nat.le_of_ble_eq_true rfl) d_Parser_otherDeed_294 fun r19 u20 _ => ?_
                    refine Sm_if_eq (tgt := 304) E d_Parser_otherDeed_297 (by decide) (fun _ => ?_) (fun _ => ?_)
                    · refine Sm_iconst (v := 0) E d_Parser_otherDeed_304 (by decide) ?_
                      exact Sm_retZ hR (by decide) d_Parser_otherDeed_305
                    · refine Sm_iconst (v := 1) E d_Parser_otherDeed_300 (by decide) ?_
                      refine Sm_goto (tgt := 305) E d_Parser_otherDeed_301 (by decide) ?_
                      exact Sm_retZ hR (by decide) d_Parser_otherDeed_305
                · refine Sm_aload_n E d_Parser_otherDeed_257 rfl 0 rfl ?_
                  refine Sm_cVI (As := []) (b := (G.1 28)) (st := []) (n := 0) E exOk wC_as (fun _ h => cC_Parser_target u16 h) gk_Parser_55 dk_Parser_target rfl ⟨rfl, rfl⟩ ⟨Nat.le_of_ble_eq_true rfl, Nat.le_of_ble_eq_true rfl⟩ (rvW (q0 := 28) (ci := 6) E rfl rfl rfl) rfl (Nat.le_of_ble_eq_true rfl) d_Parser_otherDeed_258 fun r21 u22 _ => ?_
                  refine Sm_if_eq (tgt := 277) E d_Parser_otherDeed_261 (by decide) (fun _ => ?_) (fun _ => ?_)
                  · refine Sm_iconst (v := 0) E d_Parser_otherDeed_277 (by decide) ?_
                    exact Sm_retZ hR (by decide) d_Parser_otherDeed_278
                  · refine Sm_aload_n E d_Parser_otherDeed_264 rfl 0 rfl ?_
                    refine Sm_bipush (v := 18) E d_Parser_otherDeed_265 (by decide) ?_
                    refine Sm_cVI (As := [.int 18]) (b := (G.1 28)) (st := []) (n := 1) E exOk wC_as (fun _ h => cC_Parser_is 18 u22 h) gk_Parser_102 dk_Parser_is rfl ⟨rfl, rfl⟩ ⟨Nat.le_of_ble_eq_true rfl, Nat.le_of_ble_eq_true rfl⟩ (rvW (q0 := 28) (ci := 6) E rfl rfl rfl) rfl (Nat.le_of_ble_eq_true rfl) d_Parser_otherDeed_267 fun r23 u24 _ => ?_
                    refine Sm_if_eq (tgt := 277) E d_Parser_otherDeed_270 (by decide) (fun _ => ?_) (fun _ => ?_)
                    · refine Sm_iconst (v := 0) E d_Parser_otherDeed_277 (by decide) ?_
                      exact Sm_retZ hR (by decide) d_Parser_otherDeed_278
                    · refine Sm_iconst (v := 1) E d_Parser_otherDeed_273 (by decide) ?_
                      refine Sm_goto (tgt := 278) E d_Parser_otherDeed_274 (by decide) ?_
                      exact Sm_retZ hR (by decide) d_Parser_otherDeed_278
              · refine Sm_aload_n E d_Parser_otherDeed_216 rfl 0 rfl ?_
                refine Sm_cVI (As := []) (b := (G.1 28)) (st := []) (n := 0) E exOk wC_as (fun _ h => cC_Parser_target u14 h) gk_Parser_55 dk_Parser_target rfl ⟨rfl, rfl⟩ ⟨Nat.le_of_ble_eq_true rfl, Nat.le_of_ble_eq_true rfl⟩ (rvW (q0 := 28) (ci := 6) E rfl rfl rfl) rfl (Nat.le_of_ble_eq_true rfl) d_Parser_otherDeed_217 fun r25 u26 _ => ?_
                refine Sm_if_eq (tgt := 243) E d_Parser_otherDeed_220 (by decide) (fun _ => ?_) (fun _ => ?_)
                · refine Sm_iconst (v := 0) E d_Parser_otherDeed_243 (by decide) ?_
                  exact Sm_retZ hR (by decide) d_Parser_otherDeed_244
                · refine Sm_aload_n E d_Parser_otherDeed_223 rfl 0 rfl ?_
                  refine Sm_cVI (As := []) (b := (G.1 28)) (st := []) (n := 0) E exOk wC_as (fun _ h => cC_Parser_lockMode u26 h) gk_Parser_122 dk_Parser_lockMode rfl ⟨rfl, rfl⟩ ⟨Nat.le_of_ble_eq_true rfl, Nat.le_of_ble_eq_true rfl⟩ (rvW (q0 := 28) (ci := 6) E rfl rfl rfl) rfl (Nat.le_of_ble_eq_true rfl) d_Parser_otherDeed_224 fun r27 u28 _ => ?_
                  refine Sm_if_eq (tgt := 243) E d_Parser_otherDeed_227 (by decide) (fun _ => ?_) (fun _ => ?_)
                  · refine Sm_iconst (v := 0) E d_Parser_otherDeed_243 (by decide) ?_
                    exact Sm_retZ hR (by decide) d_Parser_otherDeed_244
                  · refine Sm_aload_n E d_Parser_otherDeed_230 rfl 0 rfl ?_
                    refine Sm_bipush (v := 15) E d_Parser_otherDeed_231 (by decide) ?_
                    refine Sm_cVI (As := [.int 15]) (b := (G.1 28)) (st := []) (n := 1) E exOk wC_as (fun _ h => cC_Parser_is 15 u28 h) gk_Parser_102 dk_Parser_is rfl ⟨rfl, rfl⟩ ⟨Nat.le_of_ble_eq_true rfl, Nat.le_of_ble_eq_true rfl⟩ (rvW (q0 := 28) (ci := 6) E rfl rfl rfl) rfl (Nat.le_of_ble_eq_true rfl) d_Parser_otherDeed_233 fun r29 u30 _ => ?_
                    refine Sm_if_eq (tgt := 243) E d_Parser_otherDeed_236 (by decide) (fun _ => ?_) (fun _ => ?_)
                    · refine Sm_iconst (v := 0) E d_Parser_otherDeed_243 (by decide) ?_
                      exact Sm_retZ hR (by decide) d_Parser_otherDeed_244
                    · refine Sm_iconst (v := 1) E d_Parser_otherDeed_239 (by decide) ?_
                      refine Sm_goto (tgt := 244) E d_Parser_otherDeed_240 (by decide) ?_
                      exact Sm_retZ hR (by decide) d_Parser_otherDeed_244
            · refine Sm_aload_n E d_Parser_otherDeed_182 rfl 0 rfl ?_
              refine Sm_cVI (As := []) (b := (G.1 28)) (st := []) (n := 0) E exOk wC_as (fun _ h => cC_Parser_title u12 h) gk_Parser_39 dk_Parser_title rfl ⟨rfl, rfl⟩ ⟨Nat.le_of_ble_eq_true rfl, Nat.le_of_ble_eq_true rfl⟩ (rvW (q0 := 28) (ci := 6) E rfl rfl rfl) rfl (Nat.le_of_ble_eq_true rfl) d_Parser_otherDeed_183 fun r31 u32 _ => ?_
              refine Sm_if_eq (tgt := 202) E d_Parser_otherDeed_186 (by decide) (fun _ => ?_) (fun _ => ?_)
              · refine Sm_iconst (v := 0) E d_Parser_otherDeed_202 (by decide) ?_
                exact Sm_retZ hR (by decide) d_Parser_otherDeed_203
              · refine Sm_aload_n E d_Parser_otherDeed_189 rfl 0 rfl ?_
                refine Sm_bipush (v := 14) E d_Parser_otherDeed_190 (by decide) ?_
                refine Sm_cVI (As := [.int 14]) (b := (G.1 28)) (st := []) (n := 1) E exOk wC_as (fun _ h => cC_Parser_is 14 u32 h) gk_Parser_102 dk_Parser_is rfl ⟨rfl, rfl⟩ ⟨Nat.le_of_ble_eq_true rfl, Nat.le_of_ble_eq_true rfl⟩ (rvW (q0 := 28) (ci := 6) E rfl rfl rfl) rfl (Nat.le_of_ble_eq_true rfl) d_Parser_otherDeed_192 fun r33 u34 _ => ?_
                refine Sm_if_eq (tgt := 202) E d_Parser_otherDeed_195 (by decide) (fun _ => ?_) (fun _ => ?_)
                · refine Sm_iconst (v := 0) E d_Parser_otherDeed_202 (by decide) ?_
                  exact Sm_retZ hR (by decide) d_Parser_otherDeed_203
                · refine Sm_iconst (v := 1) E d_Parser_otherDeed_198 (by decide) ?_
                  refine Sm_goto (tgt := 203) E d_Parser_otherDeed_199 (by decide) ?_
                  exact Sm_retZ hR (by decide) d_Parser_otherDeed_203
          · refine Sm_aload_n E d_Parser_otherDeed_148 rfl 0 rfl ?_
            refine Sm_cVI (As := []) (b := (G.1 28)) (st := []) (n := 0) E exOk wC_as (fun _ h => cC_Parser_title u10 h) gk_Parser_39 dk_Parser_title rfl ⟨rfl, rfl⟩ ⟨Nat.le_of_ble_eq_true rfl, Nat.le_of_ble_eq_true rfl⟩ (rvW (q0 := 28) (ci := 6) E rfl rfl rfl) rfl (Nat.le_of_ble_eq_true rfl) d_Parser_otherDeed_149 fun r35 u36 _ => ?_
            refine Sm_if_eq (tgt := 168) E d_Parser_otherDeed_152 (by decide) (fun _ => ?_) (fun _ => ?_)
            · refine Sm_iconst (v := 0) E d_Parser_otherDeed_168 (by decide) ?_
              exact Sm_retZ hR (by decide) d_Parser_otherDeed_169
            · refine Sm_aload_n E d_Parser_otherDeed_155 rfl 0 rfl ?_
              refine Sm_bipush (v := 12) E d_Parser_otherDeed_156 (by decide) ?_
              refine Sm_cVI (As := [.int 12]) (b := (G.1 28)) (st := []) (n := 1) E exOk wC_as (fun _ h => cC_Parser_is 12 u36 h) gk_Parser_102 dk_Parser_is rfl ⟨rfl, rfl⟩ ⟨Nat.le_of_ble_eq_true rfl, Nat.le_of_ble_eq_true rfl⟩ (rvW (q0 := 28) (ci := 6) E rfl rfl rfl) rfl (Nat.le_of_ble_eq_true rfl) d_Parser_otherDeed_158 fun r37 u38 _ => ?_
              refine Sm_if_eq (tgt := 168) E d_Parser_otherDeed_161 (by decide) (fun _ => ?_) (fun _ => ?_)
              · refine Sm_iconst (v := 0) E d_Parser_otherDeed_168 (by decide) ?_
                exact Sm_retZ hR (by decide) d_Parser_otherDeed_169
              · refine Sm_iconst (v := 1) E d_Parser_otherDeed_164 (by decide) ?_
                refine Sm_goto (tgt := 169) E d_Parser_otherDeed_165 (by decide) ?_
                exact Sm_retZ hR (by decide) d_Parser_otherDeed_169
        · refine Sm_aload_n E d_Parser_otherDeed_93 rfl 0 rfl ?_
          refine gfC_28_tokens E fl_Parser_9 d_Parser_otherDeed_94 ?_
          refine Sm_ldcS E sr_Parser_114 d_Parser_otherDeed_97 ?_
          refine Sm_cVI (As := [.ref (G.2.2.1 66)]) (b := (G.1 10)) (st := []) (n := 1) E exOk wC_as (fun _ h => cC_Tokens_takes 66 u8 h) gk_Parser_29 dk_Tokens_takes rfl ⟨rfl, rfl⟩ ⟨Nat.le_of_ble_eq_true rfl, Nat.le_of_ble_eq_true rfl⟩ (rvW (q0 := 10) (ci := 9) E rfl rfl rfl) rfl (Nat.le_of_ble_eq_true rfl) d_Parser_otherDeed_99 fun r39 u40 _ => ?_
          refine Sm_if_eq (tgt := 129) E d_Parser_otherDeed_102 (by decide) (fun _ => ?_) (fun _ => ?_)
          · refine Sm_aload_n E d_Parser_otherDeed_129 rfl 0 rfl ?_
            refine Sm_bipush (v := 11) E d_Parser_otherDeed_130 (by decide) ?_
            refine Sm_cVI (As := [.int 11]) (b := (G.1 28)) (st := []) (n := 1) E exOk wC_as (fun _ h => cC_Parser_is 11 u40 h) gk_Parser_102 dk_Parser_is rfl ⟨rfl, rfl⟩ ⟨Nat.le_of_ble_eq_true rfl, Nat.le_of_ble_eq_true rfl⟩ (rvW (q0 := 28) (ci := 6) E rfl rfl rfl) rfl (Nat.le_of_ble_eq_true rfl) d_Parser_otherDeed_132 fun r41 u42 _ => ?_
            exact Sm_gd fun hz => Sm_retZ hR (zb_n hz) d_Parser_otherDeed_135
          · refine Sm_aload_n E d_Parser_otherDeed_105 rfl 0 rfl ?_
            refine Sm_cVI (As := []) (b := (G.1 28)) (st := []) (n := 0) E exOk wC_as (fun _ h => cC_Parser_title u40 h) gk_Parser_39 dk_Parser_title rfl ⟨rfl, rfl⟩ ⟨Nat.le_of_ble_eq_true rfl, Nat.le_of_ble_eq_true rfl⟩ (rvW (q0 := 28) (ci := 6) E rfl rfl rfl) rfl (Nat.le_of_ble_eq_true rfl) d_Parser_otherDeed_106 fun r43 u44 _ => ?_
            refine Sm_if_eq (tgt := 125) E d_Parser_otherDeed_109 (by decide) (fun _ => ?_) (fun _ => ?_)
            · refine Sm_iconst (v := 0) E d_Parser_otherDeed_125 (by decide) ?_
              refine Sm_goto (tgt := 135) E d_Parser_otherDeed_126 (by decide) ?_
              exact Sm_retZ hR (by decide) d_Parser_otherDeed_135
            · refine Sm_aload_n E d_Parser_otherDeed_112 rfl 0 rfl ?_
              refine Sm_bipush (v := 13) E d_Parser_otherDeed_113 (by decide) ?_
              refine Sm_cVI (As := [.int 13]) (b := (G.1 28)) (st := []) (n := 1) E exOk wC_as (fun _ h => cC_Parser_is 13 u44 h) gk_Parser_102 dk_Parser_is rfl ⟨rfl, rfl⟩ ⟨Nat.le_of_ble_eq_true rfl, Nat.le_of_ble_eq_true rfl⟩ (rvW (q0 := 28) (ci := 6) E rfl rfl rfl) rfl (Nat.le_of_ble_eq_true rfl) d_Parser_otherDeed_115 fun r45 u46 _ => ?_
              refine Sm_if_eq (tgt := 125) E d_Parser_otherDeed_118 (by decide) (fun _ => ?_) (fun _ => ?_)
              · refine Sm_iconst (v := 0) E d_Parser_otherDeed_125 (by decide) ?_
                refine Sm_goto (tgt := 135) E d_Parser_otherDeed_126 (by decide) ?_
                exact Sm_retZ hR (by decide) d_Parser_otherDeed_135
              · refine Sm_iconst (v := 1) E d_Parser_otherDeed_121 (by decide) ?_
                refine Sm_goto (tgt := 135) E d_Parser_otherDeed_122 (by decide) ?_
                exact Sm_retZ hR (by decide) d_Parser_otherDeed_135
      · refine Sm_aload_n E d_Parser_otherDeed_74 rfl 0 rfl ?_
        refine Sm_bipush (v := 10) E d_Parser_otherDeed_75 (by decide) ?_
        refine Sm_cVI (As := [.int 10]) (b := (G.1 28)) (st := []) (n := 1) E exOk wC_as (fun _ h => cC_Parser_is 10 u6 h) gk_Parser_102 dk_Parser_is rfl ⟨rfl, rfl⟩ ⟨Nat.le_of_ble_eq_true rfl, Nat.le_of_ble_eq_true rfl⟩ (rvW (q0 := 28) (ci := 6) E rfl rfl rfl) rfl (Nat.le_of_ble_eq_true rfl) d_Parser_otherDeed_77 fun r47 u48 _ => ?_
        exact Sm_gd fun hz => Sm_retZ hR (zb_n hz) d_Parser_otherDeed_80
    · refine Sm_aload_n E d_Parser_otherDeed_57 rfl 0 rfl ?_
      refine Sm_cVI (As := []) (b := (G.1 28)) (st := []) (n := 0) E exOk wC_as (fun _ h => cC_Parser_begin u4 h) gk_Parser_107 dk_Parser_begin rfl ⟨rfl, rfl⟩ ⟨Nat.le_of_ble_eq_true rfl, Nat.le_of_ble_eq_true rfl⟩ (rvW (q0 := 28) (ci := 6) E rfl rfl rfl) rfl (Nat.le_of_ble_eq_true rfl) d_Parser_otherDeed_58 fun r49 u50 _ => ?_
      exact Sm_gd fun hz => Sm_retZ hR (zb_n hz) d_Parser_otherDeed_61
  · refine Sm_aload_n E d_Parser_otherDeed_12 rfl 0 rfl ?_
    refine gfC_28_tokens E fl_Parser_9 d_Parser_otherDeed_13 ?_
    refine Sm_ldcS E sr_Parser_100 d_Parser_otherDeed_16 ?_
    refine Sm_cVI (As := [.ref (G.2.2.1 51)]) (b := (G.1 10)) (st := []) (n := 1) E exOk wC_as (fun _ h => cC_Tokens_takes 51 u2 h) gk_Parser_29 dk_Tokens_takes rfl ⟨rfl, rfl⟩ ⟨Nat.le_of_ble_eq_true rfl, Nat.le_of_ble_eq_true rfl⟩ (rvW (q0 := 10) (ci := 9) E rfl rfl rfl) rfl (Nat.le_of_ble_eq_true rfl) d_Parser_otherDeed_18 fun r51 u52 _ => ?_
    refine Sm_if_eq (tgt := 43) E d_Parser_otherDeed_21 (by decide) (fun _ => ?_) (fun _ => ?_)
    · refine Sm_iconst (v := 0) E d_Parser_otherDeed_43 (by decide) ?_
      exact Sm_retZ hR (by decide) d_Parser_otherDeed_44
    · refine Sm_aload_n E d_Parser_otherDeed_24 rfl 0 rfl ?_
      refine Sm_cVI (As := []) (b := (G.1 28)) (st := []) (n := 0) E exOk wC_as (fun _ h => cC_Parser_target u52 h) gk_Parser_55 dk_Parser_target rfl ⟨rfl, rfl⟩ ⟨Nat.le_of_ble_eq_true rfl, Nat.le_of_ble_eq_true rfl⟩ (rvW (q0 := 28) (ci := 6) E rfl rfl rfl) rfl (Nat.le_of_ble_eq_true rfl) d_Parser_otherDeed_25 fun r53 u54 _ => ?_
      refine Sm_if_eq (tgt := 43) E d_Parser_otherDeed_28 (by decide) (fun _ => ?_) (fun _ => ?_)
      · refine Sm_iconst (v := 0) E d_Parser_otherDeed_43 (by decide) ?_
        exact Sm_retZ hR (by decide) d_Parser_otherDeed_44
      · refine Sm_aload_n E d_Parser_otherDeed_31 rfl 0 rfl ?_
        refine Sm_iconst (v := 3) E d_Parser_otherDeed_32 (by decide) ?_
        refine Sm_cVI (As := [.int 3]) (b := (G.1 28)) (st := []) (n := 1) E exOk wC_as (fun _ h => cC_Parser_is 3 u54 h) gk_Parser_102 dk_Parser_is rfl ⟨rfl, rfl⟩ ⟨Nat.le_of_ble_eq_true rfl, Nat.le_of_ble_eq_true rfl⟩ (rvW (q0 := 28) (ci := 6) E rfl rfl rfl) rfl (Nat.le_of_ble_eq_true rfl) d_Parser_otherDeed_33 fun r55 u56 _ => ?_
        refine Sm_if_eq (tgt := 43) E d_Parser_otherDeed_36 (by decide) (fun _ => ?_) (fun _ => ?_)
        · refine Sm_iconst (v := 0) E d_Parser_otherDeed_43 (by decide) ?_
          exact Sm_retZ hR (by decide) d_Parser_otherDeed_44
        · refine Sm_iconst (v := 1) E d_Parser_otherDeed_39 (by decide) ?_
          refine Sm_goto (tgt := 44) E d_Parser_otherDeed_40 (by decide) ?_
          exact Sm_retZ hR (by decide) d_Parser_otherDeed_44
set_option maxRecDepth 100000 in
set_option maxHeartbeats 4000000 in
theorem cC_Parser_deed {l : Launch} {D : va_G} {G : Gx} (u : St) {res : Int32 × St} (hm : mC_Parser_deed u = some res) : KC l D G y_Parser_deed (.code y_Parser_deed prog_6_method_3_code 1 (some .boolean)) { frames := 409, cells := 0, slots := 0, locals := 12607 } [.ref (G.1 28)] u (qI D vwCl (wC G) (tyW G) (adsC G) res) := by
  refine Ct_Z (by decide) wC_as (Nat.le_of_ble_eq_true rfl) hm (fun X _ _ E hR => ?_)
  refine Sm_lvs (lv' := [(0, .ref (G.1 28))]) rfl ?_
  rw [mC_Parser_deed]
  refine Sm_aload_n E d_Parser_deed_0 rfl 0 rfl ?_
  refine gfC_28_tokens E fl_Parser_9 d_Parser_deed_1 ?_
  refine Sm_ldcS E sr_Parser_45 d_Parser_deed_4 ?_
  refine Sm_cVI (As := [.ref (G.2.2.1 3)]) (b := (G.1 10)) (st := []) (n := 1) E exOk wC_as (fun _ h => cC_Tokens_takes 3 u h) gk_Parser_29 dk_Tokens_takes rfl ⟨rfl, rfl⟩ ⟨Nat.le_of_ble_eq_true rfl, Nat.le_of_ble_eq_true rfl⟩ (rvW (q0 := 10) (ci := 9) E rfl rfl rfl) rfl (Nat.le_of_ble_eq_true rfl) d_Parser_deed_6 fun r1 u2 _ => ?_
  refine Sm_if_eq (tgt := 19) E d_Parser_deed_9 (by decide) (fun _ => ?_) (fun _ => ?_)
  · refine Sm_aload_n E d_Parser_deed_19 rfl 0 rfl ?_
    refine gfC_28_tokens E fl_Parser_9 d_Parser_deed_20 ?_
    refine Sm_ldcS E sr_Parser_51 d_Parser_deed_23 ?_
    refine Sm_cVI (As := [.ref (G.2.2.1 44)]) (b := (G.1 10)) (st := []) (n := 1) E exOk wC_as (fun _ h => cC_Tokens_takes 44 u2 h) gk_Parser_29 dk_Tokens_takes rfl ⟨rfl, rfl⟩ ⟨Nat.le_of_ble_eq_true rfl, Nat.le_of_ble_eq_true rfl⟩ (rvW (q0 := 10) (ci := 9) E rfl rfl rfl) rfl (Nat.le_of_ble_eq_true rfl) d_Parser_deed_25 fun r3 u4 _ => ?_
    refine Sm_if_eq (tgt := 77) E d_Parser_deed_28 (by decide) (fun _ => ?_) (fun _ => ?_)
    · refine Sm_aload_n E d_Parser_deed_77 rfl 0 rfl ?_
      refine gfC_28_tokens E fl_Parser_9 d_Parser_deed_78 ?_
      refine Sm_ldcS E sr_Parser_61 d_Parser_deed_81 ?_
      refine Sm_cVI (As := [.ref (G.2.2.1 43)]) (b := (G.1 10)) (st := []) (n := 1) E exOk wC_as (fun _ h => cC_Tokens_takes 43 u4 h) gk_Parser_29 dk_Tokens_takes rfl ⟨rfl, rfl⟩ ⟨Nat.le_of_ble_eq_true rfl, Nat.le_of_ble_eq_true rfl⟩ (rvW (q0 := 10) (ci := 9) E rfl rfl rfl) rfl (Nat.le_of_ble_eq_true rfl) d_Parser_deed_83 fun r5 u6 _ => ?_
      refine Sm_if_eq (tgt := 94) E d_Parser_deed_86 (by decide) (fun _ => ?_) (fun _ => ?_)
      · refine Sm_aload_n E d_Parser_deed_94 rfl 0 rfl ?_
        refine gfC_28_tokens E fl_Parser_9 d_Parser_deed_95 ?_
        refine Sm_ldcS E sr_Parser_66 d_Parser_deed_98 ?_
        refine Sm_cVI (As := [.ref (G.2.2.1 48)]) (b := (G.1 10)) (st := []) (n := 1) E exOk wC_as (fun _ h => cC_Tokens_takes 48 u6 h) gk_Parser_29 dk_Tokens_takes rfl ⟨rfl, rfl⟩ ⟨Nat.le_of_ble_eq_true rfl, Nat.le_of_ble_eq_true rfl⟩ (rvW (q0 := 10) (ci := 9) E rfl rfl rfl) rfl (Nat.le_of_ble_eq_true rfl) d_Parser_deed_100 fun r7 u8 _ => ?_
        refine Sm_if_eq (tgt := 111) E d_Parser_deed_103 (by decide) (fun _ => ?_) (fun _ => ?_)
        · refine Sm_aload_n E d_Parser_deed_111 rfl 0 rfl ?_
          refine gfC_28_prepared E fl_Parser_35 d_Parser_deed_112 ?_
          refine Sm_if_eq (tgt := 120) E d_Parser_deed_115 (by decide) (fun _ => ?_) (fun _ => ?_)
          · refine Sm_aload_n E d_Parser_deed_120 rfl 0 rfl ?_
            refine gfC_28_tokens E fl_Parser_9 d_Parser_deed_121 ?_
            refine Sm_ldcS E sr_Parser_71 d_Parser_deed_124 ?_
            refine Sm_cVI (As := [.ref (G.2.2.1 49)]) (b := (G.1 10)) (st := []) (n := 1) E exOk wC_as (fun _ h => cC_Tokens_takes 49 u8 h) gk_Parser_29 dk_Tokens_takes rfl ⟨rfl, rfl⟩ ⟨Nat.le_of_ble_eq_true rfl, Nat.le_of_ble_eq_true rfl⟩ (rvW (q0 := 10) (ci := 9) E rfl rfl rfl) rfl (Nat.le_of_ble_eq_true rfl) d_Parser_deed_126 fun r9 u10 _ => ?_
            refine Sm_if_eq (tgt := 137) E d_Parser_deed_129 (by decide) (fun _ => ?_) (fun _ => ?_)
            · refine Sm_aload_n E d_Parser_deed_137 rfl 0 rfl ?_
              refine gfC_28_tokens E fl_Parser_9 d_Parser_deed_138 ?_
              refine Sm_ldcS E sr_Parser_76 d_Parser_deed_141 ?_
              refine Sm_cVI (As := [.ref (G.2.2.1 50)]) (b := (G.1 10)) (st := []) (n := 1) E exOk wC_as (fun _ h => cC_Tokens_takes 50 u10 h) gk_Parser_29 dk_Tokens_takes rfl ⟨rfl, rfl⟩ ⟨Nat.le_of_ble_eq_true rfl, Nat.le_of_ble_eq_true rfl⟩ (rvW (q0 := 10) (ci := 9) E rfl rfl rfl) rfl (Nat.le_of_ble_eq_true rfl) d_Parser_deed_143 fun r11 u12 _ => ?_
              refine Sm_if_eq (tgt := 156) E d_Parser_deed_146 (by decide) (fun _ => ?_) (fun _ => ?_)
              · refine Sm_aload_n E d_Parser_deed_156 rfl 0 rfl ?_
                refine Sm_cVI (As := []) (b := (G.1 28)) (st := []) (n := 0) E exOk wC_as (fun _ h => cC_Parser_otherDeed u12 h) gk_Parser_81 dk_Parser_otherDeed rfl ⟨rfl, rfl⟩ ⟨Nat.le_of_ble_eq_true rfl, Nat.le_of_ble_eq_true rfl⟩ (rvW (q0 := 28) (ci := 6) E rfl rfl rfl) rfl (Nat.le_of_ble_eq_true rfl) d_Parser_deed_157 fun r13 u14 _ => ?_
                exact Sm_gd fun hz => Sm_retZ hR (zb_n hz) d_Parser_deed_160
              · refine Sm_aload_n E d_Parser_deed_149 rfl 0 rfl ?_
                refine Sm_cVI (As := []) (b := (G.1 28)) (st := []) (n := 0) E exOk wC_as (fun _ h => cC_Parser_create u12 h) gk_Parser_78 dk_Parser_create rfl ⟨rfl, rfl⟩ ⟨Nat.le_of_ble_eq_true rfl, Nat.le_of_ble_eq_true rfl⟩ (rvW (q0 := 28) (ci := 6) E rfl rfl rfl) rfl (Nat.le_of_ble_eq_true rfl) d_Parser_deed_150 fun r15 u16 _ => ?_
                refine Sm_goto (tgt := 160) E d_Parser_deed_153 (by decide) ?_
                exact Sm_gd fun hz => Sm_retZ hR (zb_n hz) d_Parser_deed_160
            · refine Sm_aload_n E d_Parser_deed_132 rfl 0 rfl ?_
              refine Sm_cVI (As := []) (b := (G.1 28)) (st := []) (n := 0) E exOk wC_as (fun _ h => cC_Parser_execute u10 h) gk_Parser_73 dk_Parser_execute rfl ⟨rfl, rfl⟩ ⟨Nat.le_of_ble_eq_true rfl, Nat.le_of_ble_eq_true rfl⟩ (rvW (q0 := 28) (ci := 6) E rfl rfl rfl) rfl (Nat.le_of_ble_eq_true rfl) d_Parser_deed_133 fun r17 u18 _ => ?_
              exact Sm_gd fun hz => Sm_retZ hR (zb_n hz) d_Parser_deed_136
          · refine Sm_iconst (v := 0) E d_Parser_deed_118 (by decide) ?_
            exact Sm_retZ hR (by decide) d_Parser_deed_119
        · refine Sm_aload_n E d_Parser_deed_106 rfl 0 rfl ?_
          refine Sm_cVI (As := []) (b := (G.1 28)) (st := []) (n := 0) E exOk wC_as (fun _ h => cC_Parser_delete u8 h) gk_Parser_68 dk_Parser_delete rfl ⟨rfl, rfl⟩ ⟨Nat.le_of_ble_eq_true rfl, Nat.le_of_ble_eq_true rfl⟩ (rvW (q0 := 28) (ci := 6) E rfl rfl rfl) rfl (Nat.le_of_ble_eq_true rfl) d_Parser_deed_107 fun r19 u20 _ => ?_
          exact Sm_gd fun hz => Sm_retZ hR (zb_n hz) d_Parser_deed_110
      · refine Sm_aload_n E d_Parser_deed_89 rfl 0 rfl ?_
        refine Sm_cVI (As := []) (b := (G.1 28)) (st := []) (n := 0) E exOk wC_as (fun _ h => cC_Parser_update u6 h) gk_Parser_63 dk_Parser_update rfl ⟨rfl, rfl⟩ ⟨Nat.le_of_ble_eq_true rfl, Nat.le_of_ble_eq_true rfl⟩ (rvW (q0 := 28) (ci := 6) E rfl rfl rfl) rfl (Nat.le_of_ble_eq_true rfl) d_Parser_deed_90 fun r21 u22 _ => ?_
        exact Sm_gd fun hz => Sm_retZ hR (zb_n hz) d_Parser_deed_93
    · refine Sm_aload_n E d_Parser_deed_31 rfl 0 rfl ?_
      refine gfC_28_tokens E fl_Parser_9 d_Parser_deed_32 ?_
      refine Sm_ldcS E sr_Parser_53 d_Parser_deed_35 ?_
      refine Sm_cVI (As := [.ref (G.2.2.1 45)]) (b := (G.1 10)) (st := []) (n := 1) E exOk wC_as (fun _ h => cC_Tokens_takes 45 u4 h) gk_Parser_29 dk_Tokens_takes rfl ⟨rfl, rfl⟩ ⟨Nat.le_of_ble_eq_true rfl, Nat.le_of_ble_eq_true rfl⟩ (rvW (q0 := 10) (ci := 9) E rfl rfl rfl) rfl (Nat.le_of_ble_eq_true rfl) d_Parser_deed_37 fun r23 u24 _ => ?_
      refine Sm_if_eq (tgt := 50) E d_Parser_deed_40 (by decide) (fun _ => ?_) (fun _ => ?_)
      · refine Sm_iconst (v := 0) E d_Parser_deed_50 (by decide) ?_
        exact Sm_retZ hR (by decide) d_Parser_deed_51
      · refine Sm_aload_n E d_Parser_deed_43 rfl 0 rfl ?_
        refine Sm_cVI (As := []) (b := (G.1 28)) (st := []) (n := 0) E exOk wC_as (fun _ h => cC_Parser_target u24 h) gk_Parser_55 dk_Parser_target rfl ⟨rfl, rfl⟩ ⟨Nat.le_of_ble_eq_true rfl, Nat.le_of_ble_eq_true rfl⟩ (rvW (q0 := 28) (ci := 6) E rfl rfl rfl) rfl (Nat.le_of_ble_eq_true rfl) d_Parser_deed_44 fun r25 u26 _ => ?_
        refine Sm_if_ne (tgt := 52) E d_Parser_deed_47 (by decide) (fun _ => ?_) (fun _ => ?_)
        · refine Sm_aload_n E d_Parser_deed_52 rfl 0 rfl ?_
          refine gfC_28_tokens E fl_Parser_9 d_Parser_deed_53 ?_
          refine Sm_ldcS E sr_Parser_45 d_Parser_deed_56 ?_
          refine Sm_cVI (As := [.ref (G.2.2.1 3)]) (b := (G.1 10)) (st := []) (n := 1) E exOk wC_as (fun _ h => cC_Tokens_takes 3 u26 h) gk_Parser_29 dk_Tokens_takes rfl ⟨rfl, rfl⟩ ⟨Nat.le_of_ble_eq_true rfl, Nat.le_of_ble_eq_true rfl⟩ (rvW (q0 := 10) (ci := 9) E rfl rfl rfl) rfl (Nat.le_of_ble_eq_true rfl) d_Parser_deed_58 fun r27 u28 _ => ?_
          refine Sm_if_eq (tgt := 72) E d_Parser_deed_61 (by decide) (fun _ => ?_) (fun _ => ?_)
          · refine Sm_aload_n E d_Parser_deed_72 rfl 0 rfl ?_
            refine Sm_cVI (As := []) (b := (G.1 28)) (st := []) (n := 0) E exOk wC_as (fun _ h => cC_Parser_rows u28 h) gk_Parser_58 dk_Parser_rows rfl ⟨rfl, rfl⟩ ⟨Nat.le_of_ble_eq_true rfl, Nat.le_of_ble_eq_true rfl⟩ (rvW (q0 := 28) (ci := 6) E rfl rfl rfl) rfl (Nat.le_of_ble_eq_true rfl) d_Parser_deed_73 fun r29 u30 _ => ?_
            exact Sm_gd fun hz => Sm_retZ hR (zb_n hz) d_Parser_deed_76
          · refine Sm_aload_n E d_Parser_deed_64 rfl 0 rfl ?_
            refine Sm_iconst (v := 5) E d_Parser_deed_65 (by decide) ?_
            refine Sm_cVI (As := [.int 5]) (b := (G.1 28)) (st := []) (n := 1) E exOk wC_as (fun _ h => cC_Parser_query 5 u28 h) gk_Parser_47 dk_Parser_query rfl ⟨rfl, rfl⟩ ⟨Nat.le_of_ble_eq_true rfl, Nat.le_of_ble_eq_true rfl⟩ (rvW (q0 := 28) (ci := 6) E rfl rfl rfl) rfl (Nat.le_of_ble_eq_true rfl) d_Parser_deed_66 fun r31 u32 _ => ?_
            refine Sm_goto (tgt := 76) E d_Parser_deed_69 (by decide) ?_
            exact Sm_gd fun hz => Sm_retZ hR (zb_n hz) d_Parser_deed_76
        · refine Sm_iconst (v := 0) E d_Parser_deed_50 (by decide) ?_
          exact Sm_retZ hR (by decide) d_Parser_deed_51
  · refine Sm_aload_n E d_Parser_deed_12 rfl 0 rfl ?_
    refine Sm_bipush (v := 8) E d_Parser_deed_13 (by decide) ?_
    refine Sm_cVI (As := [.int 8]) (b := (G.1 28)) (st := []) (n := 1) E exOk wC_as (fun _ h => cC_Parser_query 8 u2 h) gk_Parser_47 dk_Parser_query rfl ⟨rfl, rfl⟩ ⟨Nat.le_of_ble_eq_true rfl, Nat.le_of_ble_eq_true rfl⟩ (rvW (q0 := 28) (ci := 6) E rfl rfl rfl) rfl (Nat.le_of_ble_eq_true rfl) d_Parser_deed_15 fun r33 u34 _ => ?_
    exact Sm_gd fun hz => Sm_retZ hR (zb_n hz) d_Parser_deed_18
set_option maxRecDepth 100000 in
set_option maxHeartbeats 4000000 in
theorem cC_Tokens_ended {l : Launch} {D : va_G} {G : Gx} (u : St) {res : Int32} (hm : mC_Tokens_ended u = some res) : KC l D G y_Tokens_ended (.code y_Tokens_ended prog_9_method_4_code 1 (some .boolean)) { frames := 0, cells := 0, slots := 0, locals := 0 } [.ref (G.1 10)] u (qI D vwCl (wC G) (tyW G) (adsC G) (res, u)) := by
  refine Ct_z (by decide) wC_as (Nat.le_of_ble_eq_true rfl) hm (fun X _ _ E hR => ?_)
  refine Sm_lvs (lv' := [(0, .ref (G.1 10))]) rfl ?_
  rw [mC_Tokens_ended]
  refine Sm_aload_n E d_Tokens_ended_0 rfl 0 rfl ?_
  refine gfC_10_next E fl_Tokens_28 d_Tokens_ended_1 ?_
  refine Sm_aload_n E d_Tokens_ended_4 rfl 0 rfl ?_
  refine gfC_10_size E fl_Tokens_24 d_Tokens_ended_5 ?_
  refine Sm_icmp_lt (tgt := 15) E d_Tokens_ended_8 (by decide) (fun _ => ?_) (fun _ => ?_)
  · refine Sm_iconst (v := 0) E d_Tokens_ended_15 (by decide) ?_
    exact Sm_retz hR (by decide) d_Tokens_ended_16
  · refine Sm_iconst (v := 1) E d_Tokens_ended_11 (by decide) ?_
    refine Sm_goto (tgt := 16) E d_Tokens_ended_12 (by decide) ?_
    exact Sm_retz hR (by decide) d_Tokens_ended_16
set_option maxRecDepth 100000 in
set_option maxHeartbeats 4000000 in
theorem cC_Parser_ends {l : Launch} {D : va_G} {G : Gx} (u : St) {res : Int32 × St} (hm : mC_Parser_ends u = some res) : KC l D G y_Parser_ends (.code y_Parser_ends prog_6_method_4_code 1 (some .boolean)) { frames := 5, cells := 0, slots := 0, locals := 109 } [.ref (G.1 28)] u (qI D vwCl (wC G) (tyW G) (adsC G) res) := by
  refine Ct_Z (by decide) wC_as (Nat.le_of_ble_eq_true rfl) hm (fun X _ _ E hR => ?_)
  refine Sm_lvs (lv' := [(0, .ref (G.1 28))]) rfl ?_
  rw [mC_Parser_ends]
  refine Sm_aload_n E d_Parser_ends_0 rfl 0 rfl ?_
  refine gfC_28_tokens E fl_Parser_9 d_Parser_ends_1 ?_
  refine Sm_ldcS E sr_Parser_84 d_Parser_ends_4 ?_
  refine Sm_cVI (As := [.ref (G.2.2.1 75)]) (b := (G.1 10)) (st := []) (n := 1) E exOk wC_as (fun _ h => cC_Tokens_takes 75 u h) gk_Parser_29 dk_Tokens_takes rfl ⟨rfl, rfl⟩ ⟨Nat.le_of_ble_eq_true rfl, Nat.le_of_ble_eq_true rfl⟩ (rvW (q0 := 10) (ci := 9) E rfl rfl rfl) rfl (Nat.le_of_ble_eq_true rfl) d_Parser_ends_6 fun r1 u2 _ => ?_
  refine Sm_pop E d_Parser_ends_9 rfl ?_
  refine Sm_aload_n E d_Parser_ends_10 rfl 0 rfl ?_
  refine gfC_28_statement E fl_Parser_23 d_Parser_ends_11 ?_
  refine Sm_aload_n E d_Parser_ends_14 rfl 0 rfl ?_
  refine gfC_28_prepared E fl_Parser_35 d_Parser_ends_15 ?_
  refine Sm_if_eq (tgt := 26) E d_Parser_ends_18 (by decide) (fun _ => ?_) (fun _ => ?_)
  · refine Sm_aload_n E d_Parser_ends_26 rfl 0 rfl ?_
    refine gfC_28_statement E fl_Parser_23 d_Parser_ends_27 ?_
    refine gfC_27_deed E fl_Parser_86 d_Parser_ends_30 ?_
    refine pfC_27_kind E fl_Parser_92 d_Parser_ends_33 fun u3 _ => ?_
    refine Sm_aload_n E d_Parser_ends_36 rfl 0 rfl ?_
    refine gfC_28_tokens E fl_Parser_9 d_Parser_ends_37 ?_
    refine Sm_cVi (As := []) (b := (G.1 10)) (st := []) (n := 0) E exOk wC_as (fun _ h => cC_Tokens_ended u3 h) gk_Parser_95 dk_Tokens_ended rfl ⟨rfl, rfl⟩ ⟨Nat.le_of_ble_eq_true rfl, Nat.le_of_ble_eq_true rfl⟩ (rvW (q0 := 10) (ci := 9) E rfl rfl rfl) rfl (Nat.le_of_ble_eq_true rfl) d_Parser_ends_40 fun r4 _ => ?_
    exact Sm_gd fun hz => Sm_retZ hR (zb_n hz) d_Parser_ends_43
  · refine Sm_bipush (v := 16) E d_Parser_ends_21 (by decide) ?_
    refine Sm_goto (tgt := 33) E d_Parser_ends_23 (by decide) ?_
    refine pfC_27_kind E fl_Parser_92 d_Parser_ends_33 fun u5 _ => ?_
    refine Sm_aload_n E d_Parser_ends_36 rfl 0 rfl ?_
    refine gfC_28_tokens E fl_Parser_9 d_Parser_ends_37 ?_
    refine Sm_cVi (As := []) (b := (G.1 10)) (st := []) (n := 0) E exOk wC_as (fun _ h => cC_Tokens_ended u5 h) gk_Parser_95 dk_Tokens_ended rfl ⟨rfl, rfl⟩ ⟨Nat.le_of_ble_eq_true rfl, Nat.le_of_ble_eq_true rfl⟩ (rvW (q0 := 10) (ci := 9) E rfl rfl rfl) rfl (Nat.le_of_ble_eq_true rfl) d_Parser_ends_40 fun r6 _ => ?_
    exact Sm_gd fun hz => Sm_retZ hR (zb_n hz) d_Parser_ends_43
set_option maxRecDepth 100000 in
set_option maxHeartbeats 4000000 in
theorem cC_Nodes_isOver {l : Launch} {D : va_G} {G : Gx} (u : St) {res : Int32} (hm : mC_Nodes_isOver u = some res) : KC l D G y_Nodes_isOver (.code y_Nodes_isOver prog_5_method_7_code 1 (some .boolean)) { frames := 0, cells := 0, slots := 0, locals := 0 } [.ref (G.1 14)] u (qI D vwCl (wC G) (tyW G) (adsC G) (res, u)) := by
  refine Ct_z (by decide) wC_as (Nat.le_of_ble_eq_true rfl) hm (fun X _ _ E hR => ?_)
  refine Sm_lvs (lv' := [(0, .ref (G.1 14))]) rfl ?_
  rw [mC_Nodes_isOver]
  refine Sm_aload_n E d_Nodes_isOver_0 rfl 0 rfl ?_
  refine gfC_14_over E fl_Nodes_43 d_Nodes_isOver_1 ?_
  exact Sm_gd fun hz => Sm_retz hR (zb_n hz) d_Nodes_isOver_4
set_option maxRecDepth 100000 in
set_option maxHeartbeats 4000000 in
theorem cC_Lists_isOver {l : Launch} {D : va_G} {G : Gx} (u : St) {res : Int32} (hm : mC_Lists_isOver u = some res) : KC l D G y_Lists_isOver (.code y_Lists_isOver prog_3_method_3_code 1 (some .boolean)) { frames := 0, cells := 0, slots := 0, locals := 0 } [.ref (G.1 24)] u (qI D vwCl (wC G) (tyW G) (adsC G) (res, u)) := by
  refine Ct_z (by decide) wC_as (Nat.le_of_ble_eq_true rfl) hm (fun X _ _ E hR => ?_)
  refine Sm_lvs (lv' := [(0, .ref (G.1 24))]) rfl ?_
  rw [mC_Lists_isOver]
  refine Sm_aload_n E d_Lists_isOver_0 rfl 0 rfl ?_
  refine gfC_24_over E fl_Lists_22 d_Lists_isOver_1 ?_
  exact Sm_gd fun hz => Sm_retz hR (zb_n hz) d_Lists_isOver_4
set_option maxRecDepth 100000 in
set_option maxHeartbeats 4000000 in
theorem tC_Text_same_4_11_L20 {X : Cx} {G : Gx} {res : Int32} {u : St} (E : EC X G prog_8_method_17_code R_Text 6 { frames := 1, cells := 0, slots := 0, locals := 21 }) (hR : RtZ X vwCl (wC G) prog_8_method_17_code .boolean (res, u)) : ∀ (n : Nat) (x1 : Int32) (x3 : Int32) (x4 : Int32) (x5 : Int32) , SC X G 6 res (mC_Text_same_4_11_L20 n x1 x3 x4 x5 u) u 20 [(0, .ref (G.1 4)), (1, .int x1), (2, .ref (G.1 11)), (3, .int x3), (4, .int x4), (5, .int x5)] [] := by
  intro n
  induction n with
  | zero => intro x1 x3 x4 x5; exact Sm_none
  | succ n h20 =>
    intro x1 x3 x4 x5
    rw [mC_Text_same_4_11_L20]
    refine Sm_iload E d_Text_same_20 5 rfl ?_
    refine Sm_iload E d_Text_same_22 4 rfl ?_
    refine Sm_icmp_ge (tgt := 60) E d_Text_same_24 (by decide) (fun _ => ?_) (fun _ => ?_)
    · refine Sm_iconst (v := 1) E d_Text_same_60 (by decide) ?_
      exact Sm_retz hR (by decide) d_Text_same_61
    · refine Sm_aload_n E d_Text_same_27 rfl 0 rfl ?_
      refine Sm_iload_n E d_Text_same_28 rfl 1 rfl ?_
      refine Sm_cSi (As := [.int x1]) (st := [.ref (G.1 4)]) (n := 1) E exOk wC_as (fun _ h => cC_Text_startOf x1 u h) gk_Text_44 dk_Text_startOf rfl ⟨rfl, rfl⟩ ⟨Nat.le_of_ble_eq_true rfl, Nat.le_of_ble_eq_true rfl⟩ rfl (Nat.le_of_ble_eq_true rfl) d_Text_same_29 fun r3 _ => ?_
      refine Sm_iload E d_Text_same_32 5 rfl ?_
      refine Sm_iadd E d_Text_same_34 ?_
      refine Sm_cVi (As := [.int (r3 + x5)]) (b := (G.1 4)) (st := []) (n := 1) E exOk wC_as (fun _ h => cC_Text_at_4 (r3 + x5) u h) gk_Text_34 dk_Text_at rfl ⟨rfl, rfl⟩ ⟨Nat.le_of_ble_eq_true rfl, Nat.le_of_ble_eq_true rfl⟩ (rvW (q0 := 4) (ci := 8) E rfl rfl rfl) rfl (Nat.le_of_ble_eq_true rfl) d_Text_same_35 fun r4 _ => ?_
      refine Sm_aload_n E d_Text_same_38 rfl 2 rfl ?_
      refine Sm_iload_n E d_Text_same_39 rfl 3 rfl ?_
      refine Sm_cSi (As := [.int x3]) (st := [.ref (G.1 11), .int r4]) (n := 1) E exOk wC_as (fun _ h => cC_Text_startOf x3 u h) gk_Text_44 dk_Text_startOf rfl ⟨rfl, rfl⟩ ⟨Nat.le_of_ble_eq_true rfl, Nat.le_of_ble_eq_true rfl⟩ rfl (Nat.le_of_ble_eq_true rfl) d_Text_same_40 fun r5 _ => ?_
      refine Sm_iload E d_Text_same_43 5 rfl ?_
      refine Sm_iadd E d_Text_same_45 ?_
      refine Sm_cVi (As := [.int (r5 + x5)]) (b := (G.1 11)) (st := [.int r4]) (n := 1) E exOk wC_as (fun _ h => cC_Text_at_11 (r5 + x5) u h) gk_Text_34 dk_Text_at rfl ⟨rfl, rfl⟩ ⟨Nat.le_of_ble_eq_true rfl, Nat.le_of_ble_eq_true rfl⟩ (rvW (q0 := 11) (ci := 8) E rfl rfl rfl) rfl (Nat.le_of_ble_eq_true rfl) d_Text_same_46 fun r6 _ => ?_
      refine Sm_icmp_eq (tgt := 54) E d_Text_same_49 (by decide) (fun _ => ?_) (fun _ => ?_)
      · refine Sm_iinc (k := 5) (d := 1) E d_Text_same_54 rfl rfl (by decide) fun y7 _ => Sm_lvs (lv' := [(5, .int y7), (0, .ref (G.1 4)), (1, .int x1), (2, .ref (G.1 11)), (3, .int x3), (4, .int x4)]) rfl ?_
        refine Sm_goto (tgt := 20) E d_Text_same_57 (by decide) ?_
        exact Sm_sub [1, 2, 3, 4, 5, 0] rfl (h20 _ _ _ _)
      · refine Sm_iconst (v := 0) E d_Text_same_52 (by decide) ?_
        exact Sm_retz hR (by decide) d_Text_same_53
set_option maxRecDepth 100000 in
set_option maxHeartbeats 4000000 in
theorem cC_Text_same_4_11 {l : Launch} {D : va_G} {G : Gx} (x1 : Int32) (x3 : Int32) (u : St) {res : Int32} (hm : mC_Text_same_4_11 x1 x3 u = some res) : KC l D G y_Text_same (.code y_Text_same prog_8_method_17_code 6 (some .boolean)) { frames := 1, cells := 0, slots := 0, locals := 21 } [.ref (G.1 4), .int x1, .ref (G.1 11), .int x3] u (qI D vwCl (wC G) (tyW G) (adsC G) (res, u)) := by
  refine Ct_z (by decide) wC_as (Nat.le_of_ble_eq_true rfl) hm (fun X _ _ E hR => ?_)
  refine Sm_lvs (lv' := [(0, .ref (G.1 4)), (1, .int x1), (2, .ref (G.1 11)), (3, .int x3)]) rfl ?_
  rw [mC_Text_same_4_11]
  refine Sm_iload_n E d_Text_same_0 rfl 1 rfl ?_
  refine Sm_cSi (As := [.int x1]) (st := []) (n := 1) E exOk wC_as (fun _ h => cC_Text_sizeOf x1 u h) gk_Text_41 dk_Text_sizeOf rfl ⟨rfl, rfl⟩ ⟨Nat.le_of_ble_eq_true rfl, Nat.le_of_ble_eq_true rfl⟩ rfl (Nat.le_of_ble_eq_true rfl) d_Text_same_1 fun r1 _ => ?_
  refine Sm_istore (lv' := [(4, .int r1), (0, .ref (G.1 4)), (1, .int x1), (2, .ref (G.1 11)), (3, .int x3)]) E d_Text_same_4 (by decide) rfl ?_
  refine Sm_iload E d_Text_same_6 0 rfl ?_
  refine Sm_iload_n E d_Text_same_8 rfl 4 rfl ?_
  refine Sm_cSi (As := [.int x3]) (st := [.int r1]) (n := 1) E exOk wC_as (fun _ h => cC_Text_sizeOf x3 u h) gk_Text_41 dk_Text_sizeOf rfl ⟨rfl, rfl⟩ ⟨Nat.le_of_ble_eq_true rfl, Nat.le_of_ble_eq_true rfl⟩ rfl (Nat.le_of_ble_eq_true rfl) d_Text_same_9 fun r2 _ => ?_
  refine Sm_icmp_eq (tgt := 17) E d_Text_same_12 (by decide) (fun _ => ?_) (fun _ => ?_)
  · refine Sm_iconst (v := 0) E d_Text_same_17 (by decide) ?_
    refine Sm_istore (lv' := [(5, .int 0), (4, .int r1), (0, .ref (G.1 4)), (1, .int x1), (2, .ref (G.1 11)), (3, .int x3)]) E d_Text_same_18 (by decide) rfl ?_
    exact Sm_sub [2, 3, 4, 5, 1, 0] rfl (tC_Text_same_4_11_L20 E hR FU _ _ _ _)
  · refine Sm_iconst (v := 0) E d_Text_same_15 (by decide) ?_
    exact Sm_retz hR (by decide) d_Text_same_16
set_option maxRecDepth 100000 in
set_option maxHeartbeats 4000000 in
theorem tC_Catalog_findTable_3_11_L2 {X : Cx} {G : Gx} {res : Int32} {u : St} (E : EC X G prog_2_method_4_code R_Catalog 4 { frames := 2, cells := 0, slots := 0, locals := 46 }) (hR : RtI X vwCl (wC G) prog_2_method_4_code (res, u)) : ∀ (n : Nat) (x2 : Int32) (x3 : Int32) , SC X G 4 res (mC_Catalog_findTable_3_11_L2 n x2 x3 u) u 2 [(0, .ref (G.1 3)), (1, .ref (G.1 11)), (2, .int x2), (3, .int x3)] [] := by
  intro n
  induction n with
  | zero => intro x2 x3; exact Sm_none
  | succ n h2 =>
    intro x2 x3
    rw [mC_Catalog_findTable_3_11_L2]
    refine Sm_iload_n E d_Catalog_findTable_2 rfl 3 rfl ?_
    refine Sm_aload_n E d_Catalog_findTable_3 rfl 0 rfl ?_
    refine gfC_3_tables E fl_Catalog_35 d_Catalog_findTable_4 ?_
    refine Sm_icmp_ge (tgt := 36) E d_Catalog_findTable_7 (by decide) (fun _ => ?_) (fun _ => ?_)
    · refine Sm_iconst (v := (-1)) E d_Catalog_findTable_36 (by decide) ?_
      exact Sm_reti hR d_Catalog_findTable_37
    · refine Sm_aload_n E d_Catalog_findTable_10 rfl 0 rfl ?_
      refine gfC_3_names E fl_Catalog_12 d_Catalog_findTable_11 ?_
      refine Sm_aload_n E d_Catalog_findTable_14 rfl 0 rfl ?_
      refine gfC_3_tableNames E fl_Catalog_18 d_Catalog_findTable_15 ?_
      refine Sm_iload_n E d_Catalog_findTable_18 rfl 3 rfl ?_
      refine Sm_gd fun hi => ldC_6 E (inb_in hi) d_Catalog_findTable_19 ?_
      refine Sm_aload_n E d_Catalog_findTable_20 rfl 1 rfl ?_
      refine Sm_iload_n E d_Catalog_findTable_21 rfl 2 rfl ?_
      refine Sm_cVi (As := [.int (ga u 2 x3), .ref (G.1 11), .int x2]) (b := (G.1 4)) (st := []) (n := 3) E exOk wC_as (fun _ h => cC_Text_same_4_11 (ga u 2 x3) x2 u h) gk_Catalog_63 dk_Text_same rfl ⟨rfl, rfl⟩ ⟨Nat.le_of_ble_eq_true rfl, Nat.le_of_ble_eq_true rfl⟩ (rvW (q0 := 4) (ci := 8) E rfl rfl rfl) rfl (Nat.le_of_ble_eq_true rfl) d_Catalog_findTable_22 fun r1 _ => ?_
      refine Sm_if_eq (tgt := 30) E d_Catalog_findTable_25 (by decide) (fun _ => ?_) (fun _ => ?_)
      · refine Sm_iinc (k := 3) (d := 1) E d_Catalog_findTable_30 rfl rfl (by decide) fun y2 _ => Sm_lvs (lv' := [(3, .int y2), (0, .ref (G.1 3)), (1, .ref (G.1 11)), (2, .int x2)]) rfl ?_
        refine Sm_goto (tgt := 2) E d_Catalog_findTable_33 (by decide) ?_
        exact Sm_sub [1, 2, 3, 0] rfl (h2 _ _)
      · refine Sm_iload_n E d_Catalog_findTable_28 rfl 3 rfl ?_
        exact Sm_reti hR d_Catalog_findTable_29
set_option maxRecDepth 100000 in
set_option maxHeartbeats 4000000 in
theorem cC_Catalog_findTable_3_11 {l : Launch} {D : va_G} {G : Gx} (x2 : Int32) (u : St) {res : Int32} (hm : mC_Catalog_findTable_3_11 x2 u = some res) : KC l D G y_Catalog_findTable (.code y_Catalog_findTable prog_2_method_4_code 4 (some .int)) { frames := 2, cells := 0, slots := 0, locals := 46 } [.ref (G.1 3), .ref (G.1 11), .int x2] u (qI D vwCl (wC G) (tyW G) (adsC G) (res, u)) := by
  refine Ct_i (by decide) wC_as (Nat.le_of_ble_eq_true rfl) hm (fun X _ _ E hR => ?_)
  refine Sm_lvs (lv' := [(0, .ref (G.1 3)), (1, .ref (G.1 11)), (2, .int x2)]) rfl ?_
  rw [mC_Catalog_findTable_3_11]
  refine Sm_iconst (v := 0) E d_Catalog_findTable_0 (by decide) ?_
  refine Sm_istore_n (lv' := [(3, .int 0), (0, .ref (G.1 3)), (1, .ref (G.1 11)), (2, .int x2)]) E d_Catalog_findTable_1 rfl (by decide) rfl ?_
  exact Sm_sub [1, 2, 3, 0] rfl (tC_Catalog_findTable_3_11_L2 E hR FU _ _)
set_option maxRecDepth 100000 in
set_option maxHeartbeats 4000000 in
theorem tC_Lists_at_J29 {X : Cx} {G : Gx} {res : Int32} {u : St} (E : EC X G prog_3_method_6_code R_Lists 4 { frames := 0, cells := 0, slots := 0, locals := 0 }) (hR : RtI X vwCl (wC G) prog_3_method_6_code (res, u)) : ∀ (x1 : Int32) (x2 : Int32) (s0 : Int32) , SC X G 4 res (mC_Lists_at_J29 x1 x2 s0 u) u 29 [(0, .ref (G.1 24)), (1, .int x1), (2, .int x2)] [.int s0] := by
  intro x1 x2 s0
  rw [mC_Lists_at_J29]
  refine Sm_istore_n (lv' := [(3, .int s0), (0, .ref (G.1 24)), (1, .int x1), (2, .int x2)]) E d_Lists_at_29 rfl (by decide) rfl ?_
  refine Sm_iload_n E d_Lists_at_30 rfl 0 rfl ?_
  refine Sm_if_eq (tgt := 49) E d_Lists_at_31 (by decide) (fun _ => ?_) (fun _ => ?_)
  · refine Sm_iconst (v := (-1)) E d_Lists_at_49 (by decide) ?_
    exact Sm_reti hR d_Lists_at_50
  · refine Sm_aload_n E d_Lists_at_34 rfl 1 rfl ?_
    refine gfC_24_entries E fl_Lists_13 d_Lists_at_35 ?_
    refine Sm_gsA (j := 1) E (by decide) fl_Lists_29 d_Lists_at_38 ?_
    refine Sm_iload_n E d_Lists_at_41 rfl 2 rfl ?_
    refine Sm_gd fun hi => Sm_stl (j := 1) E (by decide) (inb_in hi) d_Lists_at_42 ?_
    refine Sm_iload_n E d_Lists_at_43 rfl 3 rfl ?_
    refine Sm_iadd E d_Lists_at_44 ?_
    refine Sm_gd fun hi => ldC_26 E (inb_in hi) d_Lists_at_45 ?_
    refine Sm_goto (tgt := 50) E d_Lists_at_46 (by decide) ?_
    exact Sm_reti hR d_Lists_at_50
set_option maxRecDepth 100000 in
set_option maxHeartbeats 4000000 in
theorem cC_Lists_at {l : Launch} {D : va_G} {G : Gx} (x1 : Int32) (x2 : Int32) (u : St) {res : Int32} (hm : mC_Lists_at x1 x2 u = some res) : KC l D G y_Lists_at (.code y_Lists_at prog_3_method_6_code 4 (some .int)) { frames := 0, cells := 0, slots := 0, locals := 0 } [.ref (G.1 24), .int x1, .int x2] u (qI D vwCl (wC G) (tyW G) (adsC G) (res, u)) := by
  refine Ct_i (by decide) wC_as (Nat.le_of_ble_eq_true rfl) hm (fun X _ _ E hR => ?_)
  refine Sm_lvs (lv' := [(0, .ref (G.1 24)), (1, .int x1), (2, .int x2)]) rfl ?_
  rw [mC_Lists_at]
  refine Sm_iload_n E d_Lists_at_0 rfl 1 rfl ?_
  refine Sm_if_lt (tgt := 28) E d_Lists_at_1 (by decide) (fun _ => ?_) (fun _ => ?_)
  · refine Sm_iconst (v := 0) E d_Lists_at_28 (by decide) ?_
    exact Sm_sub [0, 1, 2] rfl (tC_Lists_at_J29 E hR _ _ _)
  · refine Sm_iload_n E d_Lists_at_4 rfl 1 rfl ?_
    refine Sm_bipush (v := 14) E d_Lists_at_5 (by decide) ?_
    refine Sm_icmp_ge (tgt := 28) E d_Lists_at_7 (by decide) (fun _ => ?_) (fun _ => ?_)
    · refine Sm_iconst (v := 0) E d_Lists_at_28 (by decide) ?_
      exact Sm_sub [0, 1, 2] rfl (tC_Lists_at_J29 E hR _ _ _)
    · refine Sm_iload_n E d_Lists_at_10 rfl 2 rfl ?_
      refine Sm_if_lt (tgt := 28) E d_Lists_at_11 (by decide) (fun _ => ?_) (fun _ => ?_)
      · refine Sm_iconst (v := 0) E d_Lists_at_28 (by decide) ?_
        exact Sm_sub [0, 1, 2] rfl (tC_Lists_at_J29 E hR _ _ _)
      · refine Sm_iload_n E d_Lists_at_14 rfl 2 rfl ?_
        refine Sm_aload_n E d_Lists_at_15 rfl 0 rfl ?_
        refine gfC_24_sizes E fl_Lists_9 d_Lists_at_16 ?_
        refine Sm_iload_n E d_Lists_at_19 rfl 1 rfl ?_
        refine Sm_gd fun hi => ldC_25 E (inb_in hi) d_Lists_at_20 ?_
        refine Sm_icmp_ge (tgt := 28) E d_Lists_at_21 (by decide) (fun _ => ?_) (fun _ => ?_)
        · refine Sm_iconst (v := 0) E d_Lists_at_28 (by decide) ?_
          exact Sm_sub [0, 1, 2] rfl (tC_Lists_at_J29 E hR _ _ _)
        · refine Sm_iconst (v := 1) E d_Lists_at_24 (by decide) ?_
          refine Sm_goto (tgt := 29) E d_Lists_at_25 (by decide) ?_
          exact Sm_sub [0, 1, 2] rfl (tC_Lists_at_J29 E hR _ _ _)
set_option maxRecDepth 100000 in
set_option maxHeartbeats 4000000 in
theorem cC_Meaning_nameOfTable {l : Launch} {D : va_G} {G : Gx} (x1 : Int32) (u : St) {res : Int32} (hm : mC_Meaning_nameOfTable x1 u = some res) : KC l D G y_Meaning_nameOfTable (.code y_Meaning_nameOfTable prog_4_method_4_code 3 (some .int)) { frames := 1, cells := 0, slots := 0, locals := 23 } [.ref (G.1 29), .int x1] u (qI D vwCl (wC G) (tyW G) (adsC G) (res, u)) := by
  refine Ct_i (by decide) wC_as (Nat.le_of_ble_eq_true rfl) hm (fun X _ _ E hR => ?_)
  refine Sm_lvs (lv' := [(0, .ref (G.1 29)), (1, .int x1)]) rfl ?_
  rw [mC_Meaning_nameOfTable]
  refine Sm_aload_n E d_Meaning_nameOfTable_0 rfl 0 rfl ?_
  refine gfC_29_lists E fl_Meaning_28 d_Meaning_nameOfTable_1 ?_
  refine Sm_bipush (v := 11) E d_Meaning_nameOfTable_4 (by decide) ?_
  refine Sm_iload_n E d_Meaning_nameOfTable_6 rfl 1 rfl ?_
  refine Sm_cVi (As := [.int 11, .int x1]) (b := (G.1 24)) (st := []) (n := 2) E exOk wC_as (fun _ h => cC_Lists_at 11 x1 u h) gk_Meaning_70 dk_Lists_at rfl ⟨rfl, rfl⟩ ⟨Nat.le_of_ble_eq_true rfl, Nat.le_of_ble_eq_true rfl⟩ (rvW (q0 := 24) (ci := 3) E rfl rfl rfl) rfl (Nat.le_of_ble_eq_true rfl) d_Meaning_nameOfTable_7 fun r1 _ => ?_
  refine Sm_istore_n (lv' := [(2, .int r1), (0, .ref (G.1 29)), (1, .int x1)]) E d_Meaning_nameOfTable_10 rfl (by decide) rfl ?_
  refine Sm_iload_n E d_Meaning_nameOfTable_11 rfl 0 rfl ?_
  refine Sm_if_lt (tgt := 19) E d_Meaning_nameOfTable_12 (by decide) (fun _ => ?_) (fun _ => ?_)
  · refine Sm_aload_n E d_Meaning_nameOfTable_19 rfl 1 rfl ?_
    refine gfC_29_lists E fl_Meaning_28 d_Meaning_nameOfTable_20 ?_
    refine Sm_bipush (v := 10) E d_Meaning_nameOfTable_23 (by decide) ?_
    refine Sm_iload_n E d_Meaning_nameOfTable_25 rfl 2 rfl ?_
    refine Sm_cVi (As := [.int 10, .int x1]) (b := (G.1 24)) (st := []) (n := 2) E exOk wC_as (fun _ h => cC_Lists_at 10 x1 u h) gk_Meaning_70 dk_Lists_at rfl ⟨rfl, rfl⟩ ⟨Nat.le_of_ble_eq_true rfl, Nat.le_of_ble_eq_true rfl⟩ (rvW (q0 := 24) (ci := 3) E rfl rfl rfl) rfl (Nat.le_of_ble_eq_true rfl) d_Meaning_nameOfTable_26 fun r2 _ => ?_
    exact Sm_reti hR d_Meaning_nameOfTable_29
  · refine Sm_iload_n E d_Meaning_nameOfTable_15 rfl 0 rfl ?_
    refine Sm_goto (tgt := 29) E d_Meaning_nameOfTable_16 (by decide) ?_
    exact Sm_reti hR d_Meaning_nameOfTable_29
set_option maxRecDepth 100000 in
set_option maxHeartbeats 4000000 in
theorem tC_Text_same_11_11_L20 {X : Cx} {G : Gx} {res : Int32} {u : St} (E : EC X G prog_8_method_17_code R_Text 6 { frames := 1, cells := 0, slots := 0, locals := 21 }) (hR : RtZ X vwCl (wC G) prog_8_method_17_code .boolean (res, u)) : ∀ (n : Nat) (x1 : Int32) (x3 : Int32) (x4 : Int32) (x5 : Int32) , SC X G 6 res (mC_Text_same_11_11_L20 n x1 x3 x4 x5 u) u 20 [(0, .ref (G.1 11)), (1, .int x1), (2, .ref (G.1 11)), (3, .int x3), (4, .int x4), (5, .int x5)] [] := by
  intro n
  induction n with
  | zero => intro x1 x3 x4 x5; exact Sm_none
  | succ n h20 =>
    intro x1 x3 x4 x5
    rw [mC_Text_same_11_11_L20]
    refine Sm_iload E d_Text_same_20 5 rfl ?_
    refine Sm_iload E d_Text_same_22 4 rfl ?_
    refine Sm_icmp_ge (tgt := 60) E d_Text_same_24 (by decide) (fun _ => ?_) (fun _ => ?_)
    · refine Sm_iconst (v := 1) E d_Text_same_60 (by decide) ?_
      exact Sm_retz hR (by decide) d_Text_same_61
    · refine Sm_aload_n E d_Text_same_27 rfl 0 rfl ?_
      refine Sm_iload_n E d_Text_same_28 rfl 1 rfl ?_
      refine Sm_cSi (As := [.int x1]) (st := [.ref (G.1 11)]) (n := 1) E exOk wC_as (fun _ h => cC_Text_startOf x1 u h) gk_Text_44 dk_Text_startOf rfl ⟨rfl, rfl⟩ ⟨Nat.le_of_ble_eq_true rfl, Nat.le_of_ble_eq_true rfl⟩ rfl (Nat.le_of_ble_eq_true rfl) d_Text_same_29 fun r3 _ => ?_
      refine Sm_iload E d_Text_same_32 5 rfl ?_
      refine Sm_iadd E d_Text_same_34 ?_
      refine Sm_cVi (As := [.int (r3 + x5)]) (b := (G.1 11)) (st := []) (n := 1) E exOk wC_as (fun _ h => cC_Text_at_11 (r3 + x5) u h) gk_Text_34 dk_Text_at rfl ⟨rfl, rfl⟩ ⟨Nat.le_of_ble_eq_true rfl, Nat.le_of_ble_eq_true rfl⟩ (rvW (q0 := 11) (ci := 8) E rfl rfl rfl) rfl (Nat.le_of_ble_eq_true rfl) d_Text_same_35 fun r4 _ => ?_
      refine Sm_aload_n E d_Text_same_38 rfl 2 rfl ?_
      refine Sm_iload_n E d_Text_same_39 rfl 3 rfl ?_
      refine Sm_cSi (As := [.int x3]) (st := [.ref (G.1 11), .int r4]) (n := 1) E exOk wC_as (fun _ h => cC_Text_startOf x3 u h) gk_Text_44 dk_Text_startOf rfl ⟨rfl, rfl⟩ ⟨Nat.le_of_ble_eq_true rfl, Nat.le_of_ble_eq_true rfl⟩ rfl (Nat.le_of_ble_eq_true rfl) d_Text_same_40 fun r5 _ => ?_
      refine Sm_iload E d_Text_same_43 5 rfl ?_
      refine Sm_iadd E d_Text_same_45 ?_
      refine Sm_cVi (As := [.int (r5 + x5)]) (b := (G.1 11)) (st := [.int r4]) (n := 1) E exOk wC_as (fun _ h => cC_Text_at_11 (r5 + x5) u h) gk_Text_34 dk_Text_at rfl ⟨rfl, rfl⟩ ⟨Nat.le_of_ble_eq_true rfl, Nat.le_of_ble_eq_true rfl⟩ (rvW (q0 := 11) (ci := 8) E rfl rfl rfl) rfl (Nat.le_of_ble_eq_true rfl) d_Text_same_46 fun r6 _ => ?_
      refine Sm_icmp_eq (tgt := 54) E d_Text_same_49 (by decide) (fun _ => ?_) (fun _ => ?_)
      · refine Sm_iinc (k := 5) (d := 1) E d_Text_same_54 rfl rfl (by decide) fun y7 _ => Sm_lvs (lv' := [(5, .int y7), (0, .ref (G.1 11)), (1, .int x1), (2, .ref (G.1 11)), (3, .int x3), (4, .int x4)]) rfl ?_
        refine Sm_goto (tgt := 20) E d_Text_same_57 (by decide) ?_
        exact Sm_sub [1, 2, 3, 4, 5, 0] rfl (h20 _ _ _ _)
      · refine Sm_iconst (v := 0) E d_Text_same_52 (by decide) ?_
        exact Sm_retz hR (by decide) d_Text_same_53
set_option maxRecDepth 100000 in
set_option maxHeartbeats 4000000 in
theorem cC_Text_same_11_11 {l : Launch} {D : va_G} {G : Gx} (x1 : Int32) (x3 : Int32) (u : St) {res : Int32} (hm : mC_Text_same_11_11 x1 x3 u = some res) : KC l D G y_Text_same (.code y_Text_same prog_8_method_17_code 6 (some .boolean)) { frames := 1, cells := 0, slots := 0, locals := 21 } [.ref (G.1 11), .int x1, .ref (G.1 11), .int x3] u (qI D vwCl (wC G) (tyW G) (adsC G) (res, u)) := by
  refine Ct_z (by decide) wC_as (Nat.le_of_ble_eq_true rfl) hm (fun X _ _ E hR => ?_)
  refine Sm_lvs (lv' := [(0, .ref (G.1 11)), (1, .int x1), (2, .ref (G.1 11)), (3, .int x3)]) rfl ?_
  rw [mC_Text_same_11_11]
  refine Sm_iload_n E d_Text_same_0 rfl 1 rfl ?_
  refine Sm_cSi (As := [.int x1]) (st := []) (n := 1) E exOk wC_as (fun _ h => cC_Text_sizeOf x1 u h) gk_Text_41 dk_Text_sizeOf rfl ⟨rfl, rfl⟩ ⟨Nat.le_of_ble_eq_true rfl, Nat.le_of_ble_eq_true rfl⟩ rfl (Nat.le_of_ble_eq_true rfl) d_Text_same_1 fun r1 _ => ?_
  refine Sm_istore (lv' := [(4, .int r1), (0, .ref (G.1 11)), (1, .int x1), (2, .ref (G.1 11)), (3, .int x3)]) E d_Text_same_4 (by decide) rfl ?_
  refine Sm_iload E d_Text_same_6 0 rfl ?_
  refine Sm_iload_n E d_Text_same_8 rfl 4 rfl ?_
  refine Sm_cSi (As := [.int x3]) (st := [.int r1]) (n := 1) E exOk wC_as (fun _ h => cC_Text_sizeOf x3 u h) gk_Text_41 dk_Text_sizeOf rfl ⟨rfl, rfl⟩ ⟨Nat.le_of_ble_eq_true rfl, Nat.le_of_ble_eq_true rfl⟩ rfl (Nat.le_of_ble_eq_true rfl) d_Text_same_9 fun r2 _ => ?_
  refine Sm_icmp_eq (tgt := 17) E d_Text_same_12 (by decide) (fun _ => ?_) (fun _ => ?_)
  · refine Sm_iconst (v := 0) E d_Text_same_17 (by decide) ?_
    refine Sm_istore (lv' := [(5, .int 0), (4, .int r1), (0, .ref (G.1 11)), (1, .int x1), (2, .ref (G.1 11)), (3, .int x3)]) E d_Text_same_18 (by decide) rfl ?_
    exact Sm_sub [2, 3, 4, 5, 1, 0] rfl (tC_Text_same_11_11_L20 E hR FU _ _ _ _)
  · refine Sm_iconst (v := 0) E d_Text_same_15 (by decide) ?_
    exact Sm_retz hR (by decide) d_Text_same_16
