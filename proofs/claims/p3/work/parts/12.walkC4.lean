set_option maxRecDepth 100000 in
set_option maxHeartbeats 4000000 in
theorem tC_Meaning_tableCalled_L12 {X : Cx} {G : Gx} {res : Int32} {u : St} (E : EC X G prog_4_method_5_code R_Meaning 4 { frames := 2, cells := 0, slots := 0, locals := 46 }) (hR : RtI X vwCl (wC G) prog_4_method_5_code (res, u)) : ∀ (n : Nat) (x1 : Int32) (x2 : Int32) (x3 : Int32) , SC X G 4 res (mC_Meaning_tableCalled_L12 n x1 x2 x3 u) u 12 [(0, .ref (G.1 29)), (1, .int x1), (2, .int x2), (3, .int x3)] [] := by
  intro n
  induction n with
  | zero => intro x1 x2 x3; exact Sm_none
  | succ n h12 =>
    intro x1 x2 x3
    rw [mC_Meaning_tableCalled_L12]
    refine Sm_iload_n E d_Meaning_tableCalled_12 rfl 3 rfl ?_
    refine Sm_iload_n E d_Meaning_tableCalled_13 rfl 2 rfl ?_
    refine Sm_icmp_ge (tgt := 45) E d_Meaning_tableCalled_14 (by decide) (fun _ => ?_) (fun _ => ?_)
    · refine Sm_iload_n E d_Meaning_tableCalled_45 rfl 2 rfl ?_
      exact Sm_reti hR d_Meaning_tableCalled_46
    · refine Sm_aload_n E d_Meaning_tableCalled_17 rfl 0 rfl ?_
      refine gfC_29_text E fl_Meaning_21 d_Meaning_tableCalled_18 ?_
      refine Sm_aload_n E d_Meaning_tableCalled_21 rfl 0 rfl ?_
      refine Sm_iload_n E d_Meaning_tableCalled_22 rfl 3 rfl ?_
      refine Sm_cVi (As := [.int x3]) (b := (G.1 29)) (st := [.ref (G.1 11)]) (n := 1) E exOk wC_as (fun _ h => cC_Meaning_nameOfTable x3 u h) gk_Meaning_74 dk_Meaning_nameOfTable rfl ⟨rfl, rfl⟩ ⟨Nat.le_of_ble_eq_true rfl, Nat.le_of_ble_eq_true rfl⟩ (rvW (q0 := 29) (ci := 4) E rfl rfl rfl) rfl (Nat.le_of_ble_eq_true rfl) d_Meaning_tableCalled_23 fun r2 _ => ?_
      refine Sm_aload_n E d_Meaning_tableCalled_26 rfl 0 rfl ?_
      refine gfC_29_text E fl_Meaning_21 d_Meaning_tableCalled_27 ?_
      refine Sm_iload_n E d_Meaning_tableCalled_30 rfl 1 rfl ?_
      refine Sm_cVi (As := [.int r2, .ref (G.1 11), .int x1]) (b := (G.1 11)) (st := []) (n := 3) E exOk wC_as (fun _ h => cC_Text_same_11_11 r2 x1 u h) gk_Meaning_84 dk_Text_same rfl ⟨rfl, rfl⟩ ⟨Nat.le_of_ble_eq_true rfl, Nat.le_of_ble_eq_true rfl⟩ (rvW (q0 := 11) (ci := 8) E rfl rfl rfl) rfl (Nat.le_of_ble_eq_true rfl) d_Meaning_tableCalled_31 fun r3 _ => ?_
      refine Sm_if_eq (tgt := 39) E d_Meaning_tableCalled_34 (by decide) (fun _ => ?_) (fun _ => ?_)
      · refine Sm_iinc (k := 3) (d := 1) E d_Meaning_tableCalled_39 rfl rfl (by decide) fun y4 _ => Sm_lvs (lv' := [(3, .int y4), (0, .ref (G.1 29)), (1, .int x1), (2, .int x2)]) rfl ?_
        refine Sm_goto (tgt := 12) E d_Meaning_tableCalled_42 (by decide) ?_
        exact Sm_sub [1, 2, 3, 0] rfl (h12 _ _ _)
      · refine Sm_iload_n E d_Meaning_tableCalled_37 rfl 3 rfl ?_
        exact Sm_reti hR d_Meaning_tableCalled_38
set_option maxRecDepth 100000 in
set_option maxHeartbeats 4000000 in
theorem cC_Meaning_tableCalled {l : Launch} {D : va_G} {G : Gx} (x1 : Int32) (u : St) {res : Int32} (hm : mC_Meaning_tableCalled x1 u = some res) : KC l D G y_Meaning_tableCalled (.code y_Meaning_tableCalled prog_4_method_5_code 4 (some .int)) { frames := 2, cells := 0, slots := 0, locals := 46 } [.ref (G.1 29), .int x1] u (qI D vwCl (wC G) (tyW G) (adsC G) (res, u)) := by
  refine Ct_i (by decide) wC_as (Nat.le_of_ble_eq_true rfl) hm (fun X _ _ E hR => ?_)
  refine Sm_lvs (lv' := [(0, .ref (G.1 29)), (1, .int x1)]) rfl ?_
  rw [mC_Meaning_tableCalled]
  refine Sm_aload_n E d_Meaning_tableCalled_0 rfl 0 rfl ?_
  refine gfC_29_lists E fl_Meaning_28 d_Meaning_tableCalled_1 ?_
  refine Sm_bipush (v := 10) E d_Meaning_tableCalled_4 (by decide) ?_
  refine Sm_cVi (As := [.int 10]) (b := (G.1 24)) (st := []) (n := 1) E exOk wC_as (fun _ h => cC_Lists_size 10 u h) gk_Meaning_66 dk_Lists_size rfl ⟨rfl, rfl⟩ ⟨Nat.le_of_ble_eq_true rfl, Nat.le_of_ble_eq_true rfl⟩ (rvW (q0 := 24) (ci := 3) E rfl rfl rfl) rfl (Nat.le_of_ble_eq_true rfl) d_Meaning_tableCalled_6 fun r1 _ => ?_
  refine Sm_istore_n (lv' := [(2, .int r1), (0, .ref (G.1 29)), (1, .int x1)]) E d_Meaning_tableCalled_9 rfl (by decide) rfl ?_
  refine Sm_iconst (v := 0) E d_Meaning_tableCalled_10 (by decide) ?_
  refine Sm_istore_n (lv' := [(3, .int 0), (2, .int r1), (0, .ref (G.1 29)), (1, .int x1)]) E d_Meaning_tableCalled_11 rfl (by decide) rfl ?_
  exact Sm_sub [2, 3, 1, 0] rfl (tC_Meaning_tableCalled_L12 E hR FU _ _ _)
set_option maxRecDepth 100000 in
set_option maxHeartbeats 4000000 in
theorem tC_Meaning_tableError_L49 {X : Cx} {G : Gx} {res : Int32 × St} (E : EC X G prog_4_method_3_code R_Meaning 3 { frames := 3, cells := 0, slots := 0, locals := 69 }) (hR : RtI X vwCl (wC G) prog_4_method_3_code res) : ∀ (n : Nat) (x1 : Int32) (u : St), SC X G 3 res (mC_Meaning_tableError_L49 n x1 u) u 49 [(0, .ref (G.1 29)), (1, .int x1)] [] := by
  intro n
  induction n with
  | zero => intro x1 u; exact Sm_none
  | succ n h49 =>
    intro x1 u
    rw [mC_Meaning_tableError_L49]
    refine Sm_iload_n E d_Meaning_tableError_49 rfl 1 rfl ?_
    refine Sm_aload_n E d_Meaning_tableError_50 rfl 0 rfl ?_
    refine gfC_29_lists E fl_Meaning_28 d_Meaning_tableError_51 ?_
    refine Sm_bipush (v := 10) E d_Meaning_tableError_54 (by decide) ?_
    refine Sm_cVi (As := [.int 10]) (b := (G.1 24)) (st := [.int x1]) (n := 1) E exOk wC_as (fun _ h => cC_Lists_size 10 u h) gk_Meaning_66 dk_Lists_size rfl ⟨rfl, rfl⟩ ⟨Nat.le_of_ble_eq_true rfl, Nat.le_of_ble_eq_true rfl⟩ (rvW (q0 := 24) (ci := 3) E rfl rfl rfl) rfl (Nat.le_of_ble_eq_true rfl) d_Meaning_tableError_56 fun r1 _ => ?_
    refine Sm_icmp_ge (tgt := 120) E d_Meaning_tableError_59 (by decide) (fun _ => ?_) (fun _ => ?_)
    · refine Sm_iconst (v := 0) E d_Meaning_tableError_120 (by decide) ?_
      exact Sm_retI hR d_Meaning_tableError_121
    · refine Sm_aload_n E d_Meaning_tableError_62 rfl 0 rfl ?_
      refine gfC_29_catalog E fl_Meaning_9 d_Meaning_tableError_63 ?_
      refine Sm_aload_n E d_Meaning_tableError_66 rfl 0 rfl ?_
      refine gfC_29_text E fl_Meaning_21 d_Meaning_tableError_67 ?_
      refine Sm_aload_n E d_Meaning_tableError_70 rfl 0 rfl ?_
      refine gfC_29_lists E fl_Meaning_28 d_Meaning_tableError_71 ?_
      refine Sm_bipush (v := 10) E d_Meaning_tableError_74 (by decide) ?_
      refine Sm_iload_n E d_Meaning_tableError_76 rfl 1 rfl ?_
      refine Sm_cVi (As := [.int 10, .int x1]) (b := (G.1 24)) (st := [.ref (G.1 11), .ref (G.1 3)]) (n := 2) E exOk wC_as (fun _ h => cC_Lists_at 10 x1 u h) gk_Meaning_70 dk_Lists_at rfl ⟨rfl, rfl⟩ ⟨Nat.le_of_ble_eq_true rfl, Nat.le_of_ble_eq_true rfl⟩ (rvW (q0 := 24) (ci := 3) E rfl rfl rfl) rfl (Nat.le_of_ble_eq_true rfl) d_Meaning_tableError_77 fun r2 _ => ?_
      refine Sm_cVi (As := [.ref (G.1 11), .int r2]) (b := (G.1 3)) (st := []) (n := 2) E exOk wC_as (fun _ h => cC_Catalog_findTable_3_11 r2 u h) gk_Meaning_55 dk_Catalog_findTable rfl ⟨rfl, rfl⟩ ⟨Nat.le_of_ble_eq_true rfl, Nat.le_of_ble_eq_true rfl⟩ (rvW (q0 := 3) (ci := 2) E rfl rfl rfl) rfl (Nat.le_of_ble_eq_true rfl) d_Meaning_tableError_80 fun r3 _ => ?_
      refine Sm_istore_n (lv' := [(2, .int r3), (0, .ref (G.1 29)), (1, .int x1)]) E d_Meaning_tableError_83 rfl (by decide) rfl ?_
      refine Sm_iload_n E d_Meaning_tableError_84 rfl 0 rfl ?_
      refine Sm_if_ge (tgt := 90) E d_Meaning_tableError_85 (by decide) (fun _ => ?_) (fun _ => ?_)
      · refine Sm_aload_n E d_Meaning_tableError_90 rfl 1 rfl ?_
        refine Sm_aload_n E d_Meaning_tableError_91 rfl 1 rfl ?_
        refine Sm_iload_n E d_Meaning_tableError_92 rfl 2 rfl ?_
        refine Sm_cVi (As := [.int x1]) (b := (G.1 29)) (st := [.ref (G.1 29)]) (n := 1) E exOk wC_as (fun _ h => cC_Meaning_nameOfTable x1 u h) gk_Meaning_74 dk_Meaning_nameOfTable rfl ⟨rfl, rfl⟩ ⟨Nat.le_of_ble_eq_true rfl, Nat.le_of_ble_eq_true rfl⟩ (rvW (q0 := 29) (ci := 4) E rfl rfl rfl) rfl (Nat.le_of_ble_eq_true rfl) d_Meaning_tableError_93 fun r4 _ => ?_
        refine Sm_cVi (As := [.int r4]) (b := (G.1 29)) (st := []) (n := 1) E exOk wC_as (fun _ h => cC_Meaning_tableCalled r4 u h) gk_Meaning_77 dk_Meaning_tableCalled rfl ⟨rfl, rfl⟩ ⟨Nat.le_of_ble_eq_true rfl, Nat.le_of_ble_eq_true rfl⟩ (rvW (q0 := 29) (ci := 4) E rfl rfl rfl) rfl (Nat.le_of_ble_eq_true rfl) d_Meaning_tableError_96 fun r5 _ => ?_
        refine Sm_iload_n E d_Meaning_tableError_99 rfl 2 rfl ?_
        refine Sm_icmp_ge (tgt := 105) E d_Meaning_tableError_100 (by decide) (fun _ => ?_) (fun _ => ?_)
        · refine Sm_aload_n E d_Meaning_tableError_105 rfl 1 rfl ?_
          refine gfC_29_lists E fl_Meaning_28 d_Meaning_tableError_106 ?_
          refine Sm_iconst (v := 3) E d_Meaning_tableError_109 (by decide) ?_
          refine Sm_iload_n E d_Meaning_tableError_110 rfl 0 rfl ?_
          refine Sm_cVV (As := [.int 3, .int r3]) (b := (G.1 24)) (st := []) (n := 2) E exOk wC_as (fun _ h => cC_Lists_add 3 r3 u h) gk_Meaning_80 dk_Lists_add rfl ⟨rfl, rfl⟩ ⟨Nat.le_of_ble_eq_true rfl, Nat.le_of_ble_eq_true rfl⟩ (rvW (q0 := 24) (ci := 3) E rfl rfl rfl) rfl (Nat.le_of_ble_eq_true rfl) d_Meaning_tableError_111 fun u6 _ => ?_
          refine Sm_iinc (k := 2) (d := 1) E d_Meaning_tableError_114 rfl rfl (by decide) fun y7 _ => Sm_lvs (lv' := [(1, .int y7), (2, .int r3), (0, .ref (G.1 29))]) rfl ?_
          refine Sm_goto (tgt := 49) E d_Meaning_tableError_117 (by decide) ?_
          exact Sm_sub [2, 0] rfl (h49 _ _)
        · refine Sm_iconst (v := 5) E d_Meaning_tableError_103 (by decide) ?_
          exact Sm_retI hR d_Meaning_tableError_104
      · refine Sm_iconst (v := 4) E d_Meaning_tableError_88 (by decide) ?_
        exact Sm_retI hR d_Meaning_tableError_89
set_option maxRecDepth 100000 in
set_option maxHeartbeats 4000000 in
theorem cC_Meaning_tableError {l : Launch} {D : va_G} {G : Gx} (u : St) {res : Int32 × St} (hm : mC_Meaning_tableError u = some res) : KC l D G y_Meaning_tableError (.code y_Meaning_tableError prog_4_method_3_code 3 (some .int)) { frames := 3, cells := 0, slots := 0, locals := 69 } [.ref (G.1 29)] u (qI D vwCl (wC G) (tyW G) (adsC G) res) := by
  refine Ct_I (by decide) wC_as (Nat.le_of_ble_eq_true rfl) hm (fun X _ _ E hR => ?_)
  refine Sm_lvs (lv' := [(0, .ref (G.1 29))]) rfl ?_
  rw [mC_Meaning_tableError]
  refine Sm_aload_n E d_Meaning_tableError_0 rfl 0 rfl ?_
  refine gfC_29_statement E fl_Meaning_32 d_Meaning_tableError_1 ?_
  refine gfC_27_tableName E fl_Meaning_49 d_Meaning_tableError_4 ?_
  refine Sm_if_lt (tgt := 47) E d_Meaning_tableError_7 (by decide) (fun _ => ?_) (fun _ => ?_)
  · refine Sm_iconst (v := 0) E d_Meaning_tableError_47 (by decide) ?_
    refine Sm_istore_n (lv' := [(1, .int 0), (0, .ref (G.1 29))]) E d_Meaning_tableError_48 rfl (by decide) rfl ?_
    exact Sm_sub [1, 0] rfl (tC_Meaning_tableError_L49 E hR FU _ _)
  · refine Sm_aload_n E d_Meaning_tableError_10 rfl 0 rfl ?_
    refine gfC_29_statement E fl_Meaning_32 d_Meaning_tableError_11 ?_
    refine Sm_aload_n E d_Meaning_tableError_14 rfl 0 rfl ?_
    refine gfC_29_catalog E fl_Meaning_9 d_Meaning_tableError_15 ?_
    refine Sm_aload_n E d_Meaning_tableError_18 rfl 0 rfl ?_
    refine gfC_29_text E fl_Meaning_21 d_Meaning_tableError_19 ?_
    refine Sm_aload_n E d_Meaning_tableError_22 rfl 0 rfl ?_
    refine gfC_29_statement E fl_Meaning_32 d_Meaning_tableError_23 ?_
    refine gfC_27_tableName E fl_Meaning_49 d_Meaning_tableError_26 ?_
    refine Sm_cVi (As := [.ref (G.1 11), .int (u.1 12)]) (b := (G.1 3)) (st := [.ref (G.1 27)]) (n := 2) E exOk wC_as (fun _ h => cC_Catalog_findTable_3_11 (u.1 12) u h) gk_Meaning_55 dk_Catalog_findTable rfl ⟨rfl, rfl⟩ ⟨Nat.le_of_ble_eq_true rfl, Nat.le_of_ble_eq_true rfl⟩ (rvW (q0 := 3) (ci := 2) E rfl rfl rfl) rfl (Nat.le_of_ble_eq_true rfl) d_Meaning_tableError_29 fun r8 _ => ?_
    refine pfC_27_table E fl_Meaning_61 d_Meaning_tableError_32 fun u9 _ => ?_
    refine Sm_aload_n E d_Meaning_tableError_35 rfl 0 rfl ?_
    refine gfC_29_statement E fl_Meaning_32 d_Meaning_tableError_36 ?_
    refine gfC_27_table E fl_Meaning_61 d_Meaning_tableError_39 ?_
    refine Sm_if_ge (tgt := 47) E d_Meaning_tableError_42 (by decide) (fun _ => ?_) (fun _ => ?_)
    · refine Sm_iconst (v := 0) E d_Meaning_tableError_47 (by decide) ?_
      refine Sm_istore_n (lv' := [(1, .int 0), (0, .ref (G.1 29))]) E d_Meaning_tableError_48 rfl (by decide) rfl ?_
      exact Sm_sub [1, 0] rfl (tC_Meaning_tableError_L49 E hR FU _ _)
    · refine Sm_iconst (v := 4) E d_Meaning_tableError_45 (by decide) ?_
      exact Sm_retI hR d_Meaning_tableError_46
set_option maxRecDepth 100000 in
set_option maxHeartbeats 4000000 in
theorem cC_Nodes_kindOf {l : Launch} {D : va_G} {G : Gx} (x1 : Int32) (u : St) {res : Int32} (hm : mC_Nodes_kindOf x1 u = some res) : KC l D G y_Nodes_kindOf (.code y_Nodes_kindOf prog_5_method_12_code 2 (some .int)) { frames := 0, cells := 0, slots := 0, locals := 0 } [.ref (G.1 14), .int x1] u (qI D vwCl (wC G) (tyW G) (adsC G) (res, u)) := by
  refine Ct_i (by decide) wC_as (Nat.le_of_ble_eq_true rfl) hm (fun X _ _ E hR => ?_)
  refine Sm_lvs (lv' := [(0, .ref (G.1 14)), (1, .int x1)]) rfl ?_
  rw [mC_Nodes_kindOf]
  refine Sm_iload_n E d_Nodes_kindOf_0 rfl 1 rfl ?_
  refine Sm_if_lt (tgt := 21) E d_Nodes_kindOf_1 (by decide) (fun _ => ?_) (fun _ => ?_)
  · refine Sm_iconst (v := (-1)) E d_Nodes_kindOf_21 (by decide) ?_
    exact Sm_reti hR d_Nodes_kindOf_22
  · refine Sm_iload_n E d_Nodes_kindOf_4 rfl 1 rfl ?_
    refine Sm_aload_n E d_Nodes_kindOf_5 rfl 0 rfl ?_
    refine gfC_14_size E fl_Nodes_39 d_Nodes_kindOf_6 ?_
    refine Sm_icmp_ge (tgt := 21) E d_Nodes_kindOf_9 (by decide) (fun _ => ?_) (fun _ => ?_)
    · refine Sm_iconst (v := (-1)) E d_Nodes_kindOf_21 (by decide) ?_
      exact Sm_reti hR d_Nodes_kindOf_22
    · refine Sm_aload_n E d_Nodes_kindOf_12 rfl 0 rfl ?_
      refine gfC_14_kinds E fl_Nodes_11 d_Nodes_kindOf_13 ?_
      refine Sm_iload_n E d_Nodes_kindOf_16 rfl 1 rfl ?_
      refine Sm_gd fun hi => ldC_15 E (inb_in hi) d_Nodes_kindOf_17 ?_
      refine Sm_goto (tgt := 22) E d_Nodes_kindOf_18 (by decide) ?_
      exact Sm_reti hR d_Nodes_kindOf_22
set_option maxRecDepth 100000 in
set_option maxHeartbeats 4000000 in
theorem cC_Nodes_qualifierOf {l : Launch} {D : va_G} {G : Gx} (x1 : Int32) (u : St) {res : Int32} (hm : mC_Nodes_qualifierOf x1 u = some res) : KC l D G y_Nodes_qualifierOf (.code y_Nodes_qualifierOf prog_5_method_20_code 2 (some .int)) { frames := 0, cells := 0, slots := 0, locals := 0 } [.ref (G.1 14), .int x1] u (qI D vwCl (wC G) (tyW G) (adsC G) (res, u)) := by
  refine Ct_i (by decide) wC_as (Nat.le_of_ble_eq_true rfl) hm (fun X _ _ E hR => ?_)
  refine Sm_lvs (lv' := [(0, .ref (G.1 14)), (1, .int x1)]) rfl ?_
  rw [mC_Nodes_qualifierOf]
  refine Sm_iload_n E d_Nodes_qualifierOf_0 rfl 1 rfl ?_
  refine Sm_if_lt (tgt := 21) E d_Nodes_qualifierOf_1 (by decide) (fun _ => ?_) (fun _ => ?_)
  · refine Sm_iconst (v := (-1)) E d_Nodes_qualifierOf_21 (by decide) ?_
    exact Sm_reti hR d_Nodes_qualifierOf_22
  · refine Sm_iload_n E d_Nodes_qualifierOf_4 rfl 1 rfl ?_
    refine Sm_aload_n E d_Nodes_qualifierOf_5 rfl 0 rfl ?_
    refine gfC_14_size E fl_Nodes_39 d_Nodes_qualifierOf_6 ?_
    refine Sm_icmp_ge (tgt := 21) E d_Nodes_qualifierOf_9 (by decide) (fun _ => ?_) (fun _ => ?_)
    · refine Sm_iconst (v := (-1)) E d_Nodes_qualifierOf_21 (by decide) ?_
      exact Sm_reti hR d_Nodes_qualifierOf_22
    · refine Sm_aload_n E d_Nodes_qualifierOf_12 rfl 0 rfl ?_
      refine gfC_14_qualifiers E fl_Nodes_36 d_Nodes_qualifierOf_13 ?_
      refine Sm_iload_n E d_Nodes_qualifierOf_16 rfl 1 rfl ?_
      refine Sm_gd fun hi => ldC_23 E (inb_in hi) d_Nodes_qualifierOf_17 ?_
      refine Sm_goto (tgt := 22) E d_Nodes_qualifierOf_18 (by decide) ?_
      exact Sm_reti hR d_Nodes_qualifierOf_22
set_option maxRecDepth 100000 in
set_option maxHeartbeats 4000000 in
theorem cC_Nodes_spanOf {l : Launch} {D : va_G} {G : Gx} (x1 : Int32) (u : St) {res : Int32} (hm : mC_Nodes_spanOf x1 u = some res) : KC l D G y_Nodes_spanOf (.code y_Nodes_spanOf prog_5_method_19_code 2 (some .int)) { frames := 0, cells := 0, slots := 0, locals := 0 } [.ref (G.1 14), .int x1] u (qI D vwCl (wC G) (tyW G) (adsC G) (res, u)) := by
  refine Ct_i (by decide) wC_as (Nat.le_of_ble_eq_true rfl) hm (fun X _ _ E hR => ?_)
  refine Sm_lvs (lv' := [(0, .ref (G.1 14)), (1, .int x1)]) rfl ?_
  rw [mC_Nodes_spanOf]
  refine Sm_iload_n E d_Nodes_spanOf_0 rfl 1 rfl ?_
  refine Sm_if_lt (tgt := 21) E d_Nodes_spanOf_1 (by decide) (fun _ => ?_) (fun _ => ?_)
  · refine Sm_iconst (v := (-1)) E d_Nodes_spanOf_21 (by decide) ?_
    exact Sm_reti hR d_Nodes_spanOf_22
  · refine Sm_iload_n E d_Nodes_spanOf_4 rfl 1 rfl ?_
    refine Sm_aload_n E d_Nodes_spanOf_5 rfl 0 rfl ?_
    refine gfC_14_size E fl_Nodes_39 d_Nodes_spanOf_6 ?_
    refine Sm_icmp_ge (tgt := 21) E d_Nodes_spanOf_9 (by decide) (fun _ => ?_) (fun _ => ?_)
    · refine Sm_iconst (v := (-1)) E d_Nodes_spanOf_21 (by decide) ?_
      exact Sm_reti hR d_Nodes_spanOf_22
    · refine Sm_aload_n E d_Nodes_spanOf_12 rfl 0 rfl ?_
      refine gfC_14_spans E fl_Nodes_33 d_Nodes_spanOf_13 ?_
      refine Sm_iload_n E d_Nodes_spanOf_16 rfl 1 rfl ?_
      refine Sm_gd fun hi => ldC_22 E (inb_in hi) d_Nodes_spanOf_17 ?_
      refine Sm_goto (tgt := 22) E d_Nodes_spanOf_18 (by decide) ?_
      exact Sm_reti hR d_Nodes_spanOf_22
set_option maxRecDepth 100000 in
set_option maxHeartbeats 4000000 in
theorem tC_Catalog_findColumn_3_11_L3 {X : Cx} {G : Gx} {res : Int32} {u : St} (E : EC X G prog_2_method_5_code R_Catalog 5 { frames := 2, cells := 0, slots := 0, locals := 46 }) (hR : RtI X vwCl (wC G) prog_2_method_5_code (res, u)) : ∀ (n : Nat) (x1 : Int32) (x3 : Int32) (x4 : Int32) , SC X G 5 res (mC_Catalog_findColumn_3_11_L3 n x1 x3 x4 u) u 3 [(0, .ref (G.1 3)), (1, .int x1), (2, .ref (G.1 11)), (3, .int x3), (4, .int x4)] [] := by
  intro n
  induction n with
  | zero => intro x1 x3 x4; exact Sm_none
  | succ n h3 =>
    intro x1 x3 x4
    rw [mC_Catalog_findColumn_3_11_L3]
    refine Sm_iload E d_Catalog_findColumn_3 4 rfl ?_
    refine Sm_aload_n E d_Catalog_findColumn_5 rfl 0 rfl ?_
    refine Sm_iload_n E d_Catalog_findColumn_6 rfl 1 rfl ?_
    refine Sm_cVi (As := [.int x1]) (b := (G.1 3)) (st := [.int x4]) (n := 1) E exOk wC_as (fun _ h => cC_Catalog_columnsOf x1 u h) gk_Catalog_67 dk_Catalog_columnsOf rfl ⟨rfl, rfl⟩ ⟨Nat.le_of_ble_eq_true rfl, Nat.le_of_ble_eq_true rfl⟩ (rvW (q0 := 3) (ci := 2) E rfl rfl rfl) rfl (Nat.le_of_ble_eq_true rfl) d_Catalog_findColumn_7 fun r1 _ => ?_
    refine Sm_icmp_ge (tgt := 46) E d_Catalog_findColumn_10 (by decide) (fun _ => ?_) (fun _ => ?_)
    · refine Sm_iconst (v := (-1)) E d_Catalog_findColumn_46 (by decide) ?_
      exact Sm_reti hR d_Catalog_findColumn_47
    · refine Sm_aload_n E d_Catalog_findColumn_13 rfl 0 rfl ?_
      refine gfC_3_names E fl_Catalog_12 d_Catalog_findColumn_14 ?_
      refine Sm_aload_n E d_Catalog_findColumn_17 rfl 0 rfl ?_
      refine gfC_3_columnNames E fl_Catalog_25 d_Catalog_findColumn_18 ?_
      refine Sm_iload_n E d_Catalog_findColumn_21 rfl 1 rfl ?_
      refine Sm_bipush (v := 8) E d_Catalog_findColumn_22 (by decide) ?_
      refine Sm_imul E d_Catalog_findColumn_24 ?_
      refine Sm_iload E d_Catalog_findColumn_25 4 rfl ?_
      refine Sm_iadd E d_Catalog_findColumn_27 ?_
      refine Sm_gd fun hi => ldC_8 E (inb_in hi) d_Catalog_findColumn_28 ?_
      refine Sm_aload_n E d_Catalog_findColumn_29 rfl 2 rfl ?_
      refine Sm_iload_n E d_Catalog_findColumn_30 rfl 3 rfl ?_
      refine Sm_cVi (As := [.int (ga u 4 ((x1 * 8) + x4)), .ref (G.1 11), .int x3]) (b := (G.1 4)) (st := []) (n := 3) E exOk wC_as (fun _ h => cC_Text_same_4_11 (ga u 4 ((x1 * 8) + x4)) x3 u h) gk_Catalog_63 dk_Text_same rfl ⟨rfl, rfl⟩ ⟨Nat.le_of_ble_eq_true rfl, Nat.le_of_ble_eq_true rfl⟩ (rvW (q0 := 4) (ci := 8) E rfl rfl rfl) rfl (Nat.le_of_ble_eq_true rfl) d_Catalog_findColumn_31 fun r2 _ => ?_
      refine Sm_if_eq (tgt := 40) E d_Catalog_findColumn_34 (by decide) (fun _ => ?_) (fun _ => ?_)
      · refine Sm_iinc (k := 4) (d := 1) E d_Catalog_findColumn_40 rfl rfl (by decide) fun y3 _ => Sm_lvs (lv' := [(4, .int y3), (0, .ref (G.1 3)), (1, .int x1), (2, .ref (G.1 11)), (3, .int x3)]) rfl ?_
        refine Sm_goto (tgt := 3) E d_Catalog_findColumn_43 (by decide) ?_
        exact Sm_sub [1, 2, 3, 4, 0] rfl (h3 _ _ _)
      · refine Sm_iload E d_Catalog_findColumn_37 4 rfl ?_
        exact Sm_reti hR d_Catalog_findColumn_39
set_option maxRecDepth 100000 in
set_option maxHeartbeats 4000000 in
theorem cC_Catalog_findColumn_3_11 {l : Launch} {D : va_G} {G : Gx} (x1 : Int32) (x3 : Int32) (u : St) {res : Int32} (hm : mC_Catalog_findColumn_3_11 x1 x3 u = some res) : KC l D G y_Catalog_findColumn (.code y_Catalog_findColumn prog_2_method_5_code 5 (some .int)) { frames := 2, cells := 0, slots := 0, locals := 46 } [.ref (G.1 3), .int x1, .ref (G.1 11), .int x3] u (qI D vwCl (wC G) (tyW G) (adsC G) (res, u)) := by
  refine Ct_i (by decide) wC_as (Nat.le_of_ble_eq_true rfl) hm (fun X _ _ E hR => ?_)
  refine Sm_lvs (lv' := [(0, .ref (G.1 3)), (1, .int x1), (2, .ref (G.1 11)), (3, .int x3)]) rfl ?_
  rw [mC_Catalog_findColumn_3_11]
  refine Sm_iconst (v := 0) E d_Catalog_findColumn_0 (by decide) ?_
  refine Sm_istore (lv' := [(4, .int 0), (0, .ref (G.1 3)), (1, .int x1), (2, .ref (G.1 11)), (3, .int x3)]) E d_Catalog_findColumn_1 (by decide) rfl ?_
  exact Sm_sub [1, 2, 3, 4, 0] rfl (tC_Catalog_findColumn_3_11_L3 E hR FU _ _ _)
set_option maxRecDepth 100000 in
set_option maxHeartbeats 4000000 in
theorem cC_Nodes_putPlace {l : Launch} {D : va_G} {G : Gx} (x1 : Int32) (x2 : Int32) (x3 : Int32) (u : St) {res : St} (hm : mC_Nodes_putPlace x1 x2 x3 u = some res) : KC l D G y_Nodes_putPlace (.code y_Nodes_putPlace prog_5_method_24_code 4 none) { frames := 0, cells := 0, slots := 0, locals := 0 } [.ref (G.1 14), .int x1, .int x2, .int x3] u (qV D vwCl (wC G) (tyW G) (adsC G) res) := by
  refine Ct_V (by decide) wC_as (Nat.le_of_ble_eq_true rfl) hm (fun X _ _ E hR => ?_)
  refine Sm_lvs (lv' := [(0, .ref (G.1 14)), (1, .int x1), (2, .int x2), (3, .int x3)]) rfl ?_
  rw [mC_Nodes_putPlace]
  refine Sm_iload_n E d_Nodes_putPlace_0 rfl 1 rfl ?_
  refine Sm_if_lt (tgt := 26) E d_Nodes_putPlace_1 (by decide) (fun _ => ?_) (fun _ => ?_)
  · exact Sm_retV hR d_Nodes_putPlace_26
  · refine Sm_iload_n E d_Nodes_putPlace_4 rfl 1 rfl ?_
    refine Sm_aload_n E d_Nodes_putPlace_5 rfl 0 rfl ?_
    refine gfC_14_size E fl_Nodes_39 d_Nodes_putPlace_6 ?_
    refine Sm_icmp_ge (tgt := 26) E d_Nodes_putPlace_9 (by decide) (fun _ => ?_) (fun _ => ?_)
    · exact Sm_retV hR d_Nodes_putPlace_26
    · refine Sm_aload_n E d_Nodes_putPlace_12 rfl 0 rfl ?_
      refine gfC_14_firsts E fl_Nodes_15 d_Nodes_putPlace_13 ?_
      refine Sm_iload_n E d_Nodes_putPlace_16 rfl 1 rfl ?_
      refine Sm_iload_n E d_Nodes_putPlace_17 rfl 2 rfl ?_
      refine Sm_gd fun hi => stC_16 E (inb_in hi) d_Nodes_putPlace_18 fun u1 _ => ?_
      refine Sm_aload_n E d_Nodes_putPlace_19 rfl 0 rfl ?_
      refine gfC_14_seconds E fl_Nodes_18 d_Nodes_putPlace_20 ?_
      refine Sm_iload_n E d_Nodes_putPlace_23 rfl 1 rfl ?_
      refine Sm_iload_n E d_Nodes_putPlace_24 rfl 3 rfl ?_
      refine Sm_gd fun hi => stC_17 E (inb_in hi) d_Nodes_putPlace_25 fun u2 _ => ?_
      exact Sm_retV hR d_Nodes_putPlace_26
set_option maxRecDepth 100000 in
set_option maxHeartbeats 4000000 in
theorem tC_Catalog_typeOf_J18 {X : Cx} {G : Gx} {res : Int32} {u : St} (E : EC X G prog_2_method_7_code R_Catalog 4 { frames := 2, cells := 0, slots := 0, locals := 42 }) (hR : RtI X vwCl (wC G) prog_2_method_7_code (res, u)) : ∀ (x1 : Int32) (x2 : Int32) (s0 : Int32) , SC X G 4 res (mC_Catalog_typeOf_J18 x1 x2 s0 u) u 18 [(0, .ref (G.1 3)), (1, .int x1), (2, .int x2)] [.int s0] := by
  intro x1 x2 s0
  rw [mC_Catalog_typeOf_J18]
  refine Sm_istore_n (lv' := [(3, .int s0), (0, .ref (G.1 3)), (1, .int x1), (2, .int x2)]) E d_Catalog_typeOf_18 rfl (by decide) rfl ?_
  refine Sm_iload_n E d_Catalog_typeOf_19 rfl 0 rfl ?_
  refine Sm_if_eq (tgt := 37) E d_Catalog_typeOf_20 (by decide) (fun _ => ?_) (fun _ => ?_)
  · refine Sm_iconst (v := 0) E d_Catalog_typeOf_37 (by decide) ?_
    exact Sm_reti hR d_Catalog_typeOf_38
  · refine Sm_aload_n E d_Catalog_typeOf_23 rfl 1 rfl ?_
    refine gfC_3_columnTypes E fl_Catalog_28 d_Catalog_typeOf_24 ?_
    refine Sm_iload_n E d_Catalog_typeOf_27 rfl 2 rfl ?_
    refine Sm_bipush (v := 8) E d_Catalog_typeOf_28 (by decide) ?_
    refine Sm_imul E d_Catalog_typeOf_30 ?_
    refine Sm_iload_n E d_Catalog_typeOf_31 rfl 3 rfl ?_
    refine Sm_iadd E d_Catalog_typeOf_32 ?_
    refine Sm_gd fun hi => ldC_9 E (inb_in hi) d_Catalog_typeOf_33 ?_
    refine Sm_goto (tgt := 38) E d_Catalog_typeOf_34 (by decide) ?_
    exact Sm_reti hR d_Catalog_typeOf_38
set_option maxRecDepth 100000 in
set_option maxHeartbeats 4000000 in
theorem cC_Catalog_typeOf {l : Launch} {D : va_G} {G : Gx} (x1 : Int32) (x2 : Int32) (u : St) {res : Int32} (hm : mC_Catalog_typeOf x1 x2 u = some res) : KC l D G y_Catalog_typeOf (.code y_Catalog_typeOf prog_2_method_7_code 4 (some .int)) { frames := 2, cells := 0, slots := 0, locals := 42 } [.ref (G.1 3), .int x1, .int x2] u (qI D vwCl (wC G) (tyW G) (adsC G) (res, u)) := by
  refine Ct_i (by decide) wC_as (Nat.le_of_ble_eq_true rfl) hm (fun X _ _ E hR => ?_)
  refine Sm_lvs (lv' := [(0, .ref (G.1 3)), (1, .int x1), (2, .int x2)]) rfl ?_
  rw [mC_Catalog_typeOf]
  refine Sm_iload_n E d_Catalog_typeOf_0 rfl 2 rfl ?_
  refine Sm_if_lt (tgt := 17) E d_Catalog_typeOf_1 (by decide) (fun _ => ?_) (fun _ => ?_)
  · refine Sm_iconst (v := 0) E d_Catalog_typeOf_17 (by decide) ?_
    exact Sm_sub [0, 1, 2] rfl (tC_Catalog_typeOf_J18 E hR _ _ _)
  · refine Sm_iload_n E d_Catalog_typeOf_4 rfl 2 rfl ?_
    refine Sm_aload_n E d_Catalog_typeOf_5 rfl 0 rfl ?_
    refine Sm_iload_n E d_Catalog_typeOf_6 rfl 1 rfl ?_
    refine Sm_cVi (As := [.int x1]) (b := (G.1 3)) (st := [.int x2]) (n := 1) E exOk wC_as (fun _ h => cC_Catalog_columnsOf x1 u h) gk_Catalog_67 dk_Catalog_columnsOf rfl ⟨rfl, rfl⟩ ⟨Nat.le_of_ble_eq_true rfl, Nat.le_of_ble_eq_true rfl⟩ (rvW (q0 := 3) (ci := 2) E rfl rfl rfl) rfl (Nat.le_of_ble_eq_true rfl) d_Catalog_typeOf_7 fun r1 _ => ?_
    refine Sm_icmp_ge (tgt := 17) E d_Catalog_typeOf_10 (by decide) (fun _ => ?_) (fun _ => ?_)
    · refine Sm_iconst (v := 0) E d_Catalog_typeOf_17 (by decide) ?_
      exact Sm_sub [0, 1, 2] rfl (tC_Catalog_typeOf_J18 E hR _ _ _)
    · refine Sm_iconst (v := 1) E d_Catalog_typeOf_13 (by decide) ?_
      refine Sm_goto (tgt := 18) E d_Catalog_typeOf_14 (by decide) ?_
      exact Sm_sub [0, 1, 2] rfl (tC_Catalog_typeOf_J18 E hR _ _ _)
set_option maxRecDepth 100000 in
set_option maxHeartbeats 4000000 in
theorem cC_Nodes_putType {l : Launch} {D : va_G} {G : Gx} (x1 : Int32) (x2 : Int32) (u : St) {res : St} (hm : mC_Nodes_putType x1 x2 u = some res) : KC l D G y_Nodes_putType (.code y_Nodes_putType prog_5_method_21_code 3 none) { frames := 0, cells := 0, slots := 0, locals := 0 } [.ref (G.1 14), .int x1, .int x2] u (qV D vwCl (wC G) (tyW G) (adsC G) res) := by
  refine Ct_V (by decide) wC_as (Nat.le_of_ble_eq_true rfl) hm (fun X _ _ E hR => ?_)
  refine Sm_lvs (lv' := [(0, .ref (G.1 14)), (1, .int x1), (2, .int x2)]) rfl ?_
  rw [mC_Nodes_putType]
  refine Sm_iload_n E d_Nodes_putType_0 rfl 1 rfl ?_
  refine Sm_if_lt (tgt := 19) E d_Nodes_putType_1 (by decide) (fun _ => ?_) (fun _ => ?_)
  · exact Sm_retV hR d_Nodes_putType_19
  · refine Sm_iload_n E d_Nodes_putType_4 rfl 1 rfl ?_
    refine Sm_aload_n E d_Nodes_putType_5 rfl 0 rfl ?_
    refine gfC_14_size E fl_Nodes_39 d_Nodes_putType_6 ?_
    refine Sm_icmp_ge (tgt := 19) E d_Nodes_putType_9 (by decide) (fun _ => ?_) (fun _ => ?_)
    · exact Sm_retV hR d_Nodes_putType_19
    · refine Sm_aload_n E d_Nodes_putType_12 rfl 0 rfl ?_
      refine gfC_14_types E fl_Nodes_21 d_Nodes_putType_13 ?_
      refine Sm_iload_n E d_Nodes_putType_16 rfl 1 rfl ?_
      refine Sm_iload_n E d_Nodes_putType_17 rfl 2 rfl ?_
      refine Sm_gd fun hi => stC_18 E (inb_in hi) d_Nodes_putType_18 fun u1 _ => ?_
      exact Sm_retV hR d_Nodes_putType_19
set_option maxRecDepth 100000 in
set_option maxHeartbeats 4000000 in
theorem tC_Meaning_findPlace_J97 {X : Cx} {G : Gx} {res : Int32 × St} (E : EC X G prog_4_method_8_code R_Meaning 9 { frames := 3, cells := 0, slots := 0, locals := 70 }) (hR : RtI X vwCl (wC G) prog_4_method_8_code res) {q39 : Int32 → Int32 → Int32 → Int32 → Int32 → St → Option (Int32 × St)} (h39 : ∀ (x1 : Int32) (x2 : Int32) (x4 : Int32) (x5 : Int32) (x6 : Int32) (u : St), SC X G 9 res (q39 x1 x2 x4 x5 x6 u) u 39 [(0, .ref (G.1 29)), (1, .int x1), (2, .int x2), (4, .int x4), (5, .int x5), (6, .int x6)] []) : ∀ (x1 : Int32) (x2 : Int32) (x4 : Int32) (x5 : Int32) (x6 : Int32) (x7 : Int32) (x8 : Int32) (u : St), SC X G 9 res (mC_Meaning_findPlace_J97 q39 x1 x2 x4 x5 x6 x7 x8 u) u 97 [(0, .ref (G.1 29)), (1, .int x1), (2, .int x2), (4, .int x4), (5, .int x5), (6, .int x6), (7, .int x7), (8, .int x8)] [] := by
  intro x1 x2 x4 x5 x6 x7 x8 u
  rw [mC_Meaning_findPlace_J97]
  refine Sm_aload_n E d_Meaning_findPlace_97 rfl 0 rfl ?_
  refine gfC_29_nodes E fl_Meaning_24 d_Meaning_findPlace_98 ?_
  refine Sm_iload_n E d_Meaning_findPlace_101 rfl 1 rfl ?_
  refine Sm_iload E d_Meaning_findPlace_102 5 rfl ?_
  refine Sm_iload E d_Meaning_findPlace_104 7 rfl ?_
  refine Sm_cVV (As := [.int x1, .int x6, .int x8]) (b := (G.1 14)) (st := []) (n := 3) E exOk wC_as (fun _ h => cC_Nodes_putPlace x1 x6 x8 u h) gk_Meaning_147 dk_Nodes_putPlace rfl ⟨rfl, rfl⟩ ⟨Nat.le_of_ble_eq_true rfl, Nat.le_of_ble_eq_true rfl⟩ (rvW (q0 := 14) (ci := 5) E rfl rfl rfl) rfl (Nat.le_of_ble_eq_true rfl) d_Meaning_findPlace_106 fun u8 _ => ?_
  refine Sm_aload_n E d_Meaning_findPlace_109 rfl 0 rfl ?_
  refine gfC_29_nodes E fl_Meaning_24 d_Meaning_findPlace_110 ?_
  refine Sm_iload_n E d_Meaning_findPlace_113 rfl 1 rfl ?_
  refine Sm_aload_n E d_Meaning_findPlace_114 rfl 0 rfl ?_
  refine gfC_29_catalog E fl_Meaning_9 d_Meaning_findPlace_115 ?_
  refine Sm_iload E d_Meaning_findPlace_118 6 rfl ?_
  refine Sm_iload E d_Meaning_findPlace_120 7 rfl ?_
  refine Sm_cVi (As := [.int x7, .int x8]) (b := (G.1 3)) (st := [.int x1, .ref (G.1 14)]) (n := 2) E exOk wC_as (fun _ h => cC_Catalog_typeOf x7 x8 u8 h) gk_Meaning_151 dk_Catalog_typeOf rfl ⟨rfl, rfl⟩ ⟨Nat.le_of_ble_eq_true rfl, Nat.le_of_ble_eq_true rfl⟩ (rvW (q0 := 3) (ci := 2) E rfl rfl rfl) rfl (Nat.le_of_ble_eq_true rfl) d_Meaning_findPlace_122 fun r9 _ => ?_
  refine Sm_cVV (As := [.int x1, .int r9]) (b := (G.1 14)) (st := []) (n := 2) E exOk wC_as (fun _ h => cC_Nodes_putType x1 r9 u8 h) gk_Meaning_154 dk_Nodes_putType rfl ⟨rfl, rfl⟩ ⟨Nat.le_of_ble_eq_true rfl, Nat.le_of_ble_eq_true rfl⟩ (rvW (q0 := 14) (ci := 5) E rfl rfl rfl) rfl (Nat.le_of_ble_eq_true rfl) d_Meaning_findPlace_125 fun u10 _ => ?_
  refine Sm_iinc (k := 4) (d := 1) E d_Meaning_findPlace_128 rfl rfl (by decide) fun y11 _ => Sm_lvs (lv' := [(5, .int y11), (0, .ref (G.1 29)), (1, .int x1), (2, .int x2), (4, .int x4), (6, .int x6), (7, .int x7), (8, .int x8)]) rfl ?_
  refine Sm_iinc (k := 5) (d := 1) E d_Meaning_findPlace_131 rfl rfl (by decide) fun y12 _ => Sm_lvs (lv' := [(6, .int y12), (5, .int y11), (0, .ref (G.1 29)), (1, .int x1), (2, .int x2), (4, .int x4), (7, .int x7), (8, .int x8)]) rfl ?_
  refine Sm_goto (tgt := 39) E d_Meaning_findPlace_134 (by decide) ?_
  exact Sm_sub [2, 3, 4, 5, 1, 0] rfl (h39 _ _ _ _ _ _)
set_option maxRecDepth 100000 in
set_option maxHeartbeats 4000000 in
theorem tC_Meaning_findPlace_L39 {X : Cx} {G : Gx} {res : Int32 × St} (E : EC X G prog_4_method_8_code R_Meaning 9 { frames := 3, cells := 0, slots := 0, locals := 70 }) (hR : RtI X vwCl (wC G) prog_4_method_8_code res) : ∀ (n : Nat) (x1 : Int32) (x2 : Int32) (x4 : Int32) (x5 : Int32) (x6 : Int32) (u : St), SC X G 9 res (mC_Meaning_findPlace_L39 n x1 x2 x4 x5 x6 u) u 39 [(0, .ref (G.1 29)), (1, .int x1), (2, .int x2), (4, .int x4), (5, .int x5), (6, .int x6)] [] := by
  intro n
  induction n with
  | zero => intro x1 x2 x4 x5 x6 u; exact Sm_none
  | succ n h39 =>
    intro x1 x2 x4 x5 x6 u
    rw [mC_Meaning_findPlace_L39]
    refine Sm_iload E d_Meaning_findPlace_39 5 rfl ?_
    refine Sm_iload_n E d_Meaning_findPlace_41 rfl 2 rfl ?_
    refine Sm_icmp_ge (tgt := 137) E d_Meaning_findPlace_42 (by decide) (fun _ => ?_) (fun _ => ?_)
    · refine Sm_iload E d_Meaning_findPlace_137 3 rfl ?_
      refine Sm_iload_n E d_Meaning_findPlace_139 rfl 2 rfl ?_
      refine Sm_icmp_lt (tgt := 145) E d_Meaning_findPlace_140 (by decide) (fun _ => ?_) (fun _ => ?_)
      · refine Sm_iload E d_Meaning_findPlace_145 4 rfl ?_
        refine Sm_if_ne (tgt := 155) E d_Meaning_findPlace_147 (by decide) (fun _ => ?_) (fun _ => ?_)
        · refine Sm_iload E d_Meaning_findPlace_155 4 rfl ?_
          refine Sm_iconst (v := 1) E d_Meaning_findPlace_157 (by decide) ?_
          refine Sm_icmp_le (tgt := 166) E d_Meaning_findPlace_158 (by decide) (fun _ => ?_) (fun _ => ?_)
          · refine Sm_iconst (v := 0) E d_Meaning_findPlace_166 (by decide) ?_
            exact Sm_retI hR d_Meaning_findPlace_167
          · refine Sm_bipush (v := 7) E d_Meaning_findPlace_161 (by decide) ?_
            refine Sm_goto (tgt := 167) E d_Meaning_findPlace_163 (by decide) ?_
            exact Sm_retI hR d_Meaning_findPlace_167
        · refine Sm_bipush (v := 6) E d_Meaning_findPlace_150 (by decide) ?_
          refine Sm_goto (tgt := 167) E d_Meaning_findPlace_152 (by decide) ?_
          exact Sm_retI hR d_Meaning_findPlace_167
      · refine Sm_iconst (v := 4) E d_Meaning_findPlace_143 (by decide) ?_
        exact Sm_retI hR d_Meaning_findPlace_144
    · refine Sm_aload_n E d_Meaning_findPlace_45 rfl 0 rfl ?_
      refine gfC_29_lists E fl_Meaning_28 d_Meaning_findPlace_46 ?_
      refine Sm_iconst (v := 3) E d_Meaning_findPlace_49 (by decide) ?_
      refine Sm_iload E d_Meaning_findPlace_50 5 rfl ?_
      refine Sm_cVi (As := [.int 3, .int x6]) (b := (G.1 24)) (st := []) (n := 2) E exOk wC_as (fun _ h => cC_Lists_at 3 x6 u h) gk_Meaning_70 dk_Lists_at rfl ⟨rfl, rfl⟩ ⟨Nat.le_of_ble_eq_true rfl, Nat.le_of_ble_eq_true rfl⟩ (rvW (q0 := 24) (ci := 3) E rfl rfl rfl) rfl (Nat.le_of_ble_eq_true rfl) d_Meaning_findPlace_52 fun r4 _ => ?_
      refine Sm_istore (lv' := [(7, .int r4), (0, .ref (G.1 29)), (1, .int x1), (2, .int x2), (4, .int x4), (5, .int x5), (6, .int x6)]) E d_Meaning_findPlace_55 (by decide) rfl ?_
      refine Sm_aload_n E d_Meaning_findPlace_57 rfl 1 rfl ?_
      refine gfC_29_catalog E fl_Meaning_9 d_Meaning_findPlace_58 ?_
      refine Sm_iload E d_Meaning_findPlace_61 0 rfl ?_
      refine Sm_aload_n E d_Meaning_findPlace_63 rfl 1 rfl ?_
      refine gfC_29_text E fl_Meaning_21 d_Meaning_findPlace_64 ?_
      refine Sm_aload_n E d_Meaning_findPlace_67 rfl 1 rfl ?_
      refine gfC_29_nodes E fl_Meaning_24 d_Meaning_findPlace_68 ?_
      refine Sm_iload_n E d_Meaning_findPlace_71 rfl 2 rfl ?_
      refine Sm_cVi (As := [.int x1]) (b := (G.1 14)) (st := [.ref (G.1 11), .int r4, .ref (G.1 3)]) (n := 1) E exOk wC_as (fun _ h => cC_Nodes_spanOf x1 u h) gk_Meaning_140 dk_Nodes_spanOf rfl ⟨rfl, rfl⟩ ⟨Nat.le_of_ble_eq_true rfl, Nat.le_of_ble_eq_true rfl⟩ (rvW (q0 := 14) (ci := 5) E rfl rfl rfl) rfl (Nat.le_of_ble_eq_true rfl) d_Meaning_findPlace_72 fun r5 _ => ?_
      refine Sm_cVi (As := [.int r4, .ref (G.1 11), .int r5]) (b := (G.1 3)) (st := []) (n := 3) E exOk wC_as (fun _ h => cC_Catalog_findColumn_3_11 r4 r5 u h) gk_Meaning_143 dk_Catalog_findColumn rfl ⟨rfl, rfl⟩ ⟨Nat.le_of_ble_eq_true rfl, Nat.le_of_ble_eq_true rfl⟩ (rvW (q0 := 3) (ci := 2) E rfl rfl rfl) rfl (Nat.le_of_ble_eq_true rfl) d_Meaning_findPlace_75 fun r6 _ => ?_
      refine Sm_istore (lv' := [(8, .int r6), (7, .int r4), (0, .ref (G.1 29)), (1, .int x1), (2, .int x2), (4, .int x4), (5, .int x5), (6, .int x6)]) E d_Meaning_findPlace_78 (by decide) rfl ?_
      refine Sm_iload E d_Meaning_findPlace_80 0 rfl ?_
      refine Sm_if_lt (tgt := 131) E d_Meaning_findPlace_82 (by decide) (fun _ => ?_) (fun _ => ?_)
      · refine Sm_iinc (k := 7) (d := 1) E d_Meaning_findPlace_131 rfl rfl (by decide) fun y7 _ => Sm_lvs (lv' := [(6, .int y7), (8, .int r6), (7, .int r4), (0, .ref (G.1 29)), (1, .int x1), (2, .int x2), (4, .int x4), (5, .int x5)]) rfl ?_
        refine Sm_goto (tgt := 39) E d_Meaning_findPlace_134 (by decide) ?_
        exact Sm_sub [3, 4, 5, 6, 7, 0] rfl (h39 _ _ _ _ _ _)
      · refine Sm_iload E d_Meaning_findPlace_85 5 rfl ?_
        refine Sm_if_lt (tgt := 97) E d_Meaning_findPlace_87 (by decide) (fun _ => ?_) (fun _ => ?_)
        · exact Sm_sub [2, 3, 4, 5, 6, 7, 1, 0] rfl (tC_Meaning_findPlace_J97 E hR h39 _ _ _ _ _ _ _ _)
        · refine Sm_iload E d_Meaning_findPlace_90 5 rfl ?_
          refine Sm_iload E d_Meaning_findPlace_92 7 rfl ?_
          refine Sm_icmp_ne (tgt := 131) E d_Meaning_findPlace_94 (by decide) (fun _ => ?_) (fun _ => ?_)
          · refine Sm_iinc (k := 7) (d := 1) E d_Meaning_findPlace_131 rfl rfl (by decide) fun y13 _ => Sm_lvs (lv' := [(6, .int y13), (8, .int r6), (7, .int r4), (0, .ref (G.1 29)), (1, .int x1), (2, .int x2), (4, .int x4), (5, .int x5)]) rfl ?_
            refine Sm_goto (tgt := 39) E d_Meaning_findPlace_134 (by decide) ?_
            exact Sm_sub [3, 4, 5, 6, 7, 0] rfl (h39 _ _ _ _ _ _)
          · exact Sm_sub [2, 3, 4, 5, 6, 7, 1, 0] rfl (tC_Meaning_findPlace_J97 E hR h39 _ _ _ _ _ _ _ _)
set_option maxRecDepth 100000 in
set_option maxHeartbeats 4000000 in
theorem cC_Meaning_findPlace {l : Launch} {D : va_G} {G : Gx} (x1 : Int32) (u : St) {res : Int32 × St} (hm : mC_Meaning_findPlace x1 u = some res) : KC l D G y_Meaning_findPlace (.code y_Meaning_findPlace prog_4_method_8_code 9 (some .int)) { frames := 3, cells := 0, slots := 0, locals := 70 } [.ref (G.1 29), .int x1] u (qI D vwCl (wC G) (tyW G) (adsC G) res) := by
  refine Ct_I (by decide) wC_as (Nat.le_of_ble_eq_true rfl) hm (fun X _ _ E hR => ?_)
  refine Sm_lvs (lv' := [(0, .ref (G.1 29)), (1, .int x1)]) rfl ?_
  rw [mC_Meaning_findPlace]
  refine Sm_aload_n E d_Meaning_findPlace_0 rfl 0 rfl ?_
  refine gfC_29_lists E fl_Meaning_28 d_Meaning_findPlace_1 ?_
  refine Sm_iconst (v := 3) E d_Meaning_findPlace_4 (by decide) ?_
  refine Sm_cVi (As := [.int 3]) (b := (G.1 24)) (st := []) (n := 1) E exOk wC_as (fun _ h => cC_Lists_size 3 u h) gk_Meaning_66 dk_Lists_size rfl ⟨rfl, rfl⟩ ⟨Nat.le_of_ble_eq_true rfl, Nat.le_of_ble_eq_true rfl⟩ (rvW (q0 := 24) (ci := 3) E rfl rfl rfl) rfl (Nat.le_of_ble_eq_true rfl) d_Meaning_findPlace_5 fun r1 _ => ?_
  refine Sm_istore_n (lv' := [(2, .int r1), (0, .ref (G.1 29)), (1, .int x1)]) E d_Meaning_findPlace_8 rfl (by decide) rfl ?_
  refine Sm_aload_n E d_Meaning_findPlace_9 rfl 1 rfl ?_
  refine gfC_29_nodes E fl_Meaning_24 d_Meaning_findPlace_10 ?_
  refine Sm_iload_n E d_Meaning_findPlace_13 rfl 2 rfl ?_
  refine Sm_cVi (As := [.int x1]) (b := (G.1 14)) (st := []) (n := 1) E exOk wC_as (fun _ h => cC_Nodes_qualifierOf x1 u h) gk_Meaning_137 dk_Nodes_qualifierOf rfl ⟨rfl, rfl⟩ ⟨Nat.le_of_ble_eq_true rfl, Nat.le_of_ble_eq_true rfl⟩ (rvW (q0 := 14) (ci := 5) E rfl rfl rfl) rfl (Nat.le_of_ble_eq_true rfl) d_Meaning_findPlace_14 fun r2 _ => ?_
  refine Sm_istore_n (lv' := [(3, .int r2), (2, .int r1), (0, .ref (G.1 29)), (1, .int x1)]) E d_Meaning_findPlace_17 rfl (by decide) rfl ?_
  refine Sm_iload_n E d_Meaning_findPlace_18 rfl 0 rfl ?_
  refine Sm_if_ge (tgt := 26) E d_Meaning_findPlace_19 (by decide) (fun _ => ?_) (fun _ => ?_)
  · refine Sm_aload_n E d_Meaning_findPlace_26 rfl 2 rfl ?_
    refine Sm_iload_n E d_Meaning_findPlace_27 rfl 0 rfl ?_
    refine Sm_cVi (As := [.int r2]) (b := (G.1 29)) (st := []) (n := 1) E exOk wC_as (fun _ h => cC_Meaning_tableCalled r2 u h) gk_Meaning_77 dk_Meaning_tableCalled rfl ⟨rfl, rfl⟩ ⟨Nat.le_of_ble_eq_true rfl, Nat.le_of_ble_eq_true rfl⟩ (rvW (q0 := 29) (ci := 4) E rfl rfl rfl) rfl (Nat.le_of_ble_eq_true rfl) d_Meaning_findPlace_28 fun r3 _ => ?_
    refine Sm_istore (lv' := [(4, .int r3), (3, .int r2), (2, .int r1), (0, .ref (G.1 29)), (1, .int x1)]) E d_Meaning_findPlace_31 (by decide) rfl ?_
    refine Sm_iconst (v := 0) E d_Meaning_findPlace_33 (by decide) ?_
    refine Sm_istore (lv' := [(5, .int 0), (4, .int r3), (3, .int r2), (2, .int r1), (0, .ref (G.1 29)), (1, .int x1)]) E d_Meaning_findPlace_34 (by decide) rfl ?_
    refine Sm_iconst (v := 0) E d_Meaning_findPlace_36 (by decide) ?_
    refine Sm_istore (lv' := [(6, .int 0), (5, .int 0), (4, .int r3), (3, .int r2), (2, .int r1), (0, .ref (G.1 29)), (1, .int x1)]) E d_Meaning_findPlace_37 (by decide) rfl ?_
    exact Sm_sub [5, 6, 4, 2, 1, 0] rfl (tC_Meaning_findPlace_L39 E hR FU _ _ _ _ _ _)
  · refine Sm_iconst (v := (-1)) E d_Meaning_findPlace_22 (by decide) ?_
    refine Sm_goto (tgt := 31) E d_Meaning_findPlace_23 (by decide) ?_
    refine Sm_istore (lv' := [(4, .int (-1)), (3, .int r2), (2, .int r1), (0, .ref (G.1 29)), (1, .int x1)]) E d_Meaning_findPlace_31 (by decide) rfl ?_
    refine Sm_iconst (v := 0) E d_Meaning_findPlace_33 (by decide) ?_
    refine Sm_istore (lv' := [(5, .int 0), (4, .int (-1)), (3, .int r2), (2, .int r1), (0, .ref (G.1 29)), (1, .int x1)]) E d_Meaning_findPlace_34 (by decide) rfl ?_
    refine Sm_iconst (v := 0) E d_Meaning_findPlace_36 (by decide) ?_
    refine Sm_istore (lv' := [(6, .int 0), (5, .int 0), (4, .int (-1)), (3, .int r2), (2, .int r1), (0, .ref (G.1 29)), (1, .int x1)]) E d_Meaning_findPlace_37 (by decide) rfl ?_
    exact Sm_sub [5, 6, 4, 2, 1, 0] rfl (tC_Meaning_findPlace_L39 E hR FU _ _ _ _ _ _)
set_option maxRecDepth 100000 in
set_option maxHeartbeats 4000000 in
theorem cC_Nodes_putFault {l : Launch} {D : va_G} {G : Gx} (x1 : Int32) (x2 : Int32) (u : St) {res : St} (hm : mC_Nodes_putFault x1 x2 u = some res) : KC l D G y_Nodes_putFault (.code y_Nodes_putFault prog_5_method_23_code 3 none) { frames := 0, cells := 0, slots := 0, locals := 0 } [.ref (G.1 14), .int x1, .int x2] u (qV D vwCl (wC G) (tyW G) (adsC G) res) := by
  refine Ct_V (by decide) wC_as (Nat.le_of_ble_eq_true rfl) hm (fun X _ _ E hR => ?_)
  refine Sm_lvs (lv' := [(0, .ref (G.1 14)), (1, .int x1), (2, .int x2)]) rfl ?_
  rw [mC_Nodes_putFault]
  refine Sm_iload_n E d_Nodes_putFault_0 rfl 1 rfl ?_
  refine Sm_if_lt (tgt := 19) E d_Nodes_putFault_1 (by decide) (fun _ => ?_) (fun _ => ?_)
  · exact Sm_retV hR d_Nodes_putFault_19
  · refine Sm_iload_n E d_Nodes_putFault_4 rfl 1 rfl ?_
    refine Sm_aload_n E d_Nodes_putFault_5 rfl 0 rfl ?_
    refine gfC_14_size E fl_Nodes_39 d_Nodes_putFault_6 ?_
    refine Sm_icmp_ge (tgt := 19) E d_Nodes_putFault_9 (by decide) (fun _ => ?_) (fun _ => ?_)
    · exact Sm_retV hR d_Nodes_putFault_19
    · refine Sm_aload_n E d_Nodes_putFault_12 rfl 0 rfl ?_
      refine gfC_14_faults E fl_Nodes_30 d_Nodes_putFault_13 ?_
      refine Sm_iload_n E d_Nodes_putFault_16 rfl 1 rfl ?_
      refine Sm_iload_n E d_Nodes_putFault_17 rfl 2 rfl ?_
      refine Sm_gd fun hi => stC_21 E (inb_in hi) d_Nodes_putFault_18 fun u1 _ => ?_
      exact Sm_retV hR d_Nodes_putFault_19
set_option maxRecDepth 100000 in
set_option maxHeartbeats 4000000 in
theorem tC_Meaning_findPlaces_L2 {X : Cx} {G : Gx} {res : St} (E : EC X G prog_4_method_7_code R_Meaning 2 { frames := 4, cells := 0, slots := 0, locals := 98 }) (hR : RtV X vwCl (wC G) prog_4_method_7_code res) : ∀ (n : Nat) (x1 : Int32) (u : St), SC X G 2 res (mC_Meaning_findPlaces_L2 n x1 u) u 2 [(0, .ref (G.1 29)), (1, .int x1)] [] := by
  intro n
  induction n with
  | zero => intro x1 u; exact Sm_none
  | succ n h2 =>
    intro x1 u
    rw [mC_Meaning_findPlaces_L2]
    refine Sm_iload_n E d_Meaning_findPlaces_2 rfl 1 rfl ?_
    refine Sm_aload_n E d_Meaning_findPlaces_3 rfl 0 rfl ?_
    refine gfC_29_nodes E fl_Meaning_24 d_Meaning_findPlaces_4 ?_
    refine Sm_cVi (As := []) (b := (G.1 14)) (st := [.int x1]) (n := 0) E exOk wC_as (fun _ h => cC_Nodes_size u h) gk_Meaning_121 dk_Nodes_size rfl ⟨rfl, rfl⟩ ⟨Nat.le_of_ble_eq_true rfl, Nat.le_of_ble_eq_true rfl⟩ (rvW (q0 := 14) (ci := 5) E rfl rfl rfl) rfl (Nat.le_of_ble_eq_true rfl) d_Meaning_findPlaces_7 fun r1 _ => ?_
    refine Sm_icmp_ge (tgt := 44) E d_Meaning_findPlaces_10 (by decide) (fun _ => ?_) (fun _ => ?_)
    · exact Sm_retV hR d_Meaning_findPlaces_44
    · refine Sm_aload_n E d_Meaning_findPlaces_13 rfl 0 rfl ?_
      refine gfC_29_nodes E fl_Meaning_24 d_Meaning_findPlaces_14 ?_
      refine Sm_iload_n E d_Meaning_findPlaces_17 rfl 1 rfl ?_
      refine Sm_cVi (As := [.int x1]) (b := (G.1 14)) (st := []) (n := 1) E exOk wC_as (fun _ h => cC_Nodes_kindOf x1 u h) gk_Meaning_128 dk_Nodes_kindOf rfl ⟨rfl, rfl⟩ ⟨Nat.le_of_ble_eq_true rfl, Nat.le_of_ble_eq_true rfl⟩ (rvW (q0 := 14) (ci := 5) E rfl rfl rfl) rfl (Nat.le_of_ble_eq_true rfl) d_Meaning_findPlaces_18 fun r2 _ => ?_
      refine Sm_iconst (v := 4) E d_Meaning_findPlaces_21 (by decide) ?_
      refine Sm_icmp_ne (tgt := 38) E d_Meaning_findPlaces_22 (by decide) (fun _ => ?_) (fun _ => ?_)
      · refine Sm_iinc (k := 1) (d := 1) E d_Meaning_findPlaces_38 rfl rfl (by decide) fun y3 _ => Sm_lvs (lv' := [(1, .int y3), (0, .ref (G.1 29))]) rfl ?_
        refine Sm_goto (tgt := 2) E d_Meaning_findPlaces_41 (by decide) ?_
        exact Sm_sub [1, 0] rfl (h2 _ _)
      · refine Sm_aload_n E d_Meaning_findPlaces_25 rfl 0 rfl ?_
        refine gfC_29_nodes E fl_Meaning_24 d_Meaning_findPlaces_26 ?_
        refine Sm_iload_n E d_Meaning_findPlaces_29 rfl 1 rfl ?_
        refine Sm_aload_n E d_Meaning_findPlaces_30 rfl 0 rfl ?_
        refine Sm_iload_n E d_Meaning_findPlaces_31 rfl 1 rfl ?_
        refine Sm_cVI (As := [.int x1]) (b := (G.1 29)) (st := [.int x1, .ref (G.1 14)]) (n := 1) E exOk wC_as (fun _ h => cC_Meaning_findPlace x1 u h) gk_Meaning_131 dk_Meaning_findPlace rfl ⟨rfl, rfl⟩ ⟨Nat.le_of_ble_eq_true rfl, Nat.le_of_ble_eq_true rfl⟩ (rvW (q0 := 29) (ci := 4) E rfl rfl rfl) rfl (Nat.le_of_ble_eq_true rfl) d_Meaning_findPlaces_32 fun r4 u5 _ => ?_
        refine Sm_cVV (As := [.int x1, .int r4]) (b := (G.1 14)) (st := []) (n := 2) E exOk wC_as (fun _ h => cC_Nodes_putFault x1 r4 u5 h) gk_Meaning_134 dk_Nodes_putFault rfl ⟨rfl, rfl⟩ ⟨Nat.le_of_ble_eq_true rfl, Nat.le_of_ble_eq_true rfl⟩ (rvW (q0 := 14) (ci := 5) E rfl rfl rfl) rfl (Nat.le_of_ble_eq_true rfl) d_Meaning_findPlaces_35 fun u6 _ => ?_
        refine Sm_iinc (k := 1) (d := 1) E d_Meaning_findPlaces_38 rfl rfl (by decide) fun y7 _ => Sm_lvs (lv' := [(1, .int y7), (0, .ref (G.1 29))]) rfl ?_
        refine Sm_goto (tgt := 2) E d_Meaning_findPlaces_41 (by decide) ?_
        exact Sm_sub [1, 0] rfl (h2 _ _)
set_option maxRecDepth 100000 in
set_option maxHeartbeats 4000000 in
theorem cC_Meaning_findPlaces {l : Launch} {D : va_G} {G : Gx} (u : St) {res : St} (hm : mC_Meaning_findPlaces u = some res) : KC l D G y_Meaning_findPlaces (.code y_Meaning_findPlaces prog_4_method_7_code 2 none) { frames := 4, cells := 0, slots := 0, locals := 98 } [.ref (G.1 29)] u (qV D vwCl (wC G) (tyW G) (adsC G) res) := by
  refine Ct_V (by decide) wC_as (Nat.le_of_ble_eq_true rfl) hm (fun X _ _ E hR => ?_)
  refine Sm_lvs (lv' := [(0, .ref (G.1 29))]) rfl ?_
  rw [mC_Meaning_findPlaces]
  refine Sm_iconst (v := 0) E d_Meaning_findPlaces_0 (by decide) ?_
  refine Sm_istore_n (lv' := [(1, .int 0), (0, .ref (G.1 29))]) E d_Meaning_findPlaces_1 rfl (by decide) rfl ?_
  exact Sm_sub [1, 0] rfl (tC_Meaning_findPlaces_L2 E hR FU _ _)
set_option maxRecDepth 100000 in
set_option maxHeartbeats 4000000 in
theorem tC_Meaning_findColumnsSet_L2 {X : Cx} {G : Gx} {res : St} (E : EC X G prog_4_method_9_code R_Meaning 3 { frames := 3, cells := 0, slots := 0, locals := 70 }) (hR : RtV X vwCl (wC G) prog_4_method_9_code res) : ∀ (n : Nat) (x1 : Int32) (u : St), SC X G 3 res (mC_Meaning_findColumnsSet_L2 n x1 u) u 2 [(0, .ref (G.1 29)), (1, .int x1)] [] := by
  intro n
  induction n with
  | zero => intro x1 u; exact Sm_none
  | succ n h2 =>
    intro x1 u
    rw [mC_Meaning_findColumnsSet_L2]
    refine Sm_iload_n E d_Meaning_findColumnsSet_2 rfl 1 rfl ?_
    refine Sm_aload_n E d_Meaning_findColumnsSet_3 rfl 0 rfl ?_
    refine gfC_29_lists E fl_Meaning_28 d_Meaning_findColumnsSet_4 ?_
    refine Sm_iconst (v := 5) E d_Meaning_findColumnsSet_7 (by decide) ?_
    refine Sm_cVi (As := [.int 5]) (b := (G.1 24)) (st := [.int x1]) (n := 1) E exOk wC_as (fun _ h => cC_Lists_size 5 u h) gk_Meaning_66 dk_Lists_size rfl ⟨rfl, rfl⟩ ⟨Nat.le_of_ble_eq_true rfl, Nat.le_of_ble_eq_true rfl⟩ (rvW (q0 := 24) (ci := 3) E rfl rfl rfl) rfl (Nat.le_of_ble_eq_true rfl) d_Meaning_findColumnsSet_8 fun r1 _ => ?_
    refine Sm_icmp_ge (tgt := 58) E d_Meaning_findColumnsSet_11 (by decide) (fun _ => ?_) (fun _ => ?_)
    · exact Sm_retV hR d_Meaning_findColumnsSet_58
    · refine Sm_aload_n E d_Meaning_findColumnsSet_14 rfl 0 rfl ?_
      refine gfC_29_lists E fl_Meaning_28 d_Meaning_findColumnsSet_15 ?_
      refine Sm_bipush (v := 13) E d_Meaning_findColumnsSet_18 (by decide) ?_
      refine Sm_iload_n E d_Meaning_findColumnsSet_20 rfl 1 rfl ?_
      refine Sm_cVi (As := [.int 13, .int x1]) (b := (G.1 24)) (st := []) (n := 2) E exOk wC_as (fun _ h => cC_Lists_at 13 x1 u h) gk_Meaning_70 dk_Lists_at rfl ⟨rfl, rfl⟩ ⟨Nat.le_of_ble_eq_true rfl, Nat.le_of_ble_eq_true rfl⟩ (rvW (q0 := 24) (ci := 3) E rfl rfl rfl) rfl (Nat.le_of_ble_eq_true rfl) d_Meaning_findColumnsSet_21 fun r2 _ => ?_
      refine Sm_istore_n (lv' := [(2, .int r2), (0, .ref (G.1 29)), (1, .int x1)]) E d_Meaning_findColumnsSet_24 rfl (by decide) rfl ?_
      refine Sm_aload_n E d_Meaning_findColumnsSet_25 rfl 1 rfl ?_
      refine gfC_29_lists E fl_Meaning_28 d_Meaning_findColumnsSet_26 ?_
      refine Sm_iconst (v := 4) E d_Meaning_findColumnsSet_29 (by decide) ?_
      refine Sm_aload_n E d_Meaning_findColumnsSet_30 rfl 1 rfl ?_
      refine gfC_29_catalog E fl_Meaning_9 d_Meaning_findColumnsSet_31 ?_
      refine Sm_aload_n E d_Meaning_findColumnsSet_34 rfl 1 rfl ?_
      refine gfC_29_statement E fl_Meaning_32 d_Meaning_findColumnsSet_35 ?_
      refine gfC_27_table E fl_Meaning_61 d_Meaning_findColumnsSet_38 ?_
      refine Sm_aload_n E d_Meaning_findColumnsSet_41 rfl 1 rfl ?_
      refine gfC_29_text E fl_Meaning_21 d_Meaning_findColumnsSet_42 ?_
      refine Sm_iload_n E d_Meaning_findColumnsSet_45 rfl 0 rfl ?_
      refine Sm_cVi (As := [.int (u.1 13), .ref (G.1 11), .int r2]) (b := (G.1 3)) (st := [.int 4, .ref (G.1 24)]) (n := 3) E exOk wC_as (fun _ h => cC_Catalog_findColumn_3_11 (u.1 13) r2 u h) gk_Meaning_143 dk_Catalog_findColumn rfl ⟨rfl, rfl⟩ ⟨Nat.le_of_ble_eq_true rfl, Nat.le_of_ble_eq_true rfl⟩ (rvW (q0 := 3) (ci := 2) E rfl rfl rfl) rfl (Nat.le_of_ble_eq_true rfl) d_Meaning_findColumnsSet_46 fun r3 _ => ?_
      refine Sm_cVV (As := [.int 4, .int r3]) (b := (G.1 24)) (st := []) (n := 2) E exOk wC_as (fun _ h => cC_Lists_add 4 r3 u h) gk_Meaning_80 dk_Lists_add rfl ⟨rfl, rfl⟩ ⟨Nat.le_of_ble_eq_true rfl, Nat.le_of_ble_eq_true rfl⟩ (rvW (q0 := 24) (ci := 3) E rfl rfl rfl) rfl (Nat.le_of_ble_eq_true rfl) d_Meaning_findColumnsSet_49 fun u4 _ => ?_
      refine Sm_iinc (k := 2) (d := 1) E d_Meaning_findColumnsSet_52 rfl rfl (by decide) fun y5 _ => Sm_lvs (lv' := [(1, .int y5), (2, .int r2), (0, .ref (G.1 29))]) rfl ?_
      refine Sm_goto (tgt := 2) E d_Meaning_findColumnsSet_55 (by decide) ?_
      exact Sm_sub [2, 0] rfl (h2 _ _)
set_option maxRecDepth 100000 in
set_option maxHeartbeats 4000000 in
theorem cC_Meaning_findColumnsSet {l : Launch} {D : va_G} {G : Gx} (u : St) {res : St} (hm : mC_Meaning_findColumnsSet u = some res) : KC l D G y_Meaning_findColumnsSet (.code y_Meaning_findColumnsSet prog_4_method_9_code 3 none) { frames := 3, cells := 0, slots := 0, locals := 70 } [.ref (G.1 29)] u (qV D vwCl (wC G) (tyW G) (adsC G) res) := by
  refine Ct_V (by decide) wC_as (Nat.le_of_ble_eq_true rfl) hm (fun X _ _ E hR => ?_)
  refine Sm_lvs (lv' := [(0, .ref (G.1 29))]) rfl ?_
  rw [mC_Meaning_findColumnsSet]
  refine Sm_iconst (v := 0) E d_Meaning_findColumnsSet_0 (by decide) ?_
  refine Sm_istore_n (lv' := [(1, .int 0), (0, .ref (G.1 29))]) E d_Meaning_findColumnsSet_1 rfl (by decide) rfl ?_
  exact Sm_sub [1, 0] rfl (tC_Meaning_findColumnsSet_L2 E hR FU _ _)
set_option maxRecDepth 100000 in
set_option maxHeartbeats 4000000 in
theorem cC_Nodes_putNeed {l : Launch} {D : va_G} {G : Gx} (x1 : Int32) (x2 : Int32) (u : St) {res : St} (hm : mC_Nodes_putNeed x1 x2 u = some res) : KC l D G y_Nodes_putNeed (.code y_Nodes_putNeed prog_5_method_22_code 3 none) { frames := 0, cells := 0, slots := 0, locals := 0 } [.ref (G.1 14), .int x1, .int x2] u (qV D vwCl (wC G) (tyW G) (adsC G) res) := by
  refine Ct_V (by decide) wC_as (Nat.le_of_ble_eq_true rfl) hm (fun X _ _ E hR => ?_)
  refine Sm_lvs (lv' := [(0, .ref (G.1 14)), (1, .int x1), (2, .int x2)]) rfl ?_
  rw [mC_Nodes_putNeed]
  refine Sm_iload_n E d_Nodes_putNeed_0 rfl 1 rfl ?_
  refine Sm_if_lt (tgt := 19) E d_Nodes_putNeed_1 (by decide) (fun _ => ?_) (fun _ => ?_)
  · exact Sm_retV hR d_Nodes_putNeed_19
  · refine Sm_iload_n E d_Nodes_putNeed_4 rfl 1 rfl ?_
    refine Sm_aload_n E d_Nodes_putNeed_5 rfl 0 rfl ?_
    refine gfC_14_size E fl_Nodes_39 d_Nodes_putNeed_6 ?_
    refine Sm_icmp_ge (tgt := 19) E d_Nodes_putNeed_9 (by decide) (fun _ => ?_) (fun _ => ?_)
    · exact Sm_retV hR d_Nodes_putNeed_19
    · refine Sm_aload_n E d_Nodes_putNeed_12 rfl 0 rfl ?_
      refine gfC_14_needs E fl_Nodes_27 d_Nodes_putNeed_13 ?_
      refine Sm_iload_n E d_Nodes_putNeed_16 rfl 1 rfl ?_
      refine Sm_iload_n E d_Nodes_putNeed_17 rfl 2 rfl ?_
      refine Sm_gd fun hi => stC_20 E (inb_in hi) d_Nodes_putNeed_18 fun u1 _ => ?_
      exact Sm_retV hR d_Nodes_putNeed_19
set_option maxRecDepth 100000 in
set_option maxHeartbeats 4000000 in
theorem tC_Meaning_tellColumns_L3 {X : Cx} {G : Gx} {res : St} (E : EC X G prog_4_method_11_code R_Meaning 5 { frames := 3, cells := 0, slots := 0, locals := 65 }) (hR : RtV X vwCl (wC G) prog_4_method_11_code res) : ∀ (n : Nat) (x1 : Int32) (x2 : Int32) (x3 : Int32) (x4 : Int32) (u : St), SC X G 5 res (mC_Meaning_tellColumns_L3 n x1 x2 x3 x4 u) u 3 [(0, .ref (G.1 29)), (1, .int x1), (2, .int x2), (3, .int x3), (4, .int x4)] [] := by
  intro n
  induction n with
  | zero => intro x1 x2 x3 x4 u; exact Sm_none
  | succ n h3 =>
    intro x1 x2 x3 x4 u
    rw [mC_Meaning_tellColumns_L3]
    refine Sm_iload E d_Meaning_tellColumns_3 4 rfl ?_
    refine Sm_iload_n E d_Meaning_tellColumns_5 rfl 3 rfl ?_
    refine Sm_icmp_ge (tgt := 50) E d_Meaning_tellColumns_6 (by decide) (fun _ => ?_) (fun _ => ?_)
    · exact Sm_retV hR d_Meaning_tellColumns_50
    · refine Sm_aload_n E d_Meaning_tellColumns_9 rfl 0 rfl ?_
      refine gfC_29_nodes E fl_Meaning_24 d_Meaning_tellColumns_10 ?_
      refine Sm_aload_n E d_Meaning_tellColumns_13 rfl 0 rfl ?_
      refine gfC_29_lists E fl_Meaning_28 d_Meaning_tellColumns_14 ?_
      refine Sm_iload_n E d_Meaning_tellColumns_17 rfl 1 rfl ?_
      refine Sm_iload E d_Meaning_tellColumns_18 4 rfl ?_
      refine Sm_cVi (As := [.int x1, .int x4]) (b := (G.1 24)) (st := [.ref (G.1 14)]) (n := 2) E exOk wC_as (fun _ h => cC_Lists_at x1 x4 u h) gk_Meaning_70 dk_Lists_at rfl ⟨rfl, rfl⟩ ⟨Nat.le_of_ble_eq_true rfl, Nat.le_of_ble_eq_true rfl⟩ (rvW (q0 := 24) (ci := 3) E rfl rfl rfl) rfl (Nat.le_of_ble_eq_true rfl) d_Meaning_tellColumns_20 fun r1 _ => ?_
      refine Sm_aload_n E d_Meaning_tellColumns_23 rfl 0 rfl ?_
      refine gfC_29_catalog E fl_Meaning_9 d_Meaning_tellColumns_24 ?_
      refine Sm_aload_n E d_Meaning_tellColumns_27 rfl 0 rfl ?_
      refine gfC_29_statement E fl_Meaning_32 d_Meaning_tellColumns_28 ?_
      refine gfC_27_table E fl_Meaning_61 d_Meaning_tellColumns_31 ?_
      refine Sm_iload E d_Meaning_tellColumns_34 4 rfl ?_
      refine Sm_iload_n E d_Meaning_tellColumns_36 rfl 2 rfl ?_
      refine Sm_isub E d_Meaning_tellColumns_37 ?_
      refine Sm_cVi (As := [.int (u.1 13), .int (x4 - x2)]) (b := (G.1 3)) (st := [.int r1, .ref (G.1 14)]) (n := 2) E exOk wC_as (fun _ h => cC_Catalog_typeOf (u.1 13) (x4 - x2) u h) gk_Meaning_151 dk_Catalog_typeOf rfl ⟨rfl, rfl⟩ ⟨Nat.le_of_ble_eq_true rfl, Nat.le_of_ble_eq_true rfl⟩ (rvW (q0 := 3) (ci := 2) E rfl rfl rfl) rfl (Nat.le_of_ble_eq_true rfl) d_Meaning_tellColumns_38 fun r2 _ => ?_
      refine Sm_cVV (As := [.int r1, .int r2]) (b := (G.1 14)) (st := []) (n := 2) E exOk wC_as (fun _ h => cC_Nodes_putNeed r1 r2 u h) gk_Meaning_160 dk_Nodes_putNeed rfl ⟨rfl, rfl⟩ ⟨Nat.le_of_ble_eq_true rfl, Nat.le_of_ble_eq_true rfl⟩ (rvW (q0 := 14) (ci := 5) E rfl rfl rfl) rfl (Nat.le_of_ble_eq_true rfl) d_Meaning_tellColumns_41 fun u3 _ => ?_
      refine Sm_iinc (k := 4) (d := 1) E d_Meaning_tellColumns_44 rfl rfl (by decide) fun y4 _ => Sm_lvs (lv' := [(4, .int y4), (0, .ref (G.1 29)), (1, .int x1), (2, .int x2), (3, .int x3)]) rfl ?_
      refine Sm_goto (tgt := 3) E d_Meaning_tellColumns_47 (by decide) ?_
      exact Sm_sub [1, 2, 3, 4, 0] rfl (h3 _ _ _ _ _)
set_option maxRecDepth 100000 in
set_option maxHeartbeats 4000000 in
theorem cC_Meaning_tellColumns {l : Launch} {D : va_G} {G : Gx} (x1 : Int32) (x2 : Int32) (x3 : Int32) (u : St) {res : St} (hm : mC_Meaning_tellColumns x1 x2 x3 u = some res) : KC l D G y_Meaning_tellColumns (.code y_Meaning_tellColumns prog_4_method_11_code 5 none) { frames := 3, cells := 0, slots := 0, locals := 65 } [.ref (G.1 29), .int x1, .int x2, .int x3] u (qV D vwCl (wC G) (tyW G) (adsC G) res) := by
  refine Ct_V (by decide) wC_as (Nat.le_of_ble_eq_true rfl) hm (fun X _ _ E hR => ?_)
  refine Sm_lvs (lv' := [(0, .ref (G.1 29)), (1, .int x1), (2, .int x2), (3, .int x3)]) rfl ?_
  rw [mC_Meaning_tellColumns]
  refine Sm_iload_n E d_Meaning_tellColumns_0 rfl 2 rfl ?_
  refine Sm_istore (lv' := [(4, .int x2), (0, .ref (G.1 29)), (1, .int x1), (2, .int x2), (3, .int x3)]) E d_Meaning_tellColumns_1 (by decide) rfl ?_
  exact Sm_sub [1, 2, 3, 4, 0] rfl (tC_Meaning_tellColumns_L3 E hR FU _ _ _ _ _)
set_option maxRecDepth 100000 in
set_option maxHeartbeats 4000000 in
theorem tC_Meaning_tellNeeds_L105 {X : Cx} {G : Gx} {res : St} (E : EC X G prog_4_method_10_code R_Meaning 4 { frames := 4, cells := 0, slots := 0, locals := 89 }) (hR : RtV X vwCl (wC G) prog_4_method_10_code res) : ∀ (n : Nat) (x1 : Int32) (x2 : Int32) (u : St), SC X G 4 res (mC_Meaning_tellNeeds_L105 n x1 x2 u) u 105 [(0, .ref (G.1 29)), (1, .int x1), (2, .int x2)] [] := by
  intro n
  induction n with
  | zero => intro x1 x2 u; exact Sm_none
  | succ n h105 =>
    intro x1 x2 u
    rw [mC_Meaning_tellNeeds_L105]
    refine Sm_iload_n E d_Meaning_tellNeeds_105 rfl 2 rfl ?_
    refine Sm_aload_n E d_Meaning_tellNeeds_106 rfl 0 rfl ?_
    refine gfC_29_lists E fl_Meaning_28 d_Meaning_tellNeeds_107 ?_
    refine Sm_bipush (v := 12) E d_Meaning_tellNeeds_110 (by decide) ?_
    refine Sm_cVi (As := [.int 12]) (b := (G.1 24)) (st := [.int x2]) (n := 1) E exOk wC_as (fun _ h => cC_Lists_size 12 u h) gk_Meaning_66 dk_Lists_size rfl ⟨rfl, rfl⟩ ⟨Nat.le_of_ble_eq_true rfl, Nat.le_of_ble_eq_true rfl⟩ (rvW (q0 := 24) (ci := 3) E rfl rfl rfl) rfl (Nat.le_of_ble_eq_true rfl) d_Meaning_tellNeeds_112 fun r3 _ => ?_
    refine Sm_icmp_ge (tgt := 145) E d_Meaning_tellNeeds_115 (by decide) (fun _ => ?_) (fun _ => ?_)
    · exact Sm_retV hR d_Meaning_tellNeeds_145
    · refine Sm_aload_n E d_Meaning_tellNeeds_118 rfl 0 rfl ?_
      refine gfC_29_lists E fl_Meaning_28 d_Meaning_tellNeeds_119 ?_
      refine Sm_bipush (v := 12) E d_Meaning_tellNeeds_122 (by decide) ?_
      refine Sm_iload_n E d_Meaning_tellNeeds_124 rfl 2 rfl ?_
      refine Sm_cVi (As := [.int 12, .int x2]) (b := (G.1 24)) (st := []) (n := 2) E exOk wC_as (fun _ h => cC_Lists_at 12 x2 u h) gk_Meaning_70 dk_Lists_at rfl ⟨rfl, rfl⟩ ⟨Nat.le_of_ble_eq_true rfl, Nat.le_of_ble_eq_true rfl⟩ (rvW (q0 := 24) (ci := 3) E rfl rfl rfl) rfl (Nat.le_of_ble_eq_true rfl) d_Meaning_tellNeeds_125 fun r4 _ => ?_
      refine Sm_istore_n (lv' := [(3, .int r4), (0, .ref (G.1 29)), (1, .int x1), (2, .int x2)]) E d_Meaning_tellNeeds_128 rfl (by decide) rfl ?_
      refine Sm_aload_n E d_Meaning_tellNeeds_129 rfl 1 rfl ?_
      refine Sm_bipush (v := 6) E d_Meaning_tellNeeds_130 (by decide) ?_
      refine Sm_iload_n E d_Meaning_tellNeeds_132 rfl 2 rfl ?_
      refine Sm_iload_n E d_Meaning_tellNeeds_133 rfl 0 rfl ?_
      refine Sm_cVV (As := [.int 6, .int x1, .int r4]) (b := (G.1 29)) (st := []) (n := 3) E exOk wC_as (fun _ h => cC_Meaning_tellColumns 6 x1 r4 u h) gk_Meaning_163 dk_Meaning_tellColumns rfl ⟨rfl, rfl⟩ ⟨Nat.le_of_ble_eq_true rfl, Nat.le_of_ble_eq_true rfl⟩ (rvW (q0 := 29) (ci := 4) E rfl rfl rfl) rfl (Nat.le_of_ble_eq_true rfl) d_Meaning_tellNeeds_134 fun u5 _ => ?_
      refine Sm_iload_n E d_Meaning_tellNeeds_137 rfl 0 rfl ?_
      refine Sm_istore_n (lv' := [(1, .int r4), (3, .int r4), (0, .ref (G.1 29)), (2, .int x2)]) E d_Meaning_tellNeeds_138 rfl (by decide) rfl ?_
      refine Sm_iinc (k := 3) (d := 1) E d_Meaning_tellNeeds_139 rfl rfl (by decide) fun y6 _ => Sm_lvs (lv' := [(2, .int y6), (1, .int r4), (3, .int r4), (0, .ref (G.1 29))]) rfl ?_
      refine Sm_goto (tgt := 105) E d_Meaning_tellNeeds_142 (by decide) ?_
      exact Sm_sub [3, 1, 0] rfl (h105 _ _ _)
set_option maxRecDepth 100000 in
set_option maxHeartbeats 4000000 in
theorem tC_Meaning_tellNeeds_L17 {X : Cx} {G : Gx} {res : St} (E : EC X G prog_4_method_10_code R_Meaning 4 { frames := 4, cells := 0, slots := 0, locals := 89 }) (hR : RtV X vwCl (wC G) prog_4_method_10_code res) : ∀ (n : Nat) (x1 : Int32) (u : St), SC X G 4 res (mC_Meaning_tellNeeds_L17 n x1 u) u 17 [(0, .ref (G.1 29)), (1, .int x1)] [] := by
  intro n
  induction n with
  | zero => intro x1 u; exact Sm_none
  | succ n h17 =>
    intro x1 u
    rw [mC_Meaning_tellNeeds_L17]
    refine Sm_iload_n E d_Meaning_tellNeeds_17 rfl 1 rfl ?_
    refine Sm_aload_n E d_Meaning_tellNeeds_18 rfl 0 rfl ?_
    refine gfC_29_lists E fl_Meaning_28 d_Meaning_tellNeeds_19 ?_
    refine Sm_iconst (v := 5) E d_Meaning_tellNeeds_22 (by decide) ?_
    refine Sm_cVi (As := [.int 5]) (b := (G.1 24)) (st := [.int x1]) (n := 1) E exOk wC_as (fun _ h => cC_Lists_size 5 u h) gk_Meaning_66 dk_Lists_size rfl ⟨rfl, rfl⟩ ⟨Nat.le_of_ble_eq_true rfl, Nat.le_of_ble_eq_true rfl⟩ (rvW (q0 := 24) (ci := 3) E rfl rfl rfl) rfl (Nat.le_of_ble_eq_true rfl) d_Meaning_tellNeeds_23 fun r2 _ => ?_
    refine Sm_icmp_ge (tgt := 76) E d_Meaning_tellNeeds_26 (by decide) (fun _ => ?_) (fun _ => ?_)
    · refine Sm_aload_n E d_Meaning_tellNeeds_76 rfl 0 rfl ?_
      refine gfC_29_statement E fl_Meaning_32 d_Meaning_tellNeeds_77 ?_
      refine gfC_27_deed E fl_Meaning_105 d_Meaning_tellNeeds_80 ?_
      refine Sm_iconst (v := 5) E d_Meaning_tellNeeds_83 (by decide) ?_
      refine Sm_icmp_ne (tgt := 101) E d_Meaning_tellNeeds_84 (by decide) (fun _ => ?_) (fun _ => ?_)
      · refine Sm_iconst (v := 0) E d_Meaning_tellNeeds_101 (by decide) ?_
        refine Sm_istore_n (lv' := [(1, .int 0), (0, .ref (G.1 29))]) E d_Meaning_tellNeeds_102 rfl (by decide) rfl ?_
        refine Sm_iconst (v := 0) E d_Meaning_tellNeeds_103 (by decide) ?_
        refine Sm_istore_n (lv' := [(2, .int 0), (1, .int 0), (0, .ref (G.1 29))]) E d_Meaning_tellNeeds_104 rfl (by decide) rfl ?_
        exact Sm_sub [2, 1, 0] rfl (tC_Meaning_tellNeeds_L105 E hR FU _ _ _)
      · refine Sm_aload_n E d_Meaning_tellNeeds_87 rfl 0 rfl ?_
        refine Sm_iconst (v := 0) E d_Meaning_tellNeeds_88 (by decide) ?_
        refine Sm_iconst (v := 0) E d_Meaning_tellNeeds_89 (by decide) ?_
        refine Sm_aload_n E d_Meaning_tellNeeds_90 rfl 0 rfl ?_
        refine gfC_29_lists E fl_Meaning_28 d_Meaning_tellNeeds_91 ?_
        refine Sm_iconst (v := 0) E d_Meaning_tellNeeds_94 (by decide) ?_
        refine Sm_cVi (As := [.int 0]) (b := (G.1 24)) (st := [.int 0, .int 0, .ref (G.1 29)]) (n := 1) E exOk wC_as (fun _ h => cC_Lists_size 0 u h) gk_Meaning_66 dk_Lists_size rfl ⟨rfl, rfl⟩ ⟨Nat.le_of_ble_eq_true rfl, Nat.le_of_ble_eq_true rfl⟩ (rvW (q0 := 24) (ci := 3) E rfl rfl rfl) rfl (Nat.le_of_ble_eq_true rfl) d_Meaning_tellNeeds_95 fun r7 _ => ?_
        refine Sm_cVV (As := [.int 0, .int 0, .int r7]) (b := (G.1 29)) (st := []) (n := 3) E exOk wC_as (fun _ h => cC_Meaning_tellColumns 0 0 r7 u h) gk_Meaning_163 dk_Meaning_tellColumns rfl ⟨rfl, rfl⟩ ⟨Nat.le_of_ble_eq_true rfl, Nat.le_of_ble_eq_true rfl⟩ (rvW (q0 := 29) (ci := 4) E rfl rfl rfl) rfl (Nat.le_of_ble_eq_true rfl) d_Meaning_tellNeeds_98 fun u8 _ => ?_
        refine Sm_iconst (v := 0) E d_Meaning_tellNeeds_101 (by decide) ?_
        refine Sm_istore_n (lv' := [(1, .int 0), (0, .ref (G.1 29))]) E d_Meaning_tellNeeds_102 rfl (by decide) rfl ?_
        refine Sm_iconst (v := 0) E d_Meaning_tellNeeds_103 (by decide) ?_
        refine Sm_istore_n (lv' := [(2, .int 0), (1, .int 0), (0, .ref (G.1 29))]) E d_Meaning_tellNeeds_104 rfl (by decide) rfl ?_
        exact Sm_sub [2, 1, 0] rfl (tC_Meaning_tellNeeds_L105 E hR FU _ _ _)
    · refine Sm_aload_n E d_Meaning_tellNeeds_29 rfl 0 rfl ?_
      refine gfC_29_lists E fl_Meaning_28 d_Meaning_tellNeeds_30 ?_
      refine Sm_iconst (v := 4) E d_Meaning_tellNeeds_33 (by decide) ?_
      refine Sm_iload_n E d_Meaning_tellNeeds_34 rfl 1 rfl ?_
      refine Sm_cVi (As := [.int 4, .int x1]) (b := (G.1 24)) (st := []) (n := 2) E exOk wC_as (fun _ h => cC_Lists_at 4 x1 u h) gk_Meaning_70 dk_Lists_at rfl ⟨rfl, rfl⟩ ⟨Nat.le_of_ble_eq_true rfl, Nat.le_of_ble_eq_true rfl⟩ (rvW (q0 := 24) (ci := 3) E rfl rfl rfl) rfl (Nat.le_of_ble_eq_true rfl) d_Meaning_tellNeeds_35 fun r9 _ => ?_
      refine Sm_istore_n (lv' := [(2, .int r9), (0, .ref (G.1 29)), (1, .int x1)]) E d_Meaning_tellNeeds_38 rfl (by decide) rfl ?_
      refine Sm_aload_n E d_Meaning_tellNeeds_39 rfl 1 rfl ?_
      refine gfC_29_nodes E fl_Meaning_24 d_Meaning_tellNeeds_40 ?_
      refine Sm_aload_n E d_Meaning_tellNeeds_43 rfl 1 rfl ?_
      refine gfC_29_lists E fl_Meaning_28 d_Meaning_tellNeeds_44 ?_
      refine Sm_iconst (v := 5) E d_Meaning_tellNeeds_47 (by decide) ?_
      refine Sm_iload_n E d_Meaning_tellNeeds_48 rfl 2 rfl ?_
      refine Sm_cVi (As := [.int 5, .int x1]) (b := (G.1 24)) (st := [.ref (G.1 14)]) (n := 2) E exOk wC_as (fun _ h => cC_Lists_at 5 x1 u h) gk_Meaning_70 dk_Lists_at rfl ⟨rfl, rfl⟩ ⟨Nat.le_of_ble_eq_true rfl, Nat.le_of_ble_eq_true rfl⟩ (rvW (q0 := 24) (ci := 3) E rfl rfl rfl) rfl (Nat.le_of_ble_eq_true rfl) d_Meaning_tellNeeds_49 fun r10 _ => ?_
      refine Sm_aload_n E d_Meaning_tellNeeds_52 rfl 1 rfl ?_
      refine gfC_29_catalog E fl_Meaning_9 d_Meaning_tellNeeds_53 ?_
      refine Sm_aload_n E d_Meaning_tellNeeds_56 rfl 1 rfl ?_
      refine gfC_29_statement E fl_Meaning_32 d_Meaning_tellNeeds_57 ?_
      refine gfC_27_table E fl_Meaning_61 d_Meaning_tellNeeds_60 ?_
      refine Sm_iload_n E d_Meaning_tellNeeds_63 rfl 0 rfl ?_
      refine Sm_cVi (As := [.int (u.1 13), .int r9]) (b := (G.1 3)) (st := [.int r10, .ref (G.1 14)]) (n := 2) E exOk wC_as (fun _ h => cC_Catalog_typeOf (u.1 13) r9 u h) gk_Meaning_151 dk_Catalog_typeOf rfl ⟨rfl, rfl⟩ ⟨Nat.le_of_ble_eq_true rfl, Nat.le_of_ble_eq_true rfl⟩ (rvW (q0 := 3) (ci := 2) E rfl rfl rfl) rfl (Nat.le_of_ble_eq_true rfl) d_Meaning_tellNeeds_64 fun r11 _ => ?_
      refine Sm_cVV (As := [.int r10, .int r11]) (b := (G.1 14)) (st := []) (n := 2) E exOk wC_as (fun _ h => cC_Nodes_putNeed r10 r11 u h) gk_Meaning_160 dk_Nodes_putNeed rfl ⟨rfl, rfl⟩ ⟨Nat.le_of_ble_eq_true rfl, Nat.le_of_ble_eq_true rfl⟩ (rvW (q0 := 14) (ci := 5) E rfl rfl rfl) rfl (Nat.le_of_ble_eq_true rfl) d_Meaning_tellNeeds_67 fun u12 _ => ?_
      refine Sm_iinc (k := 2) (d := 1) E d_Meaning_tellNeeds_70 rfl rfl (by decide) fun y13 _ => Sm_lvs (lv' := [(1, .int y13), (2, .int r9), (0, .ref (G.1 29))]) rfl ?_
      refine Sm_goto (tgt := 17) E d_Meaning_tellNeeds_73 (by decide) ?_
      exact Sm_sub [2, 0] rfl (h17 _ _)
set_option maxRecDepth 100000 in
set_option maxHeartbeats 4000000 in
theorem cC_Meaning_tellNeeds {l : Launch} {D : va_G} {G : Gx} (u : St) {res : St} (hm : mC_Meaning_tellNeeds u = some res) : KC l D G y_Meaning_tellNeeds (.code y_Meaning_tellNeeds prog_4_method_10_code 4 none) { frames := 4, cells := 0, slots := 0, locals := 89 } [.ref (G.1 29)] u (qV D vwCl (wC G) (tyW G) (adsC G) res) := by
  refine Ct_V (by decide) wC_as (Nat.le_of_ble_eq_true rfl) hm (fun X _ _ E hR => ?_)
  refine Sm_lvs (lv' := [(0, .ref (G.1 29))]) rfl ?_
  rw [mC_Meaning_tellNeeds]
  refine Sm_aload_n E d_Meaning_tellNeeds_0 rfl 0 rfl ?_
  refine gfC_29_nodes E fl_Meaning_24 d_Meaning_tellNeeds_1 ?_
  refine Sm_aload_n E d_Meaning_tellNeeds_4 rfl 0 rfl ?_
  refine gfC_29_statement E fl_Meaning_32 d_Meaning_tellNeeds_5 ?_
  refine gfC_27_where E fl_Meaning_157 d_Meaning_tellNeeds_8 ?_
  refine Sm_iconst (v := 3) E d_Meaning_tellNeeds_11 (by decide) ?_
  refine Sm_cVV (As := [.int (u.1 18), .int 3]) (b := (G.1 14)) (st := []) (n := 2) E exOk wC_as (fun _ h => cC_Nodes_putNeed (u.1 18) 3 u h) gk_Meaning_160 dk_Nodes_putNeed rfl ⟨rfl, rfl⟩ ⟨Nat.le_of_ble_eq_true rfl, Nat.le_of_ble_eq_true rfl⟩ (rvW (q0 := 14) (ci := 5) E rfl rfl rfl) rfl (Nat.le_of_ble_eq_true rfl) d_Meaning_tellNeeds_12 fun u1 _ => ?_
  refine Sm_iconst (v := 0) E d_Meaning_tellNeeds_15 (by decide) ?_
  refine Sm_istore_n (lv' := [(1, .int 0), (0, .ref (G.1 29))]) E d_Meaning_tellNeeds_16 rfl (by decide) rfl ?_
  exact Sm_sub [1, 0] rfl (tC_Meaning_tellNeeds_L17 E hR FU _ _)
set_option maxRecDepth 100000 in
set_option maxHeartbeats 4000000 in
theorem cC_Nodes_firstOf {l : Launch} {D : va_G} {G : Gx} (x1 : Int32) (u : St) {res : Int32} (hm : mC_Nodes_firstOf x1 u = some res) : KC l D G y_Nodes_firstOf (.code y_Nodes_firstOf prog_5_method_13_code 2 (some .int)) { frames := 0, cells := 0, slots := 0, locals := 0 } [.ref (G.1 14), .int x1] u (qI D vwCl (wC G) (tyW G) (adsC G) (res, u)) := by
  refine Ct_i (by decide) wC_as (Nat.le_of_ble_eq_true rfl) hm (fun X _ _ E hR => ?_)
  refine Sm_lvs (lv' := [(0, .ref (G.1 14)), (1, .int x1)]) rfl ?_
  rw [mC_Nodes_firstOf]
  refine Sm_iload_n E d_Nodes_firstOf_0 rfl 1 rfl ?_
  refine Sm_if_lt (tgt := 21) E d_Nodes_firstOf_1 (by decide) (fun _ => ?_) (fun _ => ?_)
  · refine Sm_iconst (v := (-1)) E d_Nodes_firstOf_21 (by decide) ?_
    exact Sm_reti hR d_Nodes_firstOf_22
  · refine Sm_iload_n E d_Nodes_firstOf_4 rfl 1 rfl ?_
    refine Sm_aload_n E d_Nodes_firstOf_5 rfl 0 rfl ?_
    refine gfC_14_size E fl_Nodes_39 d_Nodes_firstOf_6 ?_
    refine Sm_icmp_ge (tgt := 21) E d_Nodes_firstOf_9 (by decide) (fun _ => ?_) (fun _ => ?_)
    · refine Sm_iconst (v := (-1)) E d_Nodes_firstOf_21 (by decide) ?_
      exact Sm_reti hR d_Nodes_firstOf_22
    · refine Sm_aload_n E d_Nodes_firstOf_12 rfl 0 rfl ?_
      refine gfC_14_firsts E fl_Nodes_15 d_Nodes_firstOf_13 ?_
      refine Sm_iload_n E d_Nodes_firstOf_16 rfl 1 rfl ?_
      refine Sm_gd fun hi => ldC_16 E (inb_in hi) d_Nodes_firstOf_17 ?_
      refine Sm_goto (tgt := 22) E d_Nodes_firstOf_18 (by decide) ?_
      exact Sm_reti hR d_Nodes_firstOf_22
set_option maxRecDepth 100000 in
set_option maxHeartbeats 4000000 in
theorem cC_Nodes_parentOf {l : Launch} {D : va_G} {G : Gx} (x1 : Int32) (u : St) {res : Int32} (hm : mC_Nodes_parentOf x1 u = some res) : KC l D G y_Nodes_parentOf (.code y_Nodes_parentOf prog_5_method_16_code 2 (some .int)) { frames := 0, cells := 0, slots := 0, locals := 0 } [.ref (G.1 14), .int x1] u (qI D vwCl (wC G) (tyW G) (adsC G) (res, u)) := by
  refine Ct_i (by decide) wC_as (Nat.le_of_ble_eq_true rfl) hm (fun X _ _ E hR => ?_)
  refine Sm_lvs (lv' := [(0, .ref (G.1 14)), (1, .int x1)]) rfl ?_
  rw [mC_Nodes_parentOf]
  refine Sm_iload_n E d_Nodes_parentOf_0 rfl 1 rfl ?_
  refine Sm_if_lt (tgt := 21) E d_Nodes_parentOf_1 (by decide) (fun _ => ?_) (fun _ => ?_)
  · refine Sm_iconst (v := (-1)) E d_Nodes_parentOf_21 (by decide) ?_
    exact Sm_reti hR d_Nodes_parentOf_22
  · refine Sm_iload_n E d_Nodes_parentOf_4 rfl 1 rfl ?_
    refine Sm_aload_n E d_Nodes_parentOf_5 rfl 0 rfl ?_
    refine gfC_14_size E fl_Nodes_39 d_Nodes_parentOf_6 ?_
    refine Sm_icmp_ge (tgt := 21) E d_Nodes_parentOf_9 (by decide) (fun _ => ?_) (fun _ => ?_)
    · refine Sm_iconst (v := (-1)) E d_Nodes_parentOf_21 (by decide) ?_
      exact Sm_reti hR d_Nodes_parentOf_22
    · refine Sm_aload_n E d_Nodes_parentOf_12 rfl 0 rfl ?_
      refine gfC_14_parents E fl_Nodes_24 d_Nodes_parentOf_13 ?_
      refine Sm_iload_n E d_Nodes_parentOf_16 rfl 1 rfl ?_
      refine Sm_gd fun hi => ldC_19 E (inb_in hi) d_Nodes_parentOf_17 ?_
      refine Sm_goto (tgt := 22) E d_Nodes_parentOf_18 (by decide) ?_
      exact Sm_reti hR d_Nodes_parentOf_22
set_option maxRecDepth 100000 in
set_option maxHeartbeats 4000000 in
theorem cC_Nodes_needOf {l : Launch} {D : va_G} {G : Gx} (x1 : Int32) (u : St) {res : Int32} (hm : mC_Nodes_needOf x1 u = some res) : KC l D G y_Nodes_needOf (.code y_Nodes_needOf prog_5_method_17_code 2 (some .int)) { frames := 0, cells := 0, slots := 0, locals := 0 } [.ref (G.1 14), .int x1] u (qI D vwCl (wC G) (tyW G) (adsC G) (res, u)) := by
  refine Ct_i (by decide) wC_as (Nat.le_of_ble_eq_true rfl) hm (fun X _ _ E hR => ?_)
  refine Sm_lvs (lv' := [(0, .ref (G.1 14)), (1, .int x1)]) rfl ?_
  rw [mC_Nodes_needOf]
  refine Sm_iload_n E d_Nodes_needOf_0 rfl 1 rfl ?_
  refine Sm_if_lt (tgt := 21) E d_Nodes_needOf_1 (by decide) (fun _ => ?_) (fun _ => ?_)
  · refine Sm_iconst (v := 0) E d_Nodes_needOf_21 (by decide) ?_
    exact Sm_reti hR d_Nodes_needOf_22
  · refine Sm_iload_n E d_Nodes_needOf_4 rfl 1 rfl ?_
    refine Sm_aload_n E d_Nodes_needOf_5 rfl 0 rfl ?_
    refine gfC_14_size E fl_Nodes_39 d_Nodes_needOf_6 ?_
    refine Sm_icmp_ge (tgt := 21) E d_Nodes_needOf_9 (by decide) (fun _ => ?_) (fun _ => ?_)
    · refine Sm_iconst (v := 0) E d_Nodes_needOf_21 (by decide) ?_
      exact Sm_reti hR d_Nodes_needOf_22
    · refine Sm_aload_n E d_Nodes_needOf_12 rfl 0 rfl ?_
      refine gfC_14_needs E fl_Nodes_27 d_Nodes_needOf_13 ?_
      refine Sm_iload_n E d_Nodes_needOf_16 rfl 1 rfl ?_
      refine Sm_gd fun hi => ldC_20 E (inb_in hi) d_Nodes_needOf_17 ?_
      refine Sm_goto (tgt := 22) E d_Nodes_needOf_18 (by decide) ?_
      exact Sm_reti hR d_Nodes_needOf_22
set_option maxRecDepth 100000 in
set_option maxHeartbeats 4000000 in
theorem cC_Nodes_compares {l : Launch} {D : va_G} {G : Gx} (x0 : Int32) (u : St) {res : Int32} (hm : mC_Nodes_compares x0 u = some res) : KC l D G y_Nodes_compares (.code y_Nodes_compares prog_5_method_4_code 1 (some .boolean)) { frames := 0, cells := 0, slots := 0, locals := 0 } [.int x0] u (qI D vwCl (wC G) (tyW G) (adsC G) (res, u)) := by
  refine Ct_z (by decide) wC_as (Nat.le_of_ble_eq_true rfl) hm (fun X _ _ E hR => ?_)
  refine Sm_lvs (lv' := [(0, .int x0)]) rfl ?_
  rw [mC_Nodes_compares]
  refine Sm_iload_n E d_Nodes_compares_0 rfl 0 rfl ?_
  refine Sm_bipush (v := 17) E d_Nodes_compares_1 (by decide) ?_
  refine Sm_icmp_lt (tgt := 16) E d_Nodes_compares_3 (by decide) (fun _ => ?_) (fun _ => ?_)
  · refine Sm_iconst (v := 0) E d_Nodes_compares_16 (by decide) ?_
    exact Sm_retz hR (by decide) d_Nodes_compares_17
  · refine Sm_iload_n E d_Nodes_compares_6 rfl 0 rfl ?_
    refine Sm_bipush (v := 22) E d_Nodes_compares_7 (by decide) ?_
    refine Sm_icmp_gt (tgt := 16) E d_Nodes_compares_9 (by decide) (fun _ => ?_) (fun _ => ?_)
    · refine Sm_iconst (v := 0) E d_Nodes_compares_16 (by decide) ?_
      exact Sm_retz hR (by decide) d_Nodes_compares_17
    · refine Sm_iconst (v := 1) E d_Nodes_compares_12 (by decide) ?_
      refine Sm_goto (tgt := 17) E d_Nodes_compares_13 (by decide) ?_
      exact Sm_retz hR (by decide) d_Nodes_compares_17
set_option maxRecDepth 100000 in
set_option maxHeartbeats 4000000 in
theorem cC_Nodes_secondOf {l : Launch} {D : va_G} {G : Gx} (x1 : Int32) (u : St) {res : Int32} (hm : mC_Nodes_secondOf x1 u = some res) : KC l D G y_Nodes_secondOf (.code y_Nodes_secondOf prog_5_method_14_code 2 (some .int)) { frames := 0, cells := 0, slots := 0, locals := 0 } [.ref (G.1 14), .int x1] u (qI D vwCl (wC G) (tyW G) (adsC G) (res, u)) := by
  refine Ct_i (by decide) wC_as (Nat.le_of_ble_eq_true rfl) hm (fun X _ _ E hR => ?_)
  refine Sm_lvs (lv' := [(0, .ref (G.1 14)), (1, .int x1)]) rfl ?_
  rw [mC_Nodes_secondOf]
  refine Sm_iload_n E d_Nodes_secondOf_0 rfl 1 rfl ?_
  refine Sm_if_lt (tgt := 21) E d_Nodes_secondOf_1 (by decide) (fun _ => ?_) (fun _ => ?_)
  · refine Sm_iconst (v := (-1)) E d_Nodes_secondOf_21 (by decide) ?_
    exact Sm_reti hR d_Nodes_secondOf_22
  · refine Sm_iload_n E d_Nodes_secondOf_4 rfl 1 rfl ?_
    refine Sm_aload_n E d_Nodes_secondOf_5 rfl 0 rfl ?_
    refine gfC_14_size E fl_Nodes_39 d_Nodes_secondOf_6 ?_
    refine Sm_icmp_ge (tgt := 21) E d_Nodes_secondOf_9 (by decide) (fun _ => ?_) (fun _ => ?_)
    · refine Sm_iconst (v := (-1)) E d_Nodes_secondOf_21 (by decide) ?_
      exact Sm_reti hR d_Nodes_secondOf_22
    · refine Sm_aload_n E d_Nodes_secondOf_12 rfl 0 rfl ?_
      refine gfC_14_seconds E fl_Nodes_18 d_Nodes_secondOf_13 ?_
      refine Sm_iload_n E d_Nodes_secondOf_16 rfl 1 rfl ?_
      refine Sm_gd fun hi => ldC_17 E (inb_in hi) d_Nodes_secondOf_17 ?_
      refine Sm_goto (tgt := 22) E d_Nodes_secondOf_18 (by decide) ?_
      exact Sm_reti hR d_Nodes_secondOf_22
set_option maxRecDepth 100000 in
set_option maxHeartbeats 4000000 in
theorem cC_Nodes_typeOf {l : Launch} {D : va_G} {G : Gx} (x1 : Int32) (u : St) {res : Int32} (hm : mC_Nodes_typeOf x1 u = some res) : KC l D G y_Nodes_typeOf (.code y_Nodes_typeOf prog_5_method_15_code 2 (some .int)) { frames := 0, cells := 0, slots := 0, locals := 0 } [.ref (G.1 14), .int x1] u (qI D vwCl (wC G) (tyW G) (adsC G) (res, u)) := by
  refine Ct_i (by decide) wC_as (Nat.le_of_ble_eq_true rfl) hm (fun X _ _ E hR => ?_)
  refine Sm_lvs (lv' := [(0, .ref (G.1 14)), (1, .int x1)]) rfl ?_
  rw [mC_Nodes_typeOf]
  refine Sm_iload_n E d_Nodes_typeOf_0 rfl 1 rfl ?_
  refine Sm_if_lt (tgt := 21) E d_Nodes_typeOf_1 (by decide) (fun _ => ?_) (fun _ => ?_)
  · refine Sm_iconst (v := (-1)) E d_Nodes_typeOf_21 (by decide) ?_
    exact Sm_reti hR d_Nodes_typeOf_22
  · refine Sm_iload_n E d_Nodes_typeOf_4 rfl 1 rfl ?_
    refine Sm_aload_n E d_Nodes_typeOf_5 rfl 0 rfl ?_
    refine gfC_14_size E fl_Nodes_39 d_Nodes_typeOf_6 ?_
    refine Sm_icmp_ge (tgt := 21) E d_Nodes_typeOf_9 (by decide) (fun _ => ?_) (fun _ => ?_)
    · refine Sm_iconst (v := (-1)) E d_Nodes_typeOf_21 (by decide) ?_
      exact Sm_reti hR d_Nodes_typeOf_22
    · refine Sm_aload_n E d_Nodes_typeOf_12 rfl 0 rfl ?_
      refine gfC_14_types E fl_Nodes_21 d_Nodes_typeOf_13 ?_
      refine Sm_iload_n E d_Nodes_typeOf_16 rfl 1 rfl ?_
      refine Sm_gd fun hi => ldC_18 E (inb_in hi) d_Nodes_typeOf_17 ?_
      refine Sm_goto (tgt := 22) E d_Nodes_typeOf_18 (by decide) ?_
      exact Sm_reti hR d_Nodes_typeOf_22
set_option maxRecDepth 100000 in
set_option maxHeartbeats 4000000 in
theorem cC_Meaning_typeByKind {l : Launch} {D : va_G} {G : Gx} (x0 : Int32) (u : St) {res : Int32} (hm : mC_Meaning_typeByKind x0 u = some res) : KC l D G y_Meaning_typeByKind (.code y_Meaning_typeByKind prog_4_method_20_code 1 (some .int)) { frames := 0, cells := 0, slots := 0, locals := 0 } [.int x0] u (qI D vwCl (wC G) (tyW G) (adsC G) (res, u)) := by
  refine Ct_i (by decide) wC_as (Nat.le_of_ble_eq_true rfl) hm (fun X _ _ E hR => ?_)
  refine Sm_lvs (lv' := [(0, .int x0)]) rfl ?_
  rw [mC_Meaning_typeByKind]
  refine Sm_iload_n E d_Meaning_typeByKind_0 rfl 0 rfl ?_
  refine Sm_if_lt (tgt := 12) E d_Meaning_typeByKind_1 (by decide) (fun _ => ?_) (fun _ => ?_)
  · refine Sm_iconst (v := 0) E d_Meaning_typeByKind_12 (by decide) ?_
    refine Sm_goto (tgt := 21) E d_Meaning_typeByKind_13 (by decide) ?_
    exact Sm_reti hR d_Meaning_typeByKind_21
  · refine Sm_iload_n E d_Meaning_typeByKind_4 rfl 0 rfl ?_
    refine Sm_gsA (j := 3) E (by decide) fl_Meaning_216 d_Meaning_typeByKind_5 ?_
    refine Sm_stn (j := 3) (v := 29) E (by decide) (by decide) d_Meaning_typeByKind_8 ?_
    refine Sm_icmp_lt (tgt := 16) E d_Meaning_typeByKind_9 (by decide) (fun _ => ?_) (fun _ => ?_)
    · refine Sm_gsA (j := 3) E (by decide) fl_Meaning_216 d_Meaning_typeByKind_16 ?_
      refine Sm_iload_n E d_Meaning_typeByKind_19 rfl 0 rfl ?_
      refine Sm_gd fun hi => Sm_stl (j := 3) E (by decide) (inb_in hi) d_Meaning_typeByKind_20 ?_
      exact Sm_reti hR d_Meaning_typeByKind_21
    · refine Sm_iconst (v := 0) E d_Meaning_typeByKind_12 (by decide) ?_
      refine Sm_goto (tgt := 21) E d_Meaning_typeByKind_13 (by decide) ?_
      exact Sm_reti hR d_Meaning_typeByKind_21
set_option maxRecDepth 100000 in
set_option maxHeartbeats 4000000 in
theorem tC_Meaning_typeAhead_J58 {X : Cx} {G : Gx} {res : Int32} {u : St} (E : EC X G prog_4_method_24_code R_Meaning 5 { frames := 1, cells := 0, slots := 0, locals := 67 }) (hR : RtI X vwCl (wC G) prog_4_method_24_code (res, u)) : ∀ (x2 : Int32) (x3 : Int32) , SC X G 5 res (mC_Meaning_typeAhead_J58 x2 x3 u) u 58 [(0, .ref (G.1 29)), (2, .int x2), (3, .int x3)] [] := by
  intro x2 x3
  rw [mC_Meaning_typeAhead_J58]
  refine Sm_iload_n E d_Meaning_typeAhead_58 rfl 2 rfl ?_
  refine Sm_iconst (v := 4) E d_Meaning_typeAhead_59 (by decide) ?_
  refine Sm_icmp_ne (tgt := 72) E d_Meaning_typeAhead_60 (by decide) (fun _ => ?_) (fun _ => ?_)
  · refine Sm_iload_n E d_Meaning_typeAhead_72 rfl 2 rfl ?_
    refine Sm_bipush (v := 28) E d_Meaning_typeAhead_73 (by decide) ?_
    refine Sm_icmp_ne (tgt := 102) E d_Meaning_typeAhead_75 (by decide) (fun _ => ?_) (fun _ => ?_)
    · refine Sm_iload_n E d_Meaning_typeAhead_102 rfl 2 rfl ?_
      refine Sm_cSi (As := [.int x3]) (st := []) (n := 1) E exOk wC_as (fun _ h => cC_Meaning_typeByKind x3 u h) gk_Meaning_213 dk_Meaning_typeByKind rfl ⟨rfl, rfl⟩ ⟨Nat.le_of_ble_eq_true rfl, Nat.le_of_ble_eq_true rfl⟩ rfl (Nat.le_of_ble_eq_true rfl) d_Meaning_typeAhead_103 fun r2 _ => ?_
      exact Sm_reti hR d_Meaning_typeAhead_106
    · refine Sm_aload_n E d_Meaning_typeAhead_78 rfl 0 rfl ?_
      refine gfC_29_lists E fl_Meaning_28 d_Meaning_typeAhead_79 ?_
      refine Sm_bipush (v := 8) E d_Meaning_typeAhead_82 (by decide) ?_
      refine Sm_aload_n E d_Meaning_typeAhead_84 rfl 0 rfl ?_
      refine gfC_29_nodes E fl_Meaning_24 d_Meaning_typeAhead_85 ?_
      refine Sm_iload_n E d_Meaning_typeAhead_88 rfl 1 rfl ?_
      refine Sm_cVi (As := [.int x2]) (b := (G.1 14)) (st := [.int 8, .ref (G.1 24)]) (n := 1) E exOk wC_as (fun _ h => cC_Nodes_firstOf x2 u h) gk_Meaning_198 dk_Nodes_firstOf rfl ⟨rfl, rfl⟩ ⟨Nat.le_of_ble_eq_true rfl, Nat.le_of_ble_eq_true rfl⟩ (rvW (q0 := 14) (ci := 5) E rfl rfl rfl) rfl (Nat.le_of_ble_eq_true rfl) d_Meaning_typeAhead_89 fun r3 _ => ?_
      refine Sm_iconst (v := 1) E d_Meaning_typeAhead_92 (by decide) ?_
      refine Sm_isub E d_Meaning_typeAhead_93 ?_
      refine Sm_cVi (As := [.int 8, .int (r3 - 1)]) (b := (G.1 24)) (st := []) (n := 2) E exOk wC_as (fun _ h => cC_Lists_at 8 (r3 - 1) u h) gk_Meaning_70 dk_Lists_at rfl ⟨rfl, rfl⟩ ⟨Nat.le_of_ble_eq_true rfl, Nat.le_of_ble_eq_true rfl⟩ (rvW (q0 := 24) (ci := 3) E rfl rfl rfl) rfl (Nat.le_of_ble_eq_true rfl) d_Meaning_typeAhead_94 fun r4 _ => ?_
      refine Sm_iconst (v := 0) E d_Meaning_typeAhead_97 (by decide) ?_
      refine Sm_mmax E ml_Meaning_234 ⟨Nat.le_of_ble_eq_true rfl, Nat.le_of_ble_eq_true rfl⟩ (Nat.le_of_ble_eq_true rfl) d_Meaning_typeAhead_98 ?_
      exact Sm_reti hR d_Meaning_typeAhead_101
  · refine Sm_aload_n E d_Meaning_typeAhead_63 rfl 0 rfl ?_
    refine gfC_29_nodes E fl_Meaning_24 d_Meaning_typeAhead_64 ?_
    refine Sm_iload_n E d_Meaning_typeAhead_67 rfl 1 rfl ?_
    refine Sm_cVi (As := [.int x2]) (b := (G.1 14)) (st := []) (n := 1) E exOk wC_as (fun _ h => cC_Nodes_typeOf x2 u h) gk_Meaning_201 dk_Nodes_typeOf rfl ⟨rfl, rfl⟩ ⟨Nat.le_of_ble_eq_true rfl, Nat.le_of_ble_eq_true rfl⟩ (rvW (q0 := 14) (ci := 5) E rfl rfl rfl) rfl (Nat.le_of_ble_eq_true rfl) d_Meaning_typeAhead_68 fun r5 _ => ?_
    exact Sm_reti hR d_Meaning_typeAhead_71
set_option maxRecDepth 100000 in
set_option maxHeartbeats 4000000 in
theorem tC_Meaning_typeAhead_J34 {X : Cx} {G : Gx} {res : Int32} {u : St} (E : EC X G prog_4_method_24_code R_Meaning 5 { frames := 1, cells := 0, slots := 0, locals := 67 }) (hR : RtI X vwCl (wC G) prog_4_method_24_code (res, u)) {q14 : Int32 → Int32 → Int32 → St → Option (Int32)} (h14 : ∀ (x2 : Int32) (x3 : Int32) (x4 : Int32) , SC X G 5 res (q14 x2 x3 x4 u) u 14 [(0, .ref (G.1 29)), (2, .int x2), (3, .int x3), (4, .int x4)] []) : ∀ (x2 : Int32) (x4 : Int32) , SC X G 5 res (mC_Meaning_typeAhead_J34 q14 x2 x4 u) u 34 [(0, .ref (G.1 29)), (2, .int x2), (4, .int x4)] [] := by
  intro x2 x4
  rw [mC_Meaning_typeAhead_J34]
  refine Sm_aload_n E d_Meaning_typeAhead_34 rfl 0 rfl ?_
  refine gfC_29_nodes E fl_Meaning_24 d_Meaning_typeAhead_35 ?_
  refine Sm_iload_n E d_Meaning_typeAhead_38 rfl 1 rfl ?_
  refine Sm_cVi (As := [.int x2]) (b := (G.1 14)) (st := []) (n := 1) E exOk wC_as (fun _ h => cC_Nodes_firstOf x2 u h) gk_Meaning_198 dk_Nodes_firstOf rfl ⟨rfl, rfl⟩ ⟨Nat.le_of_ble_eq_true rfl, Nat.le_of_ble_eq_true rfl⟩ (rvW (q0 := 14) (ci := 5) E rfl rfl rfl) rfl (Nat.le_of_ble_eq_true rfl) d_Meaning_typeAhead_39 fun r6 _ => ?_
  refine Sm_istore_n (lv' := [(2, .int r6), (0, .ref (G.1 29)), (4, .int x4)]) E d_Meaning_typeAhead_42 rfl (by decide) rfl ?_
  refine Sm_aload_n E d_Meaning_typeAhead_43 rfl 1 rfl ?_
  refine gfC_29_nodes E fl_Meaning_24 d_Meaning_typeAhead_44 ?_
  refine Sm_iload_n E d_Meaning_typeAhead_47 rfl 0 rfl ?_
  refine Sm_cVi (As := [.int r6]) (b := (G.1 14)) (st := []) (n := 1) E exOk wC_as (fun _ h => cC_Nodes_kindOf r6 u h) gk_Meaning_128 dk_Nodes_kindOf rfl ⟨rfl, rfl⟩ ⟨Nat.le_of_ble_eq_true rfl, Nat.le_of_ble_eq_true rfl⟩ (rvW (q0 := 14) (ci := 5) E rfl rfl rfl) rfl (Nat.le_of_ble_eq_true rfl) d_Meaning_typeAhead_48 fun r7 _ => ?_
  refine Sm_istore_n (lv' := [(3, .int r7), (2, .int r6), (0, .ref (G.1 29)), (4, .int x4)]) E d_Meaning_typeAhead_51 rfl (by decide) rfl ?_
  refine Sm_iinc (k := 3) (d := 1) E d_Meaning_typeAhead_52 rfl rfl (by decide) fun y8 _ => Sm_lvs (lv' := [(4, .int y8), (3, .int r7), (2, .int r6), (0, .ref (G.1 29))]) rfl ?_
  refine Sm_goto (tgt := 14) E d_Meaning_typeAhead_55 (by decide) ?_
  exact Sm_sub [3, 2, 1, 0] rfl (h14 _ _ _)
set_option maxRecDepth 100000 in
set_option maxHeartbeats 4000000 in
theorem tC_Meaning_typeAhead_L14 {X : Cx} {G : Gx} {res : Int32} {u : St} (E : EC X G prog_4_method_24_code R_Meaning 5 { frames := 1, cells := 0, slots := 0, locals := 67 }) (hR : RtI X vwCl (wC G) prog_4_method_24_code (res, u)) : ∀ (n : Nat) (x2 : Int32) (x3 : Int32) (x4 : Int32) , SC X G 5 res (mC_Meaning_typeAhead_L14 n x2 x3 x4 u) u 14 [(0, .ref (G.1 29)), (2, .int x2), (3, .int x3), (4, .int x4)] [] := by
  intro n
  induction n with
  | zero => intro x2 x3 x4; exact Sm_none
  | succ n h14 =>
    intro x2 x3 x4
    rw [mC_Meaning_typeAhead_L14]
    refine Sm_iload E d_Meaning_typeAhead_14 3 rfl ?_
    refine Sm_sipush (v := 200) E d_Meaning_typeAhead_16 (by decide) ?_
    refine Sm_icmp_ge (tgt := 58) E d_Meaning_typeAhead_19 (by decide) (fun _ => ?_) (fun _ => ?_)
    · exact Sm_sub [0, 1, 2] rfl (tC_Meaning_typeAhead_J58 E hR _ _)
    · refine Sm_iload_n E d_Meaning_typeAhead_22 rfl 2 rfl ?_
      refine Sm_bipush (v := 8) E d_Meaning_typeAhead_23 (by decide) ?_
      refine Sm_icmp_eq (tgt := 34) E d_Meaning_typeAhead_25 (by decide) (fun _ => ?_) (fun _ => ?_)
      · exact Sm_sub [0, 1, 3] rfl (tC_Meaning_typeAhead_J34 E hR h14 _ _)
      · refine Sm_iload_n E d_Meaning_typeAhead_28 rfl 2 rfl ?_
        refine Sm_bipush (v := 9) E d_Meaning_typeAhead_29 (by decide) ?_
        refine Sm_icmp_ne (tgt := 58) E d_Meaning_typeAhead_31 (by decide) (fun _ => ?_) (fun _ => ?_)
        · exact Sm_sub [0, 1, 2] rfl (tC_Meaning_typeAhead_J58 E hR _ _)
        · exact Sm_sub [0, 1, 3] rfl (tC_Meaning_typeAhead_J34 E hR h14 _ _)
set_option maxRecDepth 100000 in
set_option maxHeartbeats 4000000 in
theorem cC_Meaning_typeAhead {l : Launch} {D : va_G} {G : Gx} (x1 : Int32) (u : St) {res : Int32} (hm : mC_Meaning_typeAhead x1 u = some res) : KC l D G y_Meaning_typeAhead (.code y_Meaning_typeAhead prog_4_method_24_code 5 (some .int)) { frames := 1, cells := 0, slots := 0, locals := 67 } [.ref (G.1 29), .int x1] u (qI D vwCl (wC G) (tyW G) (adsC G) (res, u)) := by
  refine Ct_i (by decide) wC_as (Nat.le_of_ble_eq_true rfl) hm (fun X _ _ E hR => ?_)
  refine Sm_lvs (lv' := [(0, .ref (G.1 29)), (1, .int x1)]) rfl ?_
  rw [mC_Meaning_typeAhead]
  refine Sm_iload_n E d_Meaning_typeAhead_0 rfl 1 rfl ?_
  refine Sm_istore_n (lv' := [(2, .int x1), (0, .ref (G.1 29)), (1, .int x1)]) E d_Meaning_typeAhead_1 rfl (by decide) rfl ?_
  refine Sm_aload_n E d_Meaning_typeAhead_2 rfl 1 rfl ?_
  refine gfC_29_nodes E fl_Meaning_24 d_Meaning_typeAhead_3 ?_
  refine Sm_iload_n E d_Meaning_typeAhead_6 rfl 0 rfl ?_
  refine Sm_cVi (As := [.int x1]) (b := (G.1 14)) (st := []) (n := 1) E exOk wC_as (fun _ h => cC_Nodes_kindOf x1 u h) gk_Meaning_128 dk_Nodes_kindOf rfl ⟨rfl, rfl⟩ ⟨Nat.le_of_ble_eq_true rfl, Nat.le_of_ble_eq_true rfl⟩ (rvW (q0 := 14) (ci := 5) E rfl rfl rfl) rfl (Nat.le_of_ble_eq_true rfl) d_Meaning_typeAhead_7 fun r1 _ => ?_
  refine Sm_istore_n (lv' := [(3, .int r1), (2, .int x1), (0, .ref (G.1 29)), (1, .int x1)]) E d_Meaning_typeAhead_10 rfl (by decide) rfl ?_
  refine Sm_iconst (v := 0) E d_Meaning_typeAhead_11 (by decide) ?_
  refine Sm_istore (lv' := [(4, .int 0), (3, .int r1), (2, .int x1), (0, .ref (G.1 29)), (1, .int x1)]) E d_Meaning_typeAhead_12 (by decide) rfl ?_
  exact Sm_sub [3, 2, 1, 0] rfl (tC_Meaning_typeAhead_L14 E hR FU _ _ _)
set_option maxRecDepth 100000 in
set_option maxHeartbeats 4000000 in
theorem cC_Meaning_neededAt {l : Launch} {D : va_G} {G : Gx} (x1 : Int32) (u : St) {res : Int32} (hm : mC_Meaning_neededAt x1 u = some res) : KC l D G y_Meaning_neededAt (.code y_Meaning_neededAt prog_4_method_23_code 5 (some .int)) { frames := 2, cells := 0, slots := 0, locals := 91 } [.ref (G.1 29), .int x1] u (qI D vwCl (wC G) (tyW G) (adsC G) (res, u)) := by
  refine Ct_i (by decide) wC_as (Nat.le_of_ble_eq_true rfl) hm (fun X _ _ E hR => ?_)
  refine Sm_lvs (lv' := [(0, .ref (G.1 29)), (1, .int x1)]) rfl ?_
  rw [mC_Meaning_neededAt]
  refine Sm_aload_n E d_Meaning_neededAt_0 rfl 0 rfl ?_
  refine gfC_29_nodes E fl_Meaning_24 d_Meaning_neededAt_1 ?_
  refine Sm_iload_n E d_Meaning_neededAt_4 rfl 1 rfl ?_
  refine Sm_cVi (As := [.int x1]) (b := (G.1 14)) (st := []) (n := 1) E exOk wC_as (fun _ h => cC_Nodes_parentOf x1 u h) gk_Meaning_228 dk_Nodes_parentOf rfl ⟨rfl, rfl⟩ ⟨Nat.le_of_ble_eq_true rfl, Nat.le_of_ble_eq_true rfl⟩ (rvW (q0 := 14) (ci := 5) E rfl rfl rfl) rfl (Nat.le_of_ble_eq_true rfl) d_Meaning_neededAt_5 fun r1 _ => ?_
  refine Sm_istore_n (lv' := [(2, .int r1), (0, .ref (G.1 29)), (1, .int x1)]) E d_Meaning_neededAt_8 rfl (by decide) rfl ?_
  refine Sm_aload_n E d_Meaning_neededAt_9 rfl 1 rfl ?_
  refine gfC_29_nodes E fl_Meaning_24 d_Meaning_neededAt_10 ?_
  refine Sm_iload_n E d_Meaning_neededAt_13 rfl 0 rfl ?_
  refine Sm_cVi (As := [.int r1]) (b := (G.1 14)) (st := []) (n := 1) E exOk wC_as (fun _ h => cC_Nodes_kindOf r1 u h) gk_Meaning_128 dk_Nodes_kindOf rfl ⟨rfl, rfl⟩ ⟨Nat.le_of_ble_eq_true rfl, Nat.le_of_ble_eq_true rfl⟩ (rvW (q0 := 14) (ci := 5) E rfl rfl rfl) rfl (Nat.le_of_ble_eq_true rfl) d_Meaning_neededAt_14 fun r2 _ => ?_
  refine Sm_istore_n (lv' := [(3, .int r2), (2, .int r1), (0, .ref (G.1 29)), (1, .int x1)]) E d_Meaning_neededAt_17 rfl (by decide) rfl ?_
  refine Sm_iload_n E d_Meaning_neededAt_18 rfl 0 rfl ?_
  refine Sm_if_lt (tgt := 30) E d_Meaning_neededAt_19 (by decide) (fun _ => ?_) (fun _ => ?_)
  · refine Sm_aload_n E d_Meaning_neededAt_30 rfl 2 rfl ?_
    refine gfC_29_nodes E fl_Meaning_24 d_Meaning_neededAt_31 ?_
    refine Sm_iload_n E d_Meaning_neededAt_34 rfl 3 rfl ?_
    refine Sm_cVi (As := [.int x1]) (b := (G.1 14)) (st := []) (n := 1) E exOk wC_as (fun _ h => cC_Nodes_needOf x1 u h) gk_Meaning_192 dk_Nodes_needOf rfl ⟨rfl, rfl⟩ ⟨Nat.le_of_ble_eq_true rfl, Nat.le_of_ble_eq_true rfl⟩ (rvW (q0 := 14) (ci := 5) E rfl rfl rfl) rfl (Nat.le_of_ble_eq_true rfl) d_Meaning_neededAt_35 fun r3 _ => ?_
    exact Sm_reti hR d_Meaning_neededAt_38
  · refine Sm_iload_n E d_Meaning_neededAt_22 rfl 0 rfl ?_
    refine Sm_gsA (j := 2) E (by decide) fl_Meaning_209 d_Meaning_neededAt_23 ?_
    refine Sm_stn (j := 2) (v := 29) E (by decide) (by decide) d_Meaning_neededAt_26 ?_
    refine Sm_icmp_lt (tgt := 39) E d_Meaning_neededAt_27 (by decide) (fun _ => ?_) (fun _ => ?_)
    · refine Sm_iload_n E d_Meaning_neededAt_39 rfl 0 rfl ?_
      refine Sm_cSi (As := [.int r2]) (st := []) (n := 1) E exOk wC_as (fun _ h => cC_Nodes_compares r2 u h) gk_Meaning_206 dk_Nodes_compares rfl ⟨rfl, rfl⟩ ⟨Nat.le_of_ble_eq_true rfl, Nat.le_of_ble_eq_true rfl⟩ rfl (Nat.le_of_ble_eq_true rfl) d_Meaning_neededAt_40 fun r4 _ => ?_
      refine Sm_if_ne (tgt := 52) E d_Meaning_neededAt_43 (by decide) (fun _ => ?_) (fun _ => ?_)
      · refine Sm_aload_n E d_Meaning_neededAt_52 rfl 2 rfl ?_
        refine gfC_29_nodes E fl_Meaning_24 d_Meaning_neededAt_53 ?_
        refine Sm_iload_n E d_Meaning_neededAt_56 rfl 1 rfl ?_
        refine Sm_cVi (As := [.int r1]) (b := (G.1 14)) (st := []) (n := 1) E exOk wC_as (fun _ h => cC_Nodes_firstOf r1 u h) gk_Meaning_198 dk_Nodes_firstOf rfl ⟨rfl, rfl⟩ ⟨Nat.le_of_ble_eq_true rfl, Nat.le_of_ble_eq_true rfl⟩ (rvW (q0 := 14) (ci := 5) E rfl rfl rfl) rfl (Nat.le_of_ble_eq_true rfl) d_Meaning_neededAt_57 fun r5 _ => ?_
        refine Sm_istore (lv' := [(4, .int r5), (3, .int r2), (2, .int r1), (0, .ref (G.1 29)), (1, .int x1)]) E d_Meaning_neededAt_60 (by decide) rfl ?_
        refine Sm_aload_n E d_Meaning_neededAt_62 rfl 3 rfl ?_
        refine Sm_iload E d_Meaning_neededAt_63 0 rfl ?_
        refine Sm_iload_n E d_Meaning_neededAt_65 rfl 4 rfl ?_
        refine Sm_icmp_ne (tgt := 80) E d_Meaning_neededAt_66 (by decide) (fun _ => ?_) (fun _ => ?_)
        · refine Sm_iload E d_Meaning_neededAt_80 0 rfl ?_
          refine Sm_cVi (As := [.int r5]) (b := (G.1 29)) (st := []) (n := 1) E exOk wC_as (fun _ h => cC_Meaning_typeAhead r5 u h) gk_Meaning_231 dk_Meaning_typeAhead rfl ⟨rfl, rfl⟩ ⟨Nat.le_of_ble_eq_true rfl, Nat.le_of_ble_eq_true rfl⟩ (rvW (q0 := 29) (ci := 4) E rfl rfl rfl) rfl (Nat.le_of_ble_eq_true rfl) d_Meaning_neededAt_82 fun r6 _ => ?_
          exact Sm_reti hR d_Meaning_neededAt_85
        · refine Sm_aload_n E d_Meaning_neededAt_69 rfl 3 rfl ?_
          refine gfC_29_nodes E fl_Meaning_24 d_Meaning_neededAt_70 ?_
          refine Sm_iload_n E d_Meaning_neededAt_73 rfl 2 rfl ?_
          refine Sm_cVi (As := [.int r1]) (b := (G.1 14)) (st := [.ref (G.1 29)]) (n := 1) E exOk wC_as (fun _ h => cC_Nodes_secondOf r1 u h) gk_Meaning_203 dk_Nodes_secondOf rfl ⟨rfl, rfl⟩ ⟨Nat.le_of_ble_eq_true rfl, Nat.le_of_ble_eq_true rfl⟩ (rvW (q0 := 14) (ci := 5) E rfl rfl rfl) rfl (Nat.le_of_ble_eq_true rfl) d_Meaning_neededAt_74 fun r7 _ => ?_
          refine Sm_goto (tgt := 82) E d_Meaning_neededAt_77 (by decide) ?_
          refine Sm_cVi (As := [.int r7]) (b := (G.1 29)) (st := []) (n := 1) E exOk wC_as (fun _ h => cC_Meaning_typeAhead r7 u h) gk_Meaning_231 dk_Meaning_typeAhead rfl ⟨rfl, rfl⟩ ⟨Nat.le_of_ble_eq_true rfl, Nat.le_of_ble_eq_true rfl⟩ (rvW (q0 := 29) (ci := 4) E rfl rfl rfl) rfl (Nat.le_of_ble_eq_true rfl) d_Meaning_neededAt_82 fun r8 _ => ?_
          exact Sm_reti hR d_Meaning_neededAt_85
      · refine Sm_gsA (j := 2) E (by decide) fl_Meaning_209 d_Meaning_neededAt_46 ?_
        refine Sm_iload_n E d_Meaning_neededAt_49 rfl 0 rfl ?_
        refine Sm_gd fun hi => Sm_stl (j := 2) E (by decide) (inb_in hi) d_Meaning_neededAt_50 ?_
        exact Sm_reti hR d_Meaning_neededAt_51
    · refine Sm_aload_n E d_Meaning_neededAt_30 rfl 2 rfl ?_
      refine gfC_29_nodes E fl_Meaning_24 d_Meaning_neededAt_31 ?_
      refine Sm_iload_n E d_Meaning_neededAt_34 rfl 3 rfl ?_
      refine Sm_cVi (As := [.int x1]) (b := (G.1 14)) (st := []) (n := 1) E exOk wC_as (fun _ h => cC_Nodes_needOf x1 u h) gk_Meaning_192 dk_Nodes_needOf rfl ⟨rfl, rfl⟩ ⟨Nat.le_of_ble_eq_true rfl, Nat.le_of_ble_eq_true rfl⟩ (rvW (q0 := 14) (ci := 5) E rfl rfl rfl) rfl (Nat.le_of_ble_eq_true rfl) d_Meaning_neededAt_35 fun r9 _ => ?_
      exact Sm_reti hR d_Meaning_neededAt_38
set_option maxRecDepth 100000 in
set_option maxHeartbeats 4000000 in
theorem cC_Lists_put {l : Launch} {D : va_G} {G : Gx} (x1 : Int32) (x2 : Int32) (x3 : Int32) (u : St) {res : St} (hm : mC_Lists_put x1 x2 x3 u = some res) : KC l D G y_Lists_put (.code y_Lists_put prog_3_method_7_code 4 none) { frames := 0, cells := 0, slots := 0, locals := 0 } [.ref (G.1 24), .int x1, .int x2, .int x3] u (qV D vwCl (wC G) (tyW G) (adsC G) res) := by
  refine Ct_V (by decide) wC_as (Nat.le_of_ble_eq_true rfl) hm (fun X _ _ E hR => ?_)
  refine Sm_lvs (lv' := [(0, .ref (G.1 24)), (1, .int x1), (2, .int x2), (3, .int x3)]) rfl ?_
  rw [mC_Lists_put]
  refine Sm_iload_n E d_Lists_put_0 rfl 1 rfl ?_
  refine Sm_if_lt (tgt := 37) E d_Lists_put_1 (by decide) (fun _ => ?_) (fun _ => ?_)
  · exact Sm_retV hR d_Lists_put_37
  · refine Sm_iload_n E d_Lists_put_4 rfl 1 rfl ?_
    refine Sm_bipush (v := 14) E d_Lists_put_5 (by decide) ?_
    refine Sm_icmp_ge (tgt := 37) E d_Lists_put_7 (by decide) (fun _ => ?_) (fun _ => ?_)
    · exact Sm_retV hR d_Lists_put_37
    · refine Sm_iload_n E d_Lists_put_10 rfl 2 rfl ?_
      refine Sm_if_lt (tgt := 37) E d_Lists_put_11 (by decide) (fun _ => ?_) (fun _ => ?_)
      · exact Sm_retV hR d_Lists_put_37
      · refine Sm_iload_n E d_Lists_put_14 rfl 2 rfl ?_
        refine Sm_aload_n E d_Lists_put_15 rfl 0 rfl ?_
        refine gfC_24_sizes E fl_Lists_9 d_Lists_put_16 ?_
        refine Sm_iload_n E d_Lists_put_19 rfl 1 rfl ?_
        refine Sm_gd fun hi => ldC_25 E (inb_in hi) d_Lists_put_20 ?_
        refine Sm_icmp_ge (tgt := 37) E d_Lists_put_21 (by decide) (fun _ => ?_) (fun _ => ?_)
        · exact Sm_retV hR d_Lists_put_37
        · refine Sm_aload_n E d_Lists_put_24 rfl 0 rfl ?_
          refine gfC_24_entries E fl_Lists_13 d_Lists_put_25 ?_
          refine Sm_gsA (j := 1) E (by decide) fl_Lists_29 d_Lists_put_28 ?_
          refine Sm_iload_n E d_Lists_put_31 rfl 1 rfl ?_
          refine Sm_gd fun hi => Sm_stl (j := 1) E (by decide) (inb_in hi) d_Lists_put_32 ?_
          refine Sm_iload_n E d_Lists_put_33 rfl 2 rfl ?_
          refine Sm_iadd E d_Lists_put_34 ?_
          refine Sm_iload_n E d_Lists_put_35 rfl 3 rfl ?_
          refine Sm_gd fun hi => stC_26 E (inb_in hi) d_Lists_put_36 fun u1 _ => ?_
          exact Sm_retV hR d_Lists_put_37
set_option maxRecDepth 100000 in
set_option maxHeartbeats 4000000 in
theorem tC_Meaning_parameterType_L19 {X : Cx} {G : Gx} {res : Int32 × St} (E : EC X G prog_4_method_22_code R_Meaning 4 { frames := 3, cells := 0, slots := 0, locals := 115 }) (hR : RtI X vwCl (wC G) prog_4_method_22_code res) : ∀ (n : Nat) (x1 : Int32) (x2 : Int32) (x3 : Int32) (u : St), SC X G 4 res (mC_Meaning_parameterType_L19 n x1 x2 x3 u) u 19 [(0, .ref (G.1 29)), (1, .int x1), (2, .int x2), (3, .int x3)] [] := by
  intro n
  induction n with
  | zero => intro x1 x2 x3 u; exact Sm_none
  | succ n h19 =>
    intro x1 x2 x3 u
    rw [mC_Meaning_parameterType_L19]
    refine Sm_iload_n E d_Meaning_parameterType_19 rfl 3 rfl ?_
    refine Sm_iload_n E d_Meaning_parameterType_20 rfl 2 rfl ?_
    refine Sm_icmp_ge (tgt := 40) E d_Meaning_parameterType_21 (by decide) (fun _ => ?_) (fun _ => ?_)
    · refine Sm_aload_n E d_Meaning_parameterType_40 rfl 0 rfl ?_
      refine gfC_29_lists E fl_Meaning_28 d_Meaning_parameterType_41 ?_
      refine Sm_bipush (v := 8) E d_Meaning_parameterType_44 (by decide) ?_
      refine Sm_iload_n E d_Meaning_parameterType_46 rfl 2 rfl ?_
      refine Sm_iconst (v := 1) E d_Meaning_parameterType_47 (by decide) ?_
      refine Sm_isub E d_Meaning_parameterType_48 ?_
      refine Sm_cVi (As := [.int 8, .int (x2 - 1)]) (b := (G.1 24)) (st := []) (n := 2) E exOk wC_as (fun _ h => cC_Lists_at 8 (x2 - 1) u h) gk_Meaning_70 dk_Lists_at rfl ⟨rfl, rfl⟩ ⟨Nat.le_of_ble_eq_true rfl, Nat.le_of_ble_eq_true rfl⟩ (rvW (q0 := 24) (ci := 3) E rfl rfl rfl) rfl (Nat.le_of_ble_eq_true rfl) d_Meaning_parameterType_49 fun r3 _ => ?_
      refine Sm_if_ne (tgt := 82) E d_Meaning_parameterType_52 (by decide) (fun _ => ?_) (fun _ => ?_)
      · refine Sm_aload_n E d_Meaning_parameterType_82 rfl 0 rfl ?_
        refine gfC_29_lists E fl_Meaning_28 d_Meaning_parameterType_83 ?_
        refine Sm_bipush (v := 8) E d_Meaning_parameterType_86 (by decide) ?_
        refine Sm_iload_n E d_Meaning_parameterType_88 rfl 2 rfl ?_
        refine Sm_iconst (v := 1) E d_Meaning_parameterType_89 (by decide) ?_
        refine Sm_isub E d_Meaning_parameterType_90 ?_
        refine Sm_cVi (As := [.int 8, .int (x2 - 1)]) (b := (G.1 24)) (st := []) (n := 2) E exOk wC_as (fun _ h => cC_Lists_at 8 (x2 - 1) u h) gk_Meaning_70 dk_Lists_at rfl ⟨rfl, rfl⟩ ⟨Nat.le_of_ble_eq_true rfl, Nat.le_of_ble_eq_true rfl⟩ (rvW (q0 := 24) (ci := 3) E rfl rfl rfl) rfl (Nat.le_of_ble_eq_true rfl) d_Meaning_parameterType_91 fun r4 _ => ?_
        exact Sm_retI hR d_Meaning_parameterType_94
      · refine Sm_aload_n E d_Meaning_parameterType_55 rfl 0 rfl ?_
        refine Sm_iload_n E d_Meaning_parameterType_56 rfl 1 rfl ?_
        refine Sm_cVi (As := [.int x1]) (b := (G.1 29)) (st := []) (n := 1) E exOk wC_as (fun _ h => cC_Meaning_neededAt x1 u h) gk_Meaning_222 dk_Meaning_neededAt rfl ⟨rfl, rfl⟩ ⟨Nat.le_of_ble_eq_true rfl, Nat.le_of_ble_eq_true rfl⟩ (rvW (q0 := 29) (ci := 4) E rfl rfl rfl) rfl (Nat.le_of_ble_eq_true rfl) d_Meaning_parameterType_57 fun r5 _ => ?_
        refine Sm_istore_n (lv' := [(3, .int r5), (0, .ref (G.1 29)), (1, .int x1), (2, .int x2)]) E d_Meaning_parameterType_60 rfl (by decide) rfl ?_
        refine Sm_aload_n E d_Meaning_parameterType_61 rfl 1 rfl ?_
        refine gfC_29_lists E fl_Meaning_28 d_Meaning_parameterType_62 ?_
        refine Sm_bipush (v := 8) E d_Meaning_parameterType_65 (by decide) ?_
        refine Sm_iload_n E d_Meaning_parameterType_67 rfl 3 rfl ?_
        refine Sm_iconst (v := 1) E d_Meaning_parameterType_68 (by decide) ?_
        refine Sm_isub E d_Meaning_parameterType_69 ?_
        refine Sm_iload_n E d_Meaning_parameterType_70 rfl 0 rfl ?_
        refine Sm_if_ne (tgt := 78) E d_Meaning_parameterType_71 (by decide) (fun _ => ?_) (fun _ => ?_)
        · refine Sm_iload_n E d_Meaning_parameterType_78 rfl 0 rfl ?_
          refine Sm_cVV (As := [.int 8, .int (x2 - 1), .int r5]) (b := (G.1 24)) (st := []) (n := 3) E exOk wC_as (fun _ h => cC_Lists_put 8 (x2 - 1) r5 u h) gk_Meaning_225 dk_Lists_put rfl ⟨rfl, rfl⟩ ⟨Nat.le_of_ble_eq_true rfl, Nat.le_of_ble_eq_true rfl⟩ (rvW (q0 := 24) (ci := 3) E rfl rfl rfl) rfl (Nat.le_of_ble_eq_true rfl) d_Meaning_parameterType_79 fun u6 _ => ?_
          refine Sm_aload_n E d_Meaning_parameterType_82 rfl 1 rfl ?_
          refine gfC_29_lists E fl_Meaning_28 d_Meaning_parameterType_83 ?_
          refine Sm_bipush (v := 8) E d_Meaning_parameterType_86 (by decide) ?_
          refine Sm_iload_n E d_Meaning_parameterType_88 rfl 3 rfl ?_
          refine Sm_iconst (v := 1) E d_Meaning_parameterType_89 (by decide) ?_
          refine Sm_isub E d_Meaning_parameterType_90 ?_
          refine Sm_cVi (As := [.int 8, .int (x2 - 1)]) (b := (G.1 24)) (st := []) (n := 2) E exOk wC_as (fun _ h => cC_Lists_at 8 (x2 - 1) u6 h) gk_Meaning_70 dk_Lists_at rfl ⟨rfl, rfl⟩ ⟨Nat.le_of_ble_eq_true rfl, Nat.le_of_ble_eq_true rfl⟩ (rvW (q0 := 24) (ci := 3) E rfl rfl rfl) rfl (Nat.le_of_ble_eq_true rfl) d_Meaning_parameterType_91 fun r7 _ => ?_
          exact Sm_retI hR d_Meaning_parameterType_94
        · refine Sm_iconst (v := 2) E d_Meaning_parameterType_74 (by decide) ?_
          refine Sm_goto (tgt := 79) E d_Meaning_parameterType_75 (by decide) ?_
          refine Sm_cVV (As := [.int 8, .int (x2 - 1), .int 2]) (b := (G.1 24)) (st := []) (n := 3) E exOk wC_as (fun _ h => cC_Lists_put 8 (x2 - 1) 2 u h) gk_Meaning_225 dk_Lists_put rfl ⟨rfl, rfl⟩ ⟨Nat.le_of_ble_eq_true rfl, Nat.le_of_ble_eq_true rfl⟩ (rvW (q0 := 24) (ci := 3) E rfl rfl rfl) rfl (Nat.le_of_ble_eq_true rfl) d_Meaning_parameterType_79 fun u8 _ => ?_
          refine Sm_aload_n E d_Meaning_parameterType_82 rfl 1 rfl ?_
          refine gfC_29_lists E fl_Meaning_28 d_Meaning_parameterType_83 ?_
          refine Sm_bipush (v := 8) E d_Meaning_parameterType_86 (by decide) ?_
          refine Sm_iload_n E d_Meaning_parameterType_88 rfl 3 rfl ?_
          refine Sm_iconst (v := 1) E d_Meaning_parameterType_89 (by decide) ?_
          refine Sm_isub E d_Meaning_parameterType_90 ?_
          refine Sm_cVi (As := [.int 8, .int (x2 - 1)]) (b := (G.1 24)) (st := []) (n := 2) E exOk wC_as (fun _ h => cC_Lists_at 8 (x2 - 1) u8 h) gk_Meaning_70 dk_Lists_at rfl ⟨rfl, rfl⟩ ⟨Nat.le_of_ble_eq_true rfl, Nat.le_of_ble_eq_true rfl⟩ (rvW (q0 := 24) (ci := 3) E rfl rfl rfl) rfl (Nat.le_of_ble_eq_true rfl) d_Meaning_parameterType_91 fun r9 _ => ?_
          exact Sm_retI hR d_Meaning_parameterType_94
    · refine Sm_aload_n E d_Meaning_parameterType_24 rfl 0 rfl ?_
      refine gfC_29_lists E fl_Meaning_28 d_Meaning_parameterType_25 ?_
      refine Sm_bipush (v := 8) E d_Meaning_parameterType_28 (by decide) ?_
      refine Sm_iconst (v := 0) E d_Meaning_parameterType_30 (by decide) ?_
      refine Sm_cVV (As := [.int 8, .int 0]) (b := (G.1 24)) (st := []) (n := 2) E exOk wC_as (fun _ h => cC_Lists_add 8 0 u h) gk_Meaning_80 dk_Lists_add rfl ⟨rfl, rfl⟩ ⟨Nat.le_of_ble_eq_true rfl, Nat.le_of_ble_eq_true rfl⟩ (rvW (q0 := 24) (ci := 3) E rfl rfl rfl) rfl (Nat.le_of_ble_eq_true rfl) d_Meaning_parameterType_31 fun u10 _ => ?_
      refine Sm_iinc (k := 3) (d := 1) E d_Meaning_parameterType_34 rfl rfl (by decide) fun y11 _ => Sm_lvs (lv' := [(3, .int y11), (0, .ref (G.1 29)), (1, .int x1), (2, .int x2)]) rfl ?_
      refine Sm_goto (tgt := 19) E d_Meaning_parameterType_37 (by decide) ?_
      exact Sm_sub [1, 2, 3, 0] rfl (h19 _ _ _ _)
set_option maxRecDepth 100000 in
set_option maxHeartbeats 4000000 in
theorem cC_Meaning_parameterType {l : Launch} {D : va_G} {G : Gx} (x1 : Int32) (u : St) {res : Int32 × St} (hm : mC_Meaning_parameterType x1 u = some res) : KC l D G y_Meaning_parameterType (.code y_Meaning_parameterType prog_4_method_22_code 4 (some .int)) { frames := 3, cells := 0, slots := 0, locals := 115 } [.ref (G.1 29), .int x1] u (qI D vwCl (wC G) (tyW G) (adsC G) res) := by
  refine Ct_I (by decide) wC_as (Nat.le_of_ble_eq_true rfl) hm (fun X _ _ E hR => ?_)
  refine Sm_lvs (lv' := [(0, .ref (G.1 29)), (1, .int x1)]) rfl ?_
  rw [mC_Meaning_parameterType]
  refine Sm_aload_n E d_Meaning_parameterType_0 rfl 0 rfl ?_
  refine gfC_29_nodes E fl_Meaning_24 d_Meaning_parameterType_1 ?_
  refine Sm_iload_n E d_Meaning_parameterType_4 rfl 1 rfl ?_
  refine Sm_cVi (As := [.int x1]) (b := (G.1 14)) (st := []) (n := 1) E exOk wC_as (fun _ h => cC_Nodes_firstOf x1 u h) gk_Meaning_198 dk_Nodes_firstOf rfl ⟨rfl, rfl⟩ ⟨Nat.le_of_ble_eq_true rfl, Nat.le_of_ble_eq_true rfl⟩ (rvW (q0 := 14) (ci := 5) E rfl rfl rfl) rfl (Nat.le_of_ble_eq_true rfl) d_Meaning_parameterType_5 fun r1 _ => ?_
  refine Sm_istore_n (lv' := [(2, .int r1), (0, .ref (G.1 29)), (1, .int x1)]) E d_Meaning_parameterType_8 rfl (by decide) rfl ?_
  refine Sm_aload_n E d_Meaning_parameterType_9 rfl 1 rfl ?_
  refine gfC_29_lists E fl_Meaning_28 d_Meaning_parameterType_10 ?_
  refine Sm_bipush (v := 8) E d_Meaning_parameterType_13 (by decide) ?_
  refine Sm_cVi (As := [.int 8]) (b := (G.1 24)) (st := []) (n := 1) E exOk wC_as (fun _ h => cC_Lists_size 8 u h) gk_Meaning_66 dk_Lists_size rfl ⟨rfl, rfl⟩ ⟨Nat.le_of_ble_eq_true rfl, Nat.le_of_ble_eq_true rfl⟩ (rvW (q0 := 24) (ci := 3) E rfl rfl rfl) rfl (Nat.le_of_ble_eq_true rfl) d_Meaning_parameterType_15 fun r2 _ => ?_
  refine Sm_istore_n (lv' := [(3, .int r2), (2, .int r1), (0, .ref (G.1 29)), (1, .int x1)]) E d_Meaning_parameterType_18 rfl (by decide) rfl ?_
  exact Sm_sub [2, 3, 1, 0] rfl (tC_Meaning_parameterType_L19 E hR FU _ _ _ _)
set_option maxRecDepth 100000 in
set_option maxHeartbeats 4000000 in
theorem tC_Meaning_typeParameters_L2 {X : Cx} {G : Gx} {res : St} (E : EC X G prog_4_method_21_code R_Meaning 2 { frames := 4, cells := 0, slots := 0, locals := 138 }) (hR : RtV X vwCl (wC G) prog_4_method_21_code res) : ∀ (n : Nat) (x1 : Int32) (u : St), SC X G 2 res (mC_Meaning_typeParameters_L2 n x1 u) u 2 [(0, .ref (G.1 29)), (1, .int x1)] [] := by
  intro n
  induction n with
  | zero => intro x1 u; exact Sm_none
  | succ n h2 =>
    intro x1 u
    rw [mC_Meaning_typeParameters_L2]
    refine Sm_iload_n E d_Meaning_typeParameters_2 rfl 1 rfl ?_
    refine Sm_aload_n E d_Meaning_typeParameters_3 rfl 0 rfl ?_
    refine gfC_29_nodes E fl_Meaning_24 d_Meaning_typeParameters_4 ?_
    refine Sm_cVi (As := []) (b := (G.1 14)) (st := [.int x1]) (n := 0) E exOk wC_as (fun _ h => cC_Nodes_size u h) gk_Meaning_121 dk_Nodes_size rfl ⟨rfl, rfl⟩ ⟨Nat.le_of_ble_eq_true rfl, Nat.le_of_ble_eq_true rfl⟩ (rvW (q0 := 14) (ci := 5) E rfl rfl rfl) rfl (Nat.le_of_ble_eq_true rfl) d_Meaning_typeParameters_7 fun r1 _ => ?_
    refine Sm_icmp_ge (tgt := 45) E d_Meaning_typeParameters_10 (by decide) (fun _ => ?_) (fun _ => ?_)
    · exact Sm_retV hR d_Meaning_typeParameters_45
    · refine Sm_aload_n E d_Meaning_typeParameters_13 rfl 0 rfl ?_
      refine gfC_29_nodes E fl_Meaning_24 d_Meaning_typeParameters_14 ?_
      refine Sm_iload_n E d_Meaning_typeParameters_17 rfl 1 rfl ?_
      refine Sm_cVi (As := [.int x1]) (b := (G.1 14)) (st := []) (n := 1) E exOk wC_as (fun _ h => cC_Nodes_kindOf x1 u h) gk_Meaning_128 dk_Nodes_kindOf rfl ⟨rfl, rfl⟩ ⟨Nat.le_of_ble_eq_true rfl, Nat.le_of_ble_eq_true rfl⟩ (rvW (q0 := 14) (ci := 5) E rfl rfl rfl) rfl (Nat.le_of_ble_eq_true rfl) d_Meaning_typeParameters_18 fun r2 _ => ?_
      refine Sm_bipush (v := 28) E d_Meaning_typeParameters_21 (by decide) ?_
      refine Sm_icmp_ne (tgt := 39) E d_Meaning_typeParameters_23 (by decide) (fun _ => ?_) (fun _ => ?_)
      · refine Sm_iinc (k := 1) (d := 1) E d_Meaning_typeParameters_39 rfl rfl (by decide) fun y3 _ => Sm_lvs (lv' := [(1, .int y3), (0, .ref (G.1 29))]) rfl ?_
        refine Sm_goto (tgt := 2) E d_Meaning_typeParameters_42 (by decide) ?_
        exact Sm_sub [1, 0] rfl (h2 _ _)
      · refine Sm_aload_n E d_Meaning_typeParameters_26 rfl 0 rfl ?_
        refine gfC_29_nodes E fl_Meaning_24 d_Meaning_typeParameters_27 ?_
        refine Sm_iload_n E d_Meaning_typeParameters_30 rfl 1 rfl ?_
        refine Sm_aload_n E d_Meaning_typeParameters_31 rfl 0 rfl ?_
        refine Sm_iload_n E d_Meaning_typeParameters_32 rfl 1 rfl ?_
        refine Sm_cVI (As := [.int x1]) (b := (G.1 29)) (st := [.int x1, .ref (G.1 14)]) (n := 1) E exOk wC_as (fun _ h => cC_Meaning_parameterType x1 u h) gk_Meaning_219 dk_Meaning_parameterType rfl ⟨rfl, rfl⟩ ⟨Nat.le_of_ble_eq_true rfl, Nat.le_of_ble_eq_true rfl⟩ (rvW (q0 := 29) (ci := 4) E rfl rfl rfl) rfl (Nat.le_of_ble_eq_true rfl) d_Meaning_typeParameters_33 fun r4 u5 _ => ?_
        refine Sm_cVV (As := [.int x1, .int r4]) (b := (G.1 14)) (st := []) (n := 2) E exOk wC_as (fun _ h => cC_Nodes_putType x1 r4 u5 h) gk_Meaning_154 dk_Nodes_putType rfl ⟨rfl, rfl⟩ ⟨Nat.le_of_ble_eq_true rfl, Nat.le_of_ble_eq_true rfl⟩ (rvW (q0 := 14) (ci := 5) E rfl rfl rfl) rfl (Nat.le_of_ble_eq_true rfl) d_Meaning_typeParameters_36 fun u6 _ => ?_
        refine Sm_iinc (k := 1) (d := 1) E d_Meaning_typeParameters_39 rfl rfl (by decide) fun y7 _ => Sm_lvs (lv' := [(1, .int y7), (0, .ref (G.1 29))]) rfl ?_
        refine Sm_goto (tgt := 2) E d_Meaning_typeParameters_42 (by decide) ?_
        exact Sm_sub [1, 0] rfl (h2 _ _)
set_option maxRecDepth 100000 in
set_option maxHeartbeats 4000000 in
theorem cC_Meaning_typeParameters {l : Launch} {D : va_G} {G : Gx} (u : St) {res : St} (hm : mC_Meaning_typeParameters u = some res) : KC l D G y_Meaning_typeParameters (.code y_Meaning_typeParameters prog_4_method_21_code 2 none) { frames := 4, cells := 0, slots := 0, locals := 138 } [.ref (G.1 29)] u (qV D vwCl (wC G) (tyW G) (adsC G) res) := by
  refine Ct_V (by decide) wC_as (Nat.le_of_ble_eq_true rfl) hm (fun X _ _ E hR => ?_)
  refine Sm_lvs (lv' := [(0, .ref (G.1 29))]) rfl ?_
  rw [mC_Meaning_typeParameters]
  refine Sm_iconst (v := 0) E d_Meaning_typeParameters_0 (by decide) ?_
  refine Sm_istore_n (lv' := [(1, .int 0), (0, .ref (G.1 29))]) E d_Meaning_typeParameters_1 rfl (by decide) rfl ?_
  exact Sm_sub [1, 0] rfl (tC_Meaning_typeParameters_L2 E hR FU _ _)
set_option maxRecDepth 100000 in
set_option maxHeartbeats 4000000 in
theorem cC_Meaning_indexError {l : Launch} {D : va_G} {G : Gx} (u : St) {res : Int32 × St} (hm : mC_Meaning_indexError u = some res) : KC l D G y_Meaning_indexError (.code y_Meaning_indexError prog_4_method_12_code 1 (some .int)) { frames := 3, cells := 0, slots := 0, locals := 70 } [.ref (G.1 29)] u (qI D vwCl (wC G) (tyW G) (adsC G) res) := by
  refine Ct_I (by decide) wC_as (Nat.le_of_ble_eq_true rfl) hm (fun X _ _ E hR => ?_)
  refine Sm_lvs (lv' := [(0, .ref (G.1 29))]) rfl ?_
  rw [mC_Meaning_indexError]
  refine Sm_aload_n E d_Meaning_indexError_0 rfl 0 rfl ?_
  refine gfC_29_statement E fl_Meaning_32 d_Meaning_indexError_1 ?_
  refine Sm_aload_n E d_Meaning_indexError_4 rfl 0 rfl ?_
  refine gfC_29_catalog E fl_Meaning_9 d_Meaning_indexError_5 ?_
  refine Sm_aload_n E d_Meaning_indexError_8 rfl 0 rfl ?_
  refine gfC_29_statement E fl_Meaning_32 d_Meaning_indexError_9 ?_
  refine gfC_27_table E fl_Meaning_61 d_Meaning_indexError_12 ?_
  refine Sm_aload_n E d_Meaning_indexError_15 rfl 0 rfl ?_
  refine gfC_29_text E fl_Meaning_21 d_Meaning_indexError_16 ?_
  refine Sm_aload_n E d_Meaning_indexError_19 rfl 0 rfl ?_
  refine gfC_29_statement E fl_Meaning_32 d_Meaning_indexError_20 ?_
  refine gfC_27_columnName E fl_Meaning_166 d_Meaning_indexError_23 ?_
  refine Sm_cVi (As := [.int (u.1 13), .ref (G.1 11), .int (u.1 14)]) (b := (G.1 3)) (st := [.ref (G.1 27)]) (n := 3) E exOk wC_as (fun _ h => cC_Catalog_findColumn_3_11 (u.1 13) (u.1 14) u h) gk_Meaning_143 dk_Catalog_findColumn rfl ⟨rfl, rfl⟩ ⟨Nat.le_of_ble_eq_true rfl, Nat.le_of_ble_eq_true rfl⟩ (rvW (q0 := 3) (ci := 2) E rfl rfl rfl) rfl (Nat.le_of_ble_eq_true rfl) d_Meaning_indexError_26 fun r1 _ => ?_
  refine pfC_27_column E fl_Meaning_169 d_Meaning_indexError_29 fun u2 _ => ?_
  refine Sm_aload_n E d_Meaning_indexError_32 rfl 0 rfl ?_
  refine gfC_29_statement E fl_Meaning_32 d_Meaning_indexError_33 ?_
  refine gfC_27_column E fl_Meaning_169 d_Meaning_indexError_36 ?_
  refine Sm_if_ge (tgt := 47) E d_Meaning_indexError_39 (by decide) (fun _ => ?_) (fun _ => ?_)
  · refine Sm_iconst (v := 0) E d_Meaning_indexError_47 (by decide) ?_
    exact Sm_retI hR d_Meaning_indexError_48
  · refine Sm_bipush (v := 6) E d_Meaning_indexError_42 (by decide) ?_
    refine Sm_goto (tgt := 48) E d_Meaning_indexError_44 (by decide) ?_
    exact Sm_retI hR d_Meaning_indexError_48
set_option maxRecDepth 100000 in
set_option maxHeartbeats 4000000 in
theorem cC_Nodes_faultOf {l : Launch} {D : va_G} {G : Gx} (x1 : Int32) (u : St) {res : Int32} (hm : mC_Nodes_faultOf x1 u = some res) : KC l D G y_Nodes_faultOf (.code y_Nodes_faultOf prog_5_method_18_code 2 (some .int)) { frames := 0, cells := 0, slots := 0, locals := 0 } [.ref (G.1 14), .int x1] u (qI D vwCl (wC G) (tyW G) (adsC G) (res, u)) := by
  refine Ct_i (by decide) wC_as (Nat.le_of_ble_eq_true rfl) hm (fun X _ _ E hR => ?_)
  refine Sm_lvs (lv' := [(0, .ref (G.1 14)), (1, .int x1)]) rfl ?_
  rw [mC_Nodes_faultOf]
  refine Sm_iload_n E d_Nodes_faultOf_0 rfl 1 rfl ?_
  refine Sm_if_lt (tgt := 21) E d_Nodes_faultOf_1 (by decide) (fun _ => ?_) (fun _ => ?_)
  · refine Sm_iconst (v := 0) E d_Nodes_faultOf_21 (by decide) ?_
    exact Sm_reti hR d_Nodes_faultOf_22
  · refine Sm_iload_n E d_Nodes_faultOf_4 rfl 1 rfl ?_
    refine Sm_aload_n E d_Nodes_faultOf_5 rfl 0 rfl ?_
    refine gfC_14_size E fl_Nodes_39 d_Nodes_faultOf_6 ?_
    refine Sm_icmp_ge (tgt := 21) E d_Nodes_faultOf_9 (by decide) (fun _ => ?_) (fun _ => ?_)
    · refine Sm_iconst (v := 0) E d_Nodes_faultOf_21 (by decide) ?_
      exact Sm_reti hR d_Nodes_faultOf_22
    · refine Sm_aload_n E d_Nodes_faultOf_12 rfl 0 rfl ?_
      refine gfC_14_faults E fl_Nodes_30 d_Nodes_faultOf_13 ?_
      refine Sm_iload_n E d_Nodes_faultOf_16 rfl 1 rfl ?_
      refine Sm_gd fun hi => ldC_21 E (inb_in hi) d_Nodes_faultOf_17 ?_
      refine Sm_goto (tgt := 22) E d_Nodes_faultOf_18 (by decide) ?_
      exact Sm_reti hR d_Nodes_faultOf_22
set_option maxRecDepth 100000 in
set_option maxHeartbeats 4000000 in
theorem cC_Meaning_fits {l : Launch} {D : va_G} {G : Gx} (x0 : Int32) (x1 : Int32) (u : St) {res : Int32} (hm : mC_Meaning_fits x0 x1 u = some res) : KC l D G y_Meaning_fits (.code y_Meaning_fits prog_4_method_18_code 2 (some .boolean)) { frames := 0, cells := 0, slots := 0, locals := 0 } [.int x0, .int x1] u (qI D vwCl (wC G) (tyW G) (adsC G) (res, u)) := by
  refine Ct_z (by decide) wC_as (Nat.le_of_ble_eq_true rfl) hm (fun X _ _ E hR => ?_)
  refine Sm_lvs (lv' := [(0, .int x0), (1, .int x1)]) rfl ?_
  rw [mC_Meaning_fits]
  refine Sm_iload_n E d_Meaning_fits_0 rfl 0 rfl ?_
  refine Sm_if_le (tgt := 13) E d_Meaning_fits_1 (by decide) (fun _ => ?_) (fun _ => ?_)
  · refine Sm_iconst (v := 1) E d_Meaning_fits_13 (by decide) ?_
    refine Sm_goto (tgt := 18) E d_Meaning_fits_14 (by decide) ?_
    exact Sm_retz hR (by decide) d_Meaning_fits_18
  · refine Sm_iload_n E d_Meaning_fits_4 rfl 1 rfl ?_
    refine Sm_if_le (tgt := 13) E d_Meaning_fits_5 (by decide) (fun _ => ?_) (fun _ => ?_)
    · refine Sm_iconst (v := 1) E d_Meaning_fits_13 (by decide) ?_
      refine Sm_goto (tgt := 18) E d_Meaning_fits_14 (by decide) ?_
      exact Sm_retz hR (by decide) d_Meaning_fits_18
    · refine Sm_iload_n E d_Meaning_fits_8 rfl 0 rfl ?_
      refine Sm_iload_n E d_Meaning_fits_9 rfl 1 rfl ?_
      refine Sm_icmp_ne (tgt := 17) E d_Meaning_fits_10 (by decide) (fun _ => ?_) (fun _ => ?_)
      · refine Sm_iconst (v := 0) E d_Meaning_fits_17 (by decide) ?_
        exact Sm_retz hR (by decide) d_Meaning_fits_18
      · refine Sm_iconst (v := 1) E d_Meaning_fits_13 (by decide) ?_
        refine Sm_goto (tgt := 18) E d_Meaning_fits_14 (by decide) ?_
        exact Sm_retz hR (by decide) d_Meaning_fits_18
set_option maxRecDepth 100000 in
set_option maxHeartbeats 4000000 in
theorem cC_Meaning_operandsFit {l : Launch} {D : va_G} {G : Gx} (x1 : Int32) (u : St) {res : Int32} (hm : mC_Meaning_operandsFit x1 u = some res) : KC l D G y_Meaning_operandsFit (.code y_Meaning_operandsFit prog_4_method_17_code 5 (some .boolean)) { frames := 1, cells := 0, slots := 0, locals := 21 } [.ref (G.1 29), .int x1] u (qI D vwCl (wC G) (tyW G) (adsC G) (res, u)) := by
  refine Ct_z (by decide) wC_as (Nat.le_of_ble_eq_true rfl) hm (fun X _ _ E hR => ?_)
  refine Sm_lvs (lv' := [(0, .ref (G.1 29)), (1, .int x1)]) rfl ?_
  rw [mC_Meaning_operandsFit]
  refine Sm_aload_n E d_Meaning_operandsFit_0 rfl 0 rfl ?_
  refine gfC_29_nodes E fl_Meaning_24 d_Meaning_operandsFit_1 ?_
  refine Sm_iload_n E d_Meaning_operandsFit_4 rfl 1 rfl ?_
  refine Sm_cVi (As := [.int x1]) (b := (G.1 14)) (st := []) (n := 1) E exOk wC_as (fun _ h => cC_Nodes_kindOf x1 u h) gk_Meaning_128 dk_Nodes_kindOf rfl ⟨rfl, rfl⟩ ⟨Nat.le_of_ble_eq_true rfl, Nat.le_of_ble_eq_true rfl⟩ (rvW (q0 := 14) (ci := 5) E rfl rfl rfl) rfl (Nat.le_of_ble_eq_true rfl) d_Meaning_operandsFit_5 fun r1 _ => ?_
  refine Sm_istore_n (lv' := [(2, .int r1), (0, .ref (G.1 29)), (1, .int x1)]) E d_Meaning_operandsFit_8 rfl (by decide) rfl ?_
  refine Sm_iload_n E d_Meaning_operandsFit_9 rfl 0 rfl ?_
  refine Sm_cSi (As := [.int r1]) (st := []) (n := 1) E exOk wC_as (fun _ h => cC_Nodes_works r1 u h) gk_Meaning_195 dk_Nodes_works rfl ⟨rfl, rfl⟩ ⟨Nat.le_of_ble_eq_true rfl, Nat.le_of_ble_eq_true rfl⟩ rfl (Nat.le_of_ble_eq_true rfl) d_Meaning_operandsFit_10 fun r2 _ => ?_
  refine Sm_if_ne (tgt := 18) E d_Meaning_operandsFit_13 (by decide) (fun _ => ?_) (fun _ => ?_)
  · refine Sm_aload_n E d_Meaning_operandsFit_18 rfl 1 rfl ?_
    refine gfC_29_nodes E fl_Meaning_24 d_Meaning_operandsFit_19 ?_
    refine Sm_aload_n E d_Meaning_operandsFit_22 rfl 1 rfl ?_
    refine gfC_29_nodes E fl_Meaning_24 d_Meaning_operandsFit_23 ?_
    refine Sm_iload_n E d_Meaning_operandsFit_26 rfl 2 rfl ?_
    refine Sm_cVi (As := [.int x1]) (b := (G.1 14)) (st := [.ref (G.1 14)]) (n := 1) E exOk wC_as (fun _ h => cC_Nodes_firstOf x1 u h) gk_Meaning_198 dk_Nodes_firstOf rfl ⟨rfl, rfl⟩ ⟨Nat.le_of_ble_eq_true rfl, Nat.le_of_ble_eq_true rfl⟩ (rvW (q0 := 14) (ci := 5) E rfl rfl rfl) rfl (Nat.le_of_ble_eq_true rfl) d_Meaning_operandsFit_27 fun r3 _ => ?_
    refine Sm_cVi (As := [.int r3]) (b := (G.1 14)) (st := []) (n := 1) E exOk wC_as (fun _ h => cC_Nodes_typeOf r3 u h) gk_Meaning_201 dk_Nodes_typeOf rfl ⟨rfl, rfl⟩ ⟨Nat.le_of_ble_eq_true rfl, Nat.le_of_ble_eq_true rfl⟩ (rvW (q0 := 14) (ci := 5) E rfl rfl rfl) rfl (Nat.le_of_ble_eq_true rfl) d_Meaning_operandsFit_30 fun r4 _ => ?_
    refine Sm_istore_n (lv' := [(3, .int r4), (2, .int r1), (0, .ref (G.1 29)), (1, .int x1)]) E d_Meaning_operandsFit_33 rfl (by decide) rfl ?_
    refine Sm_aload_n E d_Meaning_operandsFit_34 rfl 2 rfl ?_
    refine gfC_29_nodes E fl_Meaning_24 d_Meaning_operandsFit_35 ?_
    refine Sm_aload_n E d_Meaning_operandsFit_38 rfl 2 rfl ?_
    refine gfC_29_nodes E fl_Meaning_24 d_Meaning_operandsFit_39 ?_
    refine Sm_iload_n E d_Meaning_operandsFit_42 rfl 3 rfl ?_
    refine Sm_cVi (As := [.int x1]) (b := (G.1 14)) (st := [.ref (G.1 14)]) (n := 1) E exOk wC_as (fun _ h => cC_Nodes_secondOf x1 u h) gk_Meaning_203 dk_Nodes_secondOf rfl ⟨rfl, rfl⟩ ⟨Nat.le_of_ble_eq_true rfl, Nat.le_of_ble_eq_true rfl⟩ (rvW (q0 := 14) (ci := 5) E rfl rfl rfl) rfl (Nat.le_of_ble_eq_true rfl) d_Meaning_operandsFit_43 fun r5 _ => ?_
    refine Sm_cVi (As := [.int r5]) (b := (G.1 14)) (st := []) (n := 1) E exOk wC_as (fun _ h => cC_Nodes_typeOf r5 u h) gk_Meaning_201 dk_Nodes_typeOf rfl ⟨rfl, rfl⟩ ⟨Nat.le_of_ble_eq_true rfl, Nat.le_of_ble_eq_true rfl⟩ (rvW (q0 := 14) (ci := 5) E rfl rfl rfl) rfl (Nat.le_of_ble_eq_true rfl) d_Meaning_operandsFit_46 fun r6 _ => ?_
    refine Sm_istore (lv' := [(4, .int r6), (3, .int r4), (2, .int r1), (0, .ref (G.1 29)), (1, .int x1)]) E d_Meaning_operandsFit_49 (by decide) rfl ?_
    refine Sm_iload_n E d_Meaning_operandsFit_51 rfl 2 rfl ?_
    refine Sm_bipush (v := 8) E d_Meaning_operandsFit_52 (by decide) ?_
    refine Sm_icmp_eq (tgt := 63) E d_Meaning_operandsFit_54 (by decide) (fun _ => ?_) (fun _ => ?_)
    · refine Sm_iload_n E d_Meaning_operandsFit_63 rfl 1 rfl ?_
      refine Sm_iconst (v := 3) E d_Meaning_operandsFit_64 (by decide) ?_
      refine Sm_icmp_eq (tgt := 72) E d_Meaning_operandsFit_65 (by decide) (fun _ => ?_) (fun _ => ?_)
      · refine Sm_iconst (v := 0) E d_Meaning_operandsFit_72 (by decide) ?_
        exact Sm_retz hR (by decide) d_Meaning_operandsFit_73
      · refine Sm_iconst (v := 1) E d_Meaning_operandsFit_68 (by decide) ?_
        refine Sm_goto (tgt := 73) E d_Meaning_operandsFit_69 (by decide) ?_
        exact Sm_retz hR (by decide) d_Meaning_operandsFit_73
    · refine Sm_iload_n E d_Meaning_operandsFit_57 rfl 2 rfl ?_
      refine Sm_bipush (v := 9) E d_Meaning_operandsFit_58 (by decide) ?_
      refine Sm_icmp_ne (tgt := 74) E d_Meaning_operandsFit_60 (by decide) (fun _ => ?_) (fun _ => ?_)
      · refine Sm_iload_n E d_Meaning_operandsFit_74 rfl 2 rfl ?_
        refine Sm_cSi (As := [.int r1]) (st := []) (n := 1) E exOk wC_as (fun _ h => cC_Nodes_compares r1 u h) gk_Meaning_206 dk_Nodes_compares rfl ⟨rfl, rfl⟩ ⟨Nat.le_of_ble_eq_true rfl, Nat.le_of_ble_eq_true rfl⟩ rfl (Nat.le_of_ble_eq_true rfl) d_Meaning_operandsFit_75 fun r7 _ => ?_
        refine Sm_if_eq (tgt := 88) E d_Meaning_operandsFit_78 (by decide) (fun _ => ?_) (fun _ => ?_)
        · refine Sm_iload_n E d_Meaning_operandsFit_88 rfl 1 rfl ?_
          refine Sm_gsA (j := 2) E (by decide) fl_Meaning_209 d_Meaning_operandsFit_89 ?_
          refine Sm_iload_n E d_Meaning_operandsFit_92 rfl 2 rfl ?_
          refine Sm_gd fun hi => Sm_stl (j := 2) E (by decide) (inb_in hi) d_Meaning_operandsFit_93 ?_
          refine Sm_cSi (As := [.int r4, .int (gst 2 r1)]) (st := []) (n := 2) E exOk wC_as (fun _ h => cC_Meaning_fits r4 (gst 2 r1) u h) gk_Meaning_175 dk_Meaning_fits rfl ⟨rfl, rfl⟩ ⟨Nat.le_of_ble_eq_true rfl, Nat.le_of_ble_eq_true rfl⟩ rfl (Nat.le_of_ble_eq_true rfl) d_Meaning_operandsFit_94 fun r8 _ => ?_
          refine Sm_if_eq (tgt := 117) E d_Meaning_operandsFit_97 (by decide) (fun _ => ?_) (fun _ => ?_)
          · refine Sm_iconst (v := 0) E d_Meaning_operandsFit_117 (by decide) ?_
            exact Sm_retz hR (by decide) d_Meaning_operandsFit_118
          · refine Sm_iload E d_Meaning_operandsFit_100 0 rfl ?_
            refine Sm_gsA (j := 2) E (by decide) fl_Meaning_209 d_Meaning_operandsFit_102 ?_
            refine Sm_iload_n E d_Meaning_operandsFit_105 rfl 2 rfl ?_
            refine Sm_gd fun hi => Sm_stl (j := 2) E (by decide) (inb_in hi) d_Meaning_operandsFit_106 ?_
            refine Sm_cSi (As := [.int r6, .int (gst 2 r1)]) (st := []) (n := 2) E exOk wC_as (fun _ h => cC_Meaning_fits r6 (gst 2 r1) u h) gk_Meaning_175 dk_Meaning_fits rfl ⟨rfl, rfl⟩ ⟨Nat.le_of_ble_eq_true rfl, Nat.le_of_ble_eq_true rfl⟩ rfl (Nat.le_of_ble_eq_true rfl) d_Meaning_operandsFit_107 fun r9 _ => ?_
            refine Sm_if_eq (tgt := 117) E d_Meaning_operandsFit_110 (by decide) (fun _ => ?_) (fun _ => ?_)
            · refine Sm_iconst (v := 0) E d_Meaning_operandsFit_117 (by decide) ?_
              exact Sm_retz hR (by decide) d_Meaning_operandsFit_118
            · refine Sm_iconst (v := 1) E d_Meaning_operandsFit_113 (by decide) ?_
              refine Sm_goto (tgt := 118) E d_Meaning_operandsFit_114 (by decide) ?_
              exact Sm_retz hR (by decide) d_Meaning_operandsFit_118
        · refine Sm_iload_n E d_Meaning_operandsFit_81 rfl 1 rfl ?_
          refine Sm_iload E d_Meaning_operandsFit_82 0 rfl ?_
          refine Sm_cSi (As := [.int r4, .int r6]) (st := []) (n := 2) E exOk wC_as (fun _ h => cC_Meaning_fits r4 r6 u h) gk_Meaning_175 dk_Meaning_fits rfl ⟨rfl, rfl⟩ ⟨Nat.le_of_ble_eq_true rfl, Nat.le_of_ble_eq_true rfl⟩ rfl (Nat.le_of_ble_eq_true rfl) d_Meaning_operandsFit_84 fun r10 _ => ?_
          exact Sm_gd fun hz => Sm_retz hR (zb_n hz) d_Meaning_operandsFit_87
      · refine Sm_iload_n E d_Meaning_operandsFit_63 rfl 1 rfl ?_
        refine Sm_iconst (v := 3) E d_Meaning_operandsFit_64 (by decide) ?_
        refine Sm_icmp_eq (tgt := 72) E d_Meaning_operandsFit_65 (by decide) (fun _ => ?_) (fun _ => ?_)
        · refine Sm_iconst (v := 0) E d_Meaning_operandsFit_72 (by decide) ?_
          exact Sm_retz hR (by decide) d_Meaning_operandsFit_73
        · refine Sm_iconst (v := 1) E d_Meaning_operandsFit_68 (by decide) ?_
          refine Sm_goto (tgt := 73) E d_Meaning_operandsFit_69 (by decide) ?_
          exact Sm_retz hR (by decide) d_Meaning_operandsFit_73
  · refine Sm_iconst (v := 1) E d_Meaning_operandsFit_16 (by decide) ?_
    exact Sm_retz hR (by decide) d_Meaning_operandsFit_17
set_option maxRecDepth 100000 in
set_option maxHeartbeats 4000000 in
theorem tC_Meaning_typeFor_J53 {X : Cx} {G : Gx} {res : Int32} {u : St} (E : EC X G prog_4_method_19_code R_Meaning 4 { frames := 1, cells := 0, slots := 0, locals := 21 }) (hR : RtI X vwCl (wC G) prog_4_method_19_code (res, u)) : ∀ (x1 : Int32) (x2 : Int32) (s0 : Int32) , SC X G 4 res (mC_Meaning_typeFor_J53 x1 x2 s0 u) u 53 [(0, .ref (G.1 29)), (1, .int x1), (2, .int x2)] [.int s0] := by
  intro x1 x2 s0
  rw [mC_Meaning_typeFor_J53]
  refine Sm_istore_n (lv' := [(3, .int s0), (0, .ref (G.1 29)), (1, .int x1), (2, .int x2)]) E d_Meaning_typeFor_53 rfl (by decide) rfl ?_
  refine Sm_iload_n E d_Meaning_typeFor_54 rfl 0 rfl ?_
  refine Sm_if_eq (tgt := 69) E d_Meaning_typeFor_55 (by decide) (fun _ => ?_) (fun _ => ?_)
  · refine Sm_iload_n E d_Meaning_typeFor_69 rfl 3 rfl ?_
    refine Sm_cSi (As := [.int x2]) (st := []) (n := 1) E exOk wC_as (fun _ h => cC_Meaning_typeByKind x2 u h) gk_Meaning_213 dk_Meaning_typeByKind rfl ⟨rfl, rfl⟩ ⟨Nat.le_of_ble_eq_true rfl, Nat.le_of_ble_eq_true rfl⟩ rfl (Nat.le_of_ble_eq_true rfl) d_Meaning_typeFor_70 fun r4 _ => ?_
    exact Sm_reti hR d_Meaning_typeFor_73
  · refine Sm_aload_n E d_Meaning_typeFor_58 rfl 1 rfl ?_
    refine gfC_29_nodes E fl_Meaning_24 d_Meaning_typeFor_59 ?_
    refine Sm_iload_n E d_Meaning_typeFor_62 rfl 2 rfl ?_
    refine Sm_cVi (As := [.int x1]) (b := (G.1 14)) (st := []) (n := 1) E exOk wC_as (fun _ h => cC_Nodes_typeOf x1 u h) gk_Meaning_201 dk_Nodes_typeOf rfl ⟨rfl, rfl⟩ ⟨Nat.le_of_ble_eq_true rfl, Nat.le_of_ble_eq_true rfl⟩ (rvW (q0 := 14) (ci := 5) E rfl rfl rfl) rfl (Nat.le_of_ble_eq_true rfl) d_Meaning_typeFor_63 fun r5 _ => ?_
    refine Sm_goto (tgt := 73) E d_Meaning_typeFor_66 (by decide) ?_
    exact Sm_reti hR d_Meaning_typeFor_73
set_option maxRecDepth 100000 in
set_option maxHeartbeats 4000000 in
theorem cC_Meaning_typeFor {l : Launch} {D : va_G} {G : Gx} (x1 : Int32) (u : St) {res : Int32} (hm : mC_Meaning_typeFor x1 u = some res) : KC l D G y_Meaning_typeFor (.code y_Meaning_typeFor prog_4_method_19_code 4 (some .int)) { frames := 1, cells := 0, slots := 0, locals := 21 } [.ref (G.1 29), .int x1] u (qI D vwCl (wC G) (tyW G) (adsC G) (res, u)) := by
  refine Ct_i (by decide) wC_as (Nat.le_of_ble_eq_true rfl) hm (fun X _ _ E hR => ?_)
  refine Sm_lvs (lv' := [(0, .ref (G.1 29)), (1, .int x1)]) rfl ?_
  rw [mC_Meaning_typeFor]
  refine Sm_aload_n E d_Meaning_typeFor_0 rfl 0 rfl ?_
  refine gfC_29_nodes E fl_Meaning_24 d_Meaning_typeFor_1 ?_
  refine Sm_iload_n E d_Meaning_typeFor_4 rfl 1 rfl ?_
  refine Sm_cVi (As := [.int x1]) (b := (G.1 14)) (st := []) (n := 1) E exOk wC_as (fun _ h => cC_Nodes_kindOf x1 u h) gk_Meaning_128 dk_Nodes_kindOf rfl ⟨rfl, rfl⟩ ⟨Nat.le_of_ble_eq_true rfl, Nat.le_of_ble_eq_true rfl⟩ (rvW (q0 := 14) (ci := 5) E rfl rfl rfl) rfl (Nat.le_of_ble_eq_true rfl) d_Meaning_typeFor_5 fun r1 _ => ?_
  refine Sm_istore_n (lv' := [(2, .int r1), (0, .ref (G.1 29)), (1, .int x1)]) E d_Meaning_typeFor_8 rfl (by decide) rfl ?_
  refine Sm_iload_n E d_Meaning_typeFor_9 rfl 0 rfl ?_
  refine Sm_bipush (v := 8) E d_Meaning_typeFor_10 (by decide) ?_
  refine Sm_icmp_eq (tgt := 21) E d_Meaning_typeFor_12 (by decide) (fun _ => ?_) (fun _ => ?_)
  · refine Sm_aload_n E d_Meaning_typeFor_21 rfl 1 rfl ?_
    refine gfC_29_nodes E fl_Meaning_24 d_Meaning_typeFor_22 ?_
    refine Sm_aload_n E d_Meaning_typeFor_25 rfl 1 rfl ?_
    refine gfC_29_nodes E fl_Meaning_24 d_Meaning_typeFor_26 ?_
    refine Sm_iload_n E d_Meaning_typeFor_29 rfl 2 rfl ?_
    refine Sm_cVi (As := [.int x1]) (b := (G.1 14)) (st := [.ref (G.1 14)]) (n := 1) E exOk wC_as (fun _ h => cC_Nodes_firstOf x1 u h) gk_Meaning_198 dk_Nodes_firstOf rfl ⟨rfl, rfl⟩ ⟨Nat.le_of_ble_eq_true rfl, Nat.le_of_ble_eq_true rfl⟩ (rvW (q0 := 14) (ci := 5) E rfl rfl rfl) rfl (Nat.le_of_ble_eq_true rfl) d_Meaning_typeFor_30 fun r2 _ => ?_
    refine Sm_cVi (As := [.int r2]) (b := (G.1 14)) (st := []) (n := 1) E exOk wC_as (fun _ h => cC_Nodes_typeOf r2 u h) gk_Meaning_201 dk_Nodes_typeOf rfl ⟨rfl, rfl⟩ ⟨Nat.le_of_ble_eq_true rfl, Nat.le_of_ble_eq_true rfl⟩ (rvW (q0 := 14) (ci := 5) E rfl rfl rfl) rfl (Nat.le_of_ble_eq_true rfl) d_Meaning_typeFor_33 fun r3 _ => ?_
    exact Sm_reti hR d_Meaning_typeFor_36
  · refine Sm_iload_n E d_Meaning_typeFor_15 rfl 0 rfl ?_
    refine Sm_bipush (v := 9) E d_Meaning_typeFor_16 (by decide) ?_
    refine Sm_icmp_ne (tgt := 37) E d_Meaning_typeFor_18 (by decide) (fun _ => ?_) (fun _ => ?_)
    · refine Sm_iload_n E d_Meaning_typeFor_37 rfl 0 rfl ?_
      refine Sm_iconst (v := 4) E d_Meaning_typeFor_38 (by decide) ?_
      refine Sm_icmp_eq (tgt := 48) E d_Meaning_typeFor_39 (by decide) (fun _ => ?_) (fun _ => ?_)
      · refine Sm_iconst (v := 1) E d_Meaning_typeFor_48 (by decide) ?_
        refine Sm_goto (tgt := 53) E d_Meaning_typeFor_49 (by decide) ?_
        exact Sm_sub [1, 2, 0] rfl (tC_Meaning_typeFor_J53 E hR _ _ _)
      · refine Sm_iload_n E d_Meaning_typeFor_42 rfl 0 rfl ?_
        refine Sm_bipush (v := 28) E d_Meaning_typeFor_43 (by decide) ?_
        refine Sm_icmp_ne (tgt := 52) E d_Meaning_typeFor_45 (by decide) (fun _ => ?_) (fun _ => ?_)
        · refine Sm_iconst (v := 0) E d_Meaning_typeFor_52 (by decide) ?_
          exact Sm_sub [1, 2, 0] rfl (tC_Meaning_typeFor_J53 E hR _ _ _)
        · refine Sm_iconst (v := 1) E d_Meaning_typeFor_48 (by decide) ?_
          refine Sm_goto (tgt := 53) E d_Meaning_typeFor_49 (by decide) ?_
          exact Sm_sub [1, 2, 0] rfl (tC_Meaning_typeFor_J53 E hR _ _ _)
    · refine Sm_aload_n E d_Meaning_typeFor_21 rfl 1 rfl ?_
      refine gfC_29_nodes E fl_Meaning_24 d_Meaning_typeFor_22 ?_
      refine Sm_aload_n E d_Meaning_typeFor_25 rfl 1 rfl ?_
      refine gfC_29_nodes E fl_Meaning_24 d_Meaning_typeFor_26 ?_
      refine Sm_iload_n E d_Meaning_typeFor_29 rfl 2 rfl ?_
      refine Sm_cVi (As := [.int x1]) (b := (G.1 14)) (st := [.ref (G.1 14)]) (n := 1) E exOk wC_as (fun _ h => cC_Nodes_firstOf x1 u h) gk_Meaning_198 dk_Nodes_firstOf rfl ⟨rfl, rfl⟩ ⟨Nat.le_of_ble_eq_true rfl, Nat.le_of_ble_eq_true rfl⟩ (rvW (q0 := 14) (ci := 5) E rfl rfl rfl) rfl (Nat.le_of_ble_eq_true rfl) d_Meaning_typeFor_30 fun r6 _ => ?_
      refine Sm_cVi (As := [.int r6]) (b := (G.1 14)) (st := []) (n := 1) E exOk wC_as (fun _ h => cC_Nodes_typeOf r6 u h) gk_Meaning_201 dk_Nodes_typeOf rfl ⟨rfl, rfl⟩ ⟨Nat.le_of_ble_eq_true rfl, Nat.le_of_ble_eq_true rfl⟩ (rvW (q0 := 14) (ci := 5) E rfl rfl rfl) rfl (Nat.le_of_ble_eq_true rfl) d_Meaning_typeFor_33 fun r7 _ => ?_
      exact Sm_reti hR d_Meaning_typeFor_36
set_option maxRecDepth 100000 in
set_option maxHeartbeats 4000000 in
theorem cC_Meaning_judge {l : Launch} {D : va_G} {G : Gx} (x1 : Int32) (u : St) {res : Int32 × St} (hm : mC_Meaning_judge x1 u = some res) : KC l D G y_Meaning_judge (.code y_Meaning_judge prog_4_method_16_code 4 (some .int)) { frames := 2, cells := 0, slots := 0, locals := 45 } [.ref (G.1 29), .int x1] u (qI D vwCl (wC G) (tyW G) (adsC G) res) := by
  refine Ct_I (by decide) wC_as (Nat.le_of_ble_eq_true rfl) hm (fun X _ _ E hR => ?_)
  refine Sm_lvs (lv' := [(0, .ref (G.1 29)), (1, .int x1)]) rfl ?_
  rw [mC_Meaning_judge]
  refine Sm_aload_n E d_Meaning_judge_0 rfl 0 rfl ?_
  refine gfC_29_nodes E fl_Meaning_24 d_Meaning_judge_1 ?_
  refine Sm_iload_n E d_Meaning_judge_4 rfl 1 rfl ?_
  refine Sm_cVi (As := [.int x1]) (b := (G.1 14)) (st := []) (n := 1) E exOk wC_as (fun _ h => cC_Nodes_faultOf x1 u h) gk_Meaning_182 dk_Nodes_faultOf rfl ⟨rfl, rfl⟩ ⟨Nat.le_of_ble_eq_true rfl, Nat.le_of_ble_eq_true rfl⟩ (rvW (q0 := 14) (ci := 5) E rfl rfl rfl) rfl (Nat.le_of_ble_eq_true rfl) d_Meaning_judge_5 fun r1 _ => ?_
  refine Sm_istore_n (lv' := [(2, .int r1), (0, .ref (G.1 29)), (1, .int x1)]) E d_Meaning_judge_8 rfl (by decide) rfl ?_
  refine Sm_iload_n E d_Meaning_judge_9 rfl 0 rfl ?_
  refine Sm_if_eq (tgt := 15) E d_Meaning_judge_10 (by decide) (fun _ => ?_) (fun _ => ?_)
  · refine Sm_aload_n E d_Meaning_judge_15 rfl 1 rfl ?_
    refine Sm_iload_n E d_Meaning_judge_16 rfl 2 rfl ?_
    refine Sm_cVi (As := [.int x1]) (b := (G.1 29)) (st := []) (n := 1) E exOk wC_as (fun _ h => cC_Meaning_operandsFit x1 u h) gk_Meaning_185 dk_Meaning_operandsFit rfl ⟨rfl, rfl⟩ ⟨Nat.le_of_ble_eq_true rfl, Nat.le_of_ble_eq_true rfl⟩ (rvW (q0 := 29) (ci := 4) E rfl rfl rfl) rfl (Nat.le_of_ble_eq_true rfl) d_Meaning_judge_17 fun r2 _ => ?_
    refine Sm_if_ne (tgt := 26) E d_Meaning_judge_20 (by decide) (fun _ => ?_) (fun _ => ?_)
    · refine Sm_aload_n E d_Meaning_judge_26 rfl 1 rfl ?_
      refine Sm_iload_n E d_Meaning_judge_27 rfl 2 rfl ?_
      refine Sm_cVi (As := [.int x1]) (b := (G.1 29)) (st := []) (n := 1) E exOk wC_as (fun _ h => cC_Meaning_typeFor x1 u h) gk_Meaning_189 dk_Meaning_typeFor rfl ⟨rfl, rfl⟩ ⟨Nat.le_of_ble_eq_true rfl, Nat.le_of_ble_eq_true rfl⟩ (rvW (q0 := 29) (ci := 4) E rfl rfl rfl) rfl (Nat.le_of_ble_eq_true rfl) d_Meaning_judge_28 fun r3 _ => ?_
      refine Sm_istore_n (lv' := [(3, .int r3), (2, .int r1), (0, .ref (G.1 29)), (1, .int x1)]) E d_Meaning_judge_31 rfl (by decide) rfl ?_
      refine Sm_aload_n E d_Meaning_judge_32 rfl 2 rfl ?_
      refine gfC_29_nodes E fl_Meaning_24 d_Meaning_judge_33 ?_
      refine Sm_iload_n E d_Meaning_judge_36 rfl 3 rfl ?_
      refine Sm_iload_n E d_Meaning_judge_37 rfl 0 rfl ?_
      refine Sm_cVV (As := [.int x1, .int r3]) (b := (G.1 14)) (st := []) (n := 2) E exOk wC_as (fun _ h => cC_Nodes_putType x1 r3 u h) gk_Meaning_154 dk_Nodes_putType rfl ⟨rfl, rfl⟩ ⟨Nat.le_of_ble_eq_true rfl, Nat.le_of_ble_eq_true rfl⟩ (rvW (q0 := 14) (ci := 5) E rfl rfl rfl) rfl (Nat.le_of_ble_eq_true rfl) d_Meaning_judge_38 fun u4 _ => ?_
      refine Sm_iload_n E d_Meaning_judge_41 rfl 0 rfl ?_
      refine Sm_aload_n E d_Meaning_judge_42 rfl 2 rfl ?_
      refine gfC_29_nodes E fl_Meaning_24 d_Meaning_judge_43 ?_
      refine Sm_iload_n E d_Meaning_judge_46 rfl 3 rfl ?_
      refine Sm_cVi (As := [.int x1]) (b := (G.1 14)) (st := [.int r3]) (n := 1) E exOk wC_as (fun _ h => cC_Nodes_needOf x1 u4 h) gk_Meaning_192 dk_Nodes_needOf rfl ⟨rfl, rfl⟩ ⟨Nat.le_of_ble_eq_true rfl, Nat.le_of_ble_eq_true rfl⟩ (rvW (q0 := 14) (ci := 5) E rfl rfl rfl) rfl (Nat.le_of_ble_eq_true rfl) d_Meaning_judge_47 fun r5 _ => ?_
      refine Sm_cSi (As := [.int r3, .int r5]) (st := []) (n := 2) E exOk wC_as (fun _ h => cC_Meaning_fits r3 r5 u4 h) gk_Meaning_175 dk_Meaning_fits rfl ⟨rfl, rfl⟩ ⟨Nat.le_of_ble_eq_true rfl, Nat.le_of_ble_eq_true rfl⟩ rfl (Nat.le_of_ble_eq_true rfl) d_Meaning_judge_50 fun r6 _ => ?_
      refine Sm_if_eq (tgt := 60) E d_Meaning_judge_53 (by decide) (fun _ => ?_) (fun _ => ?_)
      · refine Sm_bipush (v := 8) E d_Meaning_judge_60 (by decide) ?_
        exact Sm_retI hR d_Meaning_judge_62
      · refine Sm_iconst (v := 0) E d_Meaning_judge_56 (by decide) ?_
        refine Sm_goto (tgt := 62) E d_Meaning_judge_57 (by decide) ?_
        exact Sm_retI hR d_Meaning_judge_62
    · refine Sm_bipush (v := 8) E d_Meaning_judge_23 (by decide) ?_
      exact Sm_retI hR d_Meaning_judge_25
  · refine Sm_iload_n E d_Meaning_judge_13 rfl 0 rfl ?_
    exact Sm_retI hR d_Meaning_judge_14
set_option maxRecDepth 100000 in
set_option maxHeartbeats 4000000 in
theorem tC_Meaning_judgeTo_L7 {X : Cx} {G : Gx} {res : Int32 × St} (E : EC X G prog_4_method_15_code R_Meaning 4 { frames := 3, cells := 0, slots := 0, locals := 68 }) (hR : RtI X vwCl (wC G) prog_4_method_15_code res) : ∀ (n : Nat) (x1 : Int32) (x2 : Int32) (x3 : Int32) (u : St), SC X G 4 res (mC_Meaning_judgeTo_L7 n x1 x2 x3 u) u 7 [(0, .ref (G.1 29)), (1, .int x1), (2, .int x2), (3, .int x3)] [] := by
  intro n
  induction n with
  | zero => intro x1 x2 x3 u; exact Sm_none
  | succ n h7 =>
    intro x1 x2 x3 u
    rw [mC_Meaning_judgeTo_L7]
    refine Sm_iload_n E d_Meaning_judgeTo_7 rfl 3 rfl ?_
    refine Sm_iload_n E d_Meaning_judgeTo_8 rfl 1 rfl ?_
    refine Sm_icmp_ge (tgt := 28) E d_Meaning_judgeTo_9 (by decide) (fun _ => ?_) (fun _ => ?_)
    · refine Sm_aload_n E d_Meaning_judgeTo_28 rfl 0 rfl ?_
      refine Sm_iload_n E d_Meaning_judgeTo_29 rfl 1 rfl ?_
      refine pfC_29_judged E fl_Meaning_102 d_Meaning_judgeTo_30 fun u2 _ => ?_
      refine Sm_iload_n E d_Meaning_judgeTo_33 rfl 2 rfl ?_
      exact Sm_retI hR d_Meaning_judgeTo_34
    · refine Sm_iload_n E d_Meaning_judgeTo_12 rfl 2 rfl ?_
      refine Sm_if_ne (tgt := 28) E d_Meaning_judgeTo_13 (by decide) (fun _ => ?_) (fun _ => ?_)
      · refine Sm_aload_n E d_Meaning_judgeTo_28 rfl 0 rfl ?_
        refine Sm_iload_n E d_Meaning_judgeTo_29 rfl 1 rfl ?_
        refine pfC_29_judged E fl_Meaning_102 d_Meaning_judgeTo_30 fun u3 _ => ?_
        refine Sm_iload_n E d_Meaning_judgeTo_33 rfl 2 rfl ?_
        exact Sm_retI hR d_Meaning_judgeTo_34
      · refine Sm_aload_n E d_Meaning_judgeTo_16 rfl 0 rfl ?_
        refine Sm_iload_n E d_Meaning_judgeTo_17 rfl 3 rfl ?_
        refine Sm_cVI (As := [.int x3]) (b := (G.1 29)) (st := []) (n := 1) E exOk wC_as (fun _ h => cC_Meaning_judge x3 u h) gk_Meaning_179 dk_Meaning_judge rfl ⟨rfl, rfl⟩ ⟨Nat.le_of_ble_eq_true rfl, Nat.le_of_ble_eq_true rfl⟩ (rvW (q0 := 29) (ci := 4) E rfl rfl rfl) rfl (Nat.le_of_ble_eq_true rfl) d_Meaning_judgeTo_18 fun r4 u5 _ => ?_
        refine Sm_istore_n (lv' := [(2, .int r4), (0, .ref (G.1 29)), (1, .int x1), (3, .int x3)]) E d_Meaning_judgeTo_21 rfl (by decide) rfl ?_
        refine Sm_iinc (k := 3) (d := 1) E d_Meaning_judgeTo_22 rfl rfl (by decide) fun y6 _ => Sm_lvs (lv' := [(3, .int y6), (2, .int r4), (0, .ref (G.1 29)), (1, .int x1)]) rfl ?_
        refine Sm_goto (tgt := 7) E d_Meaning_judgeTo_25 (by decide) ?_
        exact Sm_sub [2, 3, 1, 0] rfl (h7 _ _ _ _)
set_option maxRecDepth 100000 in
set_option maxHeartbeats 4000000 in
theorem cC_Meaning_judgeTo {l : Launch} {D : va_G} {G : Gx} (x1 : Int32) (u : St) {res : Int32 × St} (hm : mC_Meaning_judgeTo x1 u = some res) : KC l D G y_Meaning_judgeTo (.code y_Meaning_judgeTo prog_4_method_15_code 4 (some .int)) { frames := 3, cells := 0, slots := 0, locals := 68 } [.ref (G.1 29), .int x1] u (qI D vwCl (wC G) (tyW G) (adsC G) res) := by
  refine Ct_I (by decide) wC_as (Nat.le_of_ble_eq_true rfl) hm (fun X _ _ E hR => ?_)
  refine Sm_lvs (lv' := [(0, .ref (G.1 29)), (1, .int x1)]) rfl ?_
  rw [mC_Meaning_judgeTo]
  refine Sm_iconst (v := 0) E d_Meaning_judgeTo_0 (by decide) ?_
  refine Sm_istore_n (lv' := [(2, .int 0), (0, .ref (G.1 29)), (1, .int x1)]) E d_Meaning_judgeTo_1 rfl (by decide) rfl ?_
  refine Sm_aload_n E d_Meaning_judgeTo_2 rfl 1 rfl ?_
  refine gfC_29_judged E fl_Meaning_102 d_Meaning_judgeTo_3 ?_
  refine Sm_leti fun y1 _ => ?_
  refine Sm_istore_n (lv' := [(3, .int y1), (2, .int 0), (0, .ref (G.1 29)), (1, .int x1)]) E d_Meaning_judgeTo_6 rfl (by decide) rfl ?_
  exact Sm_sub [2, 3, 1, 0] rfl (tC_Meaning_judgeTo_L7 E hR FU _ _ _ _)
set_option maxRecDepth 100000 in
set_option maxHeartbeats 4000000 in
theorem tC_Meaning_starError_L29 {X : Cx} {G : Gx} {res : Int32} {u : St} (E : EC X G prog_4_method_13_code R_Meaning 6 { frames := 3, cells := 0, slots := 0, locals := 65 }) (hR : RtI X vwCl (wC G) prog_4_method_13_code (res, u)) {q4 : Int32 → Int32 → St → Option (Int32)} (h4 : ∀ (x1 : Int32) (x2 : Int32) , SC X G 6 res (q4 x1 x2 u) u 4 [(0, .ref (G.1 29)), (1, .int x1), (2, .int x2)] []) : ∀ (n : Nat) (x1 : Int32) (x2 : Int32) (x3 : Int32) (x4 : Int32) , SC X G 6 res (mC_Meaning_starError_L29 q4 n x1 x2 x3 x4 u) u 29 [(0, .ref (G.1 29)), (1, .int x1), (2, .int x2), (3, .int x3), (4, .int x4)] [] := by
  intro n
  induction n with
  | zero => intro x1 x2 x3 x4; exact Sm_none
  | succ n h29 =>
    intro x1 x2 x3 x4
    rw [mC_Meaning_starError_L29]
    refine Sm_iload E d_Meaning_starError_29 4 rfl ?_
    refine Sm_aload_n E d_Meaning_starError_31 rfl 0 rfl ?_
    refine gfC_29_catalog E fl_Meaning_9 d_Meaning_starError_32 ?_
    refine Sm_iload_n E d_Meaning_starError_35 rfl 3 rfl ?_
    refine Sm_cVi (As := [.int x3]) (b := (G.1 3)) (st := [.int x4]) (n := 1) E exOk wC_as (fun _ h => cC_Catalog_columnsOf x3 u h) gk_Meaning_172 dk_Catalog_columnsOf rfl ⟨rfl, rfl⟩ ⟨Nat.le_of_ble_eq_true rfl, Nat.le_of_ble_eq_true rfl⟩ (rvW (q0 := 3) (ci := 2) E rfl rfl rfl) rfl (Nat.le_of_ble_eq_true rfl) d_Meaning_starError_36 fun r3 _ => ?_
    refine Sm_icmp_ge (tgt := 89) E d_Meaning_starError_39 (by decide) (fun _ => ?_) (fun _ => ?_)
    · refine Sm_iinc (k := 2) (d := 1) E d_Meaning_starError_89 rfl rfl (by decide) fun y4 _ => Sm_lvs (lv' := [(2, .int y4), (0, .ref (G.1 29)), (1, .int x1), (3, .int x3), (4, .int x4)]) rfl ?_
      refine Sm_goto (tgt := 4) E d_Meaning_starError_92 (by decide) ?_
      exact Sm_sub [1, 2, 0] rfl (h4 _ _)
    · refine Sm_aload_n E d_Meaning_starError_42 rfl 0 rfl ?_
      refine gfC_29_catalog E fl_Meaning_9 d_Meaning_starError_43 ?_
      refine Sm_aload_n E d_Meaning_starError_46 rfl 0 rfl ?_
      refine gfC_29_statement E fl_Meaning_32 d_Meaning_starError_47 ?_
      refine gfC_27_table E fl_Meaning_61 d_Meaning_starError_50 ?_
      refine Sm_iload_n E d_Meaning_starError_53 rfl 1 rfl ?_
      refine Sm_cVi (As := [.int (u.1 13), .int x1]) (b := (G.1 3)) (st := []) (n := 2) E exOk wC_as (fun _ h => cC_Catalog_typeOf (u.1 13) x1 u h) gk_Meaning_151 dk_Catalog_typeOf rfl ⟨rfl, rfl⟩ ⟨Nat.le_of_ble_eq_true rfl, Nat.le_of_ble_eq_true rfl⟩ (rvW (q0 := 3) (ci := 2) E rfl rfl rfl) rfl (Nat.le_of_ble_eq_true rfl) d_Meaning_starError_54 fun r5 _ => ?_
      refine Sm_istore (lv' := [(5, .int r5), (0, .ref (G.1 29)), (1, .int x1), (2, .int x2), (3, .int x3), (4, .int x4)]) E d_Meaning_starError_57 (by decide) rfl ?_
      refine Sm_aload_n E d_Meaning_starError_59 rfl 1 rfl ?_
      refine gfC_29_catalog E fl_Meaning_9 d_Meaning_starError_60 ?_
      refine Sm_iload_n E d_Meaning_starError_63 rfl 4 rfl ?_
      refine Sm_iload E d_Meaning_starError_64 5 rfl ?_
      refine Sm_cVi (As := [.int x3, .int x4]) (b := (G.1 3)) (st := []) (n := 2) E exOk wC_as (fun _ h => cC_Catalog_typeOf x3 x4 u h) gk_Meaning_151 dk_Catalog_typeOf rfl ⟨rfl, rfl⟩ ⟨Nat.le_of_ble_eq_true rfl, Nat.le_of_ble_eq_true rfl⟩ (rvW (q0 := 3) (ci := 2) E rfl rfl rfl) rfl (Nat.le_of_ble_eq_true rfl) d_Meaning_starError_66 fun r6 _ => ?_
      refine Sm_iload E d_Meaning_starError_69 0 rfl ?_
      refine Sm_cSi (As := [.int r6, .int r5]) (st := []) (n := 2) E exOk wC_as (fun _ h => cC_Meaning_fits r6 r5 u h) gk_Meaning_175 dk_Meaning_fits rfl ⟨rfl, rfl⟩ ⟨Nat.le_of_ble_eq_true rfl, Nat.le_of_ble_eq_true rfl⟩ rfl (Nat.le_of_ble_eq_true rfl) d_Meaning_starError_71 fun r7 _ => ?_
      refine Sm_if_ne (tgt := 80) E d_Meaning_starError_74 (by decide) (fun _ => ?_) (fun _ => ?_)
      · refine Sm_iinc (k := 2) (d := 1) E d_Meaning_starError_80 rfl rfl (by decide) fun y8 _ => Sm_lvs (lv' := [(1, .int y8), (5, .int r5), (0, .ref (G.1 29)), (2, .int x2), (3, .int x3), (4, .int x4)]) rfl ?_
        refine Sm_iinc (k := 5) (d := 1) E d_Meaning_starError_83 rfl rfl (by decide) fun y9 _ => Sm_lvs (lv' := [(4, .int y9), (1, .int y8), (5, .int r5), (0, .ref (G.1 29)), (2, .int x2), (3, .int x3)]) rfl ?_
        refine Sm_goto (tgt := 29) E d_Meaning_starError_86 (by decide) ?_
        exact Sm_sub [3, 1, 4, 5, 0] rfl (h29 _ _ _ _)
      · refine Sm_bipush (v := 8) E d_Meaning_starError_77 (by decide) ?_
        exact Sm_reti hR d_Meaning_starError_79
set_option maxRecDepth 100000 in
set_option maxHeartbeats 4000000 in
theorem tC_Meaning_starError_L4 {X : Cx} {G : Gx} {res : Int32} {u : St} (E : EC X G prog_4_method_13_code R_Meaning 6 { frames := 3, cells := 0, slots := 0, locals := 65 }) (hR : RtI X vwCl (wC G) prog_4_method_13_code (res, u)) : ∀ (n : Nat) (x1 : Int32) (x2 : Int32) , SC X G 6 res (mC_Meaning_starError_L4 n x1 x2 u) u 4 [(0, .ref (G.1 29)), (1, .int x1), (2, .int x2)] [] := by
  intro n
  induction n with
  | zero => intro x1 x2; exact Sm_none
  | succ n h4 =>
    intro x1 x2
    rw [mC_Meaning_starError_L4]
    refine Sm_iload_n E d_Meaning_starError_4 rfl 2 rfl ?_
    refine Sm_aload_n E d_Meaning_starError_5 rfl 0 rfl ?_
    refine gfC_29_lists E fl_Meaning_28 d_Meaning_starError_6 ?_
    refine Sm_iconst (v := 3) E d_Meaning_starError_9 (by decide) ?_
    refine Sm_cVi (As := [.int 3]) (b := (G.1 24)) (st := [.int x2]) (n := 1) E exOk wC_as (fun _ h => cC_Lists_size 3 u h) gk_Meaning_66 dk_Lists_size rfl ⟨rfl, rfl⟩ ⟨Nat.le_of_ble_eq_true rfl, Nat.le_of_ble_eq_true rfl⟩ (rvW (q0 := 24) (ci := 3) E rfl rfl rfl) rfl (Nat.le_of_ble_eq_true rfl) d_Meaning_starError_10 fun r1 _ => ?_
    refine Sm_icmp_ge (tgt := 95) E d_Meaning_starError_13 (by decide) (fun _ => ?_) (fun _ => ?_)
    · refine Sm_iconst (v := 0) E d_Meaning_starError_95 (by decide) ?_
      exact Sm_reti hR d_Meaning_starError_96
    · refine Sm_aload_n E d_Meaning_starError_16 rfl 0 rfl ?_
      refine gfC_29_lists E fl_Meaning_28 d_Meaning_starError_17 ?_
      refine Sm_iconst (v := 3) E d_Meaning_starError_20 (by decide) ?_
      refine Sm_iload_n E d_Meaning_starError_21 rfl 2 rfl ?_
      refine Sm_cVi (As := [.int 3, .int x2]) (b := (G.1 24)) (st := []) (n := 2) E exOk wC_as (fun _ h => cC_Lists_at 3 x2 u h) gk_Meaning_70 dk_Lists_at rfl ⟨rfl, rfl⟩ ⟨Nat.le_of_ble_eq_true rfl, Nat.le_of_ble_eq_true rfl⟩ (rvW (q0 := 24) (ci := 3) E rfl rfl rfl) rfl (Nat.le_of_ble_eq_true rfl) d_Meaning_starError_22 fun r2 _ => ?_
      refine Sm_istore_n (lv' := [(3, .int r2), (0, .ref (G.1 29)), (1, .int x1), (2, .int x2)]) E d_Meaning_starError_25 rfl (by decide) rfl ?_
      refine Sm_iconst (v := 0) E d_Meaning_starError_26 (by decide) ?_
      refine Sm_istore (lv' := [(4, .int 0), (3, .int r2), (0, .ref (G.1 29)), (1, .int x1), (2, .int x2)]) E d_Meaning_starError_27 (by decide) rfl ?_
      exact Sm_sub [2, 3, 4, 1, 0] rfl (tC_Meaning_starError_L29 E hR h4 FU _ _ _ _)
set_option maxRecDepth 100000 in
set_option maxHeartbeats 4000000 in
theorem cC_Meaning_starError {l : Launch} {D : va_G} {G : Gx} (u : St) {res : Int32} (hm : mC_Meaning_starError u = some res) : KC l D G y_Meaning_starError (.code y_Meaning_starError prog_4_method_13_code 6 (some .int)) { frames := 3, cells := 0, slots := 0, locals := 65 } [.ref (G.1 29)] u (qI D vwCl (wC G) (tyW G) (adsC G) (res, u)) := by
  refine Ct_i (by decide) wC_as (Nat.le_of_ble_eq_true rfl) hm (fun X _ _ E hR => ?_)
  refine Sm_lvs (lv' := [(0, .ref (G.1 29))]) rfl ?_
  rw [mC_Meaning_starError]
  refine Sm_iconst (v := 0) E d_Meaning_starError_0 (by decide) ?_
  refine Sm_istore_n (lv' := [(1, .int 0), (0, .ref (G.1 29))]) E d_Meaning_starError_1 rfl (by decide) rfl ?_
  refine Sm_iconst (v := 0) E d_Meaning_starError_2 (by decide) ?_
  refine Sm_istore_n (lv' := [(2, .int 0), (1, .int 0), (0, .ref (G.1 29))]) E d_Meaning_starError_3 rfl (by decide) rfl ?_
  exact Sm_sub [2, 1, 0] rfl (tC_Meaning_starError_L4 E hR FU _ _)
set_option maxRecDepth 100000 in
set_option maxHeartbeats 4000000 in
theorem tC_Meaning_settingsError_J37 {X : Cx} {G : Gx} {res : Int32 × St} (E : EC X G prog_4_method_14_code R_Meaning 4 { frames := 4, cells := 0, slots := 0, locals := 91 }) (hR : RtI X vwCl (wC G) prog_4_method_14_code res) {q4 : Int32 → Int32 → St → Option (Int32 × St)} (h4 : ∀ (x1 : Int32) (x2 : Int32) (u : St), SC X G 4 res (q4 x1 x2 u) u 4 [(0, .ref (G.1 29)), (1, .int x1), (2, .int x2)] []) : ∀ (x2 : Int32) (s0 : Int32) (u : St), SC X G 4 res (mC_Meaning_settingsError_J37 q4 x2 s0 u) u 37 [(0, .ref (G.1 29)), (2, .int x2)] [.int s0] := by
  intro x2 s0 u
  rw [mC_Meaning_settingsError_J37]
  refine Sm_istore_n (lv' := [(3, .int s0), (0, .ref (G.1 29)), (2, .int x2)]) E d_Meaning_settingsError_37 rfl (by decide) rfl ?_
  refine Sm_iload_n E d_Meaning_settingsError_38 rfl 0 rfl ?_
  refine Sm_if_eq (tgt := 60) E d_Meaning_settingsError_39 (by decide) (fun _ => ?_) (fun _ => ?_)
  · refine Sm_bipush (v := 6) E d_Meaning_settingsError_60 (by decide) ?_
    refine Sm_istore_n (lv' := [(1, .int 6), (3, .int s0), (0, .ref (G.1 29)), (2, .int x2)]) E d_Meaning_settingsError_62 rfl (by decide) rfl ?_
    refine Sm_iinc (k := 3) (d := 1) E d_Meaning_settingsError_63 rfl rfl (by decide) fun y3 _ => Sm_lvs (lv' := [(2, .int y3), (1, .int 6), (3, .int s0), (0, .ref (G.1 29))]) rfl ?_
    refine Sm_goto (tgt := 4) E d_Meaning_settingsError_66 (by decide) ?_
    exact Sm_sub [3, 1, 0] rfl (h4 _ _ _)
  · refine Sm_aload_n E d_Meaning_settingsError_42 rfl 1 rfl ?_
    refine Sm_aload_n E d_Meaning_settingsError_43 rfl 1 rfl ?_
    refine gfC_29_lists E fl_Meaning_28 d_Meaning_settingsError_44 ?_
    refine Sm_iconst (v := 5) E d_Meaning_settingsError_47 (by decide) ?_
    refine Sm_iload_n E d_Meaning_settingsError_48 rfl 2 rfl ?_
    refine Sm_cVi (As := [.int 5, .int x2]) (b := (G.1 24)) (st := [.ref (G.1 29)]) (n := 2) E exOk wC_as (fun _ h => cC_Lists_at 5 x2 u h) gk_Meaning_70 dk_Lists_at rfl ⟨rfl, rfl⟩ ⟨Nat.le_of_ble_eq_true rfl, Nat.le_of_ble_eq_true rfl⟩ (rvW (q0 := 24) (ci := 3) E rfl rfl rfl) rfl (Nat.le_of_ble_eq_true rfl) d_Meaning_settingsError_49 fun r4 _ => ?_
    refine Sm_iconst (v := 1) E d_Meaning_settingsError_52 (by decide) ?_
    refine Sm_iadd E d_Meaning_settingsError_53 ?_
    refine Sm_cVI (As := [.int (r4 + 1)]) (b := (G.1 29)) (st := []) (n := 1) E exOk wC_as (fun _ h => cC_Meaning_judgeTo (r4 + 1) u h) gk_Meaning_125 dk_Meaning_judgeTo rfl ⟨rfl, rfl⟩ ⟨Nat.le_of_ble_eq_true rfl, Nat.le_of_ble_eq_true rfl⟩ (rvW (q0 := 29) (ci := 4) E rfl rfl rfl) rfl (Nat.le_of_ble_eq_true rfl) d_Meaning_settingsError_54 fun r5 u6 _ => ?_
    refine Sm_goto (tgt := 62) E d_Meaning_settingsError_57 (by decide) ?_
    refine Sm_istore_n (lv' := [(1, .int r5), (3, .int s0), (0, .ref (G.1 29)), (2, .int x2)]) E d_Meaning_settingsError_62 rfl (by decide) rfl ?_
    refine Sm_iinc (k := 3) (d := 1) E d_Meaning_settingsError_63 rfl rfl (by decide) fun y7 _ => Sm_lvs (lv' := [(2, .int y7), (1, .int r5), (3, .int s0), (0, .ref (G.1 29))]) rfl ?_
    refine Sm_goto (tgt := 4) E d_Meaning_settingsError_66 (by decide) ?_
    exact Sm_sub [3, 1, 0] rfl (h4 _ _ _)
set_option maxRecDepth 100000 in
set_option maxHeartbeats 4000000 in
theorem tC_Meaning_settingsError_L4 {X : Cx} {G : Gx} {res : Int32 × St} (E : EC X G prog_4_method_14_code R_Meaning 4 { frames := 4, cells := 0, slots := 0, locals := 91 }) (hR : RtI X vwCl (wC G) prog_4_method_14_code res) : ∀ (n : Nat) (x1 : Int32) (x2 : Int32) (u : St), SC X G 4 res (mC_Meaning_settingsError_L4 n x1 x2 u) u 4 [(0, .ref (G.1 29)), (1, .int x1), (2, .int x2)] [] := by
  intro n
  induction n with
  | zero => intro x1 x2 u; exact Sm_none
  | succ n h4 =>
    intro x1 x2 u
    rw [mC_Meaning_settingsError_L4]
    refine Sm_iload_n E d_Meaning_settingsError_4 rfl 2 rfl ?_
    refine Sm_aload_n E d_Meaning_settingsError_5 rfl 0 rfl ?_
    refine gfC_29_lists E fl_Meaning_28 d_Meaning_settingsError_6 ?_
    refine Sm_iconst (v := 5) E d_Meaning_settingsError_9 (by decide) ?_
    refine Sm_cVi (As := [.int 5]) (b := (G.1 24)) (st := [.int x2]) (n := 1) E exOk wC_as (fun _ h => cC_Lists_size 5 u h) gk_Meaning_66 dk_Lists_size rfl ⟨rfl, rfl⟩ ⟨Nat.le_of_ble_eq_true rfl, Nat.le_of_ble_eq_true rfl⟩ (rvW (q0 := 24) (ci := 3) E rfl rfl rfl) rfl (Nat.le_of_ble_eq_true rfl) d_Meaning_settingsError_10 fun r1 _ => ?_
    refine Sm_icmp_ge (tgt := 69) E d_Meaning_settingsError_13 (by decide) (fun _ => ?_) (fun _ => ?_)
    · refine Sm_iload_n E d_Meaning_settingsError_69 rfl 1 rfl ?_
      exact Sm_retI hR d_Meaning_settingsError_70
    · refine Sm_iload_n E d_Meaning_settingsError_16 rfl 1 rfl ?_
      refine Sm_if_ne (tgt := 69) E d_Meaning_settingsError_17 (by decide) (fun _ => ?_) (fun _ => ?_)
      · refine Sm_iload_n E d_Meaning_settingsError_69 rfl 1 rfl ?_
        exact Sm_retI hR d_Meaning_settingsError_70
      · refine Sm_aload_n E d_Meaning_settingsError_20 rfl 0 rfl ?_
        refine gfC_29_lists E fl_Meaning_28 d_Meaning_settingsError_21 ?_
        refine Sm_iconst (v := 4) E d_Meaning_settingsError_24 (by decide) ?_
        refine Sm_iload_n E d_Meaning_settingsError_25 rfl 2 rfl ?_
        refine Sm_cVi (As := [.int 4, .int x2]) (b := (G.1 24)) (st := []) (n := 2) E exOk wC_as (fun _ h => cC_Lists_at 4 x2 u h) gk_Meaning_70 dk_Lists_at rfl ⟨rfl, rfl⟩ ⟨Nat.le_of_ble_eq_true rfl, Nat.le_of_ble_eq_true rfl⟩ (rvW (q0 := 24) (ci := 3) E rfl rfl rfl) rfl (Nat.le_of_ble_eq_true rfl) d_Meaning_settingsError_26 fun r2 _ => ?_
        refine Sm_if_lt (tgt := 36) E d_Meaning_settingsError_29 (by decide) (fun _ => ?_) (fun _ => ?_)
        · refine Sm_iconst (v := 0) E d_Meaning_settingsError_36 (by decide) ?_
          exact Sm_sub [0, 2] rfl (tC_Meaning_settingsError_J37 E hR h4 _ _ _)
        · refine Sm_iconst (v := 1) E d_Meaning_settingsError_32 (by decide) ?_
          refine Sm_goto (tgt := 37) E d_Meaning_settingsError_33 (by decide) ?_
          exact Sm_sub [0, 2] rfl (tC_Meaning_settingsError_J37 E hR h4 _ _ _)
set_option maxRecDepth 100000 in
set_option maxHeartbeats 4000000 in
theorem cC_Meaning_settingsError {l : Launch} {D : va_G} {G : Gx} (u : St) {res : Int32 × St} (hm : mC_Meaning_settingsError u = some res) : KC l D G y_Meaning_settingsError (.code y_Meaning_settingsError prog_4_method_14_code 4 (some .int)) { frames := 4, cells := 0, slots := 0, locals := 91 } [.ref (G.1 29)] u (qI D vwCl (wC G) (tyW G) (adsC G) res) := by
  refine Ct_I (by decide) wC_as (Nat.le_of_ble_eq_true rfl) hm (fun X _ _ E hR => ?_)
  refine Sm_lvs (lv' := [(0, .ref (G.1 29))]) rfl ?_
  rw [mC_Meaning_settingsError]
  refine Sm_iconst (v := 0) E d_Meaning_settingsError_0 (by decide) ?_
  refine Sm_istore_n (lv' := [(1, .int 0), (0, .ref (G.1 29))]) E d_Meaning_settingsError_1 rfl (by decide) rfl ?_
  refine Sm_iconst (v := 0) E d_Meaning_settingsError_2 (by decide) ?_
  refine Sm_istore_n (lv' := [(2, .int 0), (1, .int 0), (0, .ref (G.1 29))]) E d_Meaning_settingsError_3 rfl (by decide) rfl ?_
  exact Sm_sub [2, 1, 0] rfl (tC_Meaning_settingsError_L4 E hR FU _ _ _)
set_option maxRecDepth 100000 in
set_option maxHeartbeats 4000000 in
theorem tC_Meaning_typeError_J88 {X : Cx} {G : Gx} {res : Int32 × St} (E : EC X G prog_4_method_6_code R_Meaning 2 { frames := 5, cells := 0, slots := 0, locals := 159 }) (hR : RtI X vwCl (wC G) prog_4_method_6_code res) : ∀ (x1 : Int32) (u : St), SC X G 2 res (mC_Meaning_typeError_J88 x1 u) u 88 [(0, .ref (G.1 29)), (1, .int x1)] [] := by
  intro x1 u
  rw [mC_Meaning_typeError_J88]
  refine Sm_iload_n E d_Meaning_typeError_88 rfl 1 rfl ?_
  refine Sm_if_ne (tgt := 106) E d_Meaning_typeError_89 (by decide) (fun _ => ?_) (fun _ => ?_)
  · refine Sm_iload_n E d_Meaning_typeError_106 rfl 1 rfl ?_
    exact Sm_retI hR d_Meaning_typeError_107
  · refine Sm_aload_n E d_Meaning_typeError_92 rfl 0 rfl ?_
    refine Sm_aload_n E d_Meaning_typeError_93 rfl 0 rfl ?_
    refine gfC_29_nodes E fl_Meaning_24 d_Meaning_typeError_94 ?_
    refine Sm_cVi (As := []) (b := (G.1 14)) (st := [.ref (G.1 29)]) (n := 0) E exOk wC_as (fun _ h => cC_Nodes_size u h) gk_Meaning_121 dk_Nodes_size rfl ⟨rfl, rfl⟩ ⟨Nat.le_of_ble_eq_true rfl, Nat.le_of_ble_eq_true rfl⟩ (rvW (q0 := 14) (ci := 5) E rfl rfl rfl) rfl (Nat.le_of_ble_eq_true rfl) d_Meaning_typeError_97 fun r6 _ => ?_
    refine Sm_cVI (As := [.int r6]) (b := (G.1 29)) (st := []) (n := 1) E exOk wC_as (fun _ h => cC_Meaning_judgeTo r6 u h) gk_Meaning_125 dk_Meaning_judgeTo rfl ⟨rfl, rfl⟩ ⟨Nat.le_of_ble_eq_true rfl, Nat.le_of_ble_eq_true rfl⟩ (rvW (q0 := 29) (ci := 4) E rfl rfl rfl) rfl (Nat.le_of_ble_eq_true rfl) d_Meaning_typeError_100 fun r7 u8 _ => ?_
    refine Sm_goto (tgt := 107) E d_Meaning_typeError_103 (by decide) ?_
    exact Sm_retI hR d_Meaning_typeError_107
set_option maxRecDepth 100000 in
set_option maxHeartbeats 4000000 in
theorem tC_Meaning_typeError_J71 {X : Cx} {G : Gx} {res : Int32 × St} (E : EC X G prog_4_method_6_code R_Meaning 2 { frames := 5, cells := 0, slots := 0, locals := 159 }) (hR : RtI X vwCl (wC G) prog_4_method_6_code res) : ∀ (x1 : Int32) (u : St), SC X G 2 res (mC_Meaning_typeError_J71 x1 u) u 71 [(0, .ref (G.1 29)), (1, .int x1)] [] := by
  intro x1 u
  rw [mC_Meaning_typeError_J71]
  refine Sm_aload_n E d_Meaning_typeError_71 rfl 0 rfl ?_
  refine gfC_29_statement E fl_Meaning_32 d_Meaning_typeError_72 ?_
  refine gfC_27_deed E fl_Meaning_105 d_Meaning_typeError_75 ?_
  refine Sm_bipush (v := 6) E d_Meaning_typeError_78 (by decide) ?_
  refine Sm_icmp_ne (tgt := 88) E d_Meaning_typeError_80 (by decide) (fun _ => ?_) (fun _ => ?_)
  · exact Sm_sub [0, 1] rfl (tC_Meaning_typeError_J88 E hR _ _)
  · refine Sm_aload_n E d_Meaning_typeError_83 rfl 0 rfl ?_
    refine Sm_cVI (As := []) (b := (G.1 29)) (st := []) (n := 0) E exOk wC_as (fun _ h => cC_Meaning_settingsError u h) gk_Meaning_118 dk_Meaning_settingsError rfl ⟨rfl, rfl⟩ ⟨Nat.le_of_ble_eq_true rfl, Nat.le_of_ble_eq_true rfl⟩ (rvW (q0 := 29) (ci := 4) E rfl rfl rfl) rfl (Nat.le_of_ble_eq_true rfl) d_Meaning_typeError_84 fun r9 u10 _ => ?_
    refine Sm_istore_n (lv' := [(1, .int r9), (0, .ref (G.1 29))]) E d_Meaning_typeError_87 rfl (by decide) rfl ?_
    exact Sm_sub [1, 0] rfl (tC_Meaning_typeError_J88 E hR _ _)
set_option maxRecDepth 100000 in
set_option maxHeartbeats 4000000 in
theorem cC_Meaning_typeError {l : Launch} {D : va_G} {G : Gx} (u : St) {res : Int32 × St} (hm : mC_Meaning_typeError u = some res) : KC l D G y_Meaning_typeError (.code y_Meaning_typeError prog_4_method_6_code 2 (some .int)) { frames := 5, cells := 0, slots := 0, locals := 159 } [.ref (G.1 29)] u (qI D vwCl (wC G) (tyW G) (adsC G) res) := by
  refine Ct_I (by decide) wC_as (Nat.le_of_ble_eq_true rfl) hm (fun X _ _ E hR => ?_)
  refine Sm_lvs (lv' := [(0, .ref (G.1 29))]) rfl ?_
  rw [mC_Meaning_typeError]
  refine Sm_aload_n E d_Meaning_typeError_0 rfl 0 rfl ?_
  refine Sm_cVV (As := []) (b := (G.1 29)) (st := []) (n := 0) E exOk wC_as (fun _ h => cC_Meaning_findPlaces u h) gk_Meaning_90 dk_Meaning_findPlaces rfl ⟨rfl, rfl⟩ ⟨Nat.le_of_ble_eq_true rfl, Nat.le_of_ble_eq_true rfl⟩ (rvW (q0 := 29) (ci := 4) E rfl rfl rfl) rfl (Nat.le_of_ble_eq_true rfl) d_Meaning_typeError_1 fun u1 _ => ?_
  refine Sm_aload_n E d_Meaning_typeError_4 rfl 0 rfl ?_
  refine Sm_cVV (As := []) (b := (G.1 29)) (st := []) (n := 0) E exOk wC_as (fun _ h => cC_Meaning_findColumnsSet u1 h) gk_Meaning_93 dk_Meaning_findColumnsSet rfl ⟨rfl, rfl⟩ ⟨Nat.le_of_ble_eq_true rfl, Nat.le_of_ble_eq_true rfl⟩ (rvW (q0 := 29) (ci := 4) E rfl rfl rfl) rfl (Nat.le_of_ble_eq_true rfl) d_Meaning_typeError_5 fun u2 _ => ?_
  refine Sm_aload_n E d_Meaning_typeError_8 rfl 0 rfl ?_
  refine Sm_cVV (As := []) (b := (G.1 29)) (st := []) (n := 0) E exOk wC_as (fun _ h => cC_Meaning_tellNeeds u2 h) gk_Meaning_96 dk_Meaning_tellNeeds rfl ⟨rfl, rfl⟩ ⟨Nat.le_of_ble_eq_true rfl, Nat.le_of_ble_eq_true rfl⟩ (rvW (q0 := 29) (ci := 4) E rfl rfl rfl) rfl (Nat.le_of_ble_eq_true rfl) d_Meaning_typeError_9 fun u3 _ => ?_
  refine Sm_aload_n E d_Meaning_typeError_12 rfl 0 rfl ?_
  refine Sm_cVV (As := []) (b := (G.1 29)) (st := []) (n := 0) E exOk wC_as (fun _ h => cC_Meaning_typeParameters u3 h) gk_Meaning_99 dk_Meaning_typeParameters rfl ⟨rfl, rfl⟩ ⟨Nat.le_of_ble_eq_true rfl, Nat.le_of_ble_eq_true rfl⟩ (rvW (q0 := 29) (ci := 4) E rfl rfl rfl) rfl (Nat.le_of_ble_eq_true rfl) d_Meaning_typeError_13 fun u4 _ => ?_
  refine Sm_aload_n E d_Meaning_typeError_16 rfl 0 rfl ?_
  refine Sm_iconst (v := 0) E d_Meaning_typeError_17 (by decide) ?_
  refine pfC_29_judged E fl_Meaning_102 d_Meaning_typeError_18 fun u5 _ => ?_
  refine Sm_iconst (v := 0) E d_Meaning_typeError_21 (by decide) ?_
  refine Sm_istore_n (lv' := [(1, .int 0), (0, .ref (G.1 29))]) E d_Meaning_typeError_22 rfl (by decide) rfl ?_
  refine Sm_aload_n E d_Meaning_typeError_23 rfl 1 rfl ?_
  refine gfC_29_statement E fl_Meaning_32 d_Meaning_typeError_24 ?_
  refine gfC_27_deed E fl_Meaning_105 d_Meaning_typeError_27 ?_
  refine Sm_iconst (v := 2) E d_Meaning_typeError_30 (by decide) ?_
  refine Sm_icmp_ne (tgt := 42) E d_Meaning_typeError_31 (by decide) (fun _ => ?_) (fun _ => ?_)
  · refine Sm_aload_n E d_Meaning_typeError_42 rfl 1 rfl ?_
    refine gfC_29_statement E fl_Meaning_32 d_Meaning_typeError_43 ?_
    refine gfC_27_deed E fl_Meaning_105 d_Meaning_typeError_46 ?_
    refine Sm_iconst (v := 5) E d_Meaning_typeError_49 (by decide) ?_
    refine Sm_icmp_ne (tgt := 71) E d_Meaning_typeError_50 (by decide) (fun _ => ?_) (fun _ => ?_)
    · exact Sm_sub [1, 0] rfl (tC_Meaning_typeError_J71 E hR _ _)
    · refine Sm_aload_n E d_Meaning_typeError_53 rfl 1 rfl ?_
      refine gfC_29_statement E fl_Meaning_32 d_Meaning_typeError_54 ?_
      refine gfC_27_star E fl_Meaning_111 d_Meaning_typeError_57 ?_
      refine Sm_if_eq (tgt := 71) E d_Meaning_typeError_60 (by decide) (fun _ => ?_) (fun _ => ?_)
      · exact Sm_sub [1, 0] rfl (tC_Meaning_typeError_J71 E hR _ _)
      · refine Sm_aload_n E d_Meaning_typeError_63 rfl 1 rfl ?_
        refine Sm_cVi (As := []) (b := (G.1 29)) (st := []) (n := 0) E exOk wC_as (fun _ h => cC_Meaning_starError u5 h) gk_Meaning_115 dk_Meaning_starError rfl ⟨rfl, rfl⟩ ⟨Nat.le_of_ble_eq_true rfl, Nat.le_of_ble_eq_true rfl⟩ (rvW (q0 := 29) (ci := 4) E rfl rfl rfl) rfl (Nat.le_of_ble_eq_true rfl) d_Meaning_typeError_64 fun r11 _ => ?_
        refine Sm_istore_n (lv' := [(1, .int r11), (0, .ref (G.1 29))]) E d_Meaning_typeError_67 rfl (by decide) rfl ?_
        refine Sm_goto (tgt := 88) E d_Meaning_typeError_68 (by decide) ?_
        exact Sm_sub [1, 0] rfl (tC_Meaning_typeError_J88 E hR _ _)
  · refine Sm_aload_n E d_Meaning_typeError_34 rfl 1 rfl ?_
    refine Sm_cVI (As := []) (b := (G.1 29)) (st := []) (n := 0) E exOk wC_as (fun _ h => cC_Meaning_indexError u5 h) gk_Meaning_108 dk_Meaning_indexError rfl ⟨rfl, rfl⟩ ⟨Nat.le_of_ble_eq_true rfl, Nat.le_of_ble_eq_true rfl⟩ (rvW (q0 := 29) (ci := 4) E rfl rfl rfl) rfl (Nat.le_of_ble_eq_true rfl) d_Meaning_typeError_35 fun r12 u13 _ => ?_
    refine Sm_istore_n (lv' := [(1, .int r12), (0, .ref (G.1 29))]) E d_Meaning_typeError_38 rfl (by decide) rfl ?_
    refine Sm_goto (tgt := 88) E d_Meaning_typeError_39 (by decide) ?_
    exact Sm_sub [1, 0] rfl (tC_Meaning_typeError_J88 E hR _ _)
set_option maxRecDepth 100000 in
set_option maxHeartbeats 4000000 in
theorem tC_Meaning_columnsOfStar_L4 {X : Cx} {G : Gx} {res : Int32} {u : St} (E : EC X G prog_4_method_26_code R_Meaning 3 { frames := 2, cells := 0, slots := 0, locals := 42 }) (hR : RtI X vwCl (wC G) prog_4_method_26_code (res, u)) : ∀ (n : Nat) (x1 : Int32) (x2 : Int32) , SC X G 3 res (mC_Meaning_columnsOfStar_L4 n x1 x2 u) u 4 [(0, .ref (G.1 29)), (1, .int x1), (2, .int x2)] [] := by
  intro n
  induction n with
  | zero => intro x1 x2; exact Sm_none
  | succ n h4 =>
    intro x1 x2
    rw [mC_Meaning_columnsOfStar_L4]
    refine Sm_iload_n E d_Meaning_columnsOfStar_4 rfl 2 rfl ?_
    refine Sm_aload_n E d_Meaning_columnsOfStar_5 rfl 0 rfl ?_
    refine gfC_29_lists E fl_Meaning_28 d_Meaning_columnsOfStar_6 ?_
    refine Sm_iconst (v := 3) E d_Meaning_columnsOfStar_9 (by decide) ?_
    refine Sm_cVi (As := [.int 3]) (b := (G.1 24)) (st := [.int x2]) (n := 1) E exOk wC_as (fun _ h => cC_Lists_size 3 u h) gk_Meaning_66 dk_Lists_size rfl ⟨rfl, rfl⟩ ⟨Nat.le_of_ble_eq_true rfl, Nat.le_of_ble_eq_true rfl⟩ (rvW (q0 := 24) (ci := 3) E rfl rfl rfl) rfl (Nat.le_of_ble_eq_true rfl) d_Meaning_columnsOfStar_10 fun r1 _ => ?_
    refine Sm_icmp_ge (tgt := 41) E d_Meaning_columnsOfStar_13 (by decide) (fun _ => ?_) (fun _ => ?_)
    · refine Sm_iload_n E d_Meaning_columnsOfStar_41 rfl 1 rfl ?_
      exact Sm_reti hR d_Meaning_columnsOfStar_42
    · refine Sm_iload_n E d_Meaning_columnsOfStar_16 rfl 1 rfl ?_
      refine Sm_aload_n E d_Meaning_columnsOfStar_17 rfl 0 rfl ?_
      refine gfC_29_catalog E fl_Meaning_9 d_Meaning_columnsOfStar_18 ?_
      refine Sm_aload_n E d_Meaning_columnsOfStar_21 rfl 0 rfl ?_
      refine gfC_29_lists E fl_Meaning_28 d_Meaning_columnsOfStar_22 ?_
      refine Sm_iconst (v := 3) E d_Meaning_columnsOfStar_25 (by decide) ?_
      refine Sm_iload_n E d_Meaning_columnsOfStar_26 rfl 2 rfl ?_
      refine Sm_cVi (As := [.int 3, .int x2]) (b := (G.1 24)) (st := [.ref (G.1 3), .int x1]) (n := 2) E exOk wC_as (fun _ h => cC_Lists_at 3 x2 u h) gk_Meaning_70 dk_Lists_at rfl ⟨rfl, rfl⟩ ⟨Nat.le_of_ble_eq_true rfl, Nat.le_of_ble_eq_true rfl⟩ (rvW (q0 := 24) (ci := 3) E rfl rfl rfl) rfl (Nat.le_of_ble_eq_true rfl) d_Meaning_columnsOfStar_27 fun r2 _ => ?_
      refine Sm_cVi (As := [.int r2]) (b := (G.1 3)) (st := [.int x1]) (n := 1) E exOk wC_as (fun _ h => cC_Catalog_columnsOf r2 u h) gk_Meaning_172 dk_Catalog_columnsOf rfl ⟨rfl, rfl⟩ ⟨Nat.le_of_ble_eq_true rfl, Nat.le_of_ble_eq_true rfl⟩ (rvW (q0 := 3) (ci := 2) E rfl rfl rfl) rfl (Nat.le_of_ble_eq_true rfl) d_Meaning_columnsOfStar_30 fun r3 _ => ?_
      refine Sm_iadd E d_Meaning_columnsOfStar_33 ?_
      refine Sm_leti fun y4 _ => ?_
      refine Sm_istore_n (lv' := [(1, .int y4), (0, .ref (G.1 29)), (2, .int x2)]) E d_Meaning_columnsOfStar_34 rfl (by decide) rfl ?_
      refine Sm_iinc (k := 2) (d := 1) E d_Meaning_columnsOfStar_35 rfl rfl (by decide) fun y5 _ => Sm_lvs (lv' := [(2, .int y5), (1, .int y4), (0, .ref (G.1 29))]) rfl ?_
      refine Sm_goto (tgt := 4) E d_Meaning_columnsOfStar_38 (by decide) ?_
      exact Sm_sub [2, 1, 0] rfl (h4 _ _)
set_option maxRecDepth 100000 in
set_option maxHeartbeats 4000000 in
theorem cC_Meaning_columnsOfStar {l : Launch} {D : va_G} {G : Gx} (u : St) {res : Int32} (hm : mC_Meaning_columnsOfStar u = some res) : KC l D G y_Meaning_columnsOfStar (.code y_Meaning_columnsOfStar prog_4_method_26_code 3 (some .int)) { frames := 2, cells := 0, slots := 0, locals := 42 } [.ref (G.1 29)] u (qI D vwCl (wC G) (tyW G) (adsC G) (res, u)) := by
  refine Ct_i (by decide) wC_as (Nat.le_of_ble_eq_true rfl) hm (fun X _ _ E hR => ?_)
  refine Sm_lvs (lv' := [(0, .ref (G.1 29))]) rfl ?_
  rw [mC_Meaning_columnsOfStar]
  refine Sm_iconst (v := 0) E d_Meaning_columnsOfStar_0 (by decide) ?_
  refine Sm_istore_n (lv' := [(1, .int 0), (0, .ref (G.1 29))]) E d_Meaning_columnsOfStar_1 rfl (by decide) rfl ?_
  refine Sm_iconst (v := 0) E d_Meaning_columnsOfStar_2 (by decide) ?_
  refine Sm_istore_n (lv' := [(2, .int 0), (1, .int 0), (0, .ref (G.1 29))]) E d_Meaning_columnsOfStar_3 rfl (by decide) rfl ?_
  exact Sm_sub [2, 1, 0] rfl (tC_Meaning_columnsOfStar_L4 E hR FU _ _)
set_option maxRecDepth 100000 in
set_option maxHeartbeats 4000000 in
theorem tC_Meaning_spreadStar_L26 {X : Cx} {G : Gx} {res : St} (E : EC X G prog_4_method_27_code R_Meaning 5 { frames := 3, cells := 0, slots := 0, locals := 65 }) (hR : RtV X vwCl (wC G) prog_4_method_27_code res) {q2 : Int32 → St → Option (St)} (h2 : ∀ (x1 : Int32) (u : St), SC X G 5 res (q2 x1 u) u 2 [(0, .ref (G.1 29)), (1, .int x1)] []) : ∀ (n : Nat) (x1 : Int32) (x2 : Int32) (x3 : Int32) (u : St), SC X G 5 res (mC_Meaning_spreadStar_L26 q2 n x1 x2 x3 u) u 26 [(0, .ref (G.1 29)), (1, .int x1), (2, .int x2), (3, .int x3)] [] := by
  intro n
  induction n with
  | zero => intro x1 x2 x3 u; exact Sm_none
  | succ n h26 =>
    intro x1 x2 x3 u
    rw [mC_Meaning_spreadStar_L26]
    refine Sm_iload_n E d_Meaning_spreadStar_26 rfl 3 rfl ?_
    refine Sm_aload_n E d_Meaning_spreadStar_27 rfl 0 rfl ?_
    refine gfC_29_catalog E fl_Meaning_9 d_Meaning_spreadStar_28 ?_
    refine Sm_iload_n E d_Meaning_spreadStar_31 rfl 2 rfl ?_
    refine Sm_cVi (As := [.int x2]) (b := (G.1 3)) (st := [.int x3]) (n := 1) E exOk wC_as (fun _ h => cC_Catalog_columnsOf x2 u h) gk_Meaning_172 dk_Catalog_columnsOf rfl ⟨rfl, rfl⟩ ⟨Nat.le_of_ble_eq_true rfl, Nat.le_of_ble_eq_true rfl⟩ (rvW (q0 := 3) (ci := 2) E rfl rfl rfl) rfl (Nat.le_of_ble_eq_true rfl) d_Meaning_spreadStar_32 fun r3 _ => ?_
    refine Sm_icmp_ge (tgt := 96) E d_Meaning_spreadStar_35 (by decide) (fun _ => ?_) (fun _ => ?_)
    · refine Sm_iinc (k := 1) (d := 1) E d_Meaning_spreadStar_96 rfl rfl (by decide) fun y4 _ => Sm_lvs (lv' := [(1, .int y4), (0, .ref (G.1 29)), (2, .int x2), (3, .int x3)]) rfl ?_
      refine Sm_goto (tgt := 2) E d_Meaning_spreadStar_99 (by decide) ?_
      exact Sm_sub [1, 0] rfl (h2 _ _)
    · refine Sm_aload_n E d_Meaning_spreadStar_38 rfl 0 rfl ?_
      refine gfC_29_nodes E fl_Meaning_24 d_Meaning_spreadStar_39 ?_
      refine Sm_iconst (v := 4) E d_Meaning_spreadStar_42 (by decide) ?_
      refine Sm_iconst (v := (-1)) E d_Meaning_spreadStar_43 (by decide) ?_
      refine Sm_iconst (v := (-1)) E d_Meaning_spreadStar_44 (by decide) ?_
      refine Sm_iconst (v := (-1)) E d_Meaning_spreadStar_45 (by decide) ?_
      refine Sm_cVI (As := [.int 4, .int (-1), .int (-1), .int (-1)]) (b := (G.1 14)) (st := []) (n := 4) E exOk wC_as (fun _ h => cC_Nodes_leaf 4 (-1) (-1) (-1) u h) gk_Meaning_258 dk_Nodes_leaf rfl ⟨rfl, rfl⟩ ⟨Nat.le_of_ble_eq_true rfl, Nat.le_of_ble_eq_true rfl⟩ (rvW (q0 := 14) (ci := 5) E rfl rfl rfl) rfl (Nat.le_of_ble_eq_true rfl) d_Meaning_spreadStar_46 fun r5 u6 _ => ?_
      refine Sm_istore (lv' := [(4, .int r5), (0, .ref (G.1 29)), (1, .int x1), (2, .int x2), (3, .int x3)]) E d_Meaning_spreadStar_49 (by decide) rfl ?_
      refine Sm_aload_n E d_Meaning_spreadStar_51 rfl 1 rfl ?_
      refine gfC_29_nodes E fl_Meaning_24 d_Meaning_spreadStar_52 ?_
      refine Sm_iload E d_Meaning_spreadStar_55 0 rfl ?_
      refine Sm_iload_n E d_Meaning_spreadStar_57 rfl 2 rfl ?_
      refine Sm_iload_n E d_Meaning_spreadStar_58 rfl 4 rfl ?_
      refine Sm_cVV (As := [.int r5, .int x1, .int x3]) (b := (G.1 14)) (st := []) (n := 3) E exOk wC_as (fun _ h => cC_Nodes_putPlace r5 x1 x3 u6 h) gk_Meaning_147 dk_Nodes_putPlace rfl ⟨rfl, rfl⟩ ⟨Nat.le_of_ble_eq_true rfl, Nat.le_of_ble_eq_true rfl⟩ (rvW (q0 := 14) (ci := 5) E rfl rfl rfl) rfl (Nat.le_of_ble_eq_true rfl) d_Meaning_spreadStar_59 fun u7 _ => ?_
      refine Sm_aload_n E d_Meaning_spreadStar_62 rfl 1 rfl ?_
      refine gfC_29_nodes E fl_Meaning_24 d_Meaning_spreadStar_63 ?_
      refine Sm_iload E d_Meaning_spreadStar_66 0 rfl ?_
      refine Sm_aload_n E d_Meaning_spreadStar_68 rfl 1 rfl ?_
      refine gfC_29_catalog E fl_Meaning_9 d_Meaning_spreadStar_69 ?_
      refine Sm_iload_n E d_Meaning_spreadStar_72 rfl 3 rfl ?_
      refine Sm_iload_n E d_Meaning_spreadStar_73 rfl 4 rfl ?_
      refine Sm_cVi (As := [.int x2, .int x3]) (b := (G.1 3)) (st := [.int r5, .ref (G.1 14)]) (n := 2) E exOk wC_as (fun _ h => cC_Catalog_typeOf x2 x3 u7 h) gk_Meaning_151 dk_Catalog_typeOf rfl ⟨rfl, rfl⟩ ⟨Nat.le_of_ble_eq_true rfl, Nat.le_of_ble_eq_true rfl⟩ (rvW (q0 := 3) (ci := 2) E rfl rfl rfl) rfl (Nat.le_of_ble_eq_true rfl) d_Meaning_spreadStar_74 fun r8 _ => ?_
      refine Sm_cVV (As := [.int r5, .int r8]) (b := (G.1 14)) (st := []) (n := 2) E exOk wC_as (fun _ h => cC_Nodes_putType r5 r8 u7 h) gk_Meaning_154 dk_Nodes_putType rfl ⟨rfl, rfl⟩ ⟨Nat.le_of_ble_eq_true rfl, Nat.le_of_ble_eq_true rfl⟩ (rvW (q0 := 14) (ci := 5) E rfl rfl rfl) rfl (Nat.le_of_ble_eq_true rfl) d_Meaning_spreadStar_77 fun u9 _ => ?_
      refine Sm_aload_n E d_Meaning_spreadStar_80 rfl 1 rfl ?_
      refine gfC_29_lists E fl_Meaning_28 d_Meaning_spreadStar_81 ?_
      refine Sm_iconst (v := 0) E d_Meaning_spreadStar_84 (by decide) ?_
      refine Sm_iload E d_Meaning_spreadStar_85 0 rfl ?_
      refine Sm_cVV (As := [.int 0, .int r5]) (b := (G.1 24)) (st := []) (n := 2) E exOk wC_as (fun _ h => cC_Lists_add 0 r5 u9 h) gk_Meaning_80 dk_Lists_add rfl ⟨rfl, rfl⟩ ⟨Nat.le_of_ble_eq_true rfl, Nat.le_of_ble_eq_true rfl⟩ (rvW (q0 := 24) (ci := 3) E rfl rfl rfl) rfl (Nat.le_of_ble_eq_true rfl) d_Meaning_spreadStar_87 fun u10 _ => ?_
      refine Sm_iinc (k := 4) (d := 1) E d_Meaning_spreadStar_90 rfl rfl (by decide) fun y11 _ => Sm_lvs (lv' := [(3, .int y11), (4, .int r5), (0, .ref (G.1 29)), (1, .int x1), (2, .int x2)]) rfl ?_
      refine Sm_goto (tgt := 26) E d_Meaning_spreadStar_93 (by decide) ?_
      exact Sm_sub [2, 3, 4, 0] rfl (h26 _ _ _ _)
