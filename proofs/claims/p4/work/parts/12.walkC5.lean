set_option maxRecDepth 100000 in
set_option maxHeartbeats 4000000 in
theorem tC_Meaning_spreadStar_L2 {X : Cx} {G : Gx} {res : St} (E : EC X G prog_4_method_27_code R_Meaning 5 { frames := 3, cells := 0, slots := 0, locals := 65 }) (hR : RtV X vwCl (wC G) prog_4_method_27_code res) : ∀ (n : Nat) (x1 : Int32) (u : St), SC X G 5 res (mC_Meaning_spreadStar_L2 n x1 u) u 2 [(0, .ref (G.1 29)), (1, .int x1)] [] := by
  intro n
  induction n with
  | zero => intro x1 u; exact Sm_none
  | succ n h2 =>
    intro x1 u
    rw [mC_Meaning_spreadStar_L2]
    refine Sm_iload_n E d_Meaning_spreadStar_2 rfl 1 rfl ?_
    refine Sm_aload_n E d_Meaning_spreadStar_3 rfl 0 rfl ?_
    refine gfC_29_lists E fl_Meaning_28 d_Meaning_spreadStar_4 ?_
    refine Sm_iconst (v := 3) E d_Meaning_spreadStar_7 (by decide) ?_
    refine Sm_cVi (As := [.int 3]) (b := (G.1 24)) (st := [.int x1]) (n := 1) E exOk wC_as (fun _ h => cC_Lists_size 3 u h) gk_Meaning_66 dk_Lists_size rfl ⟨rfl, rfl⟩ ⟨Nat.le_of_ble_eq_true rfl, Nat.le_of_ble_eq_true rfl⟩ (rvW (q0 := 24) (ci := 3) E rfl rfl rfl) rfl (Nat.le_of_ble_eq_true rfl) d_Meaning_spreadStar_8 fun r1 _ => ?_
    refine Sm_icmp_ge (tgt := 102) E d_Meaning_spreadStar_11 (by decide) (fun _ => ?_) (fun _ => ?_)
    · exact Sm_retV hR d_Meaning_spreadStar_102
    · refine Sm_aload_n E d_Meaning_spreadStar_14 rfl 0 rfl ?_
      refine gfC_29_lists E fl_Meaning_28 d_Meaning_spreadStar_15 ?_
      refine Sm_iconst (v := 3) E d_Meaning_spreadStar_18 (by decide) ?_
      refine Sm_iload_n E d_Meaning_spreadStar_19 rfl 1 rfl ?_
      refine Sm_cVi (As := [.int 3, .int x1]) (b := (G.1 24)) (st := []) (n := 2) E exOk wC_as (fun _ h => cC_Lists_at 3 x1 u h) gk_Meaning_70 dk_Lists_at rfl ⟨rfl, rfl⟩ ⟨Nat.le_of_ble_eq_true rfl, Nat.le_of_ble_eq_true rfl⟩ (rvW (q0 := 24) (ci := 3) E rfl rfl rfl) rfl (Nat.le_of_ble_eq_true rfl) d_Meaning_spreadStar_20 fun r2 _ => ?_
      refine Sm_istore_n (lv' := [(2, .int r2), (0, .ref (G.1 29)), (1, .int x1)]) E d_Meaning_spreadStar_23 rfl (by decide) rfl ?_
      refine Sm_iconst (v := 0) E d_Meaning_spreadStar_24 (by decide) ?_
      refine Sm_istore_n (lv' := [(3, .int 0), (2, .int r2), (0, .ref (G.1 29)), (1, .int x1)]) E d_Meaning_spreadStar_25 rfl (by decide) rfl ?_
      exact Sm_sub [2, 3, 1, 0] rfl (tC_Meaning_spreadStar_L26 E hR h2 FU _ _ _ _)
set_option maxRecDepth 100000 in
set_option maxHeartbeats 4000000 in
theorem cC_Meaning_spreadStar {l : Launch} {D : va_G} {G : Gx} (u : St) {res : St} (hm : mC_Meaning_spreadStar u = some res) : KC l D G y_Meaning_spreadStar (.code y_Meaning_spreadStar prog_4_method_27_code 5 none) { frames := 3, cells := 0, slots := 0, locals := 65 } [.ref (G.1 29)] u (qV D vwCl (wC G) (tyW G) (adsC G) res) := by
  refine Ct_V (by decide) wC_as (Nat.le_of_ble_eq_true rfl) hm (fun X _ _ E hR => ?_)
  refine Sm_lvs (lv' := [(0, .ref (G.1 29))]) rfl ?_
  rw [mC_Meaning_spreadStar]
  refine Sm_iconst (v := 0) E d_Meaning_spreadStar_0 (by decide) ?_
  refine Sm_istore_n (lv' := [(1, .int 0), (0, .ref (G.1 29))]) E d_Meaning_spreadStar_1 rfl (by decide) rfl ?_
  exact Sm_sub [1, 0] rfl (tC_Meaning_spreadStar_L2 E hR FU _ _)
set_option maxRecDepth 100000 in
set_option maxHeartbeats 4000000 in
theorem tC_Meaning_valuesMatch_L44 {X : Cx} {G : Gx} {res : Int32} {u : St} (E : EC X G prog_4_method_28_code R_Meaning 5 { frames := 2, cells := 0, slots := 0, locals := 42 }) (hR : RtZ X vwCl (wC G) prog_4_method_28_code .boolean (res, u)) : ∀ (n : Nat) (x1 : Int32) (x2 : Int32) (x3 : Int32) , SC X G 5 res (mC_Meaning_valuesMatch_L44 n x1 x2 x3 u) u 44 [(0, .ref (G.1 29)), (1, .int x1), (2, .int x2), (3, .int x3)] [] := by
  intro n
  induction n with
  | zero => intro x1 x2 x3; exact Sm_none
  | succ n h44 =>
    intro x1 x2 x3
    rw [mC_Meaning_valuesMatch_L44]
    refine Sm_iload_n E d_Meaning_valuesMatch_44 rfl 3 rfl ?_
    refine Sm_aload_n E d_Meaning_valuesMatch_45 rfl 0 rfl ?_
    refine gfC_29_lists E fl_Meaning_28 d_Meaning_valuesMatch_46 ?_
    refine Sm_bipush (v := 12) E d_Meaning_valuesMatch_49 (by decide) ?_
    refine Sm_cVi (As := [.int 12]) (b := (G.1 24)) (st := [.int x3]) (n := 1) E exOk wC_as (fun _ h => cC_Lists_size 12 u h) gk_Meaning_66 dk_Lists_size rfl ⟨rfl, rfl⟩ ⟨Nat.le_of_ble_eq_true rfl, Nat.le_of_ble_eq_true rfl⟩ (rvW (q0 := 24) (ci := 3) E rfl rfl rfl) rfl (Nat.le_of_ble_eq_true rfl) d_Meaning_valuesMatch_51 fun r2 _ => ?_
    refine Sm_icmp_ge (tgt := 88) E d_Meaning_valuesMatch_54 (by decide) (fun _ => ?_) (fun _ => ?_)
    · refine Sm_iconst (v := 1) E d_Meaning_valuesMatch_88 (by decide) ?_
      exact Sm_retz hR (by decide) d_Meaning_valuesMatch_89
    · refine Sm_aload_n E d_Meaning_valuesMatch_57 rfl 0 rfl ?_
      refine gfC_29_lists E fl_Meaning_28 d_Meaning_valuesMatch_58 ?_
      refine Sm_bipush (v := 12) E d_Meaning_valuesMatch_61 (by decide) ?_
      refine Sm_iload_n E d_Meaning_valuesMatch_63 rfl 3 rfl ?_
      refine Sm_cVi (As := [.int 12, .int x3]) (b := (G.1 24)) (st := []) (n := 2) E exOk wC_as (fun _ h => cC_Lists_at 12 x3 u h) gk_Meaning_70 dk_Lists_at rfl ⟨rfl, rfl⟩ ⟨Nat.le_of_ble_eq_true rfl, Nat.le_of_ble_eq_true rfl⟩ (rvW (q0 := 24) (ci := 3) E rfl rfl rfl) rfl (Nat.le_of_ble_eq_true rfl) d_Meaning_valuesMatch_64 fun r3 _ => ?_
      refine Sm_istore (lv' := [(4, .int r3), (0, .ref (G.1 29)), (1, .int x1), (2, .int x2), (3, .int x3)]) E d_Meaning_valuesMatch_67 (by decide) rfl ?_
      refine Sm_iload E d_Meaning_valuesMatch_69 0 rfl ?_
      refine Sm_iload_n E d_Meaning_valuesMatch_71 rfl 3 rfl ?_
      refine Sm_isub E d_Meaning_valuesMatch_72 ?_
      refine Sm_iload_n E d_Meaning_valuesMatch_73 rfl 2 rfl ?_
      refine Sm_icmp_eq (tgt := 79) E d_Meaning_valuesMatch_74 (by decide) (fun _ => ?_) (fun _ => ?_)
      · refine Sm_iload E d_Meaning_valuesMatch_79 0 rfl ?_
        refine Sm_istore_n (lv' := [(2, .int r3), (4, .int r3), (0, .ref (G.1 29)), (1, .int x1), (3, .int x3)]) E d_Meaning_valuesMatch_81 rfl (by decide) rfl ?_
        refine Sm_iinc (k := 4) (d := 1) E d_Meaning_valuesMatch_82 rfl rfl (by decide) fun y4 _ => Sm_lvs (lv' := [(3, .int y4), (2, .int r3), (4, .int r3), (0, .ref (G.1 29)), (1, .int x1)]) rfl ?_
        refine Sm_goto (tgt := 44) E d_Meaning_valuesMatch_85 (by decide) ?_
        exact Sm_sub [3, 4, 1, 0] rfl (h44 _ _ _)
      · refine Sm_iconst (v := 0) E d_Meaning_valuesMatch_77 (by decide) ?_
        exact Sm_retz hR (by decide) d_Meaning_valuesMatch_78
set_option maxRecDepth 100000 in
set_option maxHeartbeats 4000000 in
theorem cC_Meaning_valuesMatch {l : Launch} {D : va_G} {G : Gx} (u : St) {res : Int32} (hm : mC_Meaning_valuesMatch u = some res) : KC l D G y_Meaning_valuesMatch (.code y_Meaning_valuesMatch prog_4_method_28_code 5 (some .boolean)) { frames := 2, cells := 0, slots := 0, locals := 42 } [.ref (G.1 29)] u (qI D vwCl (wC G) (tyW G) (adsC G) (res, u)) := by
  refine Ct_z (by decide) wC_as (Nat.le_of_ble_eq_true rfl) hm (fun X _ _ E hR => ?_)
  refine Sm_lvs (lv' := [(0, .ref (G.1 29))]) rfl ?_
  rw [mC_Meaning_valuesMatch]
  refine Sm_aload_n E d_Meaning_valuesMatch_0 rfl 0 rfl ?_
  refine gfC_29_catalog E fl_Meaning_9 d_Meaning_valuesMatch_1 ?_
  refine Sm_aload_n E d_Meaning_valuesMatch_4 rfl 0 rfl ?_
  refine gfC_29_statement E fl_Meaning_32 d_Meaning_valuesMatch_5 ?_
  refine gfC_27_table E fl_Meaning_61 d_Meaning_valuesMatch_8 ?_
  refine Sm_cVi (As := [.int (u.1 13)]) (b := (G.1 3)) (st := []) (n := 1) E exOk wC_as (fun _ h => cC_Catalog_columnsOf (u.1 13) u h) gk_Meaning_172 dk_Catalog_columnsOf rfl ⟨rfl, rfl⟩ ⟨Nat.le_of_ble_eq_true rfl, Nat.le_of_ble_eq_true rfl⟩ (rvW (q0 := 3) (ci := 2) E rfl rfl rfl) rfl (Nat.le_of_ble_eq_true rfl) d_Meaning_valuesMatch_11 fun r1 _ => ?_
  refine Sm_istore_n (lv' := [(1, .int r1), (0, .ref (G.1 29))]) E d_Meaning_valuesMatch_14 rfl (by decide) rfl ?_
  refine Sm_aload_n E d_Meaning_valuesMatch_15 rfl 1 rfl ?_
  refine gfC_29_statement E fl_Meaning_32 d_Meaning_valuesMatch_16 ?_
  refine gfC_27_deed E fl_Meaning_105 d_Meaning_valuesMatch_19 ?_
  refine Sm_iconst (v := 5) E d_Meaning_valuesMatch_22 (by decide) ?_
  refine Sm_icmp_ne (tgt := 40) E d_Meaning_valuesMatch_23 (by decide) (fun _ => ?_) (fun _ => ?_)
  · refine Sm_iconst (v := 0) E d_Meaning_valuesMatch_40 (by decide) ?_
    refine Sm_istore_n (lv' := [(2, .int 0), (1, .int r1), (0, .ref (G.1 29))]) E d_Meaning_valuesMatch_41 rfl (by decide) rfl ?_
    refine Sm_iconst (v := 0) E d_Meaning_valuesMatch_42 (by decide) ?_
    refine Sm_istore_n (lv' := [(3, .int 0), (2, .int 0), (1, .int r1), (0, .ref (G.1 29))]) E d_Meaning_valuesMatch_43 rfl (by decide) rfl ?_
    exact Sm_sub [3, 2, 1, 0] rfl (tC_Meaning_valuesMatch_L44 E hR FU _ _ _)
  · refine Sm_aload_n E d_Meaning_valuesMatch_26 rfl 1 rfl ?_
    refine gfC_29_lists E fl_Meaning_28 d_Meaning_valuesMatch_27 ?_
    refine Sm_iconst (v := 0) E d_Meaning_valuesMatch_30 (by decide) ?_
    refine Sm_cVi (As := [.int 0]) (b := (G.1 24)) (st := []) (n := 1) E exOk wC_as (fun _ h => cC_Lists_size 0 u h) gk_Meaning_66 dk_Lists_size rfl ⟨rfl, rfl⟩ ⟨Nat.le_of_ble_eq_true rfl, Nat.le_of_ble_eq_true rfl⟩ (rvW (q0 := 24) (ci := 3) E rfl rfl rfl) rfl (Nat.le_of_ble_eq_true rfl) d_Meaning_valuesMatch_31 fun r5 _ => ?_
    refine Sm_iload_n E d_Meaning_valuesMatch_34 rfl 0 rfl ?_
    refine Sm_icmp_eq (tgt := 40) E d_Meaning_valuesMatch_35 (by decide) (fun _ => ?_) (fun _ => ?_)
    · refine Sm_iconst (v := 0) E d_Meaning_valuesMatch_40 (by decide) ?_
      refine Sm_istore_n (lv' := [(2, .int 0), (1, .int r1), (0, .ref (G.1 29))]) E d_Meaning_valuesMatch_41 rfl (by decide) rfl ?_
      refine Sm_iconst (v := 0) E d_Meaning_valuesMatch_42 (by decide) ?_
      refine Sm_istore_n (lv' := [(3, .int 0), (2, .int 0), (1, .int r1), (0, .ref (G.1 29))]) E d_Meaning_valuesMatch_43 rfl (by decide) rfl ?_
      exact Sm_sub [3, 2, 1, 0] rfl (tC_Meaning_valuesMatch_L44 E hR FU _ _ _)
    · refine Sm_iconst (v := 0) E d_Meaning_valuesMatch_38 (by decide) ?_
      exact Sm_retz hR (by decide) d_Meaning_valuesMatch_39
set_option maxRecDepth 100000 in
set_option maxHeartbeats 4000000 in
theorem tC_Meaning_namesDiffer_L28 {X : Cx} {G : Gx} {res : Int32} {u : St} (E : EC X G prog_4_method_29_code R_Meaning 4 { frames := 2, cells := 0, slots := 0, locals := 46 }) (hR : RtZ X vwCl (wC G) prog_4_method_29_code .boolean (res, u)) {q2 : Int32 → St → Option (Int32)} (h2 : ∀ (x1 : Int32) , SC X G 4 res (q2 x1 u) u 2 [(0, .ref (G.1 29)), (1, .int x1)] []) : ∀ (n : Nat) (x1 : Int32) (x2 : Int32) (x3 : Int32) , SC X G 4 res (mC_Meaning_namesDiffer_L28 q2 n x1 x2 x3 u) u 28 [(0, .ref (G.1 29)), (1, .int x1), (2, .int x2), (3, .int x3)] [] := by
  intro n
  induction n with
  | zero => intro x1 x2 x3; exact Sm_none
  | succ n h28 =>
    intro x1 x2 x3
    rw [mC_Meaning_namesDiffer_L28]
    refine Sm_iload_n E d_Meaning_namesDiffer_28 rfl 3 rfl ?_
    refine Sm_iload_n E d_Meaning_namesDiffer_29 rfl 1 rfl ?_
    refine Sm_icmp_ge (tgt := 66) E d_Meaning_namesDiffer_30 (by decide) (fun _ => ?_) (fun _ => ?_)
    · refine Sm_iinc (k := 1) (d := 1) E d_Meaning_namesDiffer_66 rfl rfl (by decide) fun y3 _ => Sm_lvs (lv' := [(1, .int y3), (0, .ref (G.1 29)), (2, .int x2), (3, .int x3)]) rfl ?_
      refine Sm_goto (tgt := 2) E d_Meaning_namesDiffer_69 (by decide) ?_
      exact Sm_sub [1, 0] rfl (h2 _)
    · refine Sm_aload_n E d_Meaning_namesDiffer_33 rfl 0 rfl ?_
      refine gfC_29_text E fl_Meaning_21 d_Meaning_namesDiffer_34 ?_
      refine Sm_iload_n E d_Meaning_namesDiffer_37 rfl 2 rfl ?_
      refine Sm_aload_n E d_Meaning_namesDiffer_38 rfl 0 rfl ?_
      refine gfC_29_text E fl_Meaning_21 d_Meaning_namesDiffer_39 ?_
      refine Sm_aload_n E d_Meaning_namesDiffer_42 rfl 0 rfl ?_
      refine gfC_29_lists E fl_Meaning_28 d_Meaning_namesDiffer_43 ?_
      refine Sm_bipush (v := 13) E d_Meaning_namesDiffer_46 (by decide) ?_
      refine Sm_iload_n E d_Meaning_namesDiffer_48 rfl 3 rfl ?_
      refine Sm_cVi (As := [.int 13, .int x3]) (b := (G.1 24)) (st := [.ref (G.1 11), .int x2, .ref (G.1 11)]) (n := 2) E exOk wC_as (fun _ h => cC_Lists_at 13 x3 u h) gk_Meaning_70 dk_Lists_at rfl ⟨rfl, rfl⟩ ⟨Nat.le_of_ble_eq_true rfl, Nat.le_of_ble_eq_true rfl⟩ (rvW (q0 := 24) (ci := 3) E rfl rfl rfl) rfl (Nat.le_of_ble_eq_true rfl) d_Meaning_namesDiffer_49 fun r4 _ => ?_
      refine Sm_cVi (As := [.int x2, .ref (G.1 11), .int r4]) (b := (G.1 11)) (st := []) (n := 3) E exOk wC_as (fun _ h => cC_Text_same_11_11 x2 r4 u h) gk_Meaning_84 dk_Text_same rfl ⟨rfl, rfl⟩ ⟨Nat.le_of_ble_eq_true rfl, Nat.le_of_ble_eq_true rfl⟩ (rvW (q0 := 11) (ci := 8) E rfl rfl rfl) rfl (Nat.le_of_ble_eq_true rfl) d_Meaning_namesDiffer_52 fun r5 _ => ?_
      refine Sm_if_eq (tgt := 60) E d_Meaning_namesDiffer_55 (by decide) (fun _ => ?_) (fun _ => ?_)
      · refine Sm_iinc (k := 3) (d := 1) E d_Meaning_namesDiffer_60 rfl rfl (by decide) fun y6 _ => Sm_lvs (lv' := [(3, .int y6), (0, .ref (G.1 29)), (1, .int x1), (2, .int x2)]) rfl ?_
        refine Sm_goto (tgt := 28) E d_Meaning_namesDiffer_63 (by decide) ?_
        exact Sm_sub [1, 2, 3, 0] rfl (h28 _ _ _)
      · refine Sm_iconst (v := 0) E d_Meaning_namesDiffer_58 (by decide) ?_
        exact Sm_retz hR (by decide) d_Meaning_namesDiffer_59
set_option maxRecDepth 100000 in
set_option maxHeartbeats 4000000 in
theorem tC_Meaning_namesDiffer_L2 {X : Cx} {G : Gx} {res : Int32} {u : St} (E : EC X G prog_4_method_29_code R_Meaning 4 { frames := 2, cells := 0, slots := 0, locals := 46 }) (hR : RtZ X vwCl (wC G) prog_4_method_29_code .boolean (res, u)) : ∀ (n : Nat) (x1 : Int32) , SC X G 4 res (mC_Meaning_namesDiffer_L2 n x1 u) u 2 [(0, .ref (G.1 29)), (1, .int x1)] [] := by
  intro n
  induction n with
  | zero => intro x1; exact Sm_none
  | succ n h2 =>
    intro x1
    rw [mC_Meaning_namesDiffer_L2]
    refine Sm_iload_n E d_Meaning_namesDiffer_2 rfl 1 rfl ?_
    refine Sm_aload_n E d_Meaning_namesDiffer_3 rfl 0 rfl ?_
    refine gfC_29_lists E fl_Meaning_28 d_Meaning_namesDiffer_4 ?_
    refine Sm_bipush (v := 13) E d_Meaning_namesDiffer_7 (by decide) ?_
    refine Sm_cVi (As := [.int 13]) (b := (G.1 24)) (st := [.int x1]) (n := 1) E exOk wC_as (fun _ h => cC_Lists_size 13 u h) gk_Meaning_66 dk_Lists_size rfl ⟨rfl, rfl⟩ ⟨Nat.le_of_ble_eq_true rfl, Nat.le_of_ble_eq_true rfl⟩ (rvW (q0 := 24) (ci := 3) E rfl rfl rfl) rfl (Nat.le_of_ble_eq_true rfl) d_Meaning_namesDiffer_9 fun r1 _ => ?_
    refine Sm_icmp_ge (tgt := 72) E d_Meaning_namesDiffer_12 (by decide) (fun _ => ?_) (fun _ => ?_)
    · refine Sm_iconst (v := 1) E d_Meaning_namesDiffer_72 (by decide) ?_
      exact Sm_retz hR (by decide) d_Meaning_namesDiffer_73
    · refine Sm_aload_n E d_Meaning_namesDiffer_15 rfl 0 rfl ?_
      refine gfC_29_lists E fl_Meaning_28 d_Meaning_namesDiffer_16 ?_
      refine Sm_bipush (v := 13) E d_Meaning_namesDiffer_19 (by decide) ?_
      refine Sm_iload_n E d_Meaning_namesDiffer_21 rfl 1 rfl ?_
      refine Sm_cVi (As := [.int 13, .int x1]) (b := (G.1 24)) (st := []) (n := 2) E exOk wC_as (fun _ h => cC_Lists_at 13 x1 u h) gk_Meaning_70 dk_Lists_at rfl ⟨rfl, rfl⟩ ⟨Nat.le_of_ble_eq_true rfl, Nat.le_of_ble_eq_true rfl⟩ (rvW (q0 := 24) (ci := 3) E rfl rfl rfl) rfl (Nat.le_of_ble_eq_true rfl) d_Meaning_namesDiffer_22 fun r2 _ => ?_
      refine Sm_istore_n (lv' := [(2, .int r2), (0, .ref (G.1 29)), (1, .int x1)]) E d_Meaning_namesDiffer_25 rfl (by decide) rfl ?_
      refine Sm_iconst (v := 0) E d_Meaning_namesDiffer_26 (by decide) ?_
      refine Sm_istore_n (lv' := [(3, .int 0), (2, .int r2), (0, .ref (G.1 29)), (1, .int x1)]) E d_Meaning_namesDiffer_27 rfl (by decide) rfl ?_
      exact Sm_sub [2, 3, 1, 0] rfl (tC_Meaning_namesDiffer_L28 E hR h2 FU _ _ _)
set_option maxRecDepth 100000 in
set_option maxHeartbeats 4000000 in
theorem cC_Meaning_namesDiffer {l : Launch} {D : va_G} {G : Gx} (u : St) {res : Int32} (hm : mC_Meaning_namesDiffer u = some res) : KC l D G y_Meaning_namesDiffer (.code y_Meaning_namesDiffer prog_4_method_29_code 4 (some .boolean)) { frames := 2, cells := 0, slots := 0, locals := 46 } [.ref (G.1 29)] u (qI D vwCl (wC G) (tyW G) (adsC G) (res, u)) := by
  refine Ct_z (by decide) wC_as (Nat.le_of_ble_eq_true rfl) hm (fun X _ _ E hR => ?_)
  refine Sm_lvs (lv' := [(0, .ref (G.1 29))]) rfl ?_
  rw [mC_Meaning_namesDiffer]
  refine Sm_iconst (v := 0) E d_Meaning_namesDiffer_0 (by decide) ?_
  refine Sm_istore_n (lv' := [(1, .int 0), (0, .ref (G.1 29))]) E d_Meaning_namesDiffer_1 rfl (by decide) rfl ?_
  exact Sm_sub [1, 0] rfl (tC_Meaning_namesDiffer_L2 E hR FU _)
set_option maxRecDepth 100000 in
set_option maxHeartbeats 4000000 in
theorem tC_Meaning_ordersMatch_J35 {X : Cx} {G : Gx} {res : Int32} {u : St} (E : EC X G prog_4_method_30_code R_Meaning 3 { frames := 1, cells := 0, slots := 0, locals := 23 }) (hR : RtZ X vwCl (wC G) prog_4_method_30_code .boolean (res, u)) {q2 : Int32 → St → Option (Int32)} (h2 : ∀ (x1 : Int32) , SC X G 3 res (q2 x1 u) u 2 [(0, .ref (G.1 29)), (1, .int x1)] []) : ∀ (x1 : Int32) (s0 : Int32) , SC X G 3 res (mC_Meaning_ordersMatch_J35 q2 x1 s0 u) u 35 [(0, .ref (G.1 29)), (1, .int x1)] [.int s0] := by
  intro x1 s0
  rw [mC_Meaning_ordersMatch_J35]
  refine Sm_aload_n E d_Meaning_ordersMatch_35 rfl 0 rfl ?_
  refine gfC_29_lists E fl_Meaning_28 d_Meaning_ordersMatch_36 ?_
  refine Sm_iconst (v := 0) E d_Meaning_ordersMatch_39 (by decide) ?_
  refine Sm_cVi (As := [.int 0]) (b := (G.1 24)) (st := [.int s0]) (n := 1) E exOk wC_as (fun _ h => cC_Lists_size 0 u h) gk_Meaning_66 dk_Lists_size rfl ⟨rfl, rfl⟩ ⟨Nat.le_of_ble_eq_true rfl, Nat.le_of_ble_eq_true rfl⟩ (rvW (q0 := 24) (ci := 3) E rfl rfl rfl) rfl (Nat.le_of_ble_eq_true rfl) d_Meaning_ordersMatch_40 fun r3 _ => ?_
  refine Sm_icmp_lt (tgt := 48) E d_Meaning_ordersMatch_43 (by decide) (fun _ => ?_) (fun _ => ?_)
  · refine Sm_iinc (k := 1) (d := 1) E d_Meaning_ordersMatch_48 rfl rfl (by decide) fun y4 _ => Sm_lvs (lv' := [(1, .int y4), (0, .ref (G.1 29))]) rfl ?_
    refine Sm_goto (tgt := 2) E d_Meaning_ordersMatch_51 (by decide) ?_
    exact Sm_sub [1, 0] rfl (h2 _)
  · refine Sm_iconst (v := 0) E d_Meaning_ordersMatch_46 (by decide) ?_
    exact Sm_retz hR (by decide) d_Meaning_ordersMatch_47
set_option maxRecDepth 100000 in
set_option maxHeartbeats 4000000 in
theorem tC_Meaning_ordersMatch_L2 {X : Cx} {G : Gx} {res : Int32} {u : St} (E : EC X G prog_4_method_30_code R_Meaning 3 { frames := 1, cells := 0, slots := 0, locals := 23 }) (hR : RtZ X vwCl (wC G) prog_4_method_30_code .boolean (res, u)) : ∀ (n : Nat) (x1 : Int32) , SC X G 3 res (mC_Meaning_ordersMatch_L2 n x1 u) u 2 [(0, .ref (G.1 29)), (1, .int x1)] [] := by
  intro n
  induction n with
  | zero => intro x1; exact Sm_none
  | succ n h2 =>
    intro x1
    rw [mC_Meaning_ordersMatch_L2]
    refine Sm_iload_n E d_Meaning_ordersMatch_2 rfl 1 rfl ?_
    refine Sm_aload_n E d_Meaning_ordersMatch_3 rfl 0 rfl ?_
    refine gfC_29_lists E fl_Meaning_28 d_Meaning_ordersMatch_4 ?_
    refine Sm_iconst (v := 2) E d_Meaning_ordersMatch_7 (by decide) ?_
    refine Sm_cVi (As := [.int 2]) (b := (G.1 24)) (st := [.int x1]) (n := 1) E exOk wC_as (fun _ h => cC_Lists_size 2 u h) gk_Meaning_66 dk_Lists_size rfl ⟨rfl, rfl⟩ ⟨Nat.le_of_ble_eq_true rfl, Nat.le_of_ble_eq_true rfl⟩ (rvW (q0 := 24) (ci := 3) E rfl rfl rfl) rfl (Nat.le_of_ble_eq_true rfl) d_Meaning_ordersMatch_8 fun r1 _ => ?_
    refine Sm_icmp_ge (tgt := 54) E d_Meaning_ordersMatch_11 (by decide) (fun _ => ?_) (fun _ => ?_)
    · refine Sm_iconst (v := 1) E d_Meaning_ordersMatch_54 (by decide) ?_
      exact Sm_retz hR (by decide) d_Meaning_ordersMatch_55
    · refine Sm_aload_n E d_Meaning_ordersMatch_14 rfl 0 rfl ?_
      refine gfC_29_lists E fl_Meaning_28 d_Meaning_ordersMatch_15 ?_
      refine Sm_iconst (v := 2) E d_Meaning_ordersMatch_18 (by decide) ?_
      refine Sm_iload_n E d_Meaning_ordersMatch_19 rfl 1 rfl ?_
      refine Sm_cVi (As := [.int 2, .int x1]) (b := (G.1 24)) (st := []) (n := 2) E exOk wC_as (fun _ h => cC_Lists_at 2 x1 u h) gk_Meaning_70 dk_Lists_at rfl ⟨rfl, rfl⟩ ⟨Nat.le_of_ble_eq_true rfl, Nat.le_of_ble_eq_true rfl⟩ (rvW (q0 := 24) (ci := 3) E rfl rfl rfl) rfl (Nat.le_of_ble_eq_true rfl) d_Meaning_ordersMatch_20 fun r2 _ => ?_
      refine Sm_istore_n (lv' := [(2, .int r2), (0, .ref (G.1 29)), (1, .int x1)]) E d_Meaning_ordersMatch_23 rfl (by decide) rfl ?_
      refine Sm_iload_n E d_Meaning_ordersMatch_24 rfl 0 rfl ?_
      refine Sm_if_ge (tgt := 34) E d_Meaning_ordersMatch_25 (by decide) (fun _ => ?_) (fun _ => ?_)
      · refine Sm_iload_n E d_Meaning_ordersMatch_34 rfl 0 rfl ?_
        exact Sm_sub [1, 2] rfl (tC_Meaning_ordersMatch_J35 E hR h2 _ _)
      · refine Sm_iconst (v := (-1)) E d_Meaning_ordersMatch_28 (by decide) ?_
        refine Sm_iload_n E d_Meaning_ordersMatch_29 rfl 0 rfl ?_
        refine Sm_isub E d_Meaning_ordersMatch_30 ?_
        refine Sm_goto (tgt := 35) E d_Meaning_ordersMatch_31 (by decide) ?_
        exact Sm_sub [1, 2] rfl (tC_Meaning_ordersMatch_J35 E hR h2 _ _)
set_option maxRecDepth 100000 in
set_option maxHeartbeats 4000000 in
theorem cC_Meaning_ordersMatch {l : Launch} {D : va_G} {G : Gx} (u : St) {res : Int32} (hm : mC_Meaning_ordersMatch u = some res) : KC l D G y_Meaning_ordersMatch (.code y_Meaning_ordersMatch prog_4_method_30_code 3 (some .boolean)) { frames := 1, cells := 0, slots := 0, locals := 23 } [.ref (G.1 29)] u (qI D vwCl (wC G) (tyW G) (adsC G) (res, u)) := by
  refine Ct_z (by decide) wC_as (Nat.le_of_ble_eq_true rfl) hm (fun X _ _ E hR => ?_)
  refine Sm_lvs (lv' := [(0, .ref (G.1 29))]) rfl ?_
  rw [mC_Meaning_ordersMatch]
  refine Sm_iconst (v := 0) E d_Meaning_ordersMatch_0 (by decide) ?_
  refine Sm_istore_n (lv' := [(1, .int 0), (0, .ref (G.1 29))]) E d_Meaning_ordersMatch_1 rfl (by decide) rfl ?_
  exact Sm_sub [1, 0] rfl (tC_Meaning_ordersMatch_L2 E hR FU _)
set_option maxRecDepth 100000 in
set_option maxHeartbeats 4000000 in
theorem tC_Meaning_measureError_J75 {X : Cx} {G : Gx} {res : Int32 × St} (E : EC X G prog_4_method_25_code R_Meaning 4 { frames := 4, cells := 0, slots := 0, locals := 89 }) (hR : RtI X vwCl (wC G) prog_4_method_25_code res) : ∀ (s0 : Int32) (u : St), SC X G 4 res (mC_Meaning_measureError_J75 s0 u) u 75 [(0, .ref (G.1 29))] [.int s0] := by
  intro s0 u
  rw [mC_Meaning_measureError_J75]
  refine Sm_istore_n (lv' := [(2, .int s0), (0, .ref (G.1 29))]) E d_Meaning_measureError_75 rfl (by decide) rfl ?_
  refine Sm_aload_n E d_Meaning_measureError_76 rfl 1 rfl ?_
  refine Sm_cVi (As := []) (b := (G.1 29)) (st := []) (n := 0) E exOk wC_as (fun _ h => cC_Meaning_valuesMatch u h) gk_Meaning_248 dk_Meaning_valuesMatch rfl ⟨rfl, rfl⟩ ⟨Nat.le_of_ble_eq_true rfl, Nat.le_of_ble_eq_true rfl⟩ (rvW (q0 := 29) (ci := 4) E rfl rfl rfl) rfl (Nat.le_of_ble_eq_true rfl) d_Meaning_measureError_77 fun r2 _ => ?_
  refine Sm_if_eq (tgt := 117) E d_Meaning_measureError_80 (by decide) (fun _ => ?_) (fun _ => ?_)
  · refine Sm_iconst (v := 0) E d_Meaning_measureError_117 (by decide) ?_
    refine Sm_istore_n (lv' := [(3, .int 0), (2, .int s0), (0, .ref (G.1 29))]) E d_Meaning_measureError_118 rfl (by decide) rfl ?_
    refine Sm_iload_n E d_Meaning_measureError_119 rfl 0 rfl ?_
    refine Sm_if_eq_t (tgt := 127) E d_Meaning_measureError_120 (by decide) (by decide) ?_
    refine Sm_iconst (v := 1) E d_Meaning_measureError_127 (by decide) ?_
    exact Sm_retI hR d_Meaning_measureError_128
  · refine Sm_aload_n E d_Meaning_measureError_83 rfl 1 rfl ?_
    refine Sm_cVi (As := []) (b := (G.1 29)) (st := []) (n := 0) E exOk wC_as (fun _ h => cC_Meaning_namesDiffer u h) gk_Meaning_252 dk_Meaning_namesDiffer rfl ⟨rfl, rfl⟩ ⟨Nat.le_of_ble_eq_true rfl, Nat.le_of_ble_eq_true rfl⟩ (rvW (q0 := 29) (ci := 4) E rfl rfl rfl) rfl (Nat.le_of_ble_eq_true rfl) d_Meaning_measureError_84 fun r3 _ => ?_
    refine Sm_if_eq (tgt := 117) E d_Meaning_measureError_87 (by decide) (fun _ => ?_) (fun _ => ?_)
    · refine Sm_iconst (v := 0) E d_Meaning_measureError_117 (by decide) ?_
      refine Sm_istore_n (lv' := [(3, .int 0), (2, .int s0), (0, .ref (G.1 29))]) E d_Meaning_measureError_118 rfl (by decide) rfl ?_
      refine Sm_iload_n E d_Meaning_measureError_119 rfl 0 rfl ?_
      refine Sm_if_eq_t (tgt := 127) E d_Meaning_measureError_120 (by decide) (by decide) ?_
      refine Sm_iconst (v := 1) E d_Meaning_measureError_127 (by decide) ?_
      exact Sm_retI hR d_Meaning_measureError_128
    · refine Sm_aload_n E d_Meaning_measureError_90 rfl 1 rfl ?_
      refine Sm_cVi (As := []) (b := (G.1 29)) (st := []) (n := 0) E exOk wC_as (fun _ h => cC_Meaning_ordersMatch u h) gk_Meaning_255 dk_Meaning_ordersMatch rfl ⟨rfl, rfl⟩ ⟨Nat.le_of_ble_eq_true rfl, Nat.le_of_ble_eq_true rfl⟩ (rvW (q0 := 29) (ci := 4) E rfl rfl rfl) rfl (Nat.le_of_ble_eq_true rfl) d_Meaning_measureError_91 fun r4 _ => ?_
      refine Sm_if_eq (tgt := 117) E d_Meaning_measureError_94 (by decide) (fun _ => ?_) (fun _ => ?_)
      · refine Sm_iconst (v := 0) E d_Meaning_measureError_117 (by decide) ?_
        refine Sm_istore_n (lv' := [(3, .int 0), (2, .int s0), (0, .ref (G.1 29))]) E d_Meaning_measureError_118 rfl (by decide) rfl ?_
        refine Sm_iload_n E d_Meaning_measureError_119 rfl 0 rfl ?_
        refine Sm_if_eq_t (tgt := 127) E d_Meaning_measureError_120 (by decide) (by decide) ?_
        refine Sm_iconst (v := 1) E d_Meaning_measureError_127 (by decide) ?_
        exact Sm_retI hR d_Meaning_measureError_128
      · refine Sm_iload_n E d_Meaning_measureError_97 rfl 0 rfl ?_
        refine Sm_if_ne (tgt := 113) E d_Meaning_measureError_98 (by decide) (fun _ => ?_) (fun _ => ?_)
        · refine Sm_iconst (v := 1) E d_Meaning_measureError_113 (by decide) ?_
          refine Sm_goto (tgt := 118) E d_Meaning_measureError_114 (by decide) ?_
          refine Sm_istore_n (lv' := [(3, .int 1), (2, .int s0), (0, .ref (G.1 29))]) E d_Meaning_measureError_118 rfl (by decide) rfl ?_
          refine Sm_iload_n E d_Meaning_measureError_119 rfl 0 rfl ?_
          refine Sm_if_eq_f (tgt := 127) E d_Meaning_measureError_120 (by decide) (by decide) ?_
          refine Sm_iconst (v := 0) E d_Meaning_measureError_123 (by decide) ?_
          refine Sm_goto (tgt := 128) E d_Meaning_measureError_124 (by decide) ?_
          exact Sm_retI hR d_Meaning_measureError_128
        · refine Sm_aload_n E d_Meaning_measureError_101 rfl 1 rfl ?_
          refine gfC_29_lists E fl_Meaning_28 d_Meaning_measureError_102 ?_
          refine Sm_bipush (v := 8) E d_Meaning_measureError_105 (by decide) ?_
          refine Sm_cVi (As := [.int 8]) (b := (G.1 24)) (st := []) (n := 1) E exOk wC_as (fun _ h => cC_Lists_size 8 u h) gk_Meaning_66 dk_Lists_size rfl ⟨rfl, rfl⟩ ⟨Nat.le_of_ble_eq_true rfl, Nat.le_of_ble_eq_true rfl⟩ (rvW (q0 := 24) (ci := 3) E rfl rfl rfl) rfl (Nat.le_of_ble_eq_true rfl) d_Meaning_measureError_107 fun r5 _ => ?_
          refine Sm_if_ne (tgt := 117) E d_Meaning_measureError_110 (by decide) (fun _ => ?_) (fun _ => ?_)
          · refine Sm_iconst (v := 0) E d_Meaning_measureError_117 (by decide) ?_
            refine Sm_istore_n (lv' := [(3, .int 0), (2, .int s0), (0, .ref (G.1 29))]) E d_Meaning_measureError_118 rfl (by decide) rfl ?_
            refine Sm_iload_n E d_Meaning_measureError_119 rfl 0 rfl ?_
            refine Sm_if_eq_t (tgt := 127) E d_Meaning_measureError_120 (by decide) (by decide) ?_
            refine Sm_iconst (v := 1) E d_Meaning_measureError_127 (by decide) ?_
            exact Sm_retI hR d_Meaning_measureError_128
          · refine Sm_iconst (v := 1) E d_Meaning_measureError_113 (by decide) ?_
            refine Sm_goto (tgt := 118) E d_Meaning_measureError_114 (by decide) ?_
            refine Sm_istore_n (lv' := [(3, .int 1), (2, .int s0), (0, .ref (G.1 29))]) E d_Meaning_measureError_118 rfl (by decide) rfl ?_
            refine Sm_iload_n E d_Meaning_measureError_119 rfl 0 rfl ?_
            refine Sm_if_eq_f (tgt := 127) E d_Meaning_measureError_120 (by decide) (by decide) ?_
            refine Sm_iconst (v := 0) E d_Meaning_measureError_123 (by decide) ?_
            refine Sm_goto (tgt := 128) E d_Meaning_measureError_124 (by decide) ?_
            exact Sm_retI hR d_Meaning_measureError_128
set_option maxRecDepth 100000 in
set_option maxHeartbeats 4000000 in
theorem tC_Meaning_measureError_J58 {X : Cx} {G : Gx} {res : Int32 × St} (E : EC X G prog_4_method_25_code R_Meaning 4 { frames := 4, cells := 0, slots := 0, locals := 89 }) (hR : RtI X vwCl (wC G) prog_4_method_25_code res) : ∀ (u : St), SC X G 4 res (mC_Meaning_measureError_J58 u) u 58 [(0, .ref (G.1 29))] [] := by
  intro u
  rw [mC_Meaning_measureError_J58]
  refine Sm_aload_n E d_Meaning_measureError_58 rfl 0 rfl ?_
  refine gfC_29_statement E fl_Meaning_32 d_Meaning_measureError_59 ?_
  refine gfC_27_kind E fl_Meaning_245 d_Meaning_measureError_62 ?_
  refine Sm_bipush (v := 16) E d_Meaning_measureError_65 (by decide) ?_
  refine Sm_icmp_ne (tgt := 74) E d_Meaning_measureError_67 (by decide) (fun _ => ?_) (fun _ => ?_)
  · refine Sm_iconst (v := 0) E d_Meaning_measureError_74 (by decide) ?_
    exact Sm_sub [0] rfl (tC_Meaning_measureError_J75 E hR _ _)
  · refine Sm_iconst (v := 1) E d_Meaning_measureError_70 (by decide) ?_
    refine Sm_goto (tgt := 75) E d_Meaning_measureError_71 (by decide) ?_
    exact Sm_sub [0] rfl (tC_Meaning_measureError_J75 E hR _ _)
set_option maxRecDepth 100000 in
set_option maxHeartbeats 4000000 in
theorem tC_Meaning_measureError_J18 {X : Cx} {G : Gx} {res : Int32 × St} (E : EC X G prog_4_method_25_code R_Meaning 4 { frames := 4, cells := 0, slots := 0, locals := 89 }) (hR : RtI X vwCl (wC G) prog_4_method_25_code res) : ∀ (s0 : Int32) (u : St), SC X G 4 res (mC_Meaning_measureError_J18 s0 u) u 18 [(0, .ref (G.1 29))] [.int s0] := by
  intro s0 u
  rw [mC_Meaning_measureError_J18]
  refine Sm_istore_n (lv' := [(1, .int s0), (0, .ref (G.1 29))]) E d_Meaning_measureError_18 rfl (by decide) rfl ?_
  refine Sm_iload_n E d_Meaning_measureError_19 rfl 0 rfl ?_
  refine Sm_bipush (v := 8) E d_Meaning_measureError_20 (by decide) ?_
  refine Sm_icmp_le (tgt := 27) E d_Meaning_measureError_22 (by decide) (fun _ => ?_) (fun _ => ?_)
  · refine Sm_aload_n E d_Meaning_measureError_27 rfl 1 rfl ?_
    refine gfC_29_nodes E fl_Meaning_24 d_Meaning_measureError_28 ?_
    refine Sm_cVi (As := []) (b := (G.1 14)) (st := []) (n := 0) E exOk wC_as (fun _ h => cC_Nodes_size u h) gk_Meaning_121 dk_Nodes_size rfl ⟨rfl, rfl⟩ ⟨Nat.le_of_ble_eq_true rfl, Nat.le_of_ble_eq_true rfl⟩ (rvW (q0 := 14) (ci := 5) E rfl rfl rfl) rfl (Nat.le_of_ble_eq_true rfl) d_Meaning_measureError_31 fun r1 _ => ?_
    refine Sm_iload_n E d_Meaning_measureError_34 rfl 0 rfl ?_
    refine Sm_iadd E d_Meaning_measureError_35 ?_
    refine Sm_sipush (v := 200) E d_Meaning_measureError_36 (by decide) ?_
    refine Sm_icmp_le (tgt := 44) E d_Meaning_measureError_39 (by decide) (fun _ => ?_) (fun _ => ?_)
    · refine Sm_aload_n E d_Meaning_measureError_44 rfl 1 rfl ?_
      refine gfC_29_statement E fl_Meaning_32 d_Meaning_measureError_45 ?_
      refine gfC_27_star E fl_Meaning_111 d_Meaning_measureError_48 ?_
      refine Sm_if_eq (tgt := 58) E d_Meaning_measureError_51 (by decide) (fun _ => ?_) (fun _ => ?_)
      · exact Sm_sub [1] rfl (tC_Meaning_measureError_J58 E hR _)
      · refine Sm_aload_n E d_Meaning_measureError_54 rfl 1 rfl ?_
        refine Sm_cVV (As := []) (b := (G.1 29)) (st := []) (n := 0) E exOk wC_as (fun _ h => cC_Meaning_spreadStar u h) gk_Meaning_242 dk_Meaning_spreadStar rfl ⟨rfl, rfl⟩ ⟨Nat.le_of_ble_eq_true rfl, Nat.le_of_ble_eq_true rfl⟩ (rvW (q0 := 29) (ci := 4) E rfl rfl rfl) rfl (Nat.le_of_ble_eq_true rfl) d_Meaning_measureError_55 fun u6 _ => ?_
        exact Sm_sub [1] rfl (tC_Meaning_measureError_J58 E hR _)
    · refine Sm_iconst (v := 2) E d_Meaning_measureError_42 (by decide) ?_
      exact Sm_retI hR d_Meaning_measureError_43
  · refine Sm_iconst (v := 3) E d_Meaning_measureError_25 (by decide) ?_
    exact Sm_retI hR d_Meaning_measureError_26
set_option maxRecDepth 100000 in
set_option maxHeartbeats 4000000 in
theorem cC_Meaning_measureError {l : Launch} {D : va_G} {G : Gx} (u : St) {res : Int32 × St} (hm : mC_Meaning_measureError u = some res) : KC l D G y_Meaning_measureError (.code y_Meaning_measureError prog_4_method_25_code 4 (some .int)) { frames := 4, cells := 0, slots := 0, locals := 89 } [.ref (G.1 29)] u (qI D vwCl (wC G) (tyW G) (adsC G) res) := by
  refine Ct_I (by decide) wC_as (Nat.le_of_ble_eq_true rfl) hm (fun X _ _ E hR => ?_)
  refine Sm_lvs (lv' := [(0, .ref (G.1 29))]) rfl ?_
  rw [mC_Meaning_measureError]
  refine Sm_aload_n E d_Meaning_measureError_0 rfl 0 rfl ?_
  refine gfC_29_statement E fl_Meaning_32 d_Meaning_measureError_1 ?_
  refine gfC_27_star E fl_Meaning_111 d_Meaning_measureError_4 ?_
  refine Sm_if_eq (tgt := 17) E d_Meaning_measureError_7 (by decide) (fun _ => ?_) (fun _ => ?_)
  · refine Sm_iconst (v := 0) E d_Meaning_measureError_17 (by decide) ?_
    exact Sm_sub [0] rfl (tC_Meaning_measureError_J18 E hR _ _)
  · refine Sm_aload_n E d_Meaning_measureError_10 rfl 0 rfl ?_
    refine Sm_cVi (As := []) (b := (G.1 29)) (st := []) (n := 0) E exOk wC_as (fun _ h => cC_Meaning_columnsOfStar u h) gk_Meaning_239 dk_Meaning_columnsOfStar rfl ⟨rfl, rfl⟩ ⟨Nat.le_of_ble_eq_true rfl, Nat.le_of_ble_eq_true rfl⟩ (rvW (q0 := 29) (ci := 4) E rfl rfl rfl) rfl (Nat.le_of_ble_eq_true rfl) d_Meaning_measureError_11 fun r7 _ => ?_
    refine Sm_goto (tgt := 18) E d_Meaning_measureError_14 (by decide) ?_
    exact Sm_sub [0] rfl (tC_Meaning_measureError_J18 E hR _ _)
set_option maxRecDepth 100000 in
set_option maxHeartbeats 4000000 in
theorem cC_Nodes_aggregates {l : Launch} {D : va_G} {G : Gx} (x0 : Int32) (u : St) {res : Int32} (hm : mC_Nodes_aggregates x0 u = some res) : KC l D G y_Nodes_aggregates (.code y_Nodes_aggregates prog_5_method_3_code 1 (some .boolean)) { frames := 0, cells := 0, slots := 0, locals := 0 } [.int x0] u (qI D vwCl (wC G) (tyW G) (adsC G) (res, u)) := by
  refine Ct_z (by decide) wC_as (Nat.le_of_ble_eq_true rfl) hm (fun X _ _ E hR => ?_)
  refine Sm_lvs (lv' := [(0, .int x0)]) rfl ?_
  rw [mC_Nodes_aggregates]
  refine Sm_iload_n E d_Nodes_aggregates_0 rfl 0 rfl ?_
  refine Sm_iconst (v := 5) E d_Nodes_aggregates_1 (by decide) ?_
  refine Sm_icmp_lt (tgt := 15) E d_Nodes_aggregates_2 (by decide) (fun _ => ?_) (fun _ => ?_)
  · refine Sm_iconst (v := 0) E d_Nodes_aggregates_15 (by decide) ?_
    exact Sm_retz hR (by decide) d_Nodes_aggregates_16
  · refine Sm_iload_n E d_Nodes_aggregates_5 rfl 0 rfl ?_
    refine Sm_bipush (v := 9) E d_Nodes_aggregates_6 (by decide) ?_
    refine Sm_icmp_gt (tgt := 15) E d_Nodes_aggregates_8 (by decide) (fun _ => ?_) (fun _ => ?_)
    · refine Sm_iconst (v := 0) E d_Nodes_aggregates_15 (by decide) ?_
      exact Sm_retz hR (by decide) d_Nodes_aggregates_16
    · refine Sm_iconst (v := 1) E d_Nodes_aggregates_11 (by decide) ?_
      refine Sm_goto (tgt := 16) E d_Nodes_aggregates_12 (by decide) ?_
      exact Sm_retz hR (by decide) d_Nodes_aggregates_16
set_option maxRecDepth 100000 in
set_option maxHeartbeats 4000000 in
theorem tC_Meaning_isAggregated_L11 {X : Cx} {G : Gx} {res : Int32} {u : St} (E : EC X G prog_4_method_32_code R_Meaning 4 { frames := 1, cells := 0, slots := 0, locals := 21 }) (hR : RtZ X vwCl (wC G) prog_4_method_32_code .boolean (res, u)) : ∀ (n : Nat) (x2 : Int32) (x3 : Int32) , SC X G 4 res (mC_Meaning_isAggregated_L11 n x2 x3 u) u 11 [(0, .ref (G.1 29)), (2, .int x2), (3, .int x3)] [] := by
  intro n
  induction n with
  | zero => intro x2 x3; exact Sm_none
  | succ n h11 =>
    intro x2 x3
    rw [mC_Meaning_isAggregated_L11]
    refine Sm_iload_n E d_Meaning_isAggregated_11 rfl 2 rfl ?_
    refine Sm_sipush (v := 200) E d_Meaning_isAggregated_12 (by decide) ?_
    refine Sm_icmp_ge (tgt := 53) E d_Meaning_isAggregated_15 (by decide) (fun _ => ?_) (fun _ => ?_)
    · refine Sm_iconst (v := 0) E d_Meaning_isAggregated_53 (by decide) ?_
      exact Sm_retz hR (by decide) d_Meaning_isAggregated_54
    · refine Sm_iload_n E d_Meaning_isAggregated_18 rfl 1 rfl ?_
      refine Sm_if_lt (tgt := 53) E d_Meaning_isAggregated_19 (by decide) (fun _ => ?_) (fun _ => ?_)
      · refine Sm_iconst (v := 0) E d_Meaning_isAggregated_53 (by decide) ?_
        exact Sm_retz hR (by decide) d_Meaning_isAggregated_54
      · refine Sm_aload_n E d_Meaning_isAggregated_22 rfl 0 rfl ?_
        refine gfC_29_nodes E fl_Meaning_24 d_Meaning_isAggregated_23 ?_
        refine Sm_iload_n E d_Meaning_isAggregated_26 rfl 1 rfl ?_
        refine Sm_cVi (As := [.int x2]) (b := (G.1 14)) (st := []) (n := 1) E exOk wC_as (fun _ h => cC_Nodes_kindOf x2 u h) gk_Meaning_128 dk_Nodes_kindOf rfl ⟨rfl, rfl⟩ ⟨Nat.le_of_ble_eq_true rfl, Nat.le_of_ble_eq_true rfl⟩ (rvW (q0 := 14) (ci := 5) E rfl rfl rfl) rfl (Nat.le_of_ble_eq_true rfl) d_Meaning_isAggregated_27 fun r2 _ => ?_
        refine Sm_cSi (As := [.int r2]) (st := []) (n := 1) E exOk wC_as (fun _ h => cC_Nodes_aggregates r2 u h) gk_Meaning_262 dk_Nodes_aggregates rfl ⟨rfl, rfl⟩ ⟨Nat.le_of_ble_eq_true rfl, Nat.le_of_ble_eq_true rfl⟩ rfl (Nat.le_of_ble_eq_true rfl) d_Meaning_isAggregated_30 fun r3 _ => ?_
        refine Sm_if_eq (tgt := 38) E d_Meaning_isAggregated_33 (by decide) (fun _ => ?_) (fun _ => ?_)
        · refine Sm_aload_n E d_Meaning_isAggregated_38 rfl 0 rfl ?_
          refine gfC_29_nodes E fl_Meaning_24 d_Meaning_isAggregated_39 ?_
          refine Sm_iload_n E d_Meaning_isAggregated_42 rfl 1 rfl ?_
          refine Sm_cVi (As := [.int x2]) (b := (G.1 14)) (st := []) (n := 1) E exOk wC_as (fun _ h => cC_Nodes_parentOf x2 u h) gk_Meaning_228 dk_Nodes_parentOf rfl ⟨rfl, rfl⟩ ⟨Nat.le_of_ble_eq_true rfl, Nat.le_of_ble_eq_true rfl⟩ (rvW (q0 := 14) (ci := 5) E rfl rfl rfl) rfl (Nat.le_of_ble_eq_true rfl) d_Meaning_isAggregated_43 fun r4 _ => ?_
          refine Sm_istore_n (lv' := [(2, .int r4), (0, .ref (G.1 29)), (3, .int x3)]) E d_Meaning_isAggregated_46 rfl (by decide) rfl ?_
          refine Sm_iinc (k := 2) (d := 1) E d_Meaning_isAggregated_47 rfl rfl (by decide) fun y5 _ => Sm_lvs (lv' := [(3, .int y5), (2, .int r4), (0, .ref (G.1 29))]) rfl ?_
          refine Sm_goto (tgt := 11) E d_Meaning_isAggregated_50 (by decide) ?_
          exact Sm_sub [2, 1, 0] rfl (h11 _ _)
        · refine Sm_iconst (v := 1) E d_Meaning_isAggregated_36 (by decide) ?_
          exact Sm_retz hR (by decide) d_Meaning_isAggregated_37
set_option maxRecDepth 100000 in
set_option maxHeartbeats 4000000 in
theorem cC_Meaning_isAggregated {l : Launch} {D : va_G} {G : Gx} (x1 : Int32) (u : St) {res : Int32} (hm : mC_Meaning_isAggregated x1 u = some res) : KC l D G y_Meaning_isAggregated (.code y_Meaning_isAggregated prog_4_method_32_code 4 (some .boolean)) { frames := 1, cells := 0, slots := 0, locals := 21 } [.ref (G.1 29), .int x1] u (qI D vwCl (wC G) (tyW G) (adsC G) (res, u)) := by
  refine Ct_z (by decide) wC_as (Nat.le_of_ble_eq_true rfl) hm (fun X _ _ E hR => ?_)
  refine Sm_lvs (lv' := [(0, .ref (G.1 29)), (1, .int x1)]) rfl ?_
  rw [mC_Meaning_isAggregated]
  refine Sm_aload_n E d_Meaning_isAggregated_0 rfl 0 rfl ?_
  refine gfC_29_nodes E fl_Meaning_24 d_Meaning_isAggregated_1 ?_
  refine Sm_iload_n E d_Meaning_isAggregated_4 rfl 1 rfl ?_
  refine Sm_cVi (As := [.int x1]) (b := (G.1 14)) (st := []) (n := 1) E exOk wC_as (fun _ h => cC_Nodes_parentOf x1 u h) gk_Meaning_228 dk_Nodes_parentOf rfl ⟨rfl, rfl⟩ ⟨Nat.le_of_ble_eq_true rfl, Nat.le_of_ble_eq_true rfl⟩ (rvW (q0 := 14) (ci := 5) E rfl rfl rfl) rfl (Nat.le_of_ble_eq_true rfl) d_Meaning_isAggregated_5 fun r1 _ => ?_
  refine Sm_istore_n (lv' := [(2, .int r1), (0, .ref (G.1 29)), (1, .int x1)]) E d_Meaning_isAggregated_8 rfl (by decide) rfl ?_
  refine Sm_iconst (v := 0) E d_Meaning_isAggregated_9 (by decide) ?_
  refine Sm_istore_n (lv' := [(3, .int 0), (2, .int r1), (0, .ref (G.1 29)), (1, .int x1)]) E d_Meaning_isAggregated_10 rfl (by decide) rfl ?_
  exact Sm_sub [2, 1, 0] rfl (tC_Meaning_isAggregated_L11 E hR FU _ _)
set_option maxRecDepth 100000 in
set_option maxHeartbeats 4000000 in
theorem tC_Meaning_isGrouped_J48 {X : Cx} {G : Gx} {res : Int32} {u : St} (E : EC X G prog_4_method_34_code R_Meaning 5 { frames := 1, cells := 0, slots := 0, locals := 23 }) (hR : RtZ X vwCl (wC G) prog_4_method_34_code .boolean (res, u)) {q2 : Int32 → Int32 → St → Option (Int32)} (h2 : ∀ (x1 : Int32) (x2 : Int32) , SC X G 5 res (q2 x1 x2 u) u 2 [(0, .ref (G.1 29)), (1, .int x1), (2, .int x2)] []) : ∀ (x1 : Int32) (x2 : Int32) (x3 : Int32) (s0 : Int32) , SC X G 5 res (mC_Meaning_isGrouped_J48 q2 x1 x2 x3 s0 u) u 48 [(0, .ref (G.1 29)), (1, .int x1), (2, .int x2), (3, .int x3)] [.int s0] := by
  intro x1 x2 x3 s0
  rw [mC_Meaning_isGrouped_J48]
  refine Sm_istore (lv' := [(4, .int s0), (0, .ref (G.1 29)), (1, .int x1), (2, .int x2), (3, .int x3)]) E d_Meaning_isGrouped_48 (by decide) rfl ?_
  refine Sm_iload E d_Meaning_isGrouped_50 0 rfl ?_
  refine Sm_if_eq (tgt := 76) E d_Meaning_isGrouped_52 (by decide) (fun _ => ?_) (fun _ => ?_)
  · refine Sm_iinc (k := 3) (d := 1) E d_Meaning_isGrouped_76 rfl rfl (by decide) fun y5 _ => Sm_lvs (lv' := [(2, .int y5), (4, .int s0), (0, .ref (G.1 29)), (1, .int x1), (3, .int x3)]) rfl ?_
    refine Sm_goto (tgt := 2) E d_Meaning_isGrouped_79 (by decide) ?_
    exact Sm_sub [2, 3, 0] rfl (h2 _ _)
  · refine Sm_aload_n E d_Meaning_isGrouped_55 rfl 1 rfl ?_
    refine gfC_29_nodes E fl_Meaning_24 d_Meaning_isGrouped_56 ?_
    refine Sm_iload_n E d_Meaning_isGrouped_59 rfl 4 rfl ?_
    refine Sm_cVi (As := [.int x3]) (b := (G.1 14)) (st := []) (n := 1) E exOk wC_as (fun _ h => cC_Nodes_secondOf x3 u h) gk_Meaning_203 dk_Nodes_secondOf rfl ⟨rfl, rfl⟩ ⟨Nat.le_of_ble_eq_true rfl, Nat.le_of_ble_eq_true rfl⟩ (rvW (q0 := 14) (ci := 5) E rfl rfl rfl) rfl (Nat.le_of_ble_eq_true rfl) d_Meaning_isGrouped_60 fun r6 _ => ?_
    refine Sm_aload_n E d_Meaning_isGrouped_63 rfl 1 rfl ?_
    refine gfC_29_nodes E fl_Meaning_24 d_Meaning_isGrouped_64 ?_
    refine Sm_iload_n E d_Meaning_isGrouped_67 rfl 2 rfl ?_
    refine Sm_cVi (As := [.int x1]) (b := (G.1 14)) (st := [.int r6]) (n := 1) E exOk wC_as (fun _ h => cC_Nodes_secondOf x1 u h) gk_Meaning_203 dk_Nodes_secondOf rfl ⟨rfl, rfl⟩ ⟨Nat.le_of_ble_eq_true rfl, Nat.le_of_ble_eq_true rfl⟩ (rvW (q0 := 14) (ci := 5) E rfl rfl rfl) rfl (Nat.le_of_ble_eq_true rfl) d_Meaning_isGrouped_68 fun r7 _ => ?_
    refine Sm_icmp_ne (tgt := 76) E d_Meaning_isGrouped_71 (by decide) (fun _ => ?_) (fun _ => ?_)
    · refine Sm_iinc (k := 3) (d := 1) E d_Meaning_isGrouped_76 rfl rfl (by decide) fun y8 _ => Sm_lvs (lv' := [(2, .int y8), (4, .int s0), (0, .ref (G.1 29)), (1, .int x1), (3, .int x3)]) rfl ?_
      refine Sm_goto (tgt := 2) E d_Meaning_isGrouped_79 (by decide) ?_
      exact Sm_sub [2, 3, 0] rfl (h2 _ _)
    · refine Sm_iconst (v := 1) E d_Meaning_isGrouped_74 (by decide) ?_
      exact Sm_retz hR (by decide) d_Meaning_isGrouped_75
set_option maxRecDepth 100000 in
set_option maxHeartbeats 4000000 in
theorem tC_Meaning_isGrouped_L2 {X : Cx} {G : Gx} {res : Int32} {u : St} (E : EC X G prog_4_method_34_code R_Meaning 5 { frames := 1, cells := 0, slots := 0, locals := 23 }) (hR : RtZ X vwCl (wC G) prog_4_method_34_code .boolean (res, u)) : ∀ (n : Nat) (x1 : Int32) (x2 : Int32) , SC X G 5 res (mC_Meaning_isGrouped_L2 n x1 x2 u) u 2 [(0, .ref (G.1 29)), (1, .int x1), (2, .int x2)] [] := by
  intro n
  induction n with
  | zero => intro x1 x2; exact Sm_none
  | succ n h2 =>
    intro x1 x2
    rw [mC_Meaning_isGrouped_L2]
    refine Sm_iload_n E d_Meaning_isGrouped_2 rfl 2 rfl ?_
    refine Sm_aload_n E d_Meaning_isGrouped_3 rfl 0 rfl ?_
    refine gfC_29_lists E fl_Meaning_28 d_Meaning_isGrouped_4 ?_
    refine Sm_iconst (v := 1) E d_Meaning_isGrouped_7 (by decide) ?_
    refine Sm_cVi (As := [.int 1]) (b := (G.1 24)) (st := [.int x2]) (n := 1) E exOk wC_as (fun _ h => cC_Lists_size 1 u h) gk_Meaning_66 dk_Lists_size rfl ⟨rfl, rfl⟩ ⟨Nat.le_of_ble_eq_true rfl, Nat.le_of_ble_eq_true rfl⟩ (rvW (q0 := 24) (ci := 3) E rfl rfl rfl) rfl (Nat.le_of_ble_eq_true rfl) d_Meaning_isGrouped_8 fun r1 _ => ?_
    refine Sm_icmp_ge (tgt := 82) E d_Meaning_isGrouped_11 (by decide) (fun _ => ?_) (fun _ => ?_)
    · refine Sm_iconst (v := 0) E d_Meaning_isGrouped_82 (by decide) ?_
      exact Sm_retz hR (by decide) d_Meaning_isGrouped_83
    · refine Sm_aload_n E d_Meaning_isGrouped_14 rfl 0 rfl ?_
      refine gfC_29_lists E fl_Meaning_28 d_Meaning_isGrouped_15 ?_
      refine Sm_iconst (v := 1) E d_Meaning_isGrouped_18 (by decide) ?_
      refine Sm_iload_n E d_Meaning_isGrouped_19 rfl 2 rfl ?_
      refine Sm_cVi (As := [.int 1, .int x2]) (b := (G.1 24)) (st := []) (n := 2) E exOk wC_as (fun _ h => cC_Lists_at 1 x2 u h) gk_Meaning_70 dk_Lists_at rfl ⟨rfl, rfl⟩ ⟨Nat.le_of_ble_eq_true rfl, Nat.le_of_ble_eq_true rfl⟩ (rvW (q0 := 24) (ci := 3) E rfl rfl rfl) rfl (Nat.le_of_ble_eq_true rfl) d_Meaning_isGrouped_20 fun r2 _ => ?_
      refine Sm_istore_n (lv' := [(3, .int r2), (0, .ref (G.1 29)), (1, .int x1), (2, .int x2)]) E d_Meaning_isGrouped_23 rfl (by decide) rfl ?_
      refine Sm_aload_n E d_Meaning_isGrouped_24 rfl 1 rfl ?_
      refine gfC_29_nodes E fl_Meaning_24 d_Meaning_isGrouped_25 ?_
      refine Sm_iload_n E d_Meaning_isGrouped_28 rfl 0 rfl ?_
      refine Sm_cVi (As := [.int r2]) (b := (G.1 14)) (st := []) (n := 1) E exOk wC_as (fun _ h => cC_Nodes_firstOf r2 u h) gk_Meaning_198 dk_Nodes_firstOf rfl ⟨rfl, rfl⟩ ⟨Nat.le_of_ble_eq_true rfl, Nat.le_of_ble_eq_true rfl⟩ (rvW (q0 := 14) (ci := 5) E rfl rfl rfl) rfl (Nat.le_of_ble_eq_true rfl) d_Meaning_isGrouped_29 fun r3 _ => ?_
      refine Sm_aload_n E d_Meaning_isGrouped_32 rfl 1 rfl ?_
      refine gfC_29_nodes E fl_Meaning_24 d_Meaning_isGrouped_33 ?_
      refine Sm_iload_n E d_Meaning_isGrouped_36 rfl 2 rfl ?_
      refine Sm_cVi (As := [.int x1]) (b := (G.1 14)) (st := [.int r3]) (n := 1) E exOk wC_as (fun _ h => cC_Nodes_firstOf x1 u h) gk_Meaning_198 dk_Nodes_firstOf rfl ⟨rfl, rfl⟩ ⟨Nat.le_of_ble_eq_true rfl, Nat.le_of_ble_eq_true rfl⟩ (rvW (q0 := 14) (ci := 5) E rfl rfl rfl) rfl (Nat.le_of_ble_eq_true rfl) d_Meaning_isGrouped_37 fun r4 _ => ?_
      refine Sm_icmp_ne (tgt := 47) E d_Meaning_isGrouped_40 (by decide) (fun _ => ?_) (fun _ => ?_)
      · refine Sm_iconst (v := 0) E d_Meaning_isGrouped_47 (by decide) ?_
        exact Sm_sub [1, 2, 3, 0] rfl (tC_Meaning_isGrouped_J48 E hR h2 _ _ _ _)
      · refine Sm_iconst (v := 1) E d_Meaning_isGrouped_43 (by decide) ?_
        refine Sm_goto (tgt := 48) E d_Meaning_isGrouped_44 (by decide) ?_
        exact Sm_sub [1, 2, 3, 0] rfl (tC_Meaning_isGrouped_J48 E hR h2 _ _ _ _)
set_option maxRecDepth 100000 in
set_option maxHeartbeats 4000000 in
theorem cC_Meaning_isGrouped {l : Launch} {D : va_G} {G : Gx} (x1 : Int32) (u : St) {res : Int32} (hm : mC_Meaning_isGrouped x1 u = some res) : KC l D G y_Meaning_isGrouped (.code y_Meaning_isGrouped prog_4_method_34_code 5 (some .boolean)) { frames := 1, cells := 0, slots := 0, locals := 23 } [.ref (G.1 29), .int x1] u (qI D vwCl (wC G) (tyW G) (adsC G) (res, u)) := by
  refine Ct_z (by decide) wC_as (Nat.le_of_ble_eq_true rfl) hm (fun X _ _ E hR => ?_)
  refine Sm_lvs (lv' := [(0, .ref (G.1 29)), (1, .int x1)]) rfl ?_
  rw [mC_Meaning_isGrouped]
  refine Sm_iconst (v := 0) E d_Meaning_isGrouped_0 (by decide) ?_
  refine Sm_istore_n (lv' := [(2, .int 0), (0, .ref (G.1 29)), (1, .int x1)]) E d_Meaning_isGrouped_1 rfl (by decide) rfl ?_
  exact Sm_sub [1, 2, 0] rfl (tC_Meaning_isGrouped_L2 E hR FU _ _)
set_option maxRecDepth 100000 in
set_option maxHeartbeats 4000000 in
theorem tC_Meaning_itemsAreGrouped_J85 {X : Cx} {G : Gx} {res : Int32} {u : St} (E : EC X G prog_4_method_33_code R_Meaning 6 { frames := 2, cells := 0, slots := 0, locals := 67 }) (hR : RtZ X vwCl (wC G) prog_4_method_33_code .boolean (res, u)) {q52 : Int32 → Int32 → St → Option (Int32)} (h52 : ∀ (x3 : Int32) (x4 : Int32) , SC X G 6 res (q52 x3 x4 u) u 52 [(0, .ref (G.1 29)), (3, .int x3), (4, .int x4)] []) : ∀ (x3 : Int32) (x4 : Int32) (s0 : Int32) , SC X G 6 res (mC_Meaning_itemsAreGrouped_J85 q52 x3 x4 s0 u) u 85 [(0, .ref (G.1 29)), (3, .int x3), (4, .int x4)] [.int s0] := by
  intro x3 x4 s0
  rw [mC_Meaning_itemsAreGrouped_J85]
  refine Sm_istore (lv' := [(5, .int s0), (0, .ref (G.1 29)), (3, .int x3), (4, .int x4)]) E d_Meaning_itemsAreGrouped_85 (by decide) rfl ?_
  refine Sm_iload E d_Meaning_itemsAreGrouped_87 0 rfl ?_
  refine Sm_if_eq (tgt := 103) E d_Meaning_itemsAreGrouped_89 (by decide) (fun _ => ?_) (fun _ => ?_)
  · refine Sm_iinc (k := 3) (d := 1) E d_Meaning_itemsAreGrouped_103 rfl rfl (by decide) fun y5 _ => Sm_lvs (lv' := [(4, .int y5), (5, .int s0), (0, .ref (G.1 29)), (3, .int x3)]) rfl ?_
    refine Sm_goto (tgt := 52) E d_Meaning_itemsAreGrouped_106 (by decide) ?_
    exact Sm_sub [2, 3, 0] rfl (h52 _ _)
  · refine Sm_aload_n E d_Meaning_itemsAreGrouped_92 rfl 1 rfl ?_
    refine Sm_iload E d_Meaning_itemsAreGrouped_93 3 rfl ?_
    refine Sm_cVi (As := [.int x4]) (b := (G.1 29)) (st := []) (n := 1) E exOk wC_as (fun _ h => cC_Meaning_isGrouped x4 u h) gk_Meaning_277 dk_Meaning_isGrouped rfl ⟨rfl, rfl⟩ ⟨Nat.le_of_ble_eq_true rfl, Nat.le_of_ble_eq_true rfl⟩ (rvW (q0 := 29) (ci := 4) E rfl rfl rfl) rfl (Nat.le_of_ble_eq_true rfl) d_Meaning_itemsAreGrouped_95 fun r6 _ => ?_
    refine Sm_if_ne (tgt := 103) E d_Meaning_itemsAreGrouped_98 (by decide) (fun _ => ?_) (fun _ => ?_)
    · refine Sm_iinc (k := 3) (d := 1) E d_Meaning_itemsAreGrouped_103 rfl rfl (by decide) fun y7 _ => Sm_lvs (lv' := [(4, .int y7), (5, .int s0), (0, .ref (G.1 29)), (3, .int x3)]) rfl ?_
      refine Sm_goto (tgt := 52) E d_Meaning_itemsAreGrouped_106 (by decide) ?_
      exact Sm_sub [2, 3, 0] rfl (h52 _ _)
    · refine Sm_iconst (v := 0) E d_Meaning_itemsAreGrouped_101 (by decide) ?_
      exact Sm_retz hR (by decide) d_Meaning_itemsAreGrouped_102
set_option maxRecDepth 100000 in
set_option maxHeartbeats 4000000 in
theorem tC_Meaning_itemsAreGrouped_L52 {X : Cx} {G : Gx} {res : Int32} {u : St} (E : EC X G prog_4_method_33_code R_Meaning 6 { frames := 2, cells := 0, slots := 0, locals := 67 }) (hR : RtZ X vwCl (wC G) prog_4_method_33_code .boolean (res, u)) : ∀ (n : Nat) (x3 : Int32) (x4 : Int32) , SC X G 6 res (mC_Meaning_itemsAreGrouped_L52 n x3 x4 u) u 52 [(0, .ref (G.1 29)), (3, .int x3), (4, .int x4)] [] := by
  intro n
  induction n with
  | zero => intro x3 x4; exact Sm_none
  | succ n h52 =>
    intro x3 x4
    rw [mC_Meaning_itemsAreGrouped_L52]
    refine Sm_iload E d_Meaning_itemsAreGrouped_52 2 rfl ?_
    refine Sm_iload_n E d_Meaning_itemsAreGrouped_54 rfl 1 rfl ?_
    refine Sm_icmp_gt (tgt := 109) E d_Meaning_itemsAreGrouped_55 (by decide) (fun _ => ?_) (fun _ => ?_)
    · refine Sm_iconst (v := 1) E d_Meaning_itemsAreGrouped_109 (by decide) ?_
      exact Sm_retz hR (by decide) d_Meaning_itemsAreGrouped_110
    · refine Sm_aload_n E d_Meaning_itemsAreGrouped_58 rfl 0 rfl ?_
      refine gfC_29_nodes E fl_Meaning_24 d_Meaning_itemsAreGrouped_59 ?_
      refine Sm_iload E d_Meaning_itemsAreGrouped_62 2 rfl ?_
      refine Sm_cVi (As := [.int x4]) (b := (G.1 14)) (st := []) (n := 1) E exOk wC_as (fun _ h => cC_Nodes_kindOf x4 u h) gk_Meaning_128 dk_Nodes_kindOf rfl ⟨rfl, rfl⟩ ⟨Nat.le_of_ble_eq_true rfl, Nat.le_of_ble_eq_true rfl⟩ (rvW (q0 := 14) (ci := 5) E rfl rfl rfl) rfl (Nat.le_of_ble_eq_true rfl) d_Meaning_itemsAreGrouped_64 fun r4 _ => ?_
      refine Sm_iconst (v := 4) E d_Meaning_itemsAreGrouped_67 (by decide) ?_
      refine Sm_icmp_ne (tgt := 84) E d_Meaning_itemsAreGrouped_68 (by decide) (fun _ => ?_) (fun _ => ?_)
      · refine Sm_iconst (v := 0) E d_Meaning_itemsAreGrouped_84 (by decide) ?_
        exact Sm_sub [0, 1, 2] rfl (tC_Meaning_itemsAreGrouped_J85 E hR h52 _ _ _)
      · refine Sm_aload_n E d_Meaning_itemsAreGrouped_71 rfl 0 rfl ?_
        refine Sm_iload E d_Meaning_itemsAreGrouped_72 2 rfl ?_
        refine Sm_cVi (As := [.int x4]) (b := (G.1 29)) (st := []) (n := 1) E exOk wC_as (fun _ h => cC_Meaning_isAggregated x4 u h) gk_Meaning_265 dk_Meaning_isAggregated rfl ⟨rfl, rfl⟩ ⟨Nat.le_of_ble_eq_true rfl, Nat.le_of_ble_eq_true rfl⟩ (rvW (q0 := 29) (ci := 4) E rfl rfl rfl) rfl (Nat.le_of_ble_eq_true rfl) d_Meaning_itemsAreGrouped_74 fun r8 _ => ?_
        refine Sm_if_ne (tgt := 84) E d_Meaning_itemsAreGrouped_77 (by decide) (fun _ => ?_) (fun _ => ?_)
        · refine Sm_iconst (v := 0) E d_Meaning_itemsAreGrouped_84 (by decide) ?_
          exact Sm_sub [0, 1, 2] rfl (tC_Meaning_itemsAreGrouped_J85 E hR h52 _ _ _)
        · refine Sm_iconst (v := 1) E d_Meaning_itemsAreGrouped_80 (by decide) ?_
          refine Sm_goto (tgt := 85) E d_Meaning_itemsAreGrouped_81 (by decide) ?_
          exact Sm_sub [0, 1, 2] rfl (tC_Meaning_itemsAreGrouped_J85 E hR h52 _ _ _)
set_option maxRecDepth 100000 in
set_option maxHeartbeats 4000000 in
theorem tC_Meaning_itemsAreGrouped_J32 {X : Cx} {G : Gx} {res : Int32} {u : St} (E : EC X G prog_4_method_33_code R_Meaning 6 { frames := 2, cells := 0, slots := 0, locals := 67 }) (hR : RtZ X vwCl (wC G) prog_4_method_33_code .boolean (res, u)) : ∀ (x1 : Int32) (s0 : Int32) , SC X G 6 res (mC_Meaning_itemsAreGrouped_J32 x1 s0 u) u 32 [(0, .ref (G.1 29)), (1, .int x1)] [.int s0] := by
  intro x1 s0
  rw [mC_Meaning_itemsAreGrouped_J32]
  refine Sm_istore_n (lv' := [(2, .int s0), (0, .ref (G.1 29)), (1, .int x1)]) E d_Meaning_itemsAreGrouped_32 rfl (by decide) rfl ?_
  refine Sm_aload_n E d_Meaning_itemsAreGrouped_33 rfl 1 rfl ?_
  refine gfC_29_lists E fl_Meaning_28 d_Meaning_itemsAreGrouped_34 ?_
  refine Sm_iconst (v := 0) E d_Meaning_itemsAreGrouped_37 (by decide) ?_
  refine Sm_iload_n E d_Meaning_itemsAreGrouped_38 rfl 2 rfl ?_
  refine Sm_iconst (v := 1) E d_Meaning_itemsAreGrouped_39 (by decide) ?_
  refine Sm_isub E d_Meaning_itemsAreGrouped_40 ?_
  refine Sm_cVi (As := [.int 0, .int (x1 - 1)]) (b := (G.1 24)) (st := []) (n := 2) E exOk wC_as (fun _ h => cC_Lists_at 0 (x1 - 1) u h) gk_Meaning_70 dk_Lists_at rfl ⟨rfl, rfl⟩ ⟨Nat.le_of_ble_eq_true rfl, Nat.le_of_ble_eq_true rfl⟩ (rvW (q0 := 24) (ci := 3) E rfl rfl rfl) rfl (Nat.le_of_ble_eq_true rfl) d_Meaning_itemsAreGrouped_41 fun r2 _ => ?_
  refine Sm_istore_n (lv' := [(3, .int r2), (2, .int s0), (0, .ref (G.1 29)), (1, .int x1)]) E d_Meaning_itemsAreGrouped_44 rfl (by decide) rfl ?_
  refine Sm_iload_n E d_Meaning_itemsAreGrouped_45 rfl 1 rfl ?_
  refine Sm_iconst (v := 0) E d_Meaning_itemsAreGrouped_46 (by decide) ?_
  refine Sm_mmax E ml_Meaning_234 ⟨Nat.le_of_ble_eq_true rfl, Nat.le_of_ble_eq_true rfl⟩ (Nat.le_of_ble_eq_true rfl) d_Meaning_itemsAreGrouped_47 ?_
  refine Sm_leti fun y3 _ => ?_
  refine Sm_istore (lv' := [(4, .int y3), (3, .int r2), (2, .int s0), (0, .ref (G.1 29)), (1, .int x1)]) E d_Meaning_itemsAreGrouped_50 (by decide) rfl ?_
  exact Sm_sub [3, 1, 0] rfl (tC_Meaning_itemsAreGrouped_L52 E hR FU _ _)
set_option maxRecDepth 100000 in
set_option maxHeartbeats 4000000 in
theorem cC_Meaning_itemsAreGrouped {l : Launch} {D : va_G} {G : Gx} (u : St) {res : Int32} (hm : mC_Meaning_itemsAreGrouped u = some res) : KC l D G y_Meaning_itemsAreGrouped (.code y_Meaning_itemsAreGrouped prog_4_method_33_code 6 (some .boolean)) { frames := 2, cells := 0, slots := 0, locals := 67 } [.ref (G.1 29)] u (qI D vwCl (wC G) (tyW G) (adsC G) (res, u)) := by
  refine Ct_z (by decide) wC_as (Nat.le_of_ble_eq_true rfl) hm (fun X _ _ E hR => ?_)
  refine Sm_lvs (lv' := [(0, .ref (G.1 29))]) rfl ?_
  rw [mC_Meaning_itemsAreGrouped]
  refine Sm_aload_n E d_Meaning_itemsAreGrouped_0 rfl 0 rfl ?_
  refine gfC_29_lists E fl_Meaning_28 d_Meaning_itemsAreGrouped_1 ?_
  refine Sm_iconst (v := 0) E d_Meaning_itemsAreGrouped_4 (by decide) ?_
  refine Sm_cVi (As := [.int 0]) (b := (G.1 24)) (st := []) (n := 1) E exOk wC_as (fun _ h => cC_Lists_size 0 u h) gk_Meaning_66 dk_Lists_size rfl ⟨rfl, rfl⟩ ⟨Nat.le_of_ble_eq_true rfl, Nat.le_of_ble_eq_true rfl⟩ (rvW (q0 := 24) (ci := 3) E rfl rfl rfl) rfl (Nat.le_of_ble_eq_true rfl) d_Meaning_itemsAreGrouped_5 fun r1 _ => ?_
  refine Sm_istore_n (lv' := [(1, .int r1), (0, .ref (G.1 29))]) E d_Meaning_itemsAreGrouped_8 rfl (by decide) rfl ?_
  refine Sm_aload_n E d_Meaning_itemsAreGrouped_9 rfl 1 rfl ?_
  refine gfC_29_statement E fl_Meaning_32 d_Meaning_itemsAreGrouped_10 ?_
  refine gfC_27_star E fl_Meaning_111 d_Meaning_itemsAreGrouped_13 ?_
  refine Sm_if_eq (tgt := 31) E d_Meaning_itemsAreGrouped_16 (by decide) (fun _ => ?_) (fun _ => ?_)
  · refine Sm_iconst (v := 0) E d_Meaning_itemsAreGrouped_31 (by decide) ?_
    exact Sm_sub [1, 0] rfl (tC_Meaning_itemsAreGrouped_J32 E hR _ _)
  · refine Sm_aload_n E d_Meaning_itemsAreGrouped_19 rfl 1 rfl ?_
    refine gfC_29_lists E fl_Meaning_28 d_Meaning_itemsAreGrouped_20 ?_
    refine Sm_iconst (v := 0) E d_Meaning_itemsAreGrouped_23 (by decide) ?_
    refine Sm_iconst (v := 0) E d_Meaning_itemsAreGrouped_24 (by decide) ?_
    refine Sm_cVi (As := [.int 0, .int 0]) (b := (G.1 24)) (st := []) (n := 2) E exOk wC_as (fun _ h => cC_Lists_at 0 0 u h) gk_Meaning_70 dk_Lists_at rfl ⟨rfl, rfl⟩ ⟨Nat.le_of_ble_eq_true rfl, Nat.le_of_ble_eq_true rfl⟩ (rvW (q0 := 24) (ci := 3) E rfl rfl rfl) rfl (Nat.le_of_ble_eq_true rfl) d_Meaning_itemsAreGrouped_25 fun r9 _ => ?_
    refine Sm_goto (tgt := 32) E d_Meaning_itemsAreGrouped_28 (by decide) ?_
    exact Sm_sub [1, 0] rfl (tC_Meaning_itemsAreGrouped_J32 E hR _ _)
set_option maxRecDepth 100000 in
set_option maxHeartbeats 4000000 in
theorem tC_Meaning_groupError_J173 {X : Cx} {G : Gx} {res : Int32} {u : St} (E : EC X G prog_4_method_31_code R_Meaning 5 { frames := 3, cells := 0, slots := 0, locals := 92 }) (hR : RtI X vwCl (wC G) prog_4_method_31_code (res, u)) : ∀ (x3 : Int32) (s0 : Int32) , SC X G 5 res (mC_Meaning_groupError_J173 x3 s0 u) u 173 [(0, .ref (G.1 29)), (3, .int x3)] [.int s0] := by
  intro x3 s0
  rw [mC_Meaning_groupError_J173]
  refine Sm_istore (lv' := [(4, .int s0), (0, .ref (G.1 29)), (3, .int x3)]) E d_Meaning_groupError_173 (by decide) rfl ?_
  refine Sm_iload_n E d_Meaning_groupError_175 rfl 2 rfl ?_
  refine Sm_if_eq (tgt := 199) E d_Meaning_groupError_176 (by decide) (fun _ => ?_) (fun _ => ?_)
  · refine Sm_iconst (v := 0) E d_Meaning_groupError_199 (by decide) ?_
    exact Sm_reti hR d_Meaning_groupError_200
  · refine Sm_aload_n E d_Meaning_groupError_179 rfl 1 rfl ?_
    refine gfC_29_statement E fl_Meaning_32 d_Meaning_groupError_180 ?_
    refine gfC_27_mode E fl_Meaning_274 d_Meaning_groupError_183 ?_
    refine Sm_if_le (tgt := 199) E d_Meaning_groupError_186 (by decide) (fun _ => ?_) (fun _ => ?_)
    · refine Sm_iconst (v := 0) E d_Meaning_groupError_199 (by decide) ?_
      exact Sm_reti hR d_Meaning_groupError_200
    · refine Sm_iload E d_Meaning_groupError_189 0 rfl ?_
      refine Sm_if_ne (tgt := 199) E d_Meaning_groupError_191 (by decide) (fun _ => ?_) (fun _ => ?_)
      · refine Sm_iconst (v := 0) E d_Meaning_groupError_199 (by decide) ?_
        exact Sm_reti hR d_Meaning_groupError_200
      · refine Sm_bipush (v := 10) E d_Meaning_groupError_194 (by decide) ?_
        refine Sm_goto (tgt := 200) E d_Meaning_groupError_196 (by decide) ?_
        exact Sm_reti hR d_Meaning_groupError_200
set_option maxRecDepth 100000 in
set_option maxHeartbeats 4000000 in
theorem tC_Meaning_groupError_J125 {X : Cx} {G : Gx} {res : Int32} {u : St} (E : EC X G prog_4_method_31_code R_Meaning 5 { frames := 3, cells := 0, slots := 0, locals := 92 }) (hR : RtI X vwCl (wC G) prog_4_method_31_code (res, u)) : ∀ (x1 : Int32) (x2 : Int32) (s0 : Int32) , SC X G 5 res (mC_Meaning_groupError_J125 x1 x2 s0 u) u 125 [(0, .ref (G.1 29)), (1, .int x1), (2, .int x2)] [.int s0] := by
  intro x1 x2 s0
  rw [mC_Meaning_groupError_J125]
  refine Sm_istore_n (lv' := [(3, .int s0), (0, .ref (G.1 29)), (1, .int x1), (2, .int x2)]) E d_Meaning_groupError_125 rfl (by decide) rfl ?_
  refine Sm_aload_n E d_Meaning_groupError_126 rfl 1 rfl ?_
  refine gfC_29_lists E fl_Meaning_28 d_Meaning_groupError_127 ?_
  refine Sm_iconst (v := 3) E d_Meaning_groupError_130 (by decide) ?_
  refine Sm_cVi (As := [.int 3]) (b := (G.1 24)) (st := []) (n := 1) E exOk wC_as (fun _ h => cC_Lists_size 3 u h) gk_Meaning_66 dk_Lists_size rfl ⟨rfl, rfl⟩ ⟨Nat.le_of_ble_eq_true rfl, Nat.le_of_ble_eq_true rfl⟩ (rvW (q0 := 24) (ci := 3) E rfl rfl rfl) rfl (Nat.le_of_ble_eq_true rfl) d_Meaning_groupError_131 fun r4 _ => ?_
  refine Sm_iconst (v := 1) E d_Meaning_groupError_134 (by decide) ?_
  refine Sm_icmp_ne (tgt := 172) E d_Meaning_groupError_135 (by decide) (fun _ => ?_) (fun _ => ?_)
  · refine Sm_iconst (v := 0) E d_Meaning_groupError_172 (by decide) ?_
    exact Sm_sub [1, 0] rfl (tC_Meaning_groupError_J173 E hR _ _)
  · refine Sm_aload_n E d_Meaning_groupError_138 rfl 1 rfl ?_
    refine gfC_29_statement E fl_Meaning_32 d_Meaning_groupError_139 ?_
    refine gfC_27_distinct E fl_Meaning_271 d_Meaning_groupError_142 ?_
    refine Sm_if_ne (tgt := 172) E d_Meaning_groupError_145 (by decide) (fun _ => ?_) (fun _ => ?_)
    · refine Sm_iconst (v := 0) E d_Meaning_groupError_172 (by decide) ?_
      exact Sm_sub [1, 0] rfl (tC_Meaning_groupError_J173 E hR _ _)
    · refine Sm_iload_n E d_Meaning_groupError_148 rfl 3 rfl ?_
      refine Sm_if_ne (tgt := 172) E d_Meaning_groupError_149 (by decide) (fun _ => ?_) (fun _ => ?_)
      · refine Sm_iconst (v := 0) E d_Meaning_groupError_172 (by decide) ?_
        exact Sm_sub [1, 0] rfl (tC_Meaning_groupError_J173 E hR _ _)
      · refine Sm_iload_n E d_Meaning_groupError_152 rfl 2 rfl ?_
        refine Sm_if_ne (tgt := 172) E d_Meaning_groupError_153 (by decide) (fun _ => ?_) (fun _ => ?_)
        · refine Sm_iconst (v := 0) E d_Meaning_groupError_172 (by decide) ?_
          exact Sm_sub [1, 0] rfl (tC_Meaning_groupError_J173 E hR _ _)
        · refine Sm_aload_n E d_Meaning_groupError_156 rfl 1 rfl ?_
          refine gfC_29_statement E fl_Meaning_32 d_Meaning_groupError_157 ?_
          refine gfC_27_deed E fl_Meaning_105 d_Meaning_groupError_160 ?_
          refine Sm_bipush (v := 8) E d_Meaning_groupError_163 (by decide) ?_
          refine Sm_icmp_ne (tgt := 172) E d_Meaning_groupError_165 (by decide) (fun _ => ?_) (fun _ => ?_)
          · refine Sm_iconst (v := 0) E d_Meaning_groupError_172 (by decide) ?_
            exact Sm_sub [1, 0] rfl (tC_Meaning_groupError_J173 E hR _ _)
          · refine Sm_iconst (v := 1) E d_Meaning_groupError_168 (by decide) ?_
            refine Sm_goto (tgt := 173) E d_Meaning_groupError_169 (by decide) ?_
            exact Sm_sub [1, 0] rfl (tC_Meaning_groupError_J173 E hR _ _)
set_option maxRecDepth 100000 in
set_option maxHeartbeats 4000000 in
theorem tC_Meaning_groupError_J97 {X : Cx} {G : Gx} {res : Int32} {u : St} (E : EC X G prog_4_method_31_code R_Meaning 5 { frames := 3, cells := 0, slots := 0, locals := 92 }) (hR : RtI X vwCl (wC G) prog_4_method_31_code (res, u)) : ∀ (x1 : Int32) (x2 : Int32) , SC X G 5 res (mC_Meaning_groupError_J97 x1 x2 u) u 97 [(0, .ref (G.1 29)), (1, .int x1), (2, .int x2)] [] := by
  intro x1 x2
  rw [mC_Meaning_groupError_J97]
  refine Sm_aload_n E d_Meaning_groupError_97 rfl 0 rfl ?_
  refine gfC_29_statement E fl_Meaning_32 d_Meaning_groupError_98 ?_
  refine gfC_27_deed E fl_Meaning_105 d_Meaning_groupError_101 ?_
  refine Sm_bipush (v := 8) E d_Meaning_groupError_104 (by decide) ?_
  refine Sm_icmp_eq (tgt := 120) E d_Meaning_groupError_106 (by decide) (fun _ => ?_) (fun _ => ?_)
  · refine Sm_iconst (v := 1) E d_Meaning_groupError_120 (by decide) ?_
    refine Sm_goto (tgt := 125) E d_Meaning_groupError_121 (by decide) ?_
    exact Sm_sub [0, 1, 2] rfl (tC_Meaning_groupError_J125 E hR _ _ _)
  · refine Sm_aload_n E d_Meaning_groupError_109 rfl 0 rfl ?_
    refine gfC_29_statement E fl_Meaning_32 d_Meaning_groupError_110 ?_
    refine gfC_27_deed E fl_Meaning_105 d_Meaning_groupError_113 ?_
    refine Sm_iconst (v := 5) E d_Meaning_groupError_116 (by decide) ?_
    refine Sm_icmp_ne (tgt := 124) E d_Meaning_groupError_117 (by decide) (fun _ => ?_) (fun _ => ?_)
    · refine Sm_iconst (v := 0) E d_Meaning_groupError_124 (by decide) ?_
      exact Sm_sub [0, 1, 2] rfl (tC_Meaning_groupError_J125 E hR _ _ _)
    · refine Sm_iconst (v := 1) E d_Meaning_groupError_120 (by decide) ?_
      refine Sm_goto (tgt := 125) E d_Meaning_groupError_121 (by decide) ?_
      exact Sm_sub [0, 1, 2] rfl (tC_Meaning_groupError_J125 E hR _ _ _)
set_option maxRecDepth 100000 in
set_option maxHeartbeats 4000000 in
theorem tC_Meaning_groupError_J78 {X : Cx} {G : Gx} {res : Int32} {u : St} (E : EC X G prog_4_method_31_code R_Meaning 5 { frames := 3, cells := 0, slots := 0, locals := 92 }) (hR : RtI X vwCl (wC G) prog_4_method_31_code (res, u)) : ∀ (x1 : Int32) (s0 : Int32) , SC X G 5 res (mC_Meaning_groupError_J78 x1 s0 u) u 78 [(0, .ref (G.1 29)), (1, .int x1)] [.int s0] := by
  intro x1 s0
  rw [mC_Meaning_groupError_J78]
  refine Sm_istore_n (lv' := [(2, .int s0), (0, .ref (G.1 29)), (1, .int x1)]) E d_Meaning_groupError_78 rfl (by decide) rfl ?_
  refine Sm_iload_n E d_Meaning_groupError_79 rfl 2 rfl ?_
  refine Sm_if_ne (tgt := 87) E d_Meaning_groupError_80 (by decide) (fun _ => ?_) (fun _ => ?_)
  · refine Sm_aload_n E d_Meaning_groupError_87 rfl 1 rfl ?_
    refine Sm_cVi (As := []) (b := (G.1 29)) (st := []) (n := 0) E exOk wC_as (fun _ h => cC_Meaning_itemsAreGrouped u h) gk_Meaning_268 dk_Meaning_itemsAreGrouped rfl ⟨rfl, rfl⟩ ⟨Nat.le_of_ble_eq_true rfl, Nat.le_of_ble_eq_true rfl⟩ (rvW (q0 := 29) (ci := 4) E rfl rfl rfl) rfl (Nat.le_of_ble_eq_true rfl) d_Meaning_groupError_88 fun r3 _ => ?_
    refine Sm_if_ne (tgt := 97) E d_Meaning_groupError_91 (by decide) (fun _ => ?_) (fun _ => ?_)
    · exact Sm_sub [1, 2, 0] rfl (tC_Meaning_groupError_J97 E hR _ _)
    · refine Sm_bipush (v := 9) E d_Meaning_groupError_94 (by decide) ?_
      exact Sm_reti hR d_Meaning_groupError_96
  · refine Sm_iload_n E d_Meaning_groupError_83 rfl 0 rfl ?_
    refine Sm_if_eq (tgt := 97) E d_Meaning_groupError_84 (by decide) (fun _ => ?_) (fun _ => ?_)
    · exact Sm_sub [1, 2, 0] rfl (tC_Meaning_groupError_J97 E hR _ _)
    · refine Sm_aload_n E d_Meaning_groupError_87 rfl 1 rfl ?_
      refine Sm_cVi (As := []) (b := (G.1 29)) (st := []) (n := 0) E exOk wC_as (fun _ h => cC_Meaning_itemsAreGrouped u h) gk_Meaning_268 dk_Meaning_itemsAreGrouped rfl ⟨rfl, rfl⟩ ⟨Nat.le_of_ble_eq_true rfl, Nat.le_of_ble_eq_true rfl⟩ (rvW (q0 := 29) (ci := 4) E rfl rfl rfl) rfl (Nat.le_of_ble_eq_true rfl) d_Meaning_groupError_88 fun r5 _ => ?_
      refine Sm_if_ne (tgt := 97) E d_Meaning_groupError_91 (by decide) (fun _ => ?_) (fun _ => ?_)
      · exact Sm_sub [1, 2, 0] rfl (tC_Meaning_groupError_J97 E hR _ _)
      · refine Sm_bipush (v := 9) E d_Meaning_groupError_94 (by decide) ?_
        exact Sm_reti hR d_Meaning_groupError_96
set_option maxRecDepth 100000 in
set_option maxHeartbeats 4000000 in
theorem tC_Meaning_groupError_J42 {X : Cx} {G : Gx} {res : Int32} {u : St} (E : EC X G prog_4_method_31_code R_Meaning 5 { frames := 3, cells := 0, slots := 0, locals := 92 }) (hR : RtI X vwCl (wC G) prog_4_method_31_code (res, u)) {q4 : Int32 → Int32 → St → Option (Int32)} (h4 : ∀ (x1 : Int32) (x2 : Int32) , SC X G 5 res (q4 x1 x2 u) u 4 [(0, .ref (G.1 29)), (1, .int x1), (2, .int x2)] []) : ∀ (x1 : Int32) (x2 : Int32) (x3 : Int32) , SC X G 5 res (mC_Meaning_groupError_J42 q4 x1 x2 x3 u) u 42 [(0, .ref (G.1 29)), (1, .int x1), (2, .int x2), (3, .int x3)] [] := by
  intro x1 x2 x3
  rw [mC_Meaning_groupError_J42]
  refine Sm_iload_n E d_Meaning_groupError_42 rfl 1 rfl ?_
  refine Sm_if_ne (tgt := 50) E d_Meaning_groupError_43 (by decide) (fun _ => ?_) (fun _ => ?_)
  · refine Sm_iconst (v := 1) E d_Meaning_groupError_50 (by decide) ?_
    refine Sm_goto (tgt := 55) E d_Meaning_groupError_51 (by decide) ?_
    refine Sm_istore_n (lv' := [(1, .int 1), (0, .ref (G.1 29)), (2, .int x2), (3, .int x3)]) E d_Meaning_groupError_55 rfl (by decide) rfl ?_
    refine Sm_iinc (k := 2) (d := 1) E d_Meaning_groupError_56 rfl rfl (by decide) fun y8 _ => Sm_lvs (lv' := [(2, .int y8), (1, .int 1), (0, .ref (G.1 29)), (3, .int x3)]) rfl ?_
    refine Sm_goto (tgt := 4) E d_Meaning_groupError_59 (by decide) ?_
    exact Sm_sub [2, 1, 0] rfl (h4 _ _)
  · refine Sm_iload_n E d_Meaning_groupError_46 rfl 3 rfl ?_
    refine Sm_if_eq (tgt := 54) E d_Meaning_groupError_47 (by decide) (fun _ => ?_) (fun _ => ?_)
    · refine Sm_iconst (v := 0) E d_Meaning_groupError_54 (by decide) ?_
      refine Sm_istore_n (lv' := [(1, .int 0), (0, .ref (G.1 29)), (2, .int x2), (3, .int x3)]) E d_Meaning_groupError_55 rfl (by decide) rfl ?_
      refine Sm_iinc (k := 2) (d := 1) E d_Meaning_groupError_56 rfl rfl (by decide) fun y9 _ => Sm_lvs (lv' := [(2, .int y9), (1, .int 0), (0, .ref (G.1 29)), (3, .int x3)]) rfl ?_
      refine Sm_goto (tgt := 4) E d_Meaning_groupError_59 (by decide) ?_
      exact Sm_sub [2, 1, 0] rfl (h4 _ _)
    · refine Sm_iconst (v := 1) E d_Meaning_groupError_50 (by decide) ?_
      refine Sm_goto (tgt := 55) E d_Meaning_groupError_51 (by decide) ?_
      refine Sm_istore_n (lv' := [(1, .int 1), (0, .ref (G.1 29)), (2, .int x2), (3, .int x3)]) E d_Meaning_groupError_55 rfl (by decide) rfl ?_
      refine Sm_iinc (k := 2) (d := 1) E d_Meaning_groupError_56 rfl rfl (by decide) fun y10 _ => Sm_lvs (lv' := [(2, .int y10), (1, .int 1), (0, .ref (G.1 29)), (3, .int x3)]) rfl ?_
      refine Sm_goto (tgt := 4) E d_Meaning_groupError_59 (by decide) ?_
      exact Sm_sub [2, 1, 0] rfl (h4 _ _)
set_option maxRecDepth 100000 in
set_option maxHeartbeats 4000000 in
theorem tC_Meaning_groupError_L4 {X : Cx} {G : Gx} {res : Int32} {u : St} (E : EC X G prog_4_method_31_code R_Meaning 5 { frames := 3, cells := 0, slots := 0, locals := 92 }) (hR : RtI X vwCl (wC G) prog_4_method_31_code (res, u)) : ∀ (n : Nat) (x1 : Int32) (x2 : Int32) , SC X G 5 res (mC_Meaning_groupError_L4 n x1 x2 u) u 4 [(0, .ref (G.1 29)), (1, .int x1), (2, .int x2)] [] := by
  intro n
  induction n with
  | zero => intro x1 x2; exact Sm_none
  | succ n h4 =>
    intro x1 x2
    rw [mC_Meaning_groupError_L4]
    refine Sm_iload_n E d_Meaning_groupError_4 rfl 2 rfl ?_
    refine Sm_aload_n E d_Meaning_groupError_5 rfl 0 rfl ?_
    refine gfC_29_nodes E fl_Meaning_24 d_Meaning_groupError_6 ?_
    refine Sm_cVi (As := []) (b := (G.1 14)) (st := [.int x2]) (n := 0) E exOk wC_as (fun _ h => cC_Nodes_size u h) gk_Meaning_121 dk_Nodes_size rfl ⟨rfl, rfl⟩ ⟨Nat.le_of_ble_eq_true rfl, Nat.le_of_ble_eq_true rfl⟩ (rvW (q0 := 14) (ci := 5) E rfl rfl rfl) rfl (Nat.le_of_ble_eq_true rfl) d_Meaning_groupError_9 fun r1 _ => ?_
    refine Sm_icmp_ge (tgt := 62) E d_Meaning_groupError_12 (by decide) (fun _ => ?_) (fun _ => ?_)
    · refine Sm_aload_n E d_Meaning_groupError_62 rfl 0 rfl ?_
      refine gfC_29_lists E fl_Meaning_28 d_Meaning_groupError_63 ?_
      refine Sm_iconst (v := 1) E d_Meaning_groupError_66 (by decide) ?_
      refine Sm_cVi (As := [.int 1]) (b := (G.1 24)) (st := []) (n := 1) E exOk wC_as (fun _ h => cC_Lists_size 1 u h) gk_Meaning_66 dk_Lists_size rfl ⟨rfl, rfl⟩ ⟨Nat.le_of_ble_eq_true rfl, Nat.le_of_ble_eq_true rfl⟩ (rvW (q0 := 24) (ci := 3) E rfl rfl rfl) rfl (Nat.le_of_ble_eq_true rfl) d_Meaning_groupError_67 fun r2 _ => ?_
      refine Sm_if_le (tgt := 77) E d_Meaning_groupError_70 (by decide) (fun _ => ?_) (fun _ => ?_)
      · refine Sm_iconst (v := 0) E d_Meaning_groupError_77 (by decide) ?_
        exact Sm_sub [0, 1] rfl (tC_Meaning_groupError_J78 E hR _ _)
      · refine Sm_iconst (v := 1) E d_Meaning_groupError_73 (by decide) ?_
        refine Sm_goto (tgt := 78) E d_Meaning_groupError_74 (by decide) ?_
        exact Sm_sub [0, 1] rfl (tC_Meaning_groupError_J78 E hR _ _)
    · refine Sm_aload_n E d_Meaning_groupError_15 rfl 0 rfl ?_
      refine gfC_29_nodes E fl_Meaning_24 d_Meaning_groupError_16 ?_
      refine Sm_iload_n E d_Meaning_groupError_19 rfl 2 rfl ?_
      refine Sm_cVi (As := [.int x2]) (b := (G.1 14)) (st := []) (n := 1) E exOk wC_as (fun _ h => cC_Nodes_kindOf x2 u h) gk_Meaning_128 dk_Nodes_kindOf rfl ⟨rfl, rfl⟩ ⟨Nat.le_of_ble_eq_true rfl, Nat.le_of_ble_eq_true rfl⟩ (rvW (q0 := 14) (ci := 5) E rfl rfl rfl) rfl (Nat.le_of_ble_eq_true rfl) d_Meaning_groupError_20 fun r6 _ => ?_
      refine Sm_cSi (As := [.int r6]) (st := []) (n := 1) E exOk wC_as (fun _ h => cC_Nodes_aggregates r6 u h) gk_Meaning_262 dk_Nodes_aggregates rfl ⟨rfl, rfl⟩ ⟨Nat.le_of_ble_eq_true rfl, Nat.le_of_ble_eq_true rfl⟩ rfl (Nat.le_of_ble_eq_true rfl) d_Meaning_groupError_23 fun r7 _ => ?_
      refine Sm_istore_n (lv' := [(3, .int r7), (0, .ref (G.1 29)), (1, .int x1), (2, .int x2)]) E d_Meaning_groupError_26 rfl (by decide) rfl ?_
      refine Sm_iload_n E d_Meaning_groupError_27 rfl 0 rfl ?_
      refine Sm_if_eq (tgt := 42) E d_Meaning_groupError_28 (by decide) (fun _ => ?_) (fun _ => ?_)
      · exact Sm_sub [1, 2, 3, 0] rfl (tC_Meaning_groupError_J42 E hR h4 _ _ _)
      · refine Sm_aload_n E d_Meaning_groupError_31 rfl 1 rfl ?_
        refine Sm_iload_n E d_Meaning_groupError_32 rfl 3 rfl ?_
        refine Sm_cVi (As := [.int x2]) (b := (G.1 29)) (st := []) (n := 1) E exOk wC_as (fun _ h => cC_Meaning_isAggregated x2 u h) gk_Meaning_265 dk_Meaning_isAggregated rfl ⟨rfl, rfl⟩ ⟨Nat.le_of_ble_eq_true rfl, Nat.le_of_ble_eq_true rfl⟩ (rvW (q0 := 29) (ci := 4) E rfl rfl rfl) rfl (Nat.le_of_ble_eq_true rfl) d_Meaning_groupError_33 fun r11 _ => ?_
        refine Sm_if_eq (tgt := 42) E d_Meaning_groupError_36 (by decide) (fun _ => ?_) (fun _ => ?_)
        · exact Sm_sub [1, 2, 3, 0] rfl (tC_Meaning_groupError_J42 E hR h4 _ _ _)
        · refine Sm_bipush (v := 9) E d_Meaning_groupError_39 (by decide) ?_
          exact Sm_reti hR d_Meaning_groupError_41
set_option maxRecDepth 100000 in
set_option maxHeartbeats 4000000 in
theorem cC_Meaning_groupError {l : Launch} {D : va_G} {G : Gx} (u : St) {res : Int32} (hm : mC_Meaning_groupError u = some res) : KC l D G y_Meaning_groupError (.code y_Meaning_groupError prog_4_method_31_code 5 (some .int)) { frames := 3, cells := 0, slots := 0, locals := 92 } [.ref (G.1 29)] u (qI D vwCl (wC G) (tyW G) (adsC G) (res, u)) := by
  refine Ct_i (by decide) wC_as (Nat.le_of_ble_eq_true rfl) hm (fun X _ _ E hR => ?_)
  refine Sm_lvs (lv' := [(0, .ref (G.1 29))]) rfl ?_
  rw [mC_Meaning_groupError]
  refine Sm_iconst (v := 0) E d_Meaning_groupError_0 (by decide) ?_
  refine Sm_istore_n (lv' := [(1, .int 0), (0, .ref (G.1 29))]) E d_Meaning_groupError_1 rfl (by decide) rfl ?_
  refine Sm_iconst (v := 0) E d_Meaning_groupError_2 (by decide) ?_
  refine Sm_istore_n (lv' := [(2, .int 0), (1, .int 0), (0, .ref (G.1 29))]) E d_Meaning_groupError_3 rfl (by decide) rfl ?_
  exact Sm_sub [2, 1, 0] rfl (tC_Meaning_groupError_L4 E hR FU _ _)
set_option maxRecDepth 100000 in
set_option maxHeartbeats 4000000 in
theorem tC_Meaning_firstError_J14 {X : Cx} {G : Gx} {res : Int32 × St} (E : EC X G prog_4_method_2_code R_Meaning 2 { frames := 6, cells := 0, slots := 0, locals := 180 }) (hR : RtI X vwCl (wC G) prog_4_method_2_code res) : ∀ (x1 : Int32) (u : St), SC X G 2 res (mC_Meaning_firstError_J14 x1 u) u 14 [(0, .ref (G.1 29)), (1, .int x1)] [] := by
  intro x1 u
  rw [mC_Meaning_firstError_J14]
  refine Sm_iload_n E d_Meaning_firstError_14 rfl 1 rfl ?_
  refine Sm_if_ne (tgt := 23) E d_Meaning_firstError_15 (by decide) (fun _ => ?_) (fun _ => ?_)
  · refine Sm_iload_n E d_Meaning_firstError_23 rfl 1 rfl ?_
    refine Sm_if_ne (tgt := 34) E d_Meaning_firstError_24 (by decide) (fun _ => ?_) (fun _ => ?_)
    · refine Sm_iload_n E d_Meaning_firstError_34 rfl 1 rfl ?_
      exact Sm_retI hR d_Meaning_firstError_35
    · refine Sm_aload_n E d_Meaning_firstError_27 rfl 0 rfl ?_
      refine Sm_cVi (As := []) (b := (G.1 29)) (st := []) (n := 0) E exOk wC_as (fun _ h => cC_Meaning_groupError u h) gk_Meaning_46 dk_Meaning_groupError rfl ⟨rfl, rfl⟩ ⟨Nat.le_of_ble_eq_true rfl, Nat.le_of_ble_eq_true rfl⟩ (rvW (q0 := 29) (ci := 4) E rfl rfl rfl) rfl (Nat.le_of_ble_eq_true rfl) d_Meaning_firstError_28 fun r3 _ => ?_
      refine Sm_goto (tgt := 35) E d_Meaning_firstError_31 (by decide) ?_
      exact Sm_retI hR d_Meaning_firstError_35
  · refine Sm_aload_n E d_Meaning_firstError_18 rfl 0 rfl ?_
    refine Sm_cVI (As := []) (b := (G.1 29)) (st := []) (n := 0) E exOk wC_as (fun _ h => cC_Meaning_measureError u h) gk_Meaning_43 dk_Meaning_measureError rfl ⟨rfl, rfl⟩ ⟨Nat.le_of_ble_eq_true rfl, Nat.le_of_ble_eq_true rfl⟩ (rvW (q0 := 29) (ci := 4) E rfl rfl rfl) rfl (Nat.le_of_ble_eq_true rfl) d_Meaning_firstError_19 fun r4 u5 _ => ?_
    refine Sm_istore_n (lv' := [(1, .int r4), (0, .ref (G.1 29))]) E d_Meaning_firstError_22 rfl (by decide) rfl ?_
    refine Sm_iload_n E d_Meaning_firstError_23 rfl 0 rfl ?_
    refine Sm_if_ne (tgt := 34) E d_Meaning_firstError_24 (by decide) (fun _ => ?_) (fun _ => ?_)
    · refine Sm_iload_n E d_Meaning_firstError_34 rfl 0 rfl ?_
      exact Sm_retI hR d_Meaning_firstError_35
    · refine Sm_aload_n E d_Meaning_firstError_27 rfl 1 rfl ?_
      refine Sm_cVi (As := []) (b := (G.1 29)) (st := []) (n := 0) E exOk wC_as (fun _ h => cC_Meaning_groupError u5 h) gk_Meaning_46 dk_Meaning_groupError rfl ⟨rfl, rfl⟩ ⟨Nat.le_of_ble_eq_true rfl, Nat.le_of_ble_eq_true rfl⟩ (rvW (q0 := 29) (ci := 4) E rfl rfl rfl) rfl (Nat.le_of_ble_eq_true rfl) d_Meaning_firstError_28 fun r6 _ => ?_
      refine Sm_goto (tgt := 35) E d_Meaning_firstError_31 (by decide) ?_
      exact Sm_retI hR d_Meaning_firstError_35
set_option maxRecDepth 100000 in
set_option maxHeartbeats 4000000 in
theorem cC_Meaning_firstError {l : Launch} {D : va_G} {G : Gx} (u : St) {res : Int32 × St} (hm : mC_Meaning_firstError u = some res) : KC l D G y_Meaning_firstError (.code y_Meaning_firstError prog_4_method_2_code 2 (some .int)) { frames := 6, cells := 0, slots := 0, locals := 180 } [.ref (G.1 29)] u (qI D vwCl (wC G) (tyW G) (adsC G) res) := by
  refine Ct_I (by decide) wC_as (Nat.le_of_ble_eq_true rfl) hm (fun X _ _ E hR => ?_)
  refine Sm_lvs (lv' := [(0, .ref (G.1 29))]) rfl ?_
  rw [mC_Meaning_firstError]
  refine Sm_aload_n E d_Meaning_firstError_0 rfl 0 rfl ?_
  refine Sm_cVI (As := []) (b := (G.1 29)) (st := []) (n := 0) E exOk wC_as (fun _ h => cC_Meaning_tableError u h) gk_Meaning_36 dk_Meaning_tableError rfl ⟨rfl, rfl⟩ ⟨Nat.le_of_ble_eq_true rfl, Nat.le_of_ble_eq_true rfl⟩ (rvW (q0 := 29) (ci := 4) E rfl rfl rfl) rfl (Nat.le_of_ble_eq_true rfl) d_Meaning_firstError_1 fun r1 u2 _ => ?_
  refine Sm_istore_n (lv' := [(1, .int r1), (0, .ref (G.1 29))]) E d_Meaning_firstError_4 rfl (by decide) rfl ?_
  refine Sm_iload_n E d_Meaning_firstError_5 rfl 0 rfl ?_
  refine Sm_if_ne (tgt := 14) E d_Meaning_firstError_6 (by decide) (fun _ => ?_) (fun _ => ?_)
  · exact Sm_sub [1, 0] rfl (tC_Meaning_firstError_J14 E hR _ _)
  · refine Sm_aload_n E d_Meaning_firstError_9 rfl 1 rfl ?_
    refine Sm_cVI (As := []) (b := (G.1 29)) (st := []) (n := 0) E exOk wC_as (fun _ h => cC_Meaning_typeError u2 h) gk_Meaning_40 dk_Meaning_typeError rfl ⟨rfl, rfl⟩ ⟨Nat.le_of_ble_eq_true rfl, Nat.le_of_ble_eq_true rfl⟩ (rvW (q0 := 29) (ci := 4) E rfl rfl rfl) rfl (Nat.le_of_ble_eq_true rfl) d_Meaning_firstError_10 fun r7 u8 _ => ?_
    refine Sm_istore_n (lv' := [(1, .int r7), (0, .ref (G.1 29))]) E d_Meaning_firstError_13 rfl (by decide) rfl ?_
    exact Sm_sub [1, 0] rfl (tC_Meaning_firstError_J14 E hR _ _)
set_option maxRecDepth 100000 in
set_option maxHeartbeats 4000000 in
theorem tC_SqlReader_read_J106 {X : Cx} {G : Gx} {res : Int32 × St} (E : EC X G prog_1_method_5_code R_SqlReader 4 { frames := 410, cells := 0, slots := 0, locals := 12627 }) (hR : RtI X vwCl (wC G) prog_1_method_5_code res) : ∀ (s0 : Int32) (u : St), SC X G 4 res (mC_SqlReader_read_J106 s0 u) u 106 [(0, .ref (G.1 0))] [.int s0] := by
  intro s0 u
  rw [mC_SqlReader_read_J106]
  refine Sm_istore_n (lv' := [(3, .int s0), (0, .ref (G.1 0))]) E d_SqlReader_read_106 rfl (by decide) rfl ?_
  refine Sm_iload_n E d_SqlReader_read_107 rfl 0 rfl ?_
  refine Sm_if_le (tgt := 118) E d_SqlReader_read_108 (by decide) (fun _ => ?_) (fun _ => ?_)
  · refine Sm_aload_n E d_SqlReader_read_118 rfl 1 rfl ?_
    refine gfC_0_statement E fl_SqlReader_47 d_SqlReader_read_119 ?_
    refine gfC_27_kind E fl_SqlReader_109 d_SqlReader_read_122 ?_
    exact Sm_retI hR d_SqlReader_read_125
  · refine Sm_aload_n E d_SqlReader_read_111 rfl 1 rfl ?_
    refine Sm_cVV (As := []) (b := (G.1 0)) (st := []) (n := 0) E exOk wC_as (fun _ h => cC_SqlReader_forget u h) gk_SqlReader_84 dk_SqlReader_forget rfl ⟨rfl, rfl⟩ ⟨Nat.le_of_ble_eq_true rfl, Nat.le_of_ble_eq_true rfl⟩ (rvW (q0 := 0) (ci := 0) E rfl rfl rfl) rfl (Nat.le_of_ble_eq_true rfl) d_SqlReader_read_112 fun u9 _ => ?_
    refine Sm_iload_n E d_SqlReader_read_115 rfl 0 rfl ?_
    refine Sm_ineg E d_SqlReader_read_116 ?_
    exact Sm_retI hR d_SqlReader_read_117
set_option maxRecDepth 100000 in
set_option maxHeartbeats 4000000 in
theorem tC_SqlReader_read_J62 {X : Cx} {G : Gx} {res : Int32 × St} (E : EC X G prog_1_method_5_code R_SqlReader 4 { frames := 410, cells := 0, slots := 0, locals := 12627 }) (hR : RtI X vwCl (wC G) prog_1_method_5_code res) : ∀ (s0 : Int32) (u : St), SC X G 4 res (mC_SqlReader_read_J62 s0 u) u 62 [(0, .ref (G.1 0))] [.int s0] := by
  intro s0 u
  rw [mC_SqlReader_read_J62]
  refine Sm_istore_n (lv' := [(2, .int s0), (0, .ref (G.1 0))]) E d_SqlReader_read_62 rfl (by decide) rfl ?_
  refine Sm_iload_n E d_SqlReader_read_63 rfl 0 rfl ?_
  refine Sm_if_ne (tgt := 71) E d_SqlReader_read_64 (by decide) (fun _ => ?_) (fun _ => ?_)
  · refine Sm_aload_n E d_SqlReader_read_71 rfl 1 rfl ?_
    refine gfC_0_nodes E fl_SqlReader_33 d_SqlReader_read_72 ?_
    refine Sm_cVi (As := []) (b := (G.1 14)) (st := []) (n := 0) E exOk wC_as (fun _ h => cC_Nodes_isOver u h) gk_SqlReader_101 dk_Nodes_isOver rfl ⟨rfl, rfl⟩ ⟨Nat.le_of_ble_eq_true rfl, Nat.le_of_ble_eq_true rfl⟩ (rvW (q0 := 14) (ci := 5) E rfl rfl rfl) rfl (Nat.le_of_ble_eq_true rfl) d_SqlReader_read_75 fun r5 _ => ?_
    refine Sm_if_eq (tgt := 85) E d_SqlReader_read_78 (by decide) (fun _ => ?_) (fun _ => ?_)
    · refine Sm_aload_n E d_SqlReader_read_85 rfl 1 rfl ?_
      refine gfC_0_lists E fl_SqlReader_40 d_SqlReader_read_86 ?_
      refine Sm_cVi (As := []) (b := (G.1 24)) (st := []) (n := 0) E exOk wC_as (fun _ h => cC_Lists_isOver u h) gk_SqlReader_104 dk_Lists_isOver rfl ⟨rfl, rfl⟩ ⟨Nat.le_of_ble_eq_true rfl, Nat.le_of_ble_eq_true rfl⟩ (rvW (q0 := 24) (ci := 3) E rfl rfl rfl) rfl (Nat.le_of_ble_eq_true rfl) d_SqlReader_read_89 fun r6 _ => ?_
      refine Sm_if_eq (tgt := 99) E d_SqlReader_read_92 (by decide) (fun _ => ?_) (fun _ => ?_)
      · refine Sm_aload_n E d_SqlReader_read_99 rfl 1 rfl ?_
        refine gfC_0_meaning E fl_SqlReader_65 d_SqlReader_read_100 ?_
        refine Sm_cVI (As := []) (b := (G.1 29)) (st := []) (n := 0) E exOk wC_as (fun _ h => cC_Meaning_firstError u h) gk_SqlReader_105 dk_Meaning_firstError rfl ⟨rfl, rfl⟩ ⟨Nat.le_of_ble_eq_true rfl, Nat.le_of_ble_eq_true rfl⟩ (rvW (q0 := 29) (ci := 4) E rfl rfl rfl) rfl (Nat.le_of_ble_eq_true rfl) d_SqlReader_read_103 fun r7 u8 _ => ?_
        exact Sm_sub [1] rfl (tC_SqlReader_read_J106 E hR _ _)
      · refine Sm_iconst (v := 3) E d_SqlReader_read_95 (by decide) ?_
        refine Sm_goto (tgt := 106) E d_SqlReader_read_96 (by decide) ?_
        exact Sm_sub [1] rfl (tC_SqlReader_read_J106 E hR _ _)
    · refine Sm_iconst (v := 2) E d_SqlReader_read_81 (by decide) ?_
      refine Sm_goto (tgt := 106) E d_SqlReader_read_82 (by decide) ?_
      exact Sm_sub [1] rfl (tC_SqlReader_read_J106 E hR _ _)
  · refine Sm_iconst (v := 1) E d_SqlReader_read_67 (by decide) ?_
    refine Sm_goto (tgt := 106) E d_SqlReader_read_68 (by decide) ?_
    exact Sm_sub [1] rfl (tC_SqlReader_read_J106 E hR _ _)
set_option maxRecDepth 100000 in
set_option maxHeartbeats 4000000 in
theorem cC_SqlReader_read {l : Launch} {D : va_G} {G : Gx} (u : St) {res : Int32 × St} (hm : mC_SqlReader_read u = some res) : KC l D G y_SqlReader_read (.code y_SqlReader_read prog_1_method_5_code 4 (some .int)) { frames := 410, cells := 0, slots := 0, locals := 12627 } [.ref (G.1 0)] u (qI D vwCl (wC G) (tyW G) (adsC G) res) := by
  refine Ct_I (by decide) wC_as (Nat.le_of_ble_eq_true rfl) hm (fun X _ _ E hR => ?_)
  refine Sm_lvs (lv' := [(0, .ref (G.1 0))]) rfl ?_
  rw [mC_SqlReader_read]
  refine Sm_aload_n E d_SqlReader_read_0 rfl 0 rfl ?_
  refine Sm_cVV (As := []) (b := (G.1 0)) (st := []) (n := 0) E exOk wC_as (fun _ h => cC_SqlReader_forget u h) gk_SqlReader_84 dk_SqlReader_forget rfl ⟨rfl, rfl⟩ ⟨Nat.le_of_ble_eq_true rfl, Nat.le_of_ble_eq_true rfl⟩ (rvW (q0 := 0) (ci := 0) E rfl rfl rfl) rfl (Nat.le_of_ble_eq_true rfl) d_SqlReader_read_1 fun u1 _ => ?_
  refine Sm_aload_n E d_SqlReader_read_4 rfl 0 rfl ?_
  refine gfC_0_tokens E fl_SqlReader_26 d_SqlReader_read_5 ?_
  refine Sm_aload_n E d_SqlReader_read_8 rfl 0 rfl ?_
  refine gfC_0_typed E fl_SqlReader_10 d_SqlReader_read_9 ?_
  refine Sm_cVI (As := [.ref (G.1 1)]) (b := (G.1 10)) (st := []) (n := 1) E exOk wC_as (fun _ h => cC_Tokens_cut u1 h) gk_SqlReader_87 dk_Tokens_cut rfl ⟨rfl, rfl⟩ ⟨Nat.le_of_ble_eq_true rfl, Nat.le_of_ble_eq_true rfl⟩ (rvW (q0 := 10) (ci := 9) E rfl rfl rfl) rfl (Nat.le_of_ble_eq_true rfl) d_SqlReader_read_12 fun r2 u3 _ => ?_
  refine Sm_istore_n (lv' := [(1, .int r2), (0, .ref (G.1 0))]) E d_SqlReader_read_15 rfl (by decide) rfl ?_
  refine Sm_aload_n E d_SqlReader_read_16 rfl 1 rfl ?_
  refine gfC_0_typed E fl_SqlReader_10 d_SqlReader_read_17 ?_
  refine Sm_cVV (As := []) (b := (G.1 1)) (st := []) (n := 0) E exOk wC_as (fun _ h => cC_Text_clear u3 h) gk_SqlReader_77 dk_Text_clear rfl ⟨rfl, rfl⟩ ⟨Nat.le_of_ble_eq_true rfl, Nat.le_of_ble_eq_true rfl⟩ (rvW (q0 := 1) (ci := 8) E rfl rfl rfl) rfl (Nat.le_of_ble_eq_true rfl) d_SqlReader_read_20 fun u4 _ => ?_
  refine Sm_iload_n E d_SqlReader_read_23 rfl 0 rfl ?_
  refine Sm_if_eq (tgt := 61) E d_SqlReader_read_24 (by decide) (fun _ => ?_) (fun _ => ?_)
  · refine Sm_iconst (v := 0) E d_SqlReader_read_61 (by decide) ?_
    exact Sm_sub [1] rfl (tC_SqlReader_read_J62 E hR _ _)
  · refine Sm_aload_n E d_SqlReader_read_27 rfl 1 rfl ?_
    refine gfC_0_parser E fl_SqlReader_56 d_SqlReader_read_28 ?_
    refine Sm_cVI (As := []) (b := (G.1 28)) (st := []) (n := 0) E exOk wC_as (fun _ h => cC_Parser_begins u4 h) gk_SqlReader_91 dk_Parser_begins rfl ⟨rfl, rfl⟩ ⟨Nat.le_of_ble_eq_true rfl, Nat.le_of_ble_eq_true rfl⟩ (rvW (q0 := 28) (ci := 6) E rfl rfl rfl) rfl (Nat.le_of_ble_eq_true rfl) d_SqlReader_read_31 fun r10 u11 _ => ?_
    refine Sm_if_eq (tgt := 61) E d_SqlReader_read_34 (by decide) (fun _ => ?_) (fun _ => ?_)
    · refine Sm_iconst (v := 0) E d_SqlReader_read_61 (by decide) ?_
      exact Sm_sub [1] rfl (tC_SqlReader_read_J62 E hR _ _)
    · refine Sm_aload_n E d_SqlReader_read_37 rfl 1 rfl ?_
      refine gfC_0_parser E fl_SqlReader_56 d_SqlReader_read_38 ?_
      refine Sm_cVI (As := []) (b := (G.1 28)) (st := []) (n := 0) E exOk wC_as (fun _ h => cC_Parser_deed u11 h) gk_SqlReader_95 dk_Parser_deed rfl ⟨rfl, rfl⟩ ⟨Nat.le_of_ble_eq_true rfl, Nat.le_of_ble_eq_true rfl⟩ (rvW (q0 := 28) (ci := 6) E rfl rfl rfl) rfl (Nat.le_of_ble_eq_true rfl) d_SqlReader_read_41 fun r12 u13 _ => ?_
      refine Sm_if_eq (tgt := 61) E d_SqlReader_read_44 (by decide) (fun _ => ?_) (fun _ => ?_)
      · refine Sm_iconst (v := 0) E d_SqlReader_read_61 (by decide) ?_
        exact Sm_sub [1] rfl (tC_SqlReader_read_J62 E hR _ _)
      · refine Sm_aload_n E d_SqlReader_read_47 rfl 1 rfl ?_
        refine gfC_0_parser E fl_SqlReader_56 d_SqlReader_read_48 ?_
        refine Sm_cVI (As := []) (b := (G.1 28)) (st := []) (n := 0) E exOk wC_as (fun _ h => cC_Parser_ends u13 h) gk_SqlReader_98 dk_Parser_ends rfl ⟨rfl, rfl⟩ ⟨Nat.le_of_ble_eq_true rfl, Nat.le_of_ble_eq_true rfl⟩ (rvW (q0 := 28) (ci := 6) E rfl rfl rfl) rfl (Nat.le_of_ble_eq_true rfl) d_SqlReader_read_51 fun r14 u15 _ => ?_
        refine Sm_if_eq (tgt := 61) E d_SqlReader_read_54 (by decide) (fun _ => ?_) (fun _ => ?_)
        · refine Sm_iconst (v := 0) E d_SqlReader_read_61 (by decide) ?_
          exact Sm_sub [1] rfl (tC_SqlReader_read_J62 E hR _ _)
        · refine Sm_iconst (v := 1) E d_SqlReader_read_57 (by decide) ?_
          refine Sm_goto (tgt := 62) E d_SqlReader_read_58 (by decide) ?_
          exact Sm_sub [1] rfl (tC_SqlReader_read_J62 E hR _ _)
set_option maxRecDepth 100000 in
set_option maxHeartbeats 4000000 in
theorem cC_SqlReader_node {l : Launch} {D : va_G} {G : Gx} (x1 : Int32) (x2 : Int32) (u : St) {res : Int32} (hm : mC_SqlReader_node x1 x2 u = some res) : KC l D G y_SqlReader_node (.code y_SqlReader_node prog_1_method_6_code 3 (some .int)) { frames := 1, cells := 0, slots := 0, locals := 21 } [.ref (G.1 0), .int x1, .int x2] u (qI D vwCl (wC G) (tyW G) (adsC G) (res, u)) := by
  refine Ct_i (by decide) wC_as (Nat.le_of_ble_eq_true rfl) hm (fun X _ _ E hR => ?_)
  refine Sm_lvs (lv' := [(0, .ref (G.1 0)), (1, .int x1), (2, .int x2)]) rfl ?_
  rw [mC_SqlReader_node]
  refine Sm_iload_n E d_SqlReader_node_0 rfl 2 rfl ?_
  refine Sm_ite (fun hk => Sm_tableIn (tgt := 32) (k := 0) hk E d_SqlReader_node_1 (by decide) (by decide) rfl (by decide) ?_) (fun hn0 => ?_)
  · refine Sm_aload_n E d_SqlReader_node_32 rfl 0 rfl ?_
    refine gfC_0_nodes E fl_SqlReader_33 d_SqlReader_node_33 ?_
    refine Sm_iload_n E d_SqlReader_node_36 rfl 1 rfl ?_
    refine Sm_cVi (As := [.int x1]) (b := (G.1 14)) (st := []) (n := 1) E exOk wC_as (fun _ h => cC_Nodes_kindOf x1 u h) gk_SqlReader_113 dk_Nodes_kindOf rfl ⟨rfl, rfl⟩ ⟨Nat.le_of_ble_eq_true rfl, Nat.le_of_ble_eq_true rfl⟩ (rvW (q0 := 14) (ci := 5) E rfl rfl rfl) rfl (Nat.le_of_ble_eq_true rfl) d_SqlReader_node_37 fun r1 _ => ?_
    exact Sm_reti hR d_SqlReader_node_40
  refine Sm_ite (fun hk => Sm_tableIn (tgt := 41) (k := 1) hk E d_SqlReader_node_1 (by decide) (by decide) rfl (by decide) ?_) (fun hn1 => ?_)
  · refine Sm_aload_n E d_SqlReader_node_41 rfl 0 rfl ?_
    refine gfC_0_nodes E fl_SqlReader_33 d_SqlReader_node_42 ?_
    refine Sm_iload_n E d_SqlReader_node_45 rfl 1 rfl ?_
    refine Sm_cVi (As := [.int x1]) (b := (G.1 14)) (st := []) (n := 1) E exOk wC_as (fun _ h => cC_Nodes_firstOf x1 u h) gk_SqlReader_117 dk_Nodes_firstOf rfl ⟨rfl, rfl⟩ ⟨Nat.le_of_ble_eq_true rfl, Nat.le_of_ble_eq_true rfl⟩ (rvW (q0 := 14) (ci := 5) E rfl rfl rfl) rfl (Nat.le_of_ble_eq_true rfl) d_SqlReader_node_46 fun r2 _ => ?_
    exact Sm_reti hR d_SqlReader_node_49
  refine Sm_ite (fun hk => Sm_tableIn (tgt := 50) (k := 2) hk E d_SqlReader_node_1 (by decide) (by decide) rfl (by decide) ?_) (fun hn2 => ?_)
  · refine Sm_aload_n E d_SqlReader_node_50 rfl 0 rfl ?_
    refine gfC_0_nodes E fl_SqlReader_33 d_SqlReader_node_51 ?_
    refine Sm_iload_n E d_SqlReader_node_54 rfl 1 rfl ?_
    refine Sm_cVi (As := [.int x1]) (b := (G.1 14)) (st := []) (n := 1) E exOk wC_as (fun _ h => cC_Nodes_secondOf x1 u h) gk_SqlReader_120 dk_Nodes_secondOf rfl ⟨rfl, rfl⟩ ⟨Nat.le_of_ble_eq_true rfl, Nat.le_of_ble_eq_true rfl⟩ (rvW (q0 := 14) (ci := 5) E rfl rfl rfl) rfl (Nat.le_of_ble_eq_true rfl) d_SqlReader_node_55 fun r3 _ => ?_
    exact Sm_reti hR d_SqlReader_node_58
  refine Sm_ite (fun hk => Sm_tableIn (tgt := 59) (k := 3) hk E d_SqlReader_node_1 (by decide) (by decide) rfl (by decide) ?_) (fun hn3 => ?_)
  · refine Sm_aload_n E d_SqlReader_node_59 rfl 0 rfl ?_
    refine gfC_0_nodes E fl_SqlReader_33 d_SqlReader_node_60 ?_
    refine Sm_iload_n E d_SqlReader_node_63 rfl 1 rfl ?_
    refine Sm_cVi (As := [.int x1]) (b := (G.1 14)) (st := []) (n := 1) E exOk wC_as (fun _ h => cC_Nodes_typeOf x1 u h) gk_SqlReader_123 dk_Nodes_typeOf rfl ⟨rfl, rfl⟩ ⟨Nat.le_of_ble_eq_true rfl, Nat.le_of_ble_eq_true rfl⟩ (rvW (q0 := 14) (ci := 5) E rfl rfl rfl) rfl (Nat.le_of_ble_eq_true rfl) d_SqlReader_node_64 fun r4 _ => ?_
    exact Sm_reti hR d_SqlReader_node_67
  refine Sm_tableOut (tgt := 68) E d_SqlReader_node_1 (by have := lv_neT hn0 (a := 0) (by decide); have := lv_neT hn1 (a := 1) (by decide); have := lv_neT hn2 (a := 2) (by decide); have := lv_neT hn3 (a := 3) (by decide); omega) (by decide) ?_
  refine Sm_iconst (v := (-1)) E d_SqlReader_node_68 (by decide) ?_
  exact Sm_reti hR d_SqlReader_node_69
set_option maxRecDepth 100000 in
set_option maxHeartbeats 4000000 in
theorem cC_SqlReader_value {l : Launch} {D : va_G} {G : Gx} (x1 : Int32) (u : St) {res : Int64} (hm : mC_SqlReader_value x1 u = some res) : KC l D G y_SqlReader_value (.code y_SqlReader_value prog_1_method_7_code 3 (some .long)) { frames := 2, cells := 0, slots := 0, locals := 45 } [.ref (G.1 0), .int x1] u (qJ D vwCl (wC G) (tyW G) (adsC G) (res, u)) := by
  refine Ct_j (by decide) wC_as (Nat.le_of_ble_eq_true rfl) hm (fun X _ _ E hR => ?_)
  refine Sm_lvs (lv' := [(0, .ref (G.1 0)), (1, .int x1)]) rfl ?_
  rw [mC_SqlReader_value]
  refine Sm_aload_n E d_SqlReader_value_0 rfl 0 rfl ?_
  refine gfC_0_nodes E fl_SqlReader_33 d_SqlReader_value_1 ?_
  refine Sm_iload_n E d_SqlReader_value_4 rfl 1 rfl ?_
  refine Sm_cVi (As := [.int x1]) (b := (G.1 14)) (st := []) (n := 1) E exOk wC_as (fun _ h => cC_Nodes_kindOf x1 u h) gk_SqlReader_113 dk_Nodes_kindOf rfl ⟨rfl, rfl⟩ ⟨Nat.le_of_ble_eq_true rfl, Nat.le_of_ble_eq_true rfl⟩ (rvW (q0 := 14) (ci := 5) E rfl rfl rfl) rfl (Nat.le_of_ble_eq_true rfl) d_SqlReader_value_5 fun r1 _ => ?_
  refine Sm_istore_n (lv' := [(2, .int r1), (0, .ref (G.1 0)), (1, .int x1)]) E d_SqlReader_value_8 rfl (by decide) rfl ?_
  refine Sm_iload_n E d_SqlReader_value_9 rfl 0 rfl ?_
  refine Sm_iconst (v := 1) E d_SqlReader_value_10 (by decide) ?_
  refine Sm_icmp_ne (tgt := 30) E d_SqlReader_value_11 (by decide) (fun _ => ?_) (fun _ => ?_)
  · refine Sm_iload_n E d_SqlReader_value_30 rfl 0 rfl ?_
    refine Sm_iconst (v := 2) E d_SqlReader_value_31 (by decide) ?_
    refine Sm_icmp_ne (tgt := 50) E d_SqlReader_value_32 (by decide) (fun _ => ?_) (fun _ => ?_)
    · refine Sm_lconst (v := 0) E d_SqlReader_value_50 (by decide) ?_
      exact Sm_retj hR d_SqlReader_value_51
    · refine Sm_aload_n E d_SqlReader_value_35 rfl 1 rfl ?_
      refine gfC_0_nodes E fl_SqlReader_33 d_SqlReader_value_36 ?_
      refine Sm_iload_n E d_SqlReader_value_39 rfl 2 rfl ?_
      refine Sm_cVi (As := [.int x1]) (b := (G.1 14)) (st := []) (n := 1) E exOk wC_as (fun _ h => cC_Nodes_spanOf x1 u h) gk_SqlReader_126 dk_Nodes_spanOf rfl ⟨rfl, rfl⟩ ⟨Nat.le_of_ble_eq_true rfl, Nat.le_of_ble_eq_true rfl⟩ (rvW (q0 := 14) (ci := 5) E rfl rfl rfl) rfl (Nat.le_of_ble_eq_true rfl) d_SqlReader_value_40 fun r2 _ => ?_
      refine Sm_cSi (As := [.int r2]) (st := []) (n := 1) E exOk wC_as (fun _ h => cC_Text_sizeOf r2 u h) gk_SqlReader_133 dk_Text_sizeOf rfl ⟨rfl, rfl⟩ ⟨Nat.le_of_ble_eq_true rfl, Nat.le_of_ble_eq_true rfl⟩ rfl (Nat.le_of_ble_eq_true rfl) d_SqlReader_value_43 fun r3 _ => ?_
      refine Sm_i2l E d_SqlReader_value_46 ?_
      refine Sm_goto (tgt := 51) E d_SqlReader_value_47 (by decide) ?_
      exact Sm_retj hR d_SqlReader_value_51
  · refine Sm_aload_n E d_SqlReader_value_14 rfl 1 rfl ?_
    refine gfC_0_tokens E fl_SqlReader_26 d_SqlReader_value_15 ?_
    refine Sm_aload_n E d_SqlReader_value_18 rfl 1 rfl ?_
    refine gfC_0_nodes E fl_SqlReader_33 d_SqlReader_value_19 ?_
    refine Sm_iload_n E d_SqlReader_value_22 rfl 2 rfl ?_
    refine Sm_cVi (As := [.int x1]) (b := (G.1 14)) (st := [.ref (G.1 10)]) (n := 1) E exOk wC_as (fun _ h => cC_Nodes_spanOf x1 u h) gk_SqlReader_126 dk_Nodes_spanOf rfl ⟨rfl, rfl⟩ ⟨Nat.le_of_ble_eq_true rfl, Nat.le_of_ble_eq_true rfl⟩ (rvW (q0 := 14) (ci := 5) E rfl rfl rfl) rfl (Nat.le_of_ble_eq_true rfl) d_SqlReader_value_23 fun r4 _ => ?_
    refine Sm_cVj (As := [.int r4]) (b := (G.1 10)) (st := []) (n := 1) E exOk wC_as (fun _ h => cC_Tokens_numberOf r4 u h) gk_SqlReader_129 dk_Tokens_numberOf rfl ⟨rfl, rfl⟩ ⟨Nat.le_of_ble_eq_true rfl, Nat.le_of_ble_eq_true rfl⟩ (rvW (q0 := 10) (ci := 9) E rfl rfl rfl) rfl (Nat.le_of_ble_eq_true rfl) d_SqlReader_value_26 fun r5 _ => ?_
    exact Sm_retj hR d_SqlReader_value_29
set_option maxRecDepth 100000 in
set_option maxHeartbeats 4000000 in
theorem cC_Tokens_text {l : Launch} {D : va_G} {G : Gx} (u : St) (hm : mC_Tokens_text u = some ()) : KC l D G y_Tokens_text (.code y_Tokens_text prog_9_method_2_code 1 (some (.object "SqlReader$Text"))) { frames := 0, cells := 0, slots := 0, locals := 0 } [.ref (G.1 10)] u (qA D vwCl (wC G) (tyW G) (adsC G) (G.1 11) u) := by
  refine Ct_a (by decide) wC_as (Nat.le_of_ble_eq_true rfl) (Or.inl ⟨_, rfl⟩) hm (fun X _ _ E hR => ?_)
  refine Sm_lvs (lv' := [(0, .ref (G.1 10))]) rfl ?_
  rw [mC_Tokens_text]
  refine Sm_aload_n E d_Tokens_text_0 rfl 0 rfl ?_
  refine gfC_10_text E fl_Tokens_10 d_Tokens_text_1 ?_
  exact Sm_reta hR d_Tokens_text_4
set_option maxRecDepth 100000 in
set_option maxHeartbeats 4000000 in
theorem cC_Text_letterAt {l : Launch} {D : va_G} {G : Gx} (x1 : Int32) (x2 : Int32) (u : St) {res : Int32} (hm : mC_Text_letterAt x1 x2 u = some res) : KC l D G y_Text_letterAt (.code y_Text_letterAt prog_8_method_16_code 3 (some .int)) { frames := 1, cells := 0, slots := 0, locals := 21 } [.ref (G.1 11), .int x1, .int x2] u (qI D vwCl (wC G) (tyW G) (adsC G) (res, u)) := by
  refine Ct_i (by decide) wC_as (Nat.le_of_ble_eq_true rfl) hm (fun X _ _ E hR => ?_)
  refine Sm_lvs (lv' := [(0, .ref (G.1 11)), (1, .int x1), (2, .int x2)]) rfl ?_
  rw [mC_Text_letterAt]
  refine Sm_iload_n E d_Text_letterAt_0 rfl 2 rfl ?_
  refine Sm_if_lt (tgt := 12) E d_Text_letterAt_1 (by decide) (fun _ => ?_) (fun _ => ?_)
  · refine Sm_iconst (v := (-1)) E d_Text_letterAt_12 (by decide) ?_
    refine Sm_goto (tgt := 26) E d_Text_letterAt_13 (by decide) ?_
    exact Sm_reti hR d_Text_letterAt_26
  · refine Sm_iload_n E d_Text_letterAt_4 rfl 2 rfl ?_
    refine Sm_iload_n E d_Text_letterAt_5 rfl 1 rfl ?_
    refine Sm_cSi (As := [.int x1]) (st := [.int x2]) (n := 1) E exOk wC_as (fun _ h => cC_Text_sizeOf x1 u h) gk_Text_41 dk_Text_sizeOf rfl ⟨rfl, rfl⟩ ⟨Nat.le_of_ble_eq_true rfl, Nat.le_of_ble_eq_true rfl⟩ rfl (Nat.le_of_ble_eq_true rfl) d_Text_letterAt_6 fun r1 _ => ?_
    refine Sm_icmp_lt (tgt := 16) E d_Text_letterAt_9 (by decide) (fun _ => ?_) (fun _ => ?_)
    · refine Sm_aload_n E d_Text_letterAt_16 rfl 0 rfl ?_
      refine Sm_iload_n E d_Text_letterAt_17 rfl 1 rfl ?_
      refine Sm_cSi (As := [.int x1]) (st := [.ref (G.1 11)]) (n := 1) E exOk wC_as (fun _ h => cC_Text_startOf x1 u h) gk_Text_44 dk_Text_startOf rfl ⟨rfl, rfl⟩ ⟨Nat.le_of_ble_eq_true rfl, Nat.le_of_ble_eq_true rfl⟩ rfl (Nat.le_of_ble_eq_true rfl) d_Text_letterAt_18 fun r2 _ => ?_
      refine Sm_iload_n E d_Text_letterAt_21 rfl 2 rfl ?_
      refine Sm_iadd E d_Text_letterAt_22 ?_
      refine Sm_cVi (As := [.int (r2 + x2)]) (b := (G.1 11)) (st := []) (n := 1) E exOk wC_as (fun _ h => cC_Text_at_11 (r2 + x2) u h) gk_Text_34 dk_Text_at rfl ⟨rfl, rfl⟩ ⟨Nat.le_of_ble_eq_true rfl, Nat.le_of_ble_eq_true rfl⟩ (rvW (q0 := 11) (ci := 8) E rfl rfl rfl) rfl (Nat.le_of_ble_eq_true rfl) d_Text_letterAt_23 fun r3 _ => ?_
      exact Sm_reti hR d_Text_letterAt_26
    · refine Sm_iconst (v := (-1)) E d_Text_letterAt_12 (by decide) ?_
      refine Sm_goto (tgt := 26) E d_Text_letterAt_13 (by decide) ?_
      exact Sm_reti hR d_Text_letterAt_26
set_option maxRecDepth 100000 in
set_option maxHeartbeats 4000000 in
theorem cC_SqlReader_letter {l : Launch} {D : va_G} {G : Gx} (x1 : Int32) (x2 : Int32) (u : St) {res : Int32} (hm : mC_SqlReader_letter x1 x2 u = some res) : KC l D G y_SqlReader_letter (.code y_SqlReader_letter prog_1_method_8_code 3 (some .int)) { frames := 2, cells := 0, slots := 0, locals := 43 } [.ref (G.1 0), .int x1, .int x2] u (qI D vwCl (wC G) (tyW G) (adsC G) (res, u)) := by
  refine Ct_i (by decide) wC_as (Nat.le_of_ble_eq_true rfl) hm (fun X _ _ E hR => ?_)
  refine Sm_lvs (lv' := [(0, .ref (G.1 0)), (1, .int x1), (2, .int x2)]) rfl ?_
  rw [mC_SqlReader_letter]
  refine Sm_aload_n E d_SqlReader_letter_0 rfl 0 rfl ?_
  refine gfC_0_nodes E fl_SqlReader_33 d_SqlReader_letter_1 ?_
  refine Sm_iload_n E d_SqlReader_letter_4 rfl 1 rfl ?_
  refine Sm_cVi (As := [.int x1]) (b := (G.1 14)) (st := []) (n := 1) E exOk wC_as (fun _ h => cC_Nodes_kindOf x1 u h) gk_SqlReader_113 dk_Nodes_kindOf rfl ⟨rfl, rfl⟩ ⟨Nat.le_of_ble_eq_true rfl, Nat.le_of_ble_eq_true rfl⟩ (rvW (q0 := 14) (ci := 5) E rfl rfl rfl) rfl (Nat.le_of_ble_eq_true rfl) d_SqlReader_letter_5 fun r1 _ => ?_
  refine Sm_iconst (v := 2) E d_SqlReader_letter_8 (by decide) ?_
  refine Sm_icmp_ne (tgt := 34) E d_SqlReader_letter_9 (by decide) (fun _ => ?_) (fun _ => ?_)
  · refine Sm_iconst (v := (-1)) E d_SqlReader_letter_34 (by decide) ?_
    exact Sm_reti hR d_SqlReader_letter_35
  · refine Sm_aload_n E d_SqlReader_letter_12 rfl 0 rfl ?_
    refine gfC_0_tokens E fl_SqlReader_26 d_SqlReader_letter_13 ?_
    refine Sm_cVa (As := []) (b := (G.1 10)) (st := []) (n := 0) E exOk wC_as (fun h => cC_Tokens_text u h) gk_SqlReader_136 dk_Tokens_text rfl ⟨rfl, rfl⟩ ⟨Nat.le_of_ble_eq_true rfl, Nat.le_of_ble_eq_true rfl⟩ (rvW (q0 := 10) (ci := 9) E rfl rfl rfl) rfl (Nat.le_of_ble_eq_true rfl) d_SqlReader_letter_16 fun _ _ => ?_
    refine Sm_aload_n E d_SqlReader_letter_19 rfl 0 rfl ?_
    refine gfC_0_nodes E fl_SqlReader_33 d_SqlReader_letter_20 ?_
    refine Sm_iload_n E d_SqlReader_letter_23 rfl 1 rfl ?_
    refine Sm_cVi (As := [.int x1]) (b := (G.1 14)) (st := [.ref (G.1 11)]) (n := 1) E exOk wC_as (fun _ h => cC_Nodes_spanOf x1 u h) gk_SqlReader_126 dk_Nodes_spanOf rfl ⟨rfl, rfl⟩ ⟨Nat.le_of_ble_eq_true rfl, Nat.le_of_ble_eq_true rfl⟩ (rvW (q0 := 14) (ci := 5) E rfl rfl rfl) rfl (Nat.le_of_ble_eq_true rfl) d_SqlReader_letter_24 fun r2 _ => ?_
    refine Sm_iload_n E d_SqlReader_letter_27 rfl 2 rfl ?_
    refine Sm_cVi (As := [.int r2, .int x2]) (b := (G.1 11)) (st := []) (n := 2) E exOk wC_as (fun _ h => cC_Text_letterAt r2 x2 u h) gk_SqlReader_140 dk_Text_letterAt rfl ⟨rfl, rfl⟩ ⟨Nat.le_of_ble_eq_true rfl, Nat.le_of_ble_eq_true rfl⟩ (rvW (q0 := 11) (ci := 8) E rfl rfl rfl) rfl (Nat.le_of_ble_eq_true rfl) d_SqlReader_letter_28 fun r3 _ => ?_
    refine Sm_goto (tgt := 35) E d_SqlReader_letter_31 (by decide) ?_
    exact Sm_reti hR d_SqlReader_letter_35
set_option maxRecDepth 100000 in
set_option maxHeartbeats 4000000 in
theorem cC_SqlReader_count {l : Launch} {D : va_G} {G : Gx} (x1 : Int32) (u : St) {res : Int32} (hm : mC_SqlReader_count x1 u = some res) : KC l D G y_SqlReader_count (.code y_SqlReader_count prog_1_method_9_code 2 (some .int)) { frames := 1, cells := 0, slots := 0, locals := 21 } [.ref (G.1 0), .int x1] u (qI D vwCl (wC G) (tyW G) (adsC G) (res, u)) := by
  refine Ct_i (by decide) wC_as (Nat.le_of_ble_eq_true rfl) hm (fun X _ _ E hR => ?_)
  refine Sm_lvs (lv' := [(0, .ref (G.1 0)), (1, .int x1)]) rfl ?_
  rw [mC_SqlReader_count]
  refine Sm_iload_n E d_SqlReader_count_0 rfl 1 rfl ?_
  refine Sm_ite (fun hk => Sm_tableIn (tgt := 88) (k := 0) hk E d_SqlReader_count_1 (by decide) (by decide) rfl (by decide) ?_) (fun hn0 => ?_)
  · refine Sm_aload_n E d_SqlReader_count_88 rfl 0 rfl ?_
    refine gfC_0_nodes E fl_SqlReader_33 d_SqlReader_count_89 ?_
    refine Sm_cVi (As := []) (b := (G.1 14)) (st := []) (n := 0) E exOk wC_as (fun _ h => cC_Nodes_size u h) gk_SqlReader_144 dk_Nodes_size rfl ⟨rfl, rfl⟩ ⟨Nat.le_of_ble_eq_true rfl, Nat.le_of_ble_eq_true rfl⟩ (rvW (q0 := 14) (ci := 5) E rfl rfl rfl) rfl (Nat.le_of_ble_eq_true rfl) d_SqlReader_count_92 fun r1 _ => ?_
    exact Sm_reti hR d_SqlReader_count_95
  refine Sm_ite (fun hk => Sm_tableIn (tgt := 96) (k := 1) hk E d_SqlReader_count_1 (by decide) (by decide) rfl (by decide) ?_) (fun hn1 => ?_)
  · refine Sm_aload_n E d_SqlReader_count_96 rfl 0 rfl ?_
    refine gfC_0_lists E fl_SqlReader_40 d_SqlReader_count_97 ?_
    refine Sm_iconst (v := 0) E d_SqlReader_count_100 (by decide) ?_
    refine Sm_cVi (As := [.int 0]) (b := (G.1 24)) (st := []) (n := 1) E exOk wC_as (fun _ h => cC_Lists_size 0 u h) gk_SqlReader_147 dk_Lists_size rfl ⟨rfl, rfl⟩ ⟨Nat.le_of_ble_eq_true rfl, Nat.le_of_ble_eq_true rfl⟩ (rvW (q0 := 24) (ci := 3) E rfl rfl rfl) rfl (Nat.le_of_ble_eq_true rfl) d_SqlReader_count_101 fun r2 _ => ?_
    exact Sm_reti hR d_SqlReader_count_104
  refine Sm_ite (fun hk => Sm_tableIn (tgt := 105) (k := 2) hk E d_SqlReader_count_1 (by decide) (by decide) rfl (by decide) ?_) (fun hn2 => ?_)
  · refine Sm_aload_n E d_SqlReader_count_105 rfl 0 rfl ?_
    refine gfC_0_lists E fl_SqlReader_40 d_SqlReader_count_106 ?_
    refine Sm_iconst (v := 1) E d_SqlReader_count_109 (by decide) ?_
    refine Sm_cVi (As := [.int 1]) (b := (G.1 24)) (st := []) (n := 1) E exOk wC_as (fun _ h => cC_Lists_size 1 u h) gk_SqlReader_147 dk_Lists_size rfl ⟨rfl, rfl⟩ ⟨Nat.le_of_ble_eq_true rfl, Nat.le_of_ble_eq_true rfl⟩ (rvW (q0 := 24) (ci := 3) E rfl rfl rfl) rfl (Nat.le_of_ble_eq_true rfl) d_SqlReader_count_110 fun r3 _ => ?_
    exact Sm_reti hR d_SqlReader_count_113
  refine Sm_ite (fun hk => Sm_tableIn (tgt := 114) (k := 3) hk E d_SqlReader_count_1 (by decide) (by decide) rfl (by decide) ?_) (fun hn3 => ?_)
  · refine Sm_aload_n E d_SqlReader_count_114 rfl 0 rfl ?_
    refine gfC_0_lists E fl_SqlReader_40 d_SqlReader_count_115 ?_
    refine Sm_iconst (v := 2) E d_SqlReader_count_118 (by decide) ?_
    refine Sm_cVi (As := [.int 2]) (b := (G.1 24)) (st := []) (n := 1) E exOk wC_as (fun _ h => cC_Lists_size 2 u h) gk_SqlReader_147 dk_Lists_size rfl ⟨rfl, rfl⟩ ⟨Nat.le_of_ble_eq_true rfl, Nat.le_of_ble_eq_true rfl⟩ (rvW (q0 := 24) (ci := 3) E rfl rfl rfl) rfl (Nat.le_of_ble_eq_true rfl) d_SqlReader_count_119 fun r4 _ => ?_
    exact Sm_reti hR d_SqlReader_count_122
  refine Sm_ite (fun hk => Sm_tableIn (tgt := 123) (k := 4) hk E d_SqlReader_count_1 (by decide) (by decide) rfl (by decide) ?_) (fun hn4 => ?_)
  · refine Sm_aload_n E d_SqlReader_count_123 rfl 0 rfl ?_
    refine gfC_0_lists E fl_SqlReader_40 d_SqlReader_count_124 ?_
    refine Sm_iconst (v := 3) E d_SqlReader_count_127 (by decide) ?_
    refine Sm_cVi (As := [.int 3]) (b := (G.1 24)) (st := []) (n := 1) E exOk wC_as (fun _ h => cC_Lists_size 3 u h) gk_SqlReader_147 dk_Lists_size rfl ⟨rfl, rfl⟩ ⟨Nat.le_of_ble_eq_true rfl, Nat.le_of_ble_eq_true rfl⟩ (rvW (q0 := 24) (ci := 3) E rfl rfl rfl) rfl (Nat.le_of_ble_eq_true rfl) d_SqlReader_count_128 fun r5 _ => ?_
    exact Sm_reti hR d_SqlReader_count_131
  refine Sm_ite (fun hk => Sm_tableIn (tgt := 132) (k := 5) hk E d_SqlReader_count_1 (by decide) (by decide) rfl (by decide) ?_) (fun hn5 => ?_)
  · refine Sm_aload_n E d_SqlReader_count_132 rfl 0 rfl ?_
    refine gfC_0_lists E fl_SqlReader_40 d_SqlReader_count_133 ?_
    refine Sm_iconst (v := 5) E d_SqlReader_count_136 (by decide) ?_
    refine Sm_cVi (As := [.int 5]) (b := (G.1 24)) (st := []) (n := 1) E exOk wC_as (fun _ h => cC_Lists_size 5 u h) gk_SqlReader_147 dk_Lists_size rfl ⟨rfl, rfl⟩ ⟨Nat.le_of_ble_eq_true rfl, Nat.le_of_ble_eq_true rfl⟩ (rvW (q0 := 24) (ci := 3) E rfl rfl rfl) rfl (Nat.le_of_ble_eq_true rfl) d_SqlReader_count_137 fun r6 _ => ?_
    exact Sm_reti hR d_SqlReader_count_140
  refine Sm_ite (fun hk => Sm_tableIn (tgt := 141) (k := 6) hk E d_SqlReader_count_1 (by decide) (by decide) rfl (by decide) ?_) (fun hn6 => ?_)
  · refine Sm_aload_n E d_SqlReader_count_141 rfl 0 rfl ?_
    refine gfC_0_lists E fl_SqlReader_40 d_SqlReader_count_142 ?_
    refine Sm_bipush (v := 12) E d_SqlReader_count_145 (by decide) ?_
    refine Sm_cVi (As := [.int 12]) (b := (G.1 24)) (st := []) (n := 1) E exOk wC_as (fun _ h => cC_Lists_size 12 u h) gk_SqlReader_147 dk_Lists_size rfl ⟨rfl, rfl⟩ ⟨Nat.le_of_ble_eq_true rfl, Nat.le_of_ble_eq_true rfl⟩ (rvW (q0 := 24) (ci := 3) E rfl rfl rfl) rfl (Nat.le_of_ble_eq_true rfl) d_SqlReader_count_147 fun r7 _ => ?_
    exact Sm_reti hR d_SqlReader_count_150
  refine Sm_ite (fun hk => Sm_tableIn (tgt := 151) (k := 7) hk E d_SqlReader_count_1 (by decide) (by decide) rfl (by decide) ?_) (fun hn7 => ?_)
  · refine Sm_aload_n E d_SqlReader_count_151 rfl 0 rfl ?_
    refine gfC_0_lists E fl_SqlReader_40 d_SqlReader_count_152 ?_
    refine Sm_bipush (v := 7) E d_SqlReader_count_155 (by decide) ?_
    refine Sm_cVi (As := [.int 7]) (b := (G.1 24)) (st := []) (n := 1) E exOk wC_as (fun _ h => cC_Lists_size 7 u h) gk_SqlReader_147 dk_Lists_size rfl ⟨rfl, rfl⟩ ⟨Nat.le_of_ble_eq_true rfl, Nat.le_of_ble_eq_true rfl⟩ (rvW (q0 := 24) (ci := 3) E rfl rfl rfl) rfl (Nat.le_of_ble_eq_true rfl) d_SqlReader_count_157 fun r8 _ => ?_
    exact Sm_reti hR d_SqlReader_count_160
  refine Sm_ite (fun hk => Sm_tableIn (tgt := 161) (k := 8) hk E d_SqlReader_count_1 (by decide) (by decide) rfl (by decide) ?_) (fun hn8 => ?_)
  · refine Sm_aload_n E d_SqlReader_count_161 rfl 0 rfl ?_
    refine gfC_0_lists E fl_SqlReader_40 d_SqlReader_count_162 ?_
    refine Sm_bipush (v := 8) E d_SqlReader_count_165 (by decide) ?_
    refine Sm_cVi (As := [.int 8]) (b := (G.1 24)) (st := []) (n := 1) E exOk wC_as (fun _ h => cC_Lists_size 8 u h) gk_SqlReader_147 dk_Lists_size rfl ⟨rfl, rfl⟩ ⟨Nat.le_of_ble_eq_true rfl, Nat.le_of_ble_eq_true rfl⟩ (rvW (q0 := 24) (ci := 3) E rfl rfl rfl) rfl (Nat.le_of_ble_eq_true rfl) d_SqlReader_count_167 fun r9 _ => ?_
    exact Sm_reti hR d_SqlReader_count_170
  refine Sm_ite (fun hk => Sm_tableIn (tgt := 171) (k := 9) hk E d_SqlReader_count_1 (by decide) (by decide) rfl (by decide) ?_) (fun hn9 => ?_)
  · refine Sm_aload_n E d_SqlReader_count_171 rfl 0 rfl ?_
    refine gfC_0_lists E fl_SqlReader_40 d_SqlReader_count_172 ?_
    refine Sm_bipush (v := 9) E d_SqlReader_count_175 (by decide) ?_
    refine Sm_cVi (As := [.int 9]) (b := (G.1 24)) (st := []) (n := 1) E exOk wC_as (fun _ h => cC_Lists_size 9 u h) gk_SqlReader_147 dk_Lists_size rfl ⟨rfl, rfl⟩ ⟨Nat.le_of_ble_eq_true rfl, Nat.le_of_ble_eq_true rfl⟩ (rvW (q0 := 24) (ci := 3) E rfl rfl rfl) rfl (Nat.le_of_ble_eq_true rfl) d_SqlReader_count_177 fun r10 _ => ?_
    exact Sm_reti hR d_SqlReader_count_180
  refine Sm_ite (fun hk => Sm_tableIn (tgt := 181) (k := 10) hk E d_SqlReader_count_1 (by decide) (by decide) rfl (by decide) ?_) (fun hn10 => ?_)
  · refine Sm_aload_n E d_SqlReader_count_181 rfl 0 rfl ?_
    refine gfC_0_statement E fl_SqlReader_47 d_SqlReader_count_182 ?_
    refine gfC_27_mode E fl_SqlReader_149 d_SqlReader_count_185 ?_
    exact Sm_reti hR d_SqlReader_count_188
  refine Sm_ite (fun hk => Sm_tableIn (tgt := 189) (k := 11) hk E d_SqlReader_count_1 (by decide) (by decide) rfl (by decide) ?_) (fun hn11 => ?_)
  · refine Sm_aload_n E d_SqlReader_count_189 rfl 0 rfl ?_
    refine gfC_0_statement E fl_SqlReader_47 d_SqlReader_count_190 ?_
    refine gfC_27_distinct E fl_SqlReader_152 d_SqlReader_count_193 ?_
    refine Sm_if_eq (tgt := 203) E d_SqlReader_count_196 (by decide) (fun _ => ?_) (fun _ => ?_)
    · refine Sm_iconst (v := 0) E d_SqlReader_count_203 (by decide) ?_
      exact Sm_reti hR d_SqlReader_count_204
    · refine Sm_iconst (v := 1) E d_SqlReader_count_199 (by decide) ?_
      refine Sm_goto (tgt := 204) E d_SqlReader_count_200 (by decide) ?_
      exact Sm_reti hR d_SqlReader_count_204
  refine Sm_ite (fun hk => Sm_tableIn (tgt := 205) (k := 12) hk E d_SqlReader_count_1 (by decide) (by decide) rfl (by decide) ?_) (fun hn12 => ?_)
  · refine Sm_aload_n E d_SqlReader_count_205 rfl 0 rfl ?_
    refine gfC_0_statement E fl_SqlReader_47 d_SqlReader_count_206 ?_
    refine gfC_27_limit E fl_SqlReader_156 d_SqlReader_count_209 ?_
    exact Sm_reti hR d_SqlReader_count_212
  refine Sm_ite (fun hk => Sm_tableIn (tgt := 213) (k := 13) hk E d_SqlReader_count_1 (by decide) (by decide) rfl (by decide) ?_) (fun hn13 => ?_)
  · refine Sm_aload_n E d_SqlReader_count_213 rfl 0 rfl ?_
    refine gfC_0_statement E fl_SqlReader_47 d_SqlReader_count_214 ?_
    refine gfC_27_where E fl_SqlReader_159 d_SqlReader_count_217 ?_
    exact Sm_reti hR d_SqlReader_count_220
  refine Sm_ite (fun hk => Sm_tableIn (tgt := 221) (k := 14) hk E d_SqlReader_count_1 (by decide) (by decide) rfl (by decide) ?_) (fun hn14 => ?_)
  · refine Sm_aload_n E d_SqlReader_count_221 rfl 0 rfl ?_
    refine gfC_0_statement E fl_SqlReader_47 d_SqlReader_count_222 ?_
    refine gfC_27_kind E fl_SqlReader_109 d_SqlReader_count_225 ?_
    refine Sm_bipush (v := 16) E d_SqlReader_count_228 (by decide) ?_
    refine Sm_icmp_ne (tgt := 243) E d_SqlReader_count_230 (by decide) (fun _ => ?_) (fun _ => ?_)
    · refine Sm_iconst (v := 0) E d_SqlReader_count_243 (by decide) ?_
      exact Sm_reti hR d_SqlReader_count_244
    · refine Sm_aload_n E d_SqlReader_count_233 rfl 0 rfl ?_
      refine gfC_0_statement E fl_SqlReader_47 d_SqlReader_count_234 ?_
      refine gfC_27_deed E fl_SqlReader_162 d_SqlReader_count_237 ?_
      refine Sm_goto (tgt := 244) E d_SqlReader_count_240 (by decide) ?_
      exact Sm_reti hR d_SqlReader_count_244
  refine Sm_ite (fun hk => Sm_tableIn (tgt := 245) (k := 15) hk E d_SqlReader_count_1 (by decide) (by decide) rfl (by decide) ?_) (fun hn15 => ?_)
  · refine Sm_aload_n E d_SqlReader_count_245 rfl 0 rfl ?_
    refine gfC_0_statement E fl_SqlReader_47 d_SqlReader_count_246 ?_
    refine gfC_27_table E fl_SqlReader_164 d_SqlReader_count_249 ?_
    exact Sm_reti hR d_SqlReader_count_252
  refine Sm_ite (fun hk => Sm_tableIn (tgt := 253) (k := 16) hk E d_SqlReader_count_1 (by decide) (by decide) rfl (by decide) ?_) (fun hn16 => ?_)
  · refine Sm_aload_n E d_SqlReader_count_253 rfl 0 rfl ?_
    refine gfC_0_statement E fl_SqlReader_47 d_SqlReader_count_254 ?_
    refine gfC_27_column E fl_SqlReader_167 d_SqlReader_count_257 ?_
    exact Sm_reti hR d_SqlReader_count_260
  refine Sm_ite (fun hk => Sm_tableIn (tgt := 261) (k := 17) hk E d_SqlReader_count_1 (by decide) (by decide) rfl (by decide) ?_) (fun hn17 => ?_)
  · refine Sm_aload_n E d_SqlReader_count_261 rfl 0 rfl ?_
    refine gfC_0_statement E fl_SqlReader_47 d_SqlReader_count_262 ?_
    refine gfC_27_unique E fl_SqlReader_170 d_SqlReader_count_265 ?_
    refine Sm_if_eq (tgt := 275) E d_SqlReader_count_268 (by decide) (fun _ => ?_) (fun _ => ?_)
    · refine Sm_iconst (v := 0) E d_SqlReader_count_275 (by decide) ?_
      exact Sm_reti hR d_SqlReader_count_276
    · refine Sm_iconst (v := 1) E d_SqlReader_count_271 (by decide) ?_
      refine Sm_goto (tgt := 276) E d_SqlReader_count_272 (by decide) ?_
      exact Sm_reti hR d_SqlReader_count_276
  refine Sm_tableOut (tgt := 277) E d_SqlReader_count_1 (by have := lv_neT hn0 (a := 0) (by decide); have := lv_neT hn1 (a := 1) (by decide); have := lv_neT hn2 (a := 2) (by decide); have := lv_neT hn3 (a := 3) (by decide); have := lv_neT hn4 (a := 4) (by decide); have := lv_neT hn5 (a := 5) (by decide); have := lv_neT hn6 (a := 6) (by decide); have := lv_neT hn7 (a := 7) (by decide); have := lv_neT hn8 (a := 8) (by decide); have := lv_neT hn9 (a := 9) (by decide); have := lv_neT hn10 (a := 10) (by decide); have := lv_neT hn11 (a := 11) (by decide); have := lv_neT hn12 (a := 12) (by decide); have := lv_neT hn13 (a := 13) (by decide); have := lv_neT hn14 (a := 14) (by decide); have := lv_neT hn15 (a := 15) (by decide); have := lv_neT hn16 (a := 16) (by decide); have := lv_neT hn17 (a := 17) (by decide); omega) (by decide) ?_
  refine Sm_iconst (v := (-1)) E d_SqlReader_count_277 (by decide) ?_
  exact Sm_reti hR d_SqlReader_count_278
set_option maxRecDepth 100000 in
set_option maxHeartbeats 4000000 in
theorem cC_SqlReader_list {l : Launch} {D : va_G} {G : Gx} (x1 : Int32) (x2 : Int32) (u : St) {res : Int32} (hm : mC_SqlReader_list x1 x2 u = some res) : KC l D G y_SqlReader_list (.code y_SqlReader_list prog_1_method_10_code 3 (some .int)) { frames := 1, cells := 0, slots := 0, locals := 23 } [.ref (G.1 0), .int x1, .int x2] u (qI D vwCl (wC G) (tyW G) (adsC G) (res, u)) := by
  refine Ct_i (by decide) wC_as (Nat.le_of_ble_eq_true rfl) hm (fun X _ _ E hR => ?_)
  refine Sm_lvs (lv' := [(0, .ref (G.1 0)), (1, .int x1), (2, .int x2)]) rfl ?_
  rw [mC_SqlReader_list]
  refine Sm_iload_n E d_SqlReader_list_0 rfl 1 rfl ?_
  refine Sm_bipush (v := 9) E d_SqlReader_list_1 (by decide) ?_
  refine Sm_icmp_gt (tgt := 18) E d_SqlReader_list_3 (by decide) (fun _ => ?_) (fun _ => ?_)
  · refine Sm_iconst (v := (-1)) E d_SqlReader_list_18 (by decide) ?_
    exact Sm_reti hR d_SqlReader_list_19
  · refine Sm_aload_n E d_SqlReader_list_6 rfl 0 rfl ?_
    refine gfC_0_lists E fl_SqlReader_40 d_SqlReader_list_7 ?_
    refine Sm_iload_n E d_SqlReader_list_10 rfl 1 rfl ?_
    refine Sm_iload_n E d_SqlReader_list_11 rfl 2 rfl ?_
    refine Sm_cVi (As := [.int x1, .int x2]) (b := (G.1 24)) (st := []) (n := 2) E exOk wC_as (fun _ h => cC_Lists_at x1 x2 u h) gk_SqlReader_173 dk_Lists_at rfl ⟨rfl, rfl⟩ ⟨Nat.le_of_ble_eq_true rfl, Nat.le_of_ble_eq_true rfl⟩ (rvW (q0 := 24) (ci := 3) E rfl rfl rfl) rfl (Nat.le_of_ble_eq_true rfl) d_SqlReader_list_12 fun r1 _ => ?_
    refine Sm_goto (tgt := 19) E d_SqlReader_list_15 (by decide) ?_
    exact Sm_reti hR d_SqlReader_list_19
set_option maxRecDepth 100000 in
set_option maxHeartbeats 4000000 in
theorem tC_SqlReader_name_J40 {X : Cx} {G : Gx} {res : Int32} {u : St} (E : EC X G prog_1_method_11_code R_SqlReader 4 { frames := 2, cells := 0, slots := 0, locals := 43 }) (hR : RtI X vwCl (wC G) prog_1_method_11_code (res, u)) : ∀ (x1 : Int32) (x2 : Int32) (s0 : Int32) , SC X G 4 res (mC_SqlReader_name_J40 x1 x2 s0 u) u 40 [(0, .ref (G.1 0)), (1, .int x1), (2, .int x2)] [.int s0] := by
  intro x1 x2 s0
  rw [mC_SqlReader_name_J40]
  refine Sm_istore_n (lv' := [(3, .int s0), (0, .ref (G.1 0)), (1, .int x1), (2, .int x2)]) E d_SqlReader_name_40 rfl (by decide) rfl ?_
  refine Sm_iload_n E d_SqlReader_name_41 rfl 0 rfl ?_
  refine Sm_if_eq (tgt := 69) E d_SqlReader_name_42 (by decide) (fun _ => ?_) (fun _ => ?_)
  · refine Sm_iconst (v := (-1)) E d_SqlReader_name_69 (by decide) ?_
    exact Sm_reti hR d_SqlReader_name_70
  · refine Sm_aload_n E d_SqlReader_name_45 rfl 1 rfl ?_
    refine gfC_0_tokens E fl_SqlReader_26 d_SqlReader_name_46 ?_
    refine Sm_cVa (As := []) (b := (G.1 10)) (st := []) (n := 0) E exOk wC_as (fun h => cC_Tokens_text u h) gk_SqlReader_136 dk_Tokens_text rfl ⟨rfl, rfl⟩ ⟨Nat.le_of_ble_eq_true rfl, Nat.le_of_ble_eq_true rfl⟩ (rvW (q0 := 10) (ci := 9) E rfl rfl rfl) rfl (Nat.le_of_ble_eq_true rfl) d_SqlReader_name_49 fun _ _ => ?_
    refine Sm_aload_n E d_SqlReader_name_52 rfl 1 rfl ?_
    refine gfC_0_lists E fl_SqlReader_40 d_SqlReader_name_53 ?_
    refine Sm_bipush (v := 13) E d_SqlReader_name_56 (by decide) ?_
    refine Sm_iload_n E d_SqlReader_name_58 rfl 2 rfl ?_
    refine Sm_cVi (As := [.int 13, .int x1]) (b := (G.1 24)) (st := [.ref (G.1 11)]) (n := 2) E exOk wC_as (fun _ h => cC_Lists_at 13 x1 u h) gk_SqlReader_173 dk_Lists_at rfl ⟨rfl, rfl⟩ ⟨Nat.le_of_ble_eq_true rfl, Nat.le_of_ble_eq_true rfl⟩ (rvW (q0 := 24) (ci := 3) E rfl rfl rfl) rfl (Nat.le_of_ble_eq_true rfl) d_SqlReader_name_59 fun r1 _ => ?_
    refine Sm_iload_n E d_SqlReader_name_62 rfl 3 rfl ?_
    refine Sm_cVi (As := [.int r1, .int x2]) (b := (G.1 11)) (st := []) (n := 2) E exOk wC_as (fun _ h => cC_Text_letterAt r1 x2 u h) gk_SqlReader_140 dk_Text_letterAt rfl ⟨rfl, rfl⟩ ⟨Nat.le_of_ble_eq_true rfl, Nat.le_of_ble_eq_true rfl⟩ (rvW (q0 := 11) (ci := 8) E rfl rfl rfl) rfl (Nat.le_of_ble_eq_true rfl) d_SqlReader_name_63 fun r2 _ => ?_
    refine Sm_goto (tgt := 70) E d_SqlReader_name_66 (by decide) ?_
    exact Sm_reti hR d_SqlReader_name_70
set_option maxRecDepth 100000 in
set_option maxHeartbeats 4000000 in
theorem cC_SqlReader_name {l : Launch} {D : va_G} {G : Gx} (x1 : Int32) (x2 : Int32) (u : St) {res : Int32} (hm : mC_SqlReader_name x1 x2 u = some res) : KC l D G y_SqlReader_name (.code y_SqlReader_name prog_1_method_11_code 4 (some .int)) { frames := 2, cells := 0, slots := 0, locals := 43 } [.ref (G.1 0), .int x1, .int x2] u (qI D vwCl (wC G) (tyW G) (adsC G) (res, u)) := by
  refine Ct_i (by decide) wC_as (Nat.le_of_ble_eq_true rfl) hm (fun X _ _ E hR => ?_)
  refine Sm_lvs (lv' := [(0, .ref (G.1 0)), (1, .int x1), (2, .int x2)]) rfl ?_
  rw [mC_SqlReader_name]
  refine Sm_iload_n E d_SqlReader_name_0 rfl 1 rfl ?_
  refine Sm_iconst (v := (-1)) E d_SqlReader_name_1 (by decide) ?_
  refine Sm_icmp_ne (tgt := 24) E d_SqlReader_name_2 (by decide) (fun _ => ?_) (fun _ => ?_)
  · refine Sm_aload_n E d_SqlReader_name_24 rfl 0 rfl ?_
    refine gfC_0_statement E fl_SqlReader_47 d_SqlReader_name_25 ?_
    refine gfC_27_kind E fl_SqlReader_109 d_SqlReader_name_28 ?_
    refine Sm_iconst (v := 1) E d_SqlReader_name_31 (by decide) ?_
    refine Sm_icmp_ne (tgt := 39) E d_SqlReader_name_32 (by decide) (fun _ => ?_) (fun _ => ?_)
    · refine Sm_iconst (v := 0) E d_SqlReader_name_39 (by decide) ?_
      exact Sm_sub [0, 1, 2] rfl (tC_SqlReader_name_J40 E hR _ _ _)
    · refine Sm_iconst (v := 1) E d_SqlReader_name_35 (by decide) ?_
      refine Sm_goto (tgt := 40) E d_SqlReader_name_36 (by decide) ?_
      exact Sm_sub [0, 1, 2] rfl (tC_SqlReader_name_J40 E hR _ _ _)
  · refine Sm_aload_n E d_SqlReader_name_5 rfl 0 rfl ?_
    refine gfC_0_tokens E fl_SqlReader_26 d_SqlReader_name_6 ?_
    refine Sm_cVa (As := []) (b := (G.1 10)) (st := []) (n := 0) E exOk wC_as (fun h => cC_Tokens_text u h) gk_SqlReader_136 dk_Tokens_text rfl ⟨rfl, rfl⟩ ⟨Nat.le_of_ble_eq_true rfl, Nat.le_of_ble_eq_true rfl⟩ (rvW (q0 := 10) (ci := 9) E rfl rfl rfl) rfl (Nat.le_of_ble_eq_true rfl) d_SqlReader_name_9 fun _ _ => ?_
    refine Sm_aload_n E d_SqlReader_name_12 rfl 0 rfl ?_
    refine gfC_0_statement E fl_SqlReader_47 d_SqlReader_name_13 ?_
    refine gfC_27_title E fl_SqlReader_176 d_SqlReader_name_16 ?_
    refine Sm_iload_n E d_SqlReader_name_19 rfl 2 rfl ?_
    refine Sm_cVi (As := [.int (u.1 11), .int x2]) (b := (G.1 11)) (st := []) (n := 2) E exOk wC_as (fun _ h => cC_Text_letterAt (u.1 11) x2 u h) gk_SqlReader_140 dk_Text_letterAt rfl ⟨rfl, rfl⟩ ⟨Nat.le_of_ble_eq_true rfl, Nat.le_of_ble_eq_true rfl⟩ (rvW (q0 := 11) (ci := 8) E rfl rfl rfl) rfl (Nat.le_of_ble_eq_true rfl) d_SqlReader_name_20 fun r3 _ => ?_
    exact Sm_reti hR d_SqlReader_name_23
