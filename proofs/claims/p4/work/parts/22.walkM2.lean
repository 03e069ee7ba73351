set_option maxRecDepth 100000 in
set_option maxHeartbeats 4000000 in
theorem cM_SqlReaderModel_reach {l : Launch} {D : va_G} {G : Gx} (u : St) {res : Int32} (hm : mM_SqlReaderModel_reach u = some res) : KM l D G y_SqlReaderModel_reach (.code y_SqlReaderModel_reach prog_11_method_45_code 4 (some .int)) { frames := 6, cells := 0, slots := 0, locals := 130 } [.ref (G.1 100)] u (qI D vwCl (wM G) (tyW G) (adsM G) (res, u)) := by
  refine Ct_i (by decide) wM_as (Nat.le_of_ble_eq_true rfl) hm (fun X _ _ E hR => ?_)
  refine Sm_lvs (lv' := [(0, .ref (G.1 100))]) rfl ?_
  rw [mM_SqlReaderModel_reach]
  refine Sm_iconst (v := 0) E d_SqlReaderModel_reach_0 (by decide) ?_
  refine Sm_istore_n (lv' := [(1, .int 0), (0, .ref (G.1 100))]) E d_SqlReaderModel_reach_1 rfl (by decide) rfl ?_
  refine Sm_aload_n E d_SqlReaderModel_reach_2 rfl 1 rfl ?_
  refine gfM_0_place E fl_SqlReaderModel_419 d_SqlReaderModel_reach_3 ?_
  refine Sm_leti fun y1 _ => ?_
  refine Sm_istore_n (lv' := [(2, .int y1), (1, .int 0), (0, .ref (G.1 100))]) E d_SqlReaderModel_reach_6 rfl (by decide) rfl ?_
  exact Sm_sub [2, 1, 0] rfl (tM_SqlReaderModel_reach_L7 E hR FU _ _)
set_option maxRecDepth 100000 in
set_option maxHeartbeats 4000000 in
theorem cM_SqlReaderModel_note {l : Launch} {D : va_G} {G : Gx} (x1 : Int32) (x2 : Int32) (x3 : Int32) (u : St) {res : St} (hm : mM_SqlReaderModel_note x1 x2 x3 u = some res) : KM l D G y_SqlReaderModel_note (.code y_SqlReaderModel_note prog_11_method_23_code 4 none) { frames := 0, cells := 0, slots := 0, locals := 0 } [.ref (G.1 100), .int x1, .int x2, .int x3] u (qV D vwCl (wM G) (tyW G) (adsM G) res) := by
  refine Ct_V (by decide) wM_as (Nat.le_of_ble_eq_true rfl) hm (fun X _ _ E hR => ?_)
  refine Sm_lvs (lv' := [(0, .ref (G.1 100)), (1, .int x1), (2, .int x2), (3, .int x3)]) rfl ?_
  rw [mM_SqlReaderModel_note]
  refine Sm_aload_n E d_SqlReaderModel_note_0 rfl 0 rfl ?_
  refine gfM_0_checks E fl_SqlReaderModel_137 d_SqlReaderModel_note_1 ?_
  refine Sm_sipush (v := 1200) E d_SqlReaderModel_note_4 (by decide) ?_
  refine Sm_icmp_ge (tgt := 50) E d_SqlReaderModel_note_7 (by decide) (fun _ => ?_) (fun _ => ?_)
  · exact Sm_retV hR d_SqlReaderModel_note_50
  · refine Sm_aload_n E d_SqlReaderModel_note_10 rfl 0 rfl ?_
    refine gfM_0_check E fl_SqlReaderModel_69 d_SqlReaderModel_note_11 ?_
    refine Sm_aload_n E d_SqlReaderModel_note_14 rfl 0 rfl ?_
    refine gfM_0_checks E fl_SqlReaderModel_137 d_SqlReaderModel_note_15 ?_
    refine Sm_iload_n E d_SqlReaderModel_note_18 rfl 1 rfl ?_
    refine Sm_gd fun hi => stM_20 E (inb_in hi) d_SqlReaderModel_note_19 fun u1 _ => ?_
    refine Sm_aload_n E d_SqlReaderModel_note_20 rfl 0 rfl ?_
    refine gfM_0_first E fl_SqlReaderModel_72 d_SqlReaderModel_note_21 ?_
    refine Sm_aload_n E d_SqlReaderModel_note_24 rfl 0 rfl ?_
    refine gfM_0_checks E fl_SqlReaderModel_137 d_SqlReaderModel_note_25 ?_
    refine Sm_iload_n E d_SqlReaderModel_note_28 rfl 2 rfl ?_
    refine Sm_gd fun hi => stM_21 E (inb_in hi) d_SqlReaderModel_note_29 fun u2 _ => ?_
    refine Sm_aload_n E d_SqlReaderModel_note_30 rfl 0 rfl ?_
    refine gfM_0_second E fl_SqlReaderModel_75 d_SqlReaderModel_note_31 ?_
    refine Sm_aload_n E d_SqlReaderModel_note_34 rfl 0 rfl ?_
    refine gfM_0_checks E fl_SqlReaderModel_137 d_SqlReaderModel_note_35 ?_
    refine Sm_iload_n E d_SqlReaderModel_note_38 rfl 3 rfl ?_
    refine Sm_gd fun hi => stM_22 E (inb_in hi) d_SqlReaderModel_note_39 fun u3 _ => ?_
    refine Sm_aload_n E d_SqlReaderModel_note_40 rfl 0 rfl ?_
    refine Sm_dup E d_SqlReaderModel_note_41 rfl ?_
    refine gfM_0_checks E fl_SqlReaderModel_137 d_SqlReaderModel_note_42 ?_
    refine Sm_iconst (v := 1) E d_SqlReaderModel_note_45 (by decide) ?_
    refine Sm_iadd E d_SqlReaderModel_note_46 ?_
    refine pfM_0_checks E fl_SqlReaderModel_137 d_SqlReaderModel_note_47 fun u4 _ => ?_
    exact Sm_retV hR d_SqlReaderModel_note_50
set_option maxRecDepth 100000 in
set_option maxHeartbeats 4000000 in
theorem tM_SqlReaderModel_add_J60 {X : Cx} {G : Gx} {res : Int32 × St} (E : EM X G prog_11_method_24_code R_SqlReaderModel 4 { frames := 1, cells := 0, slots := 0, locals := 23 }) (hR : RtI X vwCl (wM G) prog_11_method_24_code res) : ∀ (u : St), SM X G 4 res (mM_SqlReaderModel_add_J60 u) u 60 [(0, .ref (G.1 100))] [] := by
  intro u
  rw [mM_SqlReaderModel_add_J60]
  refine Sm_aload_n E d_SqlReaderModel_add_60 rfl 0 rfl ?_
  refine Sm_dup E d_SqlReaderModel_add_61 rfl ?_
  refine gfM_0_nodes E fl_SqlReaderModel_133 d_SqlReaderModel_add_62 ?_
  refine Sm_iconst (v := 1) E d_SqlReaderModel_add_65 (by decide) ?_
  refine Sm_iadd E d_SqlReaderModel_add_66 ?_
  refine pfM_0_nodes E fl_SqlReaderModel_133 d_SqlReaderModel_add_67 fun u1 _ => ?_
  refine Sm_aload_n E d_SqlReaderModel_add_70 rfl 0 rfl ?_
  refine gfM_0_nodes E fl_SqlReaderModel_133 d_SqlReaderModel_add_71 ?_
  refine Sm_iconst (v := 1) E d_SqlReaderModel_add_74 (by decide) ?_
  refine Sm_isub E d_SqlReaderModel_add_75 ?_
  exact Sm_retI hR d_SqlReaderModel_add_76
set_option maxRecDepth 100000 in
set_option maxHeartbeats 4000000 in
theorem cM_SqlReaderModel_add {l : Launch} {D : va_G} {G : Gx} (x1 : Int32) (x2 : Int32) (x3 : Int32) (u : St) {res : Int32 × St} (hm : mM_SqlReaderModel_add x1 x2 x3 u = some res) : KM l D G y_SqlReaderModel_add (.code y_SqlReaderModel_add prog_11_method_24_code 4 (some .int)) { frames := 1, cells := 0, slots := 0, locals := 23 } [.ref (G.1 100), .int x1, .int x2, .int x3] u (qI D vwCl (wM G) (tyW G) (adsM G) res) := by
  refine Ct_I (by decide) wM_as (Nat.le_of_ble_eq_true rfl) hm (fun X _ _ E hR => ?_)
  refine Sm_lvs (lv' := [(0, .ref (G.1 100)), (1, .int x1), (2, .int x2), (3, .int x3)]) rfl ?_
  rw [mM_SqlReaderModel_add]
  refine Sm_aload_n E d_SqlReaderModel_add_0 rfl 0 rfl ?_
  refine gfM_0_nodes E fl_SqlReaderModel_133 d_SqlReaderModel_add_1 ?_
  refine Sm_sipush (v := 200) E d_SqlReaderModel_add_4 (by decide) ?_
  refine Sm_icmp_ge (tgt := 60) E d_SqlReaderModel_add_7 (by decide) (fun _ => ?_) (fun _ => ?_)
  · exact Sm_sub [0] rfl (tM_SqlReaderModel_add_J60 E hR _)
  · refine Sm_aload_n E d_SqlReaderModel_add_10 rfl 0 rfl ?_
    refine gfM_0_kind E fl_SqlReaderModel_41 d_SqlReaderModel_add_11 ?_
    refine Sm_aload_n E d_SqlReaderModel_add_14 rfl 0 rfl ?_
    refine gfM_0_nodes E fl_SqlReaderModel_133 d_SqlReaderModel_add_15 ?_
    refine Sm_iload_n E d_SqlReaderModel_add_18 rfl 1 rfl ?_
    refine Sm_gd fun hi => stM_11 E (inb_in hi) d_SqlReaderModel_add_19 fun u2 _ => ?_
    refine Sm_aload_n E d_SqlReaderModel_add_20 rfl 0 rfl ?_
    refine gfM_0_left E fl_SqlReaderModel_44 d_SqlReaderModel_add_21 ?_
    refine Sm_aload_n E d_SqlReaderModel_add_24 rfl 0 rfl ?_
    refine gfM_0_nodes E fl_SqlReaderModel_133 d_SqlReaderModel_add_25 ?_
    refine Sm_iload_n E d_SqlReaderModel_add_28 rfl 2 rfl ?_
    refine Sm_gd fun hi => stM_12 E (inb_in hi) d_SqlReaderModel_add_29 fun u3 _ => ?_
    refine Sm_aload_n E d_SqlReaderModel_add_30 rfl 0 rfl ?_
    refine gfM_0_right E fl_SqlReaderModel_47 d_SqlReaderModel_add_31 ?_
    refine Sm_aload_n E d_SqlReaderModel_add_34 rfl 0 rfl ?_
    refine gfM_0_nodes E fl_SqlReaderModel_133 d_SqlReaderModel_add_35 ?_
    refine Sm_iload_n E d_SqlReaderModel_add_38 rfl 3 rfl ?_
    refine Sm_gd fun hi => stM_13 E (inb_in hi) d_SqlReaderModel_add_39 fun u4 _ => ?_
    refine Sm_aload_n E d_SqlReaderModel_add_40 rfl 0 rfl ?_
    refine gfM_0_type E fl_SqlReaderModel_50 d_SqlReaderModel_add_41 ?_
    refine Sm_aload_n E d_SqlReaderModel_add_44 rfl 0 rfl ?_
    refine gfM_0_nodes E fl_SqlReaderModel_133 d_SqlReaderModel_add_45 ?_
    refine Sm_iconst (v := 0) E d_SqlReaderModel_add_48 (by decide) ?_
    refine Sm_gd fun hi => stM_14 E (inb_in hi) d_SqlReaderModel_add_49 fun u5 _ => ?_
    refine Sm_aload_n E d_SqlReaderModel_add_50 rfl 0 rfl ?_
    refine Sm_iconst (v := 1) E d_SqlReaderModel_add_51 (by decide) ?_
    refine Sm_aload_n E d_SqlReaderModel_add_52 rfl 0 rfl ?_
    refine gfM_0_nodes E fl_SqlReaderModel_133 d_SqlReaderModel_add_53 ?_
    refine Sm_iconst (v := 0) E d_SqlReaderModel_add_56 (by decide) ?_
    refine Sm_cVV (As := [.int 1, .int (u5.1 4), .int 0]) (b := (G.1 100)) (st := []) (n := 3) E exOk wM_as (fun _ h => cM_SqlReaderModel_note 1 (u5.1 4) 0 u5 h) gk_SqlReaderModel_283 dk_SqlReaderModel_note rfl ⟨rfl, rfl⟩ ⟨Nat.le_of_ble_eq_true rfl, Nat.le_of_ble_eq_true rfl⟩ (rvW (q0 := 0) (ci := 1) E rfl rfl rfl) rfl (Nat.le_of_ble_eq_true rfl) d_SqlReaderModel_add_57 fun u6 _ => ?_
    exact Sm_sub [0] rfl (tM_SqlReaderModel_add_J60 E hR _)
set_option maxRecDepth 100000 in
set_option maxHeartbeats 4000000 in
theorem cM_SqlReaderModel_compares {l : Launch} {D : va_G} {G : Gx} (x1 : Int32) (u : St) {res : Int32} (hm : mM_SqlReaderModel_compares x1 u = some res) : KM l D G y_SqlReaderModel_compares (.code y_SqlReaderModel_compares prog_11_method_32_code 2 (some .int)) { frames := 5, cells := 0, slots := 0, locals := 109 } [.ref (G.1 100), .int x1] u (qI D vwCl (wM G) (tyW G) (adsM G) (res, u)) := by
  refine Ct_i (by decide) wM_as (Nat.le_of_ble_eq_true rfl) hm (fun X _ _ E hR => ?_)
  refine Sm_lvs (lv' := [(0, .ref (G.1 100)), (1, .int x1)]) rfl ?_
  rw [mM_SqlReaderModel_compares]
  refine Sm_aload_n E d_SqlReaderModel_compares_0 rfl 0 rfl ?_
  refine Sm_iload_n E d_SqlReaderModel_compares_1 rfl 1 rfl ?_
  refine Sm_ldcS_w E sr_SqlReaderModel_352 d_SqlReaderModel_compares_2 ?_
  refine Sm_cVi (As := [.int x1, .ref (G.2.2.1 91)]) (b := (G.1 100)) (st := []) (n := 2) E exOk wM_as (fun _ h => cM_SqlReaderModel_is x1 91 u h) gk_SqlReaderModel_293 dk_SqlReaderModel_is rfl ⟨rfl, rfl⟩ ⟨Nat.le_of_ble_eq_true rfl, Nat.le_of_ble_eq_true rfl⟩ (rvW (q0 := 0) (ci := 1) E rfl rfl rfl) rfl (Nat.le_of_ble_eq_true rfl) d_SqlReaderModel_compares_5 fun r1 _ => ?_
  refine Sm_if_eq (tgt := 16) E d_SqlReaderModel_compares_8 (by decide) (fun _ => ?_) (fun _ => ?_)
  · refine Sm_aload_n E d_SqlReaderModel_compares_16 rfl 0 rfl ?_
    refine Sm_iload_n E d_SqlReaderModel_compares_17 rfl 1 rfl ?_
    refine Sm_ldcS_w E sr_SqlReaderModel_354 d_SqlReaderModel_compares_18 ?_
    refine Sm_cVi (As := [.int x1, .ref (G.2.2.1 92)]) (b := (G.1 100)) (st := []) (n := 2) E exOk wM_as (fun _ h => cM_SqlReaderModel_is x1 92 u h) gk_SqlReaderModel_293 dk_SqlReaderModel_is rfl ⟨rfl, rfl⟩ ⟨Nat.le_of_ble_eq_true rfl, Nat.le_of_ble_eq_true rfl⟩ (rvW (q0 := 0) (ci := 1) E rfl rfl rfl) rfl (Nat.le_of_ble_eq_true rfl) d_SqlReaderModel_compares_21 fun r2 _ => ?_
    refine Sm_if_eq (tgt := 32) E d_SqlReaderModel_compares_24 (by decide) (fun _ => ?_) (fun _ => ?_)
    · refine Sm_aload_n E d_SqlReaderModel_compares_32 rfl 0 rfl ?_
      refine Sm_iload_n E d_SqlReaderModel_compares_33 rfl 1 rfl ?_
      refine Sm_ldcS_w E sr_SqlReaderModel_356 d_SqlReaderModel_compares_34 ?_
      refine Sm_cVi (As := [.int x1, .ref (G.2.2.1 93)]) (b := (G.1 100)) (st := []) (n := 2) E exOk wM_as (fun _ h => cM_SqlReaderModel_is x1 93 u h) gk_SqlReaderModel_293 dk_SqlReaderModel_is rfl ⟨rfl, rfl⟩ ⟨Nat.le_of_ble_eq_true rfl, Nat.le_of_ble_eq_true rfl⟩ (rvW (q0 := 0) (ci := 1) E rfl rfl rfl) rfl (Nat.le_of_ble_eq_true rfl) d_SqlReaderModel_compares_37 fun r3 _ => ?_
      refine Sm_if_eq (tgt := 48) E d_SqlReaderModel_compares_40 (by decide) (fun _ => ?_) (fun _ => ?_)
      · refine Sm_aload_n E d_SqlReaderModel_compares_48 rfl 0 rfl ?_
        refine Sm_iload_n E d_SqlReaderModel_compares_49 rfl 1 rfl ?_
        refine Sm_ldcS_w E sr_SqlReaderModel_358 d_SqlReaderModel_compares_50 ?_
        refine Sm_cVi (As := [.int x1, .ref (G.2.2.1 94)]) (b := (G.1 100)) (st := []) (n := 2) E exOk wM_as (fun _ h => cM_SqlReaderModel_is x1 94 u h) gk_SqlReaderModel_293 dk_SqlReaderModel_is rfl ⟨rfl, rfl⟩ ⟨Nat.le_of_ble_eq_true rfl, Nat.le_of_ble_eq_true rfl⟩ (rvW (q0 := 0) (ci := 1) E rfl rfl rfl) rfl (Nat.le_of_ble_eq_true rfl) d_SqlReaderModel_compares_53 fun r4 _ => ?_
        refine Sm_if_eq (tgt := 64) E d_SqlReaderModel_compares_56 (by decide) (fun _ => ?_) (fun _ => ?_)
        · refine Sm_aload_n E d_SqlReaderModel_compares_64 rfl 0 rfl ?_
          refine Sm_iload_n E d_SqlReaderModel_compares_65 rfl 1 rfl ?_
          refine Sm_ldcS_w E sr_SqlReaderModel_360 d_SqlReaderModel_compares_66 ?_
          refine Sm_cVi (As := [.int x1, .ref (G.2.2.1 95)]) (b := (G.1 100)) (st := []) (n := 2) E exOk wM_as (fun _ h => cM_SqlReaderModel_is x1 95 u h) gk_SqlReaderModel_293 dk_SqlReaderModel_is rfl ⟨rfl, rfl⟩ ⟨Nat.le_of_ble_eq_true rfl, Nat.le_of_ble_eq_true rfl⟩ (rvW (q0 := 0) (ci := 1) E rfl rfl rfl) rfl (Nat.le_of_ble_eq_true rfl) d_SqlReaderModel_compares_69 fun r5 _ => ?_
          refine Sm_if_eq (tgt := 80) E d_SqlReaderModel_compares_72 (by decide) (fun _ => ?_) (fun _ => ?_)
          · refine Sm_aload_n E d_SqlReaderModel_compares_80 rfl 0 rfl ?_
            refine Sm_iload_n E d_SqlReaderModel_compares_81 rfl 1 rfl ?_
            refine Sm_ldcS_w E sr_SqlReaderModel_362 d_SqlReaderModel_compares_82 ?_
            refine Sm_cVi (As := [.int x1, .ref (G.2.2.1 96)]) (b := (G.1 100)) (st := []) (n := 2) E exOk wM_as (fun _ h => cM_SqlReaderModel_is x1 96 u h) gk_SqlReaderModel_293 dk_SqlReaderModel_is rfl ⟨rfl, rfl⟩ ⟨Nat.le_of_ble_eq_true rfl, Nat.le_of_ble_eq_true rfl⟩ (rvW (q0 := 0) (ci := 1) E rfl rfl rfl) rfl (Nat.le_of_ble_eq_true rfl) d_SqlReaderModel_compares_85 fun r6 _ => ?_
            refine Sm_if_eq (tgt := 96) E d_SqlReaderModel_compares_88 (by decide) (fun _ => ?_) (fun _ => ?_)
            · refine Sm_iconst (v := 0) E d_SqlReaderModel_compares_96 (by decide) ?_
              exact Sm_reti hR d_SqlReaderModel_compares_97
            · refine Sm_bipush (v := 22) E d_SqlReaderModel_compares_91 (by decide) ?_
              refine Sm_goto (tgt := 97) E d_SqlReaderModel_compares_93 (by decide) ?_
              exact Sm_reti hR d_SqlReaderModel_compares_97
          · refine Sm_bipush (v := 21) E d_SqlReaderModel_compares_75 (by decide) ?_
            refine Sm_goto (tgt := 97) E d_SqlReaderModel_compares_77 (by decide) ?_
            exact Sm_reti hR d_SqlReaderModel_compares_97
        · refine Sm_bipush (v := 20) E d_SqlReaderModel_compares_59 (by decide) ?_
          refine Sm_goto (tgt := 97) E d_SqlReaderModel_compares_61 (by decide) ?_
          exact Sm_reti hR d_SqlReaderModel_compares_97
      · refine Sm_bipush (v := 19) E d_SqlReaderModel_compares_43 (by decide) ?_
        refine Sm_goto (tgt := 97) E d_SqlReaderModel_compares_45 (by decide) ?_
        exact Sm_reti hR d_SqlReaderModel_compares_97
    · refine Sm_bipush (v := 18) E d_SqlReaderModel_compares_27 (by decide) ?_
      refine Sm_goto (tgt := 97) E d_SqlReaderModel_compares_29 (by decide) ?_
      exact Sm_reti hR d_SqlReaderModel_compares_97
  · refine Sm_bipush (v := 17) E d_SqlReaderModel_compares_11 (by decide) ?_
    refine Sm_goto (tgt := 97) E d_SqlReaderModel_compares_13 (by decide) ?_
    exact Sm_reti hR d_SqlReaderModel_compares_97
set_option maxRecDepth 100000 in
set_option maxHeartbeats 4000000 in
theorem tM_SqlReaderModel_firstComparison_J73 {X : Cx} {G : Gx} {res : Int32} {u : St} (E : EM X G prog_11_method_33_code R_SqlReaderModel 6 { frames := 6, cells := 0, slots := 0, locals := 130 }) (hR : RtI X vwCl (wM G) prog_11_method_33_code (res, u)) {q5 : Int32 → Int32 → Int32 → St → Option (Int32)} (h5 : ∀ (x2 : Int32) (x3 : Int32) (x4 : Int32) , SM X G 6 res (q5 x2 x3 x4 u) u 5 [(0, .ref (G.1 100)), (2, .int x2), (3, .int x3), (4, .int x4)] []) : ∀ (x2 : Int32) (x3 : Int32) (x4 : Int32) (s0 : Int32) , SM X G 6 res (mM_SqlReaderModel_firstComparison_J73 q5 x2 x3 x4 s0 u) u 73 [(0, .ref (G.1 100)), (2, .int x2), (3, .int x3), (4, .int x4)] [.int s0] := by
  intro x2 x3 x4 s0
  rw [mM_SqlReaderModel_firstComparison_J73]
  refine Sm_istore (lv' := [(5, .int s0), (0, .ref (G.1 100)), (2, .int x2), (3, .int x3), (4, .int x4)]) E d_SqlReaderModel_firstComparison_73 (by decide) rfl ?_
  refine Sm_iload E d_SqlReaderModel_firstComparison_75 0 rfl ?_
  refine Sm_if_eq (tgt := 87) E d_SqlReaderModel_firstComparison_77 (by decide) (fun _ => ?_) (fun _ => ?_)
  · refine Sm_iload_n E d_SqlReaderModel_firstComparison_87 rfl 3 rfl ?_
    refine Sm_aload_n E d_SqlReaderModel_firstComparison_88 rfl 1 rfl ?_
    refine Sm_iload E d_SqlReaderModel_firstComparison_89 4 rfl ?_
    refine Sm_cVi (As := [.int x4]) (b := (G.1 100)) (st := [.int x3]) (n := 1) E exOk wM_as (fun _ h => cM_SqlReaderModel_opens x4 u h) gk_SqlReaderModel_334 dk_SqlReaderModel_opens rfl ⟨rfl, rfl⟩ ⟨Nat.le_of_ble_eq_true rfl, Nat.le_of_ble_eq_true rfl⟩ (rvW (q0 := 0) (ci := 1) E rfl rfl rfl) rfl (Nat.le_of_ble_eq_true rfl) d_SqlReaderModel_firstComparison_91 fun r2 _ => ?_
    refine Sm_iadd E d_SqlReaderModel_firstComparison_94 ?_
    refine Sm_leti fun y3 _ => ?_
    refine Sm_istore_n (lv' := [(3, .int y3), (5, .int s0), (0, .ref (G.1 100)), (2, .int x2), (4, .int x4)]) E d_SqlReaderModel_firstComparison_95 rfl (by decide) rfl ?_
    refine Sm_iinc (k := 4) (d := 1) E d_SqlReaderModel_firstComparison_96 rfl rfl (by decide) fun y4 _ => Sm_lvs (lv' := [(4, .int y4), (3, .int y3), (5, .int s0), (0, .ref (G.1 100)), (2, .int x2)]) rfl ?_
    refine Sm_goto (tgt := 5) E d_SqlReaderModel_firstComparison_99 (by decide) ?_
    exact Sm_sub [3, 4, 1, 0] rfl (h5 _ _ _)
  · refine Sm_iload_n E d_SqlReaderModel_firstComparison_80 rfl 3 rfl ?_
    refine Sm_if_ne (tgt := 87) E d_SqlReaderModel_firstComparison_81 (by decide) (fun _ => ?_) (fun _ => ?_)
    · refine Sm_iload_n E d_SqlReaderModel_firstComparison_87 rfl 3 rfl ?_
      refine Sm_aload_n E d_SqlReaderModel_firstComparison_88 rfl 1 rfl ?_
      refine Sm_iload E d_SqlReaderModel_firstComparison_89 4 rfl ?_
      refine Sm_cVi (As := [.int x4]) (b := (G.1 100)) (st := [.int x3]) (n := 1) E exOk wM_as (fun _ h => cM_SqlReaderModel_opens x4 u h) gk_SqlReaderModel_334 dk_SqlReaderModel_opens rfl ⟨rfl, rfl⟩ ⟨Nat.le_of_ble_eq_true rfl, Nat.le_of_ble_eq_true rfl⟩ (rvW (q0 := 0) (ci := 1) E rfl rfl rfl) rfl (Nat.le_of_ble_eq_true rfl) d_SqlReaderModel_firstComparison_91 fun r5 _ => ?_
      refine Sm_iadd E d_SqlReaderModel_firstComparison_94 ?_
      refine Sm_leti fun y6 _ => ?_
      refine Sm_istore_n (lv' := [(3, .int y6), (5, .int s0), (0, .ref (G.1 100)), (2, .int x2), (4, .int x4)]) E d_SqlReaderModel_firstComparison_95 rfl (by decide) rfl ?_
      refine Sm_iinc (k := 4) (d := 1) E d_SqlReaderModel_firstComparison_96 rfl rfl (by decide) fun y7 _ => Sm_lvs (lv' := [(4, .int y7), (3, .int y6), (5, .int s0), (0, .ref (G.1 100)), (2, .int x2)]) rfl ?_
      refine Sm_goto (tgt := 5) E d_SqlReaderModel_firstComparison_99 (by decide) ?_
      exact Sm_sub [3, 4, 1, 0] rfl (h5 _ _ _)
    · refine Sm_iload E d_SqlReaderModel_firstComparison_84 4 rfl ?_
      exact Sm_reti hR d_SqlReaderModel_firstComparison_86
set_option maxRecDepth 100000 in
set_option maxHeartbeats 4000000 in
theorem tM_SqlReaderModel_firstComparison_L5 {X : Cx} {G : Gx} {res : Int32} {u : St} (E : EM X G prog_11_method_33_code R_SqlReaderModel 6 { frames := 6, cells := 0, slots := 0, locals := 130 }) (hR : RtI X vwCl (wM G) prog_11_method_33_code (res, u)) : ∀ (n : Nat) (x2 : Int32) (x3 : Int32) (x4 : Int32) , SM X G 6 res (mM_SqlReaderModel_firstComparison_L5 n x2 x3 x4 u) u 5 [(0, .ref (G.1 100)), (2, .int x2), (3, .int x3), (4, .int x4)] [] := by
  intro n
  induction n with
  | zero => intro x2 x3 x4; exact Sm_none
  | succ n h5 =>
    intro x2 x3 x4
    rw [mM_SqlReaderModel_firstComparison_L5]
    refine Sm_iload E d_SqlReaderModel_firstComparison_5 3 rfl ?_
    refine Sm_iload_n E d_SqlReaderModel_firstComparison_7 rfl 1 rfl ?_
    refine Sm_icmp_ge (tgt := 102) E d_SqlReaderModel_firstComparison_8 (by decide) (fun _ => ?_) (fun _ => ?_)
    · refine Sm_iload_n E d_SqlReaderModel_firstComparison_102 rfl 1 rfl ?_
      exact Sm_reti hR d_SqlReaderModel_firstComparison_103
    · refine Sm_aload_n E d_SqlReaderModel_firstComparison_11 rfl 0 rfl ?_
      refine Sm_iload E d_SqlReaderModel_firstComparison_12 3 rfl ?_
      refine Sm_cVi (As := [.int x4]) (b := (G.1 100)) (st := []) (n := 1) E exOk wM_as (fun _ h => cM_SqlReaderModel_compares x4 u h) gk_SqlReaderModel_364 dk_SqlReaderModel_compares rfl ⟨rfl, rfl⟩ ⟨Nat.le_of_ble_eq_true rfl, Nat.le_of_ble_eq_true rfl⟩ (rvW (q0 := 0) (ci := 1) E rfl rfl rfl) rfl (Nat.le_of_ble_eq_true rfl) d_SqlReaderModel_firstComparison_14 fun r1 _ => ?_
      refine Sm_if_gt (tgt := 68) E d_SqlReaderModel_firstComparison_17 (by decide) (fun _ => ?_) (fun _ => ?_)
      · refine Sm_iconst (v := 1) E d_SqlReaderModel_firstComparison_68 (by decide) ?_
        refine Sm_goto (tgt := 73) E d_SqlReaderModel_firstComparison_69 (by decide) ?_
        exact Sm_sub [0, 1, 2, 3] rfl (tM_SqlReaderModel_firstComparison_J73 E hR h5 _ _ _ _)
      · refine Sm_aload_n E d_SqlReaderModel_firstComparison_20 rfl 0 rfl ?_
        refine Sm_iload E d_SqlReaderModel_firstComparison_21 3 rfl ?_
        refine Sm_ldcS_w E sr_SqlReaderModel_367 d_SqlReaderModel_firstComparison_23 ?_
        refine Sm_cVi (As := [.int x4, .ref (G.2.2.1 97)]) (b := (G.1 100)) (st := []) (n := 2) E exOk wM_as (fun _ h => cM_SqlReaderModel_is x4 97 u h) gk_SqlReaderModel_293 dk_SqlReaderModel_is rfl ⟨rfl, rfl⟩ ⟨Nat.le_of_ble_eq_true rfl, Nat.le_of_ble_eq_true rfl⟩ (rvW (q0 := 0) (ci := 1) E rfl rfl rfl) rfl (Nat.le_of_ble_eq_true rfl) d_SqlReaderModel_firstComparison_26 fun r8 _ => ?_
        refine Sm_if_ne (tgt := 68) E d_SqlReaderModel_firstComparison_29 (by decide) (fun _ => ?_) (fun _ => ?_)
        · refine Sm_iconst (v := 1) E d_SqlReaderModel_firstComparison_68 (by decide) ?_
          refine Sm_goto (tgt := 73) E d_SqlReaderModel_firstComparison_69 (by decide) ?_
          exact Sm_sub [0, 1, 2, 3] rfl (tM_SqlReaderModel_firstComparison_J73 E hR h5 _ _ _ _)
        · refine Sm_aload_n E d_SqlReaderModel_firstComparison_32 rfl 0 rfl ?_
          refine Sm_iload E d_SqlReaderModel_firstComparison_33 3 rfl ?_
          refine Sm_ldcS_w E sr_SqlReaderModel_328 d_SqlReaderModel_firstComparison_35 ?_
          refine Sm_cVi (As := [.int x4, .ref (G.2.2.1 98)]) (b := (G.1 100)) (st := []) (n := 2) E exOk wM_as (fun _ h => cM_SqlReaderModel_is x4 98 u h) gk_SqlReaderModel_293 dk_SqlReaderModel_is rfl ⟨rfl, rfl⟩ ⟨Nat.le_of_ble_eq_true rfl, Nat.le_of_ble_eq_true rfl⟩ (rvW (q0 := 0) (ci := 1) E rfl rfl rfl) rfl (Nat.le_of_ble_eq_true rfl) d_SqlReaderModel_firstComparison_38 fun r9 _ => ?_
          refine Sm_if_ne (tgt := 68) E d_SqlReaderModel_firstComparison_41 (by decide) (fun _ => ?_) (fun _ => ?_)
          · refine Sm_iconst (v := 1) E d_SqlReaderModel_firstComparison_68 (by decide) ?_
            refine Sm_goto (tgt := 73) E d_SqlReaderModel_firstComparison_69 (by decide) ?_
            exact Sm_sub [0, 1, 2, 3] rfl (tM_SqlReaderModel_firstComparison_J73 E hR h5 _ _ _ _)
          · refine Sm_aload_n E d_SqlReaderModel_firstComparison_44 rfl 0 rfl ?_
            refine Sm_iload E d_SqlReaderModel_firstComparison_45 3 rfl ?_
            refine Sm_ldcS_w E sr_SqlReaderModel_369 d_SqlReaderModel_firstComparison_47 ?_
            refine Sm_cVi (As := [.int x4, .ref (G.2.2.1 99)]) (b := (G.1 100)) (st := []) (n := 2) E exOk wM_as (fun _ h => cM_SqlReaderModel_is x4 99 u h) gk_SqlReaderModel_293 dk_SqlReaderModel_is rfl ⟨rfl, rfl⟩ ⟨Nat.le_of_ble_eq_true rfl, Nat.le_of_ble_eq_true rfl⟩ (rvW (q0 := 0) (ci := 1) E rfl rfl rfl) rfl (Nat.le_of_ble_eq_true rfl) d_SqlReaderModel_firstComparison_50 fun r10 _ => ?_
            refine Sm_if_ne (tgt := 68) E d_SqlReaderModel_firstComparison_53 (by decide) (fun _ => ?_) (fun _ => ?_)
            · refine Sm_iconst (v := 1) E d_SqlReaderModel_firstComparison_68 (by decide) ?_
              refine Sm_goto (tgt := 73) E d_SqlReaderModel_firstComparison_69 (by decide) ?_
              exact Sm_sub [0, 1, 2, 3] rfl (tM_SqlReaderModel_firstComparison_J73 E hR h5 _ _ _ _)
            · refine Sm_aload_n E d_SqlReaderModel_firstComparison_56 rfl 0 rfl ?_
              refine Sm_iload E d_SqlReaderModel_firstComparison_57 3 rfl ?_
              refine Sm_ldcS_w E sr_SqlReaderModel_350 d_SqlReaderModel_firstComparison_59 ?_
              refine Sm_cVi (As := [.int x4, .ref (G.2.2.1 89)]) (b := (G.1 100)) (st := []) (n := 2) E exOk wM_as (fun _ h => cM_SqlReaderModel_is x4 89 u h) gk_SqlReaderModel_293 dk_SqlReaderModel_is rfl ⟨rfl, rfl⟩ ⟨Nat.le_of_ble_eq_true rfl, Nat.le_of_ble_eq_true rfl⟩ (rvW (q0 := 0) (ci := 1) E rfl rfl rfl) rfl (Nat.le_of_ble_eq_true rfl) d_SqlReaderModel_firstComparison_62 fun r11 _ => ?_
              refine Sm_if_eq (tgt := 72) E d_SqlReaderModel_firstComparison_65 (by decide) (fun _ => ?_) (fun _ => ?_)
              · refine Sm_iconst (v := 0) E d_SqlReaderModel_firstComparison_72 (by decide) ?_
                exact Sm_sub [0, 1, 2, 3] rfl (tM_SqlReaderModel_firstComparison_J73 E hR h5 _ _ _ _)
              · refine Sm_iconst (v := 1) E d_SqlReaderModel_firstComparison_68 (by decide) ?_
                refine Sm_goto (tgt := 73) E d_SqlReaderModel_firstComparison_69 (by decide) ?_
                exact Sm_sub [0, 1, 2, 3] rfl (tM_SqlReaderModel_firstComparison_J73 E hR h5 _ _ _ _)
set_option maxRecDepth 100000 in
set_option maxHeartbeats 4000000 in
theorem cM_SqlReaderModel_firstComparison {l : Launch} {D : va_G} {G : Gx} (x1 : Int32) (x2 : Int32) (u : St) {res : Int32} (hm : mM_SqlReaderModel_firstComparison x1 x2 u = some res) : KM l D G y_SqlReaderModel_firstComparison (.code y_SqlReaderModel_firstComparison prog_11_method_33_code 6 (some .int)) { frames := 6, cells := 0, slots := 0, locals := 130 } [.ref (G.1 100), .int x1, .int x2] u (qI D vwCl (wM G) (tyW G) (adsM G) (res, u)) := by
  refine Ct_i (by decide) wM_as (Nat.le_of_ble_eq_true rfl) hm (fun X _ _ E hR => ?_)
  refine Sm_lvs (lv' := [(0, .ref (G.1 100)), (1, .int x1), (2, .int x2)]) rfl ?_
  rw [mM_SqlReaderModel_firstComparison]
  refine Sm_iconst (v := 0) E d_SqlReaderModel_firstComparison_0 (by decide) ?_
  refine Sm_istore_n (lv' := [(3, .int 0), (0, .ref (G.1 100)), (1, .int x1), (2, .int x2)]) E d_SqlReaderModel_firstComparison_1 rfl (by decide) rfl ?_
  refine Sm_iload_n E d_SqlReaderModel_firstComparison_2 rfl 2 rfl ?_
  refine Sm_istore (lv' := [(4, .int x1), (3, .int 0), (0, .ref (G.1 100)), (1, .int x1), (2, .int x2)]) E d_SqlReaderModel_firstComparison_3 (by decide) rfl ?_
  exact Sm_sub [2, 4, 1, 0] rfl (tM_SqlReaderModel_firstComparison_L5 E hR FU _ _ _)
set_option maxRecDepth 100000 in
set_option maxHeartbeats 4000000 in
theorem tM_SqlReaderModel_find_L6 {X : Cx} {G : Gx} {res : Int32} {u : St} (E : EM X G prog_11_method_34_code R_SqlReaderModel 6 { frames := 6, cells := 0, slots := 0, locals := 130 }) (hR : RtI X vwCl (wM G) prog_11_method_34_code (res, u)) : ∀ (n : Nat) (k1 : Nat) (x3 : Int32) (x4 : Int32) (x5 : Int32) , SM X G 6 res (mM_SqlReaderModel_find_L6 n k1 x3 x4 x5 u) u 6 [(0, .ref (G.1 100)), (1, .ref (G.2.2.1 k1)), (3, .int x3), (4, .int x4), (5, .int x5)] [] := by
  intro n
  induction n with
  | zero => intro k1 x3 x4 x5; exact Sm_none
  | succ n h6 =>
    intro k1 x3 x4 x5
    rw [mM_SqlReaderModel_find_L6]
    refine Sm_iload E d_SqlReaderModel_find_6 4 rfl ?_
    refine Sm_iload_n E d_SqlReaderModel_find_8 rfl 2 rfl ?_
    refine Sm_icmp_ge (tgt := 47) E d_SqlReaderModel_find_9 (by decide) (fun _ => ?_) (fun _ => ?_)
    · refine Sm_iload_n E d_SqlReaderModel_find_47 rfl 2 rfl ?_
      exact Sm_reti hR d_SqlReaderModel_find_48
    · refine Sm_iload E d_SqlReaderModel_find_12 3 rfl ?_
      refine Sm_if_ne (tgt := 30) E d_SqlReaderModel_find_14 (by decide) (fun _ => ?_) (fun _ => ?_)
      · refine Sm_iload E d_SqlReaderModel_find_30 3 rfl ?_
        refine Sm_aload_n E d_SqlReaderModel_find_32 rfl 0 rfl ?_
        refine Sm_iload E d_SqlReaderModel_find_33 4 rfl ?_
        refine Sm_cVi (As := [.int x5]) (b := (G.1 100)) (st := [.int x4]) (n := 1) E exOk wM_as (fun _ h => cM_SqlReaderModel_opens x5 u h) gk_SqlReaderModel_334 dk_SqlReaderModel_opens rfl ⟨rfl, rfl⟩ ⟨Nat.le_of_ble_eq_true rfl, Nat.le_of_ble_eq_true rfl⟩ (rvW (q0 := 0) (ci := 1) E rfl rfl rfl) rfl (Nat.le_of_ble_eq_true rfl) d_SqlReaderModel_find_35 fun r1 _ => ?_
        refine Sm_iadd E d_SqlReaderModel_find_38 ?_
        refine Sm_leti fun y2 _ => ?_
        refine Sm_istore (lv' := [(4, .int y2), (0, .ref (G.1 100)), (1, .ref (G.2.2.1 k1)), (3, .int x3), (5, .int x5)]) E d_SqlReaderModel_find_39 (by decide) rfl ?_
        refine Sm_iinc (k := 4) (d := 1) E d_SqlReaderModel_find_41 rfl rfl (by decide) fun y3 _ => Sm_lvs (lv' := [(5, .int y3), (4, .int y2), (0, .ref (G.1 100)), (1, .ref (G.2.2.1 k1)), (3, .int x3)]) rfl ?_
        refine Sm_goto (tgt := 6) E d_SqlReaderModel_find_44 (by decide) ?_
        exact Sm_sub [2, 3, 4, 1, 0] rfl (h6 _ _ _ _)
      · refine Sm_aload_n E d_SqlReaderModel_find_17 rfl 0 rfl ?_
        refine Sm_iload E d_SqlReaderModel_find_18 4 rfl ?_
        refine Sm_aload_n E d_SqlReaderModel_find_20 rfl 1 rfl ?_
        refine Sm_cVi (As := [.int x5, .ref (G.2.2.1 k1)]) (b := (G.1 100)) (st := []) (n := 2) E exOk wM_as (fun _ h => cM_SqlReaderModel_is x5 k1 u h) gk_SqlReaderModel_293 dk_SqlReaderModel_is rfl ⟨rfl, rfl⟩ ⟨Nat.le_of_ble_eq_true rfl, Nat.le_of_ble_eq_true rfl⟩ (rvW (q0 := 0) (ci := 1) E rfl rfl rfl) rfl (Nat.le_of_ble_eq_true rfl) d_SqlReaderModel_find_21 fun r4 _ => ?_
        refine Sm_if_eq (tgt := 30) E d_SqlReaderModel_find_24 (by decide) (fun _ => ?_) (fun _ => ?_)
        · refine Sm_iload E d_SqlReaderModel_find_30 3 rfl ?_
          refine Sm_aload_n E d_SqlReaderModel_find_32 rfl 0 rfl ?_
          refine Sm_iload E d_SqlReaderModel_find_33 4 rfl ?_
          refine Sm_cVi (As := [.int x5]) (b := (G.1 100)) (st := [.int x4]) (n := 1) E exOk wM_as (fun _ h => cM_SqlReaderModel_opens x5 u h) gk_SqlReaderModel_334 dk_SqlReaderModel_opens rfl ⟨rfl, rfl⟩ ⟨Nat.le_of_ble_eq_true rfl, Nat.le_of_ble_eq_true rfl⟩ (rvW (q0 := 0) (ci := 1) E rfl rfl rfl) rfl (Nat.le_of_ble_eq_true rfl) d_SqlReaderModel_find_35 fun r5 _ => ?_
          refine Sm_iadd E d_SqlReaderModel_find_38 ?_
          refine Sm_leti fun y6 _ => ?_
          refine Sm_istore (lv' := [(4, .int y6), (0, .ref (G.1 100)), (1, .ref (G.2.2.1 k1)), (3, .int x3), (5, .int x5)]) E d_SqlReaderModel_find_39 (by decide) rfl ?_
          refine Sm_iinc (k := 4) (d := 1) E d_SqlReaderModel_find_41 rfl rfl (by decide) fun y7 _ => Sm_lvs (lv' := [(5, .int y7), (4, .int y6), (0, .ref (G.1 100)), (1, .ref (G.2.2.1 k1)), (3, .int x3)]) rfl ?_
          refine Sm_goto (tgt := 6) E d_SqlReaderModel_find_44 (by decide) ?_
          exact Sm_sub [2, 3, 4, 1, 0] rfl (h6 _ _ _ _)
        · refine Sm_iload E d_SqlReaderModel_find_27 4 rfl ?_
          exact Sm_reti hR d_SqlReaderModel_find_29
set_option maxRecDepth 100000 in
set_option maxHeartbeats 4000000 in
theorem cM_SqlReaderModel_find {l : Launch} {D : va_G} {G : Gx} (k1 : Nat) (x2 : Int32) (x3 : Int32) (u : St) {res : Int32} (hm : mM_SqlReaderModel_find k1 x2 x3 u = some res) : KM l D G y_SqlReaderModel_find (.code y_SqlReaderModel_find prog_11_method_34_code 6 (some .int)) { frames := 6, cells := 0, slots := 0, locals := 130 } [.ref (G.1 100), .ref (G.2.2.1 k1), .int x2, .int x3] u (qI D vwCl (wM G) (tyW G) (adsM G) (res, u)) := by
  refine Ct_i (by decide) wM_as (Nat.le_of_ble_eq_true rfl) hm (fun X _ _ E hR => ?_)
  refine Sm_lvs (lv' := [(0, .ref (G.1 100)), (1, .ref (G.2.2.1 k1)), (2, .int x2), (3, .int x3)]) rfl ?_
  rw [mM_SqlReaderModel_find]
  refine Sm_iconst (v := 0) E d_SqlReaderModel_find_0 (by decide) ?_
  refine Sm_istore (lv' := [(4, .int 0), (0, .ref (G.1 100)), (1, .ref (G.2.2.1 k1)), (2, .int x2), (3, .int x3)]) E d_SqlReaderModel_find_1 (by decide) rfl ?_
  refine Sm_iload_n E d_SqlReaderModel_find_3 rfl 3 rfl ?_
  refine Sm_istore (lv' := [(5, .int x2), (4, .int 0), (0, .ref (G.1 100)), (1, .ref (G.2.2.1 k1)), (2, .int x2), (3, .int x3)]) E d_SqlReaderModel_find_4 (by decide) rfl ?_
  exact Sm_sub [2, 3, 5, 1, 0] rfl (tM_SqlReaderModel_find_L6 E hR FU _ _ _ _)
set_option maxRecDepth 100000 in
set_option maxHeartbeats 4000000 in
theorem tM_SqlReaderModel_again_L230 {X : Cx} {G : Gx} {res : Int32 × St} (E : EM X G prog_11_method_25_code R_SqlReaderModel 9 { frames := 2, cells := 0, slots := 0, locals := 46 }) (hR : RtI X vwCl (wM G) prog_11_method_25_code res) {q62 : Int32 → Int32 → Int32 → St → Option (Int32 × St)} (h62 : ∀ (x2 : Int32) (x4 : Int32) (x5 : Int32) (u : St), SM X G 9 res (q62 x2 x4 x5 u) u 62 [(0, .ref (G.1 100)), (2, .int x2), (4, .int x4), (5, .int x5)] []) : ∀ (n : Nat) (x2 : Int32) (x4 : Int32) (x5 : Int32) (x7 : Int32) (x8 : Int32) (u : St), SM X G 9 res (mM_SqlReaderModel_again_L230 q62 n x2 x4 x5 x7 x8 u) u 230 [(0, .ref (G.1 100)), (2, .int x2), (4, .int x4), (5, .int x5), (7, .int x7), (8, .int x8)] [] := by
  intro n
  induction n with
  | zero => intro x2 x4 x5 x7 x8 u; exact Sm_none
  | succ n h230 =>
    intro x2 x4 x5 x7 x8 u
    rw [mM_SqlReaderModel_again_L230]
    refine Sm_iload E d_SqlReaderModel_again_230 5 rfl ?_
    refine Sm_aload_n E d_SqlReaderModel_again_232 rfl 0 rfl ?_
    refine gfM_0_length E fl_SqlReaderModel_66 d_SqlReaderModel_again_233 ?_
    refine Sm_iload E d_SqlReaderModel_again_236 3 rfl ?_
    refine Sm_gd fun hi => ldM_19 E (inb_in hi) d_SqlReaderModel_again_238 ?_
    refine Sm_icmp_ge (tgt := 274) E d_SqlReaderModel_again_239 (by decide) (fun _ => ?_) (fun _ => ?_)
    · refine Sm_iinc (k := 3) (d := 1) E d_SqlReaderModel_again_274 rfl rfl (by decide) fun y9 _ => Sm_lvs (lv' := [(5, .int y9), (0, .ref (G.1 100)), (2, .int x2), (4, .int x4), (7, .int x7), (8, .int x8)]) rfl ?_
      refine Sm_goto (tgt := 62) E d_SqlReaderModel_again_277 (by decide) ?_
      exact Sm_sub [1, 2, 3, 0] rfl (h62 _ _ _ _)
    · refine Sm_aload_n E d_SqlReaderModel_again_242 rfl 0 rfl ?_
      refine gfM_0_letters E fl_SqlReaderModel_63 d_SqlReaderModel_again_243 ?_
      refine Sm_bipush (v := 31) E d_SqlReaderModel_again_246 (by decide) ?_
      refine Sm_iload E d_SqlReaderModel_again_248 4 rfl ?_
      refine Sm_imul E d_SqlReaderModel_again_250 ?_
      refine Sm_iload E d_SqlReaderModel_again_251 5 rfl ?_
      refine Sm_iadd E d_SqlReaderModel_again_253 ?_
      refine Sm_aload_n E d_SqlReaderModel_again_254 rfl 0 rfl ?_
      refine gfM_0_letters E fl_SqlReaderModel_63 d_SqlReaderModel_again_255 ?_
      refine Sm_bipush (v := 31) E d_SqlReaderModel_again_258 (by decide) ?_
      refine Sm_iload E d_SqlReaderModel_again_260 3 rfl ?_
      refine Sm_imul E d_SqlReaderModel_again_262 ?_
      refine Sm_iload E d_SqlReaderModel_again_263 5 rfl ?_
      refine Sm_iadd E d_SqlReaderModel_again_265 ?_
      refine Sm_gd fun hi => ldM_18 E (inb_in hi) d_SqlReaderModel_again_266 ?_
      refine Sm_gd fun hi => stM_18 E (inb_in hi) d_SqlReaderModel_again_267 fun u10 _ => ?_
      refine Sm_iinc (k := 5) (d := 1) E d_SqlReaderModel_again_268 rfl rfl (by decide) fun y11 _ => Sm_lvs (lv' := [(8, .int y11), (0, .ref (G.1 100)), (2, .int x2), (4, .int x4), (5, .int x5), (7, .int x7)]) rfl ?_
      refine Sm_goto (tgt := 230) E d_SqlReaderModel_again_271 (by decide) ?_
      exact Sm_sub [1, 2, 3, 4, 5, 0] rfl (h230 _ _ _ _ _ _)
set_option maxRecDepth 100000 in
set_option maxHeartbeats 4000000 in
theorem tM_SqlReaderModel_again_J166 {X : Cx} {G : Gx} {res : Int32 × St} (E : EM X G prog_11_method_25_code R_SqlReaderModel 9 { frames := 2, cells := 0, slots := 0, locals := 46 }) (hR : RtI X vwCl (wM G) prog_11_method_25_code res) {q62 : Int32 → Int32 → Int32 → St → Option (Int32 × St)} (h62 : ∀ (x2 : Int32) (x4 : Int32) (x5 : Int32) (u : St), SM X G 9 res (q62 x2 x4 x5 u) u 62 [(0, .ref (G.1 100)), (2, .int x2), (4, .int x4), (5, .int x5)] []) : ∀ (x2 : Int32) (x4 : Int32) (x5 : Int32) (s1 : Int32) (s2 : Int32) (s3 : Int32) (u : St), SM X G 9 res (mM_SqlReaderModel_again_J166 q62 x2 x4 x5 s1 s2 s3 u) u 166 [(0, .ref (G.1 100)), (2, .int x2), (4, .int x4), (5, .int x5)] [.int s3, .int s2, .int s1, .ref (G.1 100)] := by
  intro x2 x4 x5 s1 s2 s3 u
  rw [mM_SqlReaderModel_again_J166]
  refine Sm_cVI (As := [.int s1, .int s2, .int s3]) (b := (G.1 100)) (st := []) (n := 3) E exOk wM_as (fun _ h => cM_SqlReaderModel_add s1 s2 s3 u h) gk_SqlReaderModel_287 dk_SqlReaderModel_add rfl ⟨rfl, rfl⟩ ⟨Nat.le_of_ble_eq_true rfl, Nat.le_of_ble_eq_true rfl⟩ (rvW (q0 := 0) (ci := 1) E rfl rfl rfl) rfl (Nat.le_of_ble_eq_true rfl) d_SqlReaderModel_again_166 fun r3 u4 _ => ?_
  refine Sm_istore (lv' := [(7, .int r3), (0, .ref (G.1 100)), (2, .int x2), (4, .int x4), (5, .int x5)]) E d_SqlReaderModel_again_169 (by decide) rfl ?_
  refine Sm_aload_n E d_SqlReaderModel_again_171 rfl 1 rfl ?_
  refine gfM_0_before E fl_SqlReaderModel_53 d_SqlReaderModel_again_172 ?_
  refine Sm_iload E d_SqlReaderModel_again_175 0 rfl ?_
  refine Sm_aload_n E d_SqlReaderModel_again_177 rfl 1 rfl ?_
  refine gfM_0_before E fl_SqlReaderModel_53 d_SqlReaderModel_again_178 ?_
  refine Sm_iload E d_SqlReaderModel_again_181 4 rfl ?_
  refine Sm_gd fun hi => ldM_15 E (inb_in hi) d_SqlReaderModel_again_183 ?_
  refine Sm_gd fun hi => stM_15 E (inb_in hi) d_SqlReaderModel_again_184 fun u5 _ => ?_
  refine Sm_aload_n E d_SqlReaderModel_again_185 rfl 1 rfl ?_
  refine gfM_0_named E fl_SqlReaderModel_56 d_SqlReaderModel_again_186 ?_
  refine Sm_iload E d_SqlReaderModel_again_189 0 rfl ?_
  refine Sm_aload_n E d_SqlReaderModel_again_191 rfl 1 rfl ?_
  refine gfM_0_named E fl_SqlReaderModel_56 d_SqlReaderModel_again_192 ?_
  refine Sm_iload E d_SqlReaderModel_again_195 4 rfl ?_
  refine Sm_gd fun hi => ldM_16 E (inb_in hi) d_SqlReaderModel_again_197 ?_
  refine Sm_gd fun hi => stM_16 E (inb_in hi) d_SqlReaderModel_again_198 fun u6 _ => ?_
  refine Sm_aload_n E d_SqlReaderModel_again_199 rfl 1 rfl ?_
  refine gfM_0_number E fl_SqlReaderModel_59 d_SqlReaderModel_again_200 ?_
  refine Sm_iload E d_SqlReaderModel_again_203 0 rfl ?_
  refine Sm_aload_n E d_SqlReaderModel_again_205 rfl 1 rfl ?_
  refine gfM_0_number E fl_SqlReaderModel_59 d_SqlReaderModel_again_206 ?_
  refine Sm_iload E d_SqlReaderModel_again_209 4 rfl ?_
  refine Sm_gd fun hi => ldM_17 E (inb_in hi) d_SqlReaderModel_again_211 ?_
  refine Sm_gd fun hi => stM_17 E (inb_in hi) d_SqlReaderModel_again_212 fun u7 _ => ?_
  refine Sm_aload_n E d_SqlReaderModel_again_213 rfl 1 rfl ?_
  refine gfM_0_length E fl_SqlReaderModel_66 d_SqlReaderModel_again_214 ?_
  refine Sm_iload E d_SqlReaderModel_again_217 0 rfl ?_
  refine Sm_aload_n E d_SqlReaderModel_again_219 rfl 1 rfl ?_
  refine gfM_0_length E fl_SqlReaderModel_66 d_SqlReaderModel_again_220 ?_
  refine Sm_iload E d_SqlReaderModel_again_223 4 rfl ?_
  refine Sm_gd fun hi => ldM_19 E (inb_in hi) d_SqlReaderModel_again_225 ?_
  refine Sm_gd fun hi => stM_19 E (inb_in hi) d_SqlReaderModel_again_226 fun u8 _ => ?_
  refine Sm_iconst (v := 0) E d_SqlReaderModel_again_227 (by decide) ?_
  refine Sm_istore (lv' := [(8, .int 0), (7, .int r3), (0, .ref (G.1 100)), (2, .int x2), (4, .int x4), (5, .int x5)]) E d_SqlReaderModel_again_228 (by decide) rfl ?_
  exact Sm_sub [2, 3, 4, 5, 1, 0] rfl (tM_SqlReaderModel_again_L230 E hR h62 FU _ _ _ _ _ _)
set_option maxRecDepth 100000 in
set_option maxHeartbeats 4000000 in
theorem tM_SqlReaderModel_again_J131 {X : Cx} {G : Gx} {res : Int32 × St} (E : EM X G prog_11_method_25_code R_SqlReaderModel 9 { frames := 2, cells := 0, slots := 0, locals := 46 }) (hR : RtI X vwCl (wM G) prog_11_method_25_code res) {q62 : Int32 → Int32 → Int32 → St → Option (Int32 × St)} (h62 : ∀ (x2 : Int32) (x4 : Int32) (x5 : Int32) (u : St), SM X G 9 res (q62 x2 x4 x5 u) u 62 [(0, .ref (G.1 100)), (2, .int x2), (4, .int x4), (5, .int x5)] []) : ∀ (x2 : Int32) (x4 : Int32) (x5 : Int32) (x6 : Int32) (s1 : Int32) (s2 : Int32) (u : St), SM X G 9 res (mM_SqlReaderModel_again_J131 q62 x2 x4 x5 x6 s1 s2 u) u 131 [(0, .ref (G.1 100)), (2, .int x2), (4, .int x4), (5, .int x5), (6, .int x6)] [.int s2, .int s1, .ref (G.1 100)] := by
  intro x2 x4 x5 x6 s1 s2 u
  rw [mM_SqlReaderModel_again_J131]
  refine Sm_iload E d_SqlReaderModel_again_131 4 rfl ?_
  refine Sm_if_eq (tgt := 159) E d_SqlReaderModel_again_133 (by decide) (fun _ => ?_) (fun _ => ?_)
  · refine Sm_aload_n E d_SqlReaderModel_again_159 rfl 0 rfl ?_
    refine gfM_0_right E fl_SqlReaderModel_47 d_SqlReaderModel_again_160 ?_
    refine Sm_iload E d_SqlReaderModel_again_163 3 rfl ?_
    refine Sm_gd fun hi => ldM_13 E (inb_in hi) d_SqlReaderModel_again_165 ?_
    exact Sm_sub [0, 1, 2, 3] rfl (tM_SqlReaderModel_again_J166 E hR h62 _ _ _ _ _ _ _)
  · refine Sm_aload_n E d_SqlReaderModel_again_136 rfl 0 rfl ?_
    refine gfM_0_right E fl_SqlReaderModel_47 d_SqlReaderModel_again_137 ?_
    refine Sm_iload E d_SqlReaderModel_again_140 3 rfl ?_
    refine Sm_gd fun hi => ldM_13 E (inb_in hi) d_SqlReaderModel_again_142 ?_
    refine Sm_if_lt (tgt := 159) E d_SqlReaderModel_again_143 (by decide) (fun _ => ?_) (fun _ => ?_)
    · refine Sm_aload_n E d_SqlReaderModel_again_159 rfl 0 rfl ?_
      refine gfM_0_right E fl_SqlReaderModel_47 d_SqlReaderModel_again_160 ?_
      refine Sm_iload E d_SqlReaderModel_again_163 3 rfl ?_
      refine Sm_gd fun hi => ldM_13 E (inb_in hi) d_SqlReaderModel_again_165 ?_
      exact Sm_sub [0, 1, 2, 3] rfl (tM_SqlReaderModel_again_J166 E hR h62 _ _ _ _ _ _ _)
    · refine Sm_aload_n E d_SqlReaderModel_again_146 rfl 0 rfl ?_
      refine gfM_0_right E fl_SqlReaderModel_47 d_SqlReaderModel_again_147 ?_
      refine Sm_iload E d_SqlReaderModel_again_150 3 rfl ?_
      refine Sm_gd fun hi => ldM_13 E (inb_in hi) d_SqlReaderModel_again_152 ?_
      refine Sm_iload E d_SqlReaderModel_again_153 2 rfl ?_
      refine Sm_iadd E d_SqlReaderModel_again_155 ?_
      refine Sm_goto (tgt := 166) E d_SqlReaderModel_again_156 (by decide) ?_
      exact Sm_sub [0, 1, 2, 3] rfl (tM_SqlReaderModel_again_J166 E hR h62 _ _ _ _ _ _ _)
set_option maxRecDepth 100000 in
set_option maxHeartbeats 4000000 in
theorem tM_SqlReaderModel_again_J96 {X : Cx} {G : Gx} {res : Int32 × St} (E : EM X G prog_11_method_25_code R_SqlReaderModel 9 { frames := 2, cells := 0, slots := 0, locals := 46 }) (hR : RtI X vwCl (wM G) prog_11_method_25_code res) {q62 : Int32 → Int32 → Int32 → St → Option (Int32 × St)} (h62 : ∀ (x2 : Int32) (x4 : Int32) (x5 : Int32) (u : St), SM X G 9 res (q62 x2 x4 x5 u) u 62 [(0, .ref (G.1 100)), (2, .int x2), (4, .int x4), (5, .int x5)] []) : ∀ (x2 : Int32) (x4 : Int32) (x5 : Int32) (s0 : Int32) (u : St), SM X G 9 res (mM_SqlReaderModel_again_J96 q62 x2 x4 x5 s0 u) u 96 [(0, .ref (G.1 100)), (2, .int x2), (4, .int x4), (5, .int x5)] [.int s0] := by
  intro x2 x4 x5 s0 u
  rw [mM_SqlReaderModel_again_J96]
  refine Sm_istore (lv' := [(6, .int s0), (0, .ref (G.1 100)), (2, .int x2), (4, .int x4), (5, .int x5)]) E d_SqlReaderModel_again_96 (by decide) rfl ?_
  refine Sm_aload_n E d_SqlReaderModel_again_98 rfl 1 rfl ?_
  refine Sm_aload_n E d_SqlReaderModel_again_99 rfl 1 rfl ?_
  refine gfM_0_kind E fl_SqlReaderModel_41 d_SqlReaderModel_again_100 ?_
  refine Sm_iload E d_SqlReaderModel_again_103 4 rfl ?_
  refine Sm_gd fun hi => ldM_11 E (inb_in hi) d_SqlReaderModel_again_105 ?_
  refine Sm_iload E d_SqlReaderModel_again_106 0 rfl ?_
  refine Sm_if_eq (tgt := 124) E d_SqlReaderModel_again_108 (by decide) (fun _ => ?_) (fun _ => ?_)
  · refine Sm_aload_n E d_SqlReaderModel_again_124 rfl 1 rfl ?_
    refine gfM_0_left E fl_SqlReaderModel_44 d_SqlReaderModel_again_125 ?_
    refine Sm_iload E d_SqlReaderModel_again_128 4 rfl ?_
    refine Sm_gd fun hi => ldM_12 E (inb_in hi) d_SqlReaderModel_again_130 ?_
    exact Sm_sub [1, 2, 3, 4, 0] rfl (tM_SqlReaderModel_again_J131 E hR h62 _ _ _ _ _ _ _)
  · refine Sm_aload_n E d_SqlReaderModel_again_111 rfl 1 rfl ?_
    refine gfM_0_left E fl_SqlReaderModel_44 d_SqlReaderModel_again_112 ?_
    refine Sm_iload E d_SqlReaderModel_again_115 4 rfl ?_
    refine Sm_gd fun hi => ldM_12 E (inb_in hi) d_SqlReaderModel_again_117 ?_
    refine Sm_iload E d_SqlReaderModel_again_118 3 rfl ?_
    refine Sm_iadd E d_SqlReaderModel_again_120 ?_
    refine Sm_goto (tgt := 131) E d_SqlReaderModel_again_121 (by decide) ?_
    exact Sm_sub [1, 2, 3, 4, 0] rfl (tM_SqlReaderModel_again_J131 E hR h62 _ _ _ _ _ _ _)
set_option maxRecDepth 100000 in
set_option maxHeartbeats 4000000 in
theorem tM_SqlReaderModel_again_L62 {X : Cx} {G : Gx} {res : Int32 × St} (E : EM X G prog_11_method_25_code R_SqlReaderModel 9 { frames := 2, cells := 0, slots := 0, locals := 46 }) (hR : RtI X vwCl (wM G) prog_11_method_25_code res) : ∀ (n : Nat) (x2 : Int32) (x4 : Int32) (x5 : Int32) (u : St), SM X G 9 res (mM_SqlReaderModel_again_L62 n x2 x4 x5 u) u 62 [(0, .ref (G.1 100)), (2, .int x2), (4, .int x4), (5, .int x5)] [] := by
  intro n
  induction n with
  | zero => intro x2 x4 x5 u; exact Sm_none
  | succ n h62 =>
    intro x2 x4 x5 u
    rw [mM_SqlReaderModel_again_L62]
    refine Sm_iload E d_SqlReaderModel_again_62 3 rfl ?_
    refine Sm_iload_n E d_SqlReaderModel_again_64 rfl 1 rfl ?_
    refine Sm_icmp_ge (tgt := 280) E d_SqlReaderModel_again_65 (by decide) (fun _ => ?_) (fun _ => ?_)
    · refine Sm_aload_n E d_SqlReaderModel_again_280 rfl 0 rfl ?_
      refine gfM_0_nodes E fl_SqlReaderModel_133 d_SqlReaderModel_again_281 ?_
      refine Sm_iconst (v := 1) E d_SqlReaderModel_again_284 (by decide) ?_
      refine Sm_isub E d_SqlReaderModel_again_285 ?_
      exact Sm_retI hR d_SqlReaderModel_again_286
    · refine Sm_aload_n E d_SqlReaderModel_again_68 rfl 0 rfl ?_
      refine gfM_0_kind E fl_SqlReaderModel_41 d_SqlReaderModel_again_69 ?_
      refine Sm_iload E d_SqlReaderModel_again_72 3 rfl ?_
      refine Sm_gd fun hi => ldM_11 E (inb_in hi) d_SqlReaderModel_again_74 ?_
      refine Sm_iconst (v := 5) E d_SqlReaderModel_again_75 (by decide) ?_
      refine Sm_icmp_le (tgt := 95) E d_SqlReaderModel_again_76 (by decide) (fun _ => ?_) (fun _ => ?_)
      · refine Sm_iconst (v := 0) E d_SqlReaderModel_again_95 (by decide) ?_
        exact Sm_sub [0, 1, 2, 3] rfl (tM_SqlReaderModel_again_J96 E hR h62 _ _ _ _ _)
      · refine Sm_aload_n E d_SqlReaderModel_again_79 rfl 0 rfl ?_
        refine gfM_0_kind E fl_SqlReaderModel_41 d_SqlReaderModel_again_80 ?_
        refine Sm_iload E d_SqlReaderModel_again_83 3 rfl ?_
        refine Sm_gd fun hi => ldM_11 E (inb_in hi) d_SqlReaderModel_again_85 ?_
        refine Sm_bipush (v := 28) E d_SqlReaderModel_again_86 (by decide) ?_
        refine Sm_icmp_ge (tgt := 95) E d_SqlReaderModel_again_88 (by decide) (fun _ => ?_) (fun _ => ?_)
        · refine Sm_iconst (v := 0) E d_SqlReaderModel_again_95 (by decide) ?_
          exact Sm_sub [0, 1, 2, 3] rfl (tM_SqlReaderModel_again_J96 E hR h62 _ _ _ _ _)
        · refine Sm_iconst (v := 1) E d_SqlReaderModel_again_91 (by decide) ?_
          refine Sm_goto (tgt := 96) E d_SqlReaderModel_again_92 (by decide) ?_
          exact Sm_sub [0, 1, 2, 3] rfl (tM_SqlReaderModel_again_J96 E hR h62 _ _ _ _ _)
set_option maxRecDepth 100000 in
set_option maxHeartbeats 4000000 in
theorem cM_SqlReaderModel_again {l : Launch} {D : va_G} {G : Gx} (x1 : Int32) (x2 : Int32) (u : St) {res : Int32 × St} (hm : mM_SqlReaderModel_again x1 x2 u = some res) : KM l D G y_SqlReaderModel_again (.code y_SqlReaderModel_again prog_11_method_25_code 9 (some .int)) { frames := 2, cells := 0, slots := 0, locals := 46 } [.ref (G.1 100), .int x1, .int x2] u (qI D vwCl (wM G) (tyW G) (adsM G) res) := by
  refine Ct_I (by decide) wM_as (Nat.le_of_ble_eq_true rfl) hm (fun X _ _ E hR => ?_)
  refine Sm_lvs (lv' := [(0, .ref (G.1 100)), (1, .int x1), (2, .int x2)]) rfl ?_
  rw [mM_SqlReaderModel_again]
  refine Sm_iload_n E d_SqlReaderModel_again_0 rfl 2 rfl ?_
  refine Sm_iload_n E d_SqlReaderModel_again_1 rfl 1 rfl ?_
  refine Sm_isub E d_SqlReaderModel_again_2 ?_
  refine Sm_leti fun y1 _ => ?_
  refine Sm_istore_n (lv' := [(3, .int y1), (0, .ref (G.1 100)), (1, .int x1), (2, .int x2)]) E d_SqlReaderModel_again_3 rfl (by decide) rfl ?_
  refine Sm_aload_n E d_SqlReaderModel_again_4 rfl 1 rfl ?_
  refine gfM_0_nodes E fl_SqlReaderModel_133 d_SqlReaderModel_again_5 ?_
  refine Sm_iload_n E d_SqlReaderModel_again_8 rfl 0 rfl ?_
  refine Sm_iadd E d_SqlReaderModel_again_9 ?_
  refine Sm_sipush (v := 200) E d_SqlReaderModel_again_10 (by decide) ?_
  refine Sm_icmp_le (tgt := 51) E d_SqlReaderModel_again_13 (by decide) (fun _ => ?_) (fun _ => ?_)
  · refine Sm_aload_n E d_SqlReaderModel_again_51 rfl 1 rfl ?_
    refine gfM_0_nodes E fl_SqlReaderModel_133 d_SqlReaderModel_again_52 ?_
    refine Sm_iload_n E d_SqlReaderModel_again_55 rfl 2 rfl ?_
    refine Sm_isub E d_SqlReaderModel_again_56 ?_
    refine Sm_leti fun y2 _ => ?_
    refine Sm_istore (lv' := [(4, .int y2), (3, .int y1), (0, .ref (G.1 100)), (1, .int x1), (2, .int x2)]) E d_SqlReaderModel_again_57 (by decide) rfl ?_
    refine Sm_iload_n E d_SqlReaderModel_again_59 rfl 3 rfl ?_
    refine Sm_istore (lv' := [(5, .int x1), (4, .int y2), (3, .int y1), (0, .ref (G.1 100)), (1, .int x1), (2, .int x2)]) E d_SqlReaderModel_again_60 (by decide) rfl ?_
    exact Sm_sub [3, 5, 1, 0] rfl (tM_SqlReaderModel_again_L62 E hR FU _ _ _ _)
  · refine Sm_aload_n E d_SqlReaderModel_again_16 rfl 1 rfl ?_
    refine Sm_aload_n E d_SqlReaderModel_again_17 rfl 1 rfl ?_
    refine gfM_0_nodes E fl_SqlReaderModel_133 d_SqlReaderModel_again_18 ?_
    refine Sm_iload_n E d_SqlReaderModel_again_21 rfl 0 rfl ?_
    refine Sm_iadd E d_SqlReaderModel_again_22 ?_
    refine Sm_ldc_w (v := 100000) E kc_SqlReaderModel_286 d_SqlReaderModel_again_23 ?_
    refine Sm_icmp_le (tgt := 35) E d_SqlReaderModel_again_26 (by decide) (fun _ => ?_) (fun _ => ?_)
    · refine Sm_aload_n E d_SqlReaderModel_again_35 rfl 1 rfl ?_
      refine gfM_0_nodes E fl_SqlReaderModel_133 d_SqlReaderModel_again_36 ?_
      refine Sm_iload_n E d_SqlReaderModel_again_39 rfl 0 rfl ?_
      refine Sm_iadd E d_SqlReaderModel_again_40 ?_
      refine pfM_0_nodes E fl_SqlReaderModel_133 d_SqlReaderModel_again_41 fun u12 _ => ?_
      refine Sm_aload_n E d_SqlReaderModel_again_44 rfl 1 rfl ?_
      refine gfM_0_nodes E fl_SqlReaderModel_133 d_SqlReaderModel_again_45 ?_
      refine Sm_iconst (v := 1) E d_SqlReaderModel_again_48 (by decide) ?_
      refine Sm_isub E d_SqlReaderModel_again_49 ?_
      exact Sm_retI hR d_SqlReaderModel_again_50
    · refine Sm_ldc_w (v := 100000) E kc_SqlReaderModel_286 d_SqlReaderModel_again_29 ?_
      refine Sm_goto (tgt := 41) E d_SqlReaderModel_again_32 (by decide) ?_
      refine pfM_0_nodes E fl_SqlReaderModel_133 d_SqlReaderModel_again_41 fun u13 _ => ?_
      refine Sm_aload_n E d_SqlReaderModel_again_44 rfl 1 rfl ?_
      refine gfM_0_nodes E fl_SqlReaderModel_133 d_SqlReaderModel_again_45 ?_
      refine Sm_iconst (v := 1) E d_SqlReaderModel_again_48 (by decide) ?_
      refine Sm_isub E d_SqlReaderModel_again_49 ?_
      exact Sm_retI hR d_SqlReaderModel_again_50
set_option maxRecDepth 100000 in
set_option maxHeartbeats 4000000 in
theorem tM_SqlReaderModel_closing_L5 {X : Cx} {G : Gx} {res : Int32} {u : St} (E : EM X G prog_11_method_37_code R_SqlReaderModel 5 { frames := 6, cells := 0, slots := 0, locals := 130 }) (hR : RtI X vwCl (wM G) prog_11_method_37_code (res, u)) : ∀ (n : Nat) (x2 : Int32) (x3 : Int32) (x4 : Int32) , SM X G 5 res (mM_SqlReaderModel_closing_L5 n x2 x3 x4 u) u 5 [(0, .ref (G.1 100)), (2, .int x2), (3, .int x3), (4, .int x4)] [] := by
  intro n
  induction n with
  | zero => intro x2 x3 x4; exact Sm_none
  | succ n h5 =>
    intro x2 x3 x4
    rw [mM_SqlReaderModel_closing_L5]
    refine Sm_iload E d_SqlReaderModel_closing_5 3 rfl ?_
    refine Sm_iload_n E d_SqlReaderModel_closing_7 rfl 1 rfl ?_
    refine Sm_icmp_ge (tgt := 33) E d_SqlReaderModel_closing_8 (by decide) (fun _ => ?_) (fun _ => ?_)
    · refine Sm_iconst (v := (-1)) E d_SqlReaderModel_closing_33 (by decide) ?_
      exact Sm_reti hR d_SqlReaderModel_closing_34
    · refine Sm_iload_n E d_SqlReaderModel_closing_11 rfl 2 rfl ?_
      refine Sm_aload_n E d_SqlReaderModel_closing_12 rfl 0 rfl ?_
      refine Sm_iload E d_SqlReaderModel_closing_13 3 rfl ?_
      refine Sm_cVi (As := [.int x4]) (b := (G.1 100)) (st := [.int x3]) (n := 1) E exOk wM_as (fun _ h => cM_SqlReaderModel_opens x4 u h) gk_SqlReaderModel_334 dk_SqlReaderModel_opens rfl ⟨rfl, rfl⟩ ⟨Nat.le_of_ble_eq_true rfl, Nat.le_of_ble_eq_true rfl⟩ (rvW (q0 := 0) (ci := 1) E rfl rfl rfl) rfl (Nat.le_of_ble_eq_true rfl) d_SqlReaderModel_closing_15 fun r1 _ => ?_
      refine Sm_iadd E d_SqlReaderModel_closing_18 ?_
      refine Sm_leti fun y2 _ => ?_
      refine Sm_istore_n (lv' := [(3, .int y2), (0, .ref (G.1 100)), (2, .int x2), (4, .int x4)]) E d_SqlReaderModel_closing_19 rfl (by decide) rfl ?_
      refine Sm_iload_n E d_SqlReaderModel_closing_20 rfl 0 rfl ?_
      refine Sm_if_ne (tgt := 27) E d_SqlReaderModel_closing_21 (by decide) (fun _ => ?_) (fun _ => ?_)
      · refine Sm_iinc (k := 3) (d := 1) E d_SqlReaderModel_closing_27 rfl rfl (by decide) fun y3 _ => Sm_lvs (lv' := [(4, .int y3), (3, .int y2), (0, .ref (G.1 100)), (2, .int x2)]) rfl ?_
        refine Sm_goto (tgt := 5) E d_SqlReaderModel_closing_30 (by decide) ?_
        exact Sm_sub [2, 3, 1, 0] rfl (h5 _ _ _)
      · refine Sm_iload E d_SqlReaderModel_closing_24 3 rfl ?_
        exact Sm_reti hR d_SqlReaderModel_closing_26
set_option maxRecDepth 100000 in
set_option maxHeartbeats 4000000 in
theorem cM_SqlReaderModel_closing {l : Launch} {D : va_G} {G : Gx} (x1 : Int32) (x2 : Int32) (u : St) {res : Int32} (hm : mM_SqlReaderModel_closing x1 x2 u = some res) : KM l D G y_SqlReaderModel_closing (.code y_SqlReaderModel_closing prog_11_method_37_code 5 (some .int)) { frames := 6, cells := 0, slots := 0, locals := 130 } [.ref (G.1 100), .int x1, .int x2] u (qI D vwCl (wM G) (tyW G) (adsM G) (res, u)) := by
  refine Ct_i (by decide) wM_as (Nat.le_of_ble_eq_true rfl) hm (fun X _ _ E hR => ?_)
  refine Sm_lvs (lv' := [(0, .ref (G.1 100)), (1, .int x1), (2, .int x2)]) rfl ?_
  rw [mM_SqlReaderModel_closing]
  refine Sm_iconst (v := 0) E d_SqlReaderModel_closing_0 (by decide) ?_
  refine Sm_istore_n (lv' := [(3, .int 0), (0, .ref (G.1 100)), (1, .int x1), (2, .int x2)]) E d_SqlReaderModel_closing_1 rfl (by decide) rfl ?_
  refine Sm_iload_n E d_SqlReaderModel_closing_2 rfl 2 rfl ?_
  refine Sm_istore (lv' := [(4, .int x1), (3, .int 0), (0, .ref (G.1 100)), (1, .int x1), (2, .int x2)]) E d_SqlReaderModel_closing_3 (by decide) rfl ?_
  exact Sm_sub [2, 4, 1, 0] rfl (tM_SqlReaderModel_closing_L5 E hR FU _ _ _)
set_option maxRecDepth 100000 in
set_option maxHeartbeats 4000000 in
theorem cM_SqlReaderModel_gathers {l : Launch} {D : va_G} {G : Gx} (x1 : Int32) (u : St) {res : Int32} (hm : mM_SqlReaderModel_gathers x1 u = some res) : KM l D G y_SqlReaderModel_gathers (.code y_SqlReaderModel_gathers prog_11_method_38_code 2 (some .int)) { frames := 5, cells := 0, slots := 0, locals := 109 } [.ref (G.1 100), .int x1] u (qI D vwCl (wM G) (tyW G) (adsM G) (res, u)) := by
  refine Ct_i (by decide) wM_as (Nat.le_of_ble_eq_true rfl) hm (fun X _ _ E hR => ?_)
  refine Sm_lvs (lv' := [(0, .ref (G.1 100)), (1, .int x1)]) rfl ?_
  rw [mM_SqlReaderModel_gathers]
  refine Sm_aload_n E d_SqlReaderModel_gathers_0 rfl 0 rfl ?_
  refine Sm_iload_n E d_SqlReaderModel_gathers_1 rfl 1 rfl ?_
  refine Sm_ldcS_w E sr_SqlReaderModel_389 d_SqlReaderModel_gathers_2 ?_
  refine Sm_cVi (As := [.int x1, .ref (G.2.2.1 102)]) (b := (G.1 100)) (st := []) (n := 2) E exOk wM_as (fun _ h => cM_SqlReaderModel_is x1 102 u h) gk_SqlReaderModel_293 dk_SqlReaderModel_is rfl ⟨rfl, rfl⟩ ⟨Nat.le_of_ble_eq_true rfl, Nat.le_of_ble_eq_true rfl⟩ (rvW (q0 := 0) (ci := 1) E rfl rfl rfl) rfl (Nat.le_of_ble_eq_true rfl) d_SqlReaderModel_gathers_5 fun r1 _ => ?_
  refine Sm_if_eq (tgt := 16) E d_SqlReaderModel_gathers_8 (by decide) (fun _ => ?_) (fun _ => ?_)
  · refine Sm_aload_n E d_SqlReaderModel_gathers_16 rfl 0 rfl ?_
    refine Sm_iload_n E d_SqlReaderModel_gathers_17 rfl 1 rfl ?_
    refine Sm_ldcS_w E sr_SqlReaderModel_391 d_SqlReaderModel_gathers_18 ?_
    refine Sm_cVi (As := [.int x1, .ref (G.2.2.1 103)]) (b := (G.1 100)) (st := []) (n := 2) E exOk wM_as (fun _ h => cM_SqlReaderModel_is x1 103 u h) gk_SqlReaderModel_293 dk_SqlReaderModel_is rfl ⟨rfl, rfl⟩ ⟨Nat.le_of_ble_eq_true rfl, Nat.le_of_ble_eq_true rfl⟩ (rvW (q0 := 0) (ci := 1) E rfl rfl rfl) rfl (Nat.le_of_ble_eq_true rfl) d_SqlReaderModel_gathers_21 fun r2 _ => ?_
    refine Sm_if_eq (tgt := 32) E d_SqlReaderModel_gathers_24 (by decide) (fun _ => ?_) (fun _ => ?_)
    · refine Sm_aload_n E d_SqlReaderModel_gathers_32 rfl 0 rfl ?_
      refine Sm_iload_n E d_SqlReaderModel_gathers_33 rfl 1 rfl ?_
      refine Sm_ldcS_w E sr_SqlReaderModel_393 d_SqlReaderModel_gathers_34 ?_
      refine Sm_cVi (As := [.int x1, .ref (G.2.2.1 104)]) (b := (G.1 100)) (st := []) (n := 2) E exOk wM_as (fun _ h => cM_SqlReaderModel_is x1 104 u h) gk_SqlReaderModel_293 dk_SqlReaderModel_is rfl ⟨rfl, rfl⟩ ⟨Nat.le_of_ble_eq_true rfl, Nat.le_of_ble_eq_true rfl⟩ (rvW (q0 := 0) (ci := 1) E rfl rfl rfl) rfl (Nat.le_of_ble_eq_true rfl) d_SqlReaderModel_gathers_37 fun r3 _ => ?_
      refine Sm_if_eq (tgt := 48) E d_SqlReaderModel_gathers_40 (by decide) (fun _ => ?_) (fun _ => ?_)
      · refine Sm_aload_n E d_SqlReaderModel_gathers_48 rfl 0 rfl ?_
        refine Sm_iload_n E d_SqlReaderModel_gathers_49 rfl 1 rfl ?_
        refine Sm_ldcS_w E sr_SqlReaderModel_395 d_SqlReaderModel_gathers_50 ?_
        refine Sm_cVi (As := [.int x1, .ref (G.2.2.1 105)]) (b := (G.1 100)) (st := []) (n := 2) E exOk wM_as (fun _ h => cM_SqlReaderModel_is x1 105 u h) gk_SqlReaderModel_293 dk_SqlReaderModel_is rfl ⟨rfl, rfl⟩ ⟨Nat.le_of_ble_eq_true rfl, Nat.le_of_ble_eq_true rfl⟩ (rvW (q0 := 0) (ci := 1) E rfl rfl rfl) rfl (Nat.le_of_ble_eq_true rfl) d_SqlReaderModel_gathers_53 fun r4 _ => ?_
        refine Sm_if_eq (tgt := 64) E d_SqlReaderModel_gathers_56 (by decide) (fun _ => ?_) (fun _ => ?_)
        · refine Sm_iconst (v := 0) E d_SqlReaderModel_gathers_64 (by decide) ?_
          exact Sm_reti hR d_SqlReaderModel_gathers_65
        · refine Sm_bipush (v := 9) E d_SqlReaderModel_gathers_59 (by decide) ?_
          refine Sm_goto (tgt := 65) E d_SqlReaderModel_gathers_61 (by decide) ?_
          exact Sm_reti hR d_SqlReaderModel_gathers_65
      · refine Sm_bipush (v := 8) E d_SqlReaderModel_gathers_43 (by decide) ?_
        refine Sm_goto (tgt := 65) E d_SqlReaderModel_gathers_45 (by decide) ?_
        exact Sm_reti hR d_SqlReaderModel_gathers_65
    · refine Sm_bipush (v := 7) E d_SqlReaderModel_gathers_27 (by decide) ?_
      refine Sm_goto (tgt := 65) E d_SqlReaderModel_gathers_29 (by decide) ?_
      exact Sm_reti hR d_SqlReaderModel_gathers_65
  · refine Sm_bipush (v := 6) E d_SqlReaderModel_gathers_11 (by decide) ?_
    refine Sm_goto (tgt := 65) E d_SqlReaderModel_gathers_13 (by decide) ?_
    exact Sm_reti hR d_SqlReaderModel_gathers_65
set_option maxRecDepth 100000 in
set_option maxHeartbeats 4000000 in
theorem cM_SqlReaderModel_place {l : Launch} {D : va_G} {G : Gx} (x1 : Int32) (x2 : Int32) (u : St) {res : Int32 × St} (hm : mM_SqlReaderModel_place x1 x2 u = some res) : KM l D G y_SqlReaderModel_place (.code y_SqlReaderModel_place prog_11_method_40_code 4 (some .int)) { frames := 2, cells := 0, slots := 0, locals := 46 } [.ref (G.1 100), .int x1, .int x2] u (qI D vwCl (wM G) (tyW G) (adsM G) res) := by
  refine Ct_I (by decide) wM_as (Nat.le_of_ble_eq_true rfl) hm (fun X _ _ E hR => ?_)
  refine Sm_lvs (lv' := [(0, .ref (G.1 100)), (1, .int x1), (2, .int x2)]) rfl ?_
  rw [mM_SqlReaderModel_place]
  refine Sm_aload_n E d_SqlReaderModel_place_0 rfl 0 rfl ?_
  refine Sm_iconst (v := 4) E d_SqlReaderModel_place_1 (by decide) ?_
  refine Sm_iconst (v := (-1)) E d_SqlReaderModel_place_2 (by decide) ?_
  refine Sm_iconst (v := (-1)) E d_SqlReaderModel_place_3 (by decide) ?_
  refine Sm_cVI (As := [.int 4, .int (-1), .int (-1)]) (b := (G.1 100)) (st := []) (n := 3) E exOk wM_as (fun _ h => cM_SqlReaderModel_add 4 (-1) (-1) u h) gk_SqlReaderModel_287 dk_SqlReaderModel_add rfl ⟨rfl, rfl⟩ ⟨Nat.le_of_ble_eq_true rfl, Nat.le_of_ble_eq_true rfl⟩ (rvW (q0 := 0) (ci := 1) E rfl rfl rfl) rfl (Nat.le_of_ble_eq_true rfl) d_SqlReaderModel_place_4 fun r1 u2 _ => ?_
  refine Sm_istore_n (lv' := [(3, .int r1), (0, .ref (G.1 100)), (1, .int x1), (2, .int x2)]) E d_SqlReaderModel_place_7 rfl (by decide) rfl ?_
  refine Sm_iload_n E d_SqlReaderModel_place_8 rfl 0 rfl ?_
  refine Sm_sipush (v := 200) E d_SqlReaderModel_place_9 (by decide) ?_
  refine Sm_icmp_ge (tgt := 29) E d_SqlReaderModel_place_12 (by decide) (fun _ => ?_) (fun _ => ?_)
  · refine Sm_iload_n E d_SqlReaderModel_place_29 rfl 0 rfl ?_
    exact Sm_retI hR d_SqlReaderModel_place_30
  · refine Sm_aload_n E d_SqlReaderModel_place_15 rfl 1 rfl ?_
    refine gfM_0_before E fl_SqlReaderModel_53 d_SqlReaderModel_place_16 ?_
    refine Sm_iload_n E d_SqlReaderModel_place_19 rfl 0 rfl ?_
    refine Sm_iload_n E d_SqlReaderModel_place_20 rfl 2 rfl ?_
    refine Sm_gd fun hi => stM_15 E (inb_in hi) d_SqlReaderModel_place_21 fun u3 _ => ?_
    refine Sm_aload_n E d_SqlReaderModel_place_22 rfl 1 rfl ?_
    refine gfM_0_named E fl_SqlReaderModel_56 d_SqlReaderModel_place_23 ?_
    refine Sm_iload_n E d_SqlReaderModel_place_26 rfl 0 rfl ?_
    refine Sm_iload_n E d_SqlReaderModel_place_27 rfl 3 rfl ?_
    refine Sm_gd fun hi => stM_16 E (inb_in hi) d_SqlReaderModel_place_28 fun u4 _ => ?_
    refine Sm_iload_n E d_SqlReaderModel_place_29 rfl 0 rfl ?_
    exact Sm_retI hR d_SqlReaderModel_place_30
set_option maxRecDepth 100000 in
set_option maxHeartbeats 4000000 in
theorem tM_SqlReaderModel_numberOf_L10 {X : Cx} {G : Gx} {res : Int64} {u : St} (E : EM X G prog_11_method_17_code R_SqlReaderModel 5 { frames := 0, cells := 0, slots := 0, locals := 0 }) (hR : RtJ X vwCl (wM G) prog_11_method_17_code (res, u)) : ∀ (n : Nat) (x1 : Int32) (x2 : Int64) (x4 : Int32) , SM X G 5 res (mM_SqlReaderModel_numberOf_L10 n x1 x2 x4 u) u 10 [(0, .ref (G.1 100)), (1, .int x1), (2, .long x2), (4, .int x4)] [] := by
  intro n
  induction n with
  | zero => intro x1 x2 x4; exact Sm_none
  | succ n h10 =>
    intro x1 x2 x4
    rw [mM_SqlReaderModel_numberOf_L10]
    refine Sm_iload E d_SqlReaderModel_numberOf_10 3 rfl ?_
    refine Sm_aload_n E d_SqlReaderModel_numberOf_12 rfl 0 rfl ?_
    refine gfM_0_to E fl_SqlReaderModel_20 d_SqlReaderModel_numberOf_13 ?_
    refine Sm_iload_n E d_SqlReaderModel_numberOf_16 rfl 1 rfl ?_
    refine Sm_gd fun hi => ldM_4 E (inb_in hi) d_SqlReaderModel_numberOf_17 ?_
    refine Sm_icmp_ge (tgt := 46) E d_SqlReaderModel_numberOf_18 (by decide) (fun _ => ?_) (fun _ => ?_)
    · refine Sm_lload_n E d_SqlReaderModel_numberOf_46 rfl 2 rfl ?_
      exact Sm_retj hR d_SqlReaderModel_numberOf_47
    · refine Sm_ldc2 (v := 10) E kc_SqlReaderModel_258 d_SqlReaderModel_numberOf_21 ?_
      refine Sm_lload_n E d_SqlReaderModel_numberOf_24 rfl 2 rfl ?_
      refine Sm_lmul E d_SqlReaderModel_numberOf_25 ?_
      refine Sm_aload_n E d_SqlReaderModel_numberOf_26 rfl 0 rfl ?_
      refine gfM_0_text E fl_SqlReaderModel_7 d_SqlReaderModel_numberOf_27 ?_
      refine Sm_iload E d_SqlReaderModel_numberOf_30 3 rfl ?_
      refine Sm_gd fun hi => ldM_1 E (inb_in hi) d_SqlReaderModel_numberOf_32 ?_
      refine Sm_i2l E d_SqlReaderModel_numberOf_33 ?_
      refine Sm_ladd E d_SqlReaderModel_numberOf_34 ?_
      refine Sm_ldc2 (v := 48) E kc_SqlReaderModel_260 d_SqlReaderModel_numberOf_35 ?_
      refine Sm_lsub E d_SqlReaderModel_numberOf_38 ?_
      refine Sm_letl fun y2 _ => ?_
      refine Sm_lstore_n (lv' := [(2, .long y2), (0, .ref (G.1 100)), (1, .int x1), (4, .int x4)]) E d_SqlReaderModel_numberOf_39 rfl (by decide) rfl ?_
      refine Sm_iinc (k := 3) (d := 1) E d_SqlReaderModel_numberOf_40 rfl rfl (by decide) fun y3 _ => Sm_lvs (lv' := [(4, .int y3), (2, .long y2), (0, .ref (G.1 100)), (1, .int x1)]) rfl ?_
      refine Sm_goto (tgt := 10) E d_SqlReaderModel_numberOf_43 (by decide) ?_
      exact Sm_sub [2, 3, 1, 0] rfl (h10 _ _ _)
set_option maxRecDepth 100000 in
set_option maxHeartbeats 4000000 in
theorem cM_SqlReaderModel_numberOf {l : Launch} {D : va_G} {G : Gx} (x1 : Int32) (u : St) {res : Int64} (hm : mM_SqlReaderModel_numberOf x1 u = some res) : KM l D G y_SqlReaderModel_numberOf (.code y_SqlReaderModel_numberOf prog_11_method_17_code 5 (some .long)) { frames := 0, cells := 0, slots := 0, locals := 0 } [.ref (G.1 100), .int x1] u (qJ D vwCl (wM G) (tyW G) (adsM G) (res, u)) := by
  refine Ct_j (by decide) wM_as (Nat.le_of_ble_eq_true rfl) hm (fun X _ _ E hR => ?_)
  refine Sm_lvs (lv' := [(0, .ref (G.1 100)), (1, .int x1)]) rfl ?_
  rw [mM_SqlReaderModel_numberOf]
  refine Sm_lconst (v := 0) E d_SqlReaderModel_numberOf_0 (by decide) ?_
  refine Sm_lstore_n (lv' := [(2, .long 0), (0, .ref (G.1 100)), (1, .int x1)]) E d_SqlReaderModel_numberOf_1 rfl (by decide) rfl ?_
  refine Sm_aload_n E d_SqlReaderModel_numberOf_2 rfl 1 rfl ?_
  refine gfM_0_from E fl_SqlReaderModel_17 d_SqlReaderModel_numberOf_3 ?_
  refine Sm_iload_n E d_SqlReaderModel_numberOf_6 rfl 2 rfl ?_
  refine Sm_gd fun hi => ldM_3 E (inb_in hi) d_SqlReaderModel_numberOf_7 ?_
  refine Sm_leti fun y1 _ => ?_
  refine Sm_istore (lv' := [(4, .int y1), (2, .long 0), (0, .ref (G.1 100)), (1, .int x1)]) E d_SqlReaderModel_numberOf_8 (by decide) rfl ?_
  exact Sm_sub [2, 3, 1, 0] rfl (tM_SqlReaderModel_numberOf_L10 E hR FU _ _ _)
set_option maxRecDepth 100000 in
set_option maxHeartbeats 4000000 in
theorem tM_SqlReaderModel_constant_J307 {X : Cx} {G : Gx} {res : Int32 × St} (E : EM X G prog_11_method_41_code R_SqlReaderModel 6 { frames := 5, cells := 0, slots := 0, locals := 109 }) (hR : RtI X vwCl (wM G) prog_11_method_41_code res) : ∀ (x1 : Int32) (x2 : Int32) (x4 : Int32) (u : St), SM X G 6 res (mM_SqlReaderModel_constant_J307 x1 x2 x4 u) u 307 [(0, .ref (G.1 100)), (1, .int x1), (2, .int x2), (4, .int x4)] [] := by
  intro x1 x2 x4 u
  rw [mM_SqlReaderModel_constant_J307]
  refine Sm_aload_n E d_SqlReaderModel_constant_307 rfl 0 rfl ?_
  refine Sm_iload_n E d_SqlReaderModel_constant_308 rfl 2 rfl ?_
  refine Sm_iconst (v := 5) E d_SqlReaderModel_constant_309 (by decide) ?_
  refine Sm_icmp_ne (tgt := 355) E d_SqlReaderModel_constant_310 (by decide) (fun _ => ?_) (fun _ => ?_)
  · refine Sm_aload_n E d_SqlReaderModel_constant_355 rfl 0 rfl ?_
    refine gfM_0_highest E fl_SqlReaderModel_210 d_SqlReaderModel_constant_356 ?_
    refine pfM_0_highest E fl_SqlReaderModel_210 d_SqlReaderModel_constant_359 fun u6 _ => ?_
    refine Sm_iload E d_SqlReaderModel_constant_362 3 rfl ?_
    exact Sm_retI hR d_SqlReaderModel_constant_364
  · refine Sm_aload_n E d_SqlReaderModel_constant_313 rfl 0 rfl ?_
    refine gfM_0_text E fl_SqlReaderModel_7 d_SqlReaderModel_constant_314 ?_
    refine Sm_aload_n E d_SqlReaderModel_constant_317 rfl 0 rfl ?_
    refine gfM_0_from E fl_SqlReaderModel_17 d_SqlReaderModel_constant_318 ?_
    refine Sm_iload_n E d_SqlReaderModel_constant_321 rfl 1 rfl ?_
    refine Sm_gd fun hi => ldM_3 E (inb_in hi) d_SqlReaderModel_constant_322 ?_
    refine Sm_iconst (v := 1) E d_SqlReaderModel_constant_323 (by decide) ?_
    refine Sm_iadd E d_SqlReaderModel_constant_324 ?_
    refine Sm_gd fun hi => ldM_1 E (inb_in hi) d_SqlReaderModel_constant_325 ?_
    refine Sm_bipush (v := 48) E d_SqlReaderModel_constant_326 (by decide) ?_
    refine Sm_isub E d_SqlReaderModel_constant_328 ?_
    refine Sm_aload_n E d_SqlReaderModel_constant_329 rfl 0 rfl ?_
    refine gfM_0_highest E fl_SqlReaderModel_210 d_SqlReaderModel_constant_330 ?_
    refine Sm_icmp_le (tgt := 355) E d_SqlReaderModel_constant_333 (by decide) (fun _ => ?_) (fun _ => ?_)
    · refine Sm_aload_n E d_SqlReaderModel_constant_355 rfl 0 rfl ?_
      refine gfM_0_highest E fl_SqlReaderModel_210 d_SqlReaderModel_constant_356 ?_
      refine pfM_0_highest E fl_SqlReaderModel_210 d_SqlReaderModel_constant_359 fun u7 _ => ?_
      refine Sm_iload E d_SqlReaderModel_constant_362 3 rfl ?_
      exact Sm_retI hR d_SqlReaderModel_constant_364
    · refine Sm_aload_n E d_SqlReaderModel_constant_336 rfl 0 rfl ?_
      refine gfM_0_text E fl_SqlReaderModel_7 d_SqlReaderModel_constant_337 ?_
      refine Sm_aload_n E d_SqlReaderModel_constant_340 rfl 0 rfl ?_
      refine gfM_0_from E fl_SqlReaderModel_17 d_SqlReaderModel_constant_341 ?_
      refine Sm_iload_n E d_SqlReaderModel_constant_344 rfl 1 rfl ?_
      refine Sm_gd fun hi => ldM_3 E (inb_in hi) d_SqlReaderModel_constant_345 ?_
      refine Sm_iconst (v := 1) E d_SqlReaderModel_constant_346 (by decide) ?_
      refine Sm_iadd E d_SqlReaderModel_constant_347 ?_
      refine Sm_gd fun hi => ldM_1 E (inb_in hi) d_SqlReaderModel_constant_348 ?_
      refine Sm_bipush (v := 48) E d_SqlReaderModel_constant_349 (by decide) ?_
      refine Sm_isub E d_SqlReaderModel_constant_351 ?_
      refine Sm_goto (tgt := 359) E d_SqlReaderModel_constant_352 (by decide) ?_
      refine pfM_0_highest E fl_SqlReaderModel_210 d_SqlReaderModel_constant_359 fun u8 _ => ?_
      refine Sm_iload E d_SqlReaderModel_constant_362 3 rfl ?_
      exact Sm_retI hR d_SqlReaderModel_constant_364
set_option maxRecDepth 100000 in
set_option maxHeartbeats 4000000 in
theorem tM_SqlReaderModel_constant_L224 {X : Cx} {G : Gx} {res : Int32 × St} (E : EM X G prog_11_method_41_code R_SqlReaderModel 6 { frames := 5, cells := 0, slots := 0, locals := 109 }) (hR : RtI X vwCl (wM G) prog_11_method_41_code res) : ∀ (n : Nat) (x1 : Int32) (x2 : Int32) (x4 : Int32) (x5 : Int32) (u : St), SM X G 6 res (mM_SqlReaderModel_constant_L224 n x1 x2 x4 x5 u) u 224 [(0, .ref (G.1 100)), (1, .int x1), (2, .int x2), (4, .int x4), (5, .int x5)] [] := by
  intro n
  induction n with
  | zero => intro x1 x2 x4 x5 u; exact Sm_none
  | succ n h224 =>
    intro x1 x2 x4 x5 u
    rw [mM_SqlReaderModel_constant_L224]
    refine Sm_iload_n E d_SqlReaderModel_constant_224 rfl 2 rfl ?_
    refine Sm_iconst (v := 4) E d_SqlReaderModel_constant_225 (by decide) ?_
    refine Sm_icmp_ne (tgt := 307) E d_SqlReaderModel_constant_226 (by decide) (fun _ => ?_) (fun _ => ?_)
    · exact Sm_sub [0, 1, 2, 3] rfl (tM_SqlReaderModel_constant_J307 E hR _ _ _ _)
    · refine Sm_iload E d_SqlReaderModel_constant_229 4 rfl ?_
      refine Sm_aload_n E d_SqlReaderModel_constant_231 rfl 0 rfl ?_
      refine gfM_0_to E fl_SqlReaderModel_20 d_SqlReaderModel_constant_232 ?_
      refine Sm_iload_n E d_SqlReaderModel_constant_235 rfl 1 rfl ?_
      refine Sm_gd fun hi => ldM_4 E (inb_in hi) d_SqlReaderModel_constant_236 ?_
      refine Sm_iconst (v := 1) E d_SqlReaderModel_constant_237 (by decide) ?_
      refine Sm_isub E d_SqlReaderModel_constant_238 ?_
      refine Sm_icmp_ge (tgt := 307) E d_SqlReaderModel_constant_239 (by decide) (fun _ => ?_) (fun _ => ?_)
      · exact Sm_sub [0, 1, 2, 3] rfl (tM_SqlReaderModel_constant_J307 E hR _ _ _ _)
      · refine Sm_aload_n E d_SqlReaderModel_constant_242 rfl 0 rfl ?_
        refine gfM_0_letters E fl_SqlReaderModel_63 d_SqlReaderModel_constant_243 ?_
        refine Sm_bipush (v := 31) E d_SqlReaderModel_constant_246 (by decide) ?_
        refine Sm_iload E d_SqlReaderModel_constant_248 3 rfl ?_
        refine Sm_imul E d_SqlReaderModel_constant_250 ?_
        refine Sm_aload_n E d_SqlReaderModel_constant_251 rfl 0 rfl ?_
        refine gfM_0_length E fl_SqlReaderModel_66 d_SqlReaderModel_constant_252 ?_
        refine Sm_iload E d_SqlReaderModel_constant_255 3 rfl ?_
        refine Sm_gd fun hi => ldM_19 E (inb_in hi) d_SqlReaderModel_constant_257 ?_
        refine Sm_iadd E d_SqlReaderModel_constant_258 ?_
        refine Sm_aload_n E d_SqlReaderModel_constant_259 rfl 0 rfl ?_
        refine gfM_0_text E fl_SqlReaderModel_7 d_SqlReaderModel_constant_260 ?_
        refine Sm_iload E d_SqlReaderModel_constant_263 4 rfl ?_
        refine Sm_gd fun hi => ldM_1 E (inb_in hi) d_SqlReaderModel_constant_265 ?_
        refine Sm_gd fun hi => stM_18 E (inb_in hi) d_SqlReaderModel_constant_266 fun u12 _ => ?_
        refine Sm_aload_n E d_SqlReaderModel_constant_267 rfl 0 rfl ?_
        refine gfM_0_length E fl_SqlReaderModel_66 d_SqlReaderModel_constant_268 ?_
        refine Sm_iload E d_SqlReaderModel_constant_271 3 rfl ?_
        refine Sm_dup2 E d_SqlReaderModel_constant_273 rfl rfl ?_
        refine Sm_gd fun hi => ldM_19 E (inb_in hi) d_SqlReaderModel_constant_274 ?_
        refine Sm_iconst (v := 1) E d_SqlReaderModel_constant_275 (by decide) ?_
        refine Sm_iadd E d_SqlReaderModel_constant_276 ?_
        refine Sm_gd fun hi => stM_19 E (inb_in hi) d_SqlReaderModel_constant_277 fun u13 _ => ?_
        refine Sm_aload_n E d_SqlReaderModel_constant_278 rfl 0 rfl ?_
        refine gfM_0_text E fl_SqlReaderModel_7 d_SqlReaderModel_constant_279 ?_
        refine Sm_iload E d_SqlReaderModel_constant_282 4 rfl ?_
        refine Sm_gd fun hi => ldM_1 E (inb_in hi) d_SqlReaderModel_constant_284 ?_
        refine Sm_bipush (v := 39) E d_SqlReaderModel_constant_285 (by decide) ?_
        refine Sm_icmp_ne (tgt := 297) E d_SqlReaderModel_constant_287 (by decide) (fun _ => ?_) (fun _ => ?_)
        · refine Sm_iload E d_SqlReaderModel_constant_297 4 rfl ?_
          refine Sm_istore (lv' := [(5, .int x5), (0, .ref (G.1 100)), (1, .int x1), (2, .int x2), (4, .int x4)]) E d_SqlReaderModel_constant_299 (by decide) rfl ?_
          refine Sm_iinc (k := 0) (d := 1) E d_SqlReaderModel_constant_301 rfl rfl (by decide) fun y14 _ => Sm_lvs (lv' := [(5, .int y14), (0, .ref (G.1 100)), (1, .int x1), (2, .int x2), (4, .int x4)]) rfl ?_
          refine Sm_goto (tgt := 224) E d_SqlReaderModel_constant_304 (by decide) ?_
          exact Sm_sub [1, 2, 3, 4, 0] rfl (h224 _ _ _ _ _)
        · refine Sm_iload E d_SqlReaderModel_constant_290 4 rfl ?_
          refine Sm_iconst (v := 1) E d_SqlReaderModel_constant_292 (by decide) ?_
          refine Sm_iadd E d_SqlReaderModel_constant_293 ?_
          refine Sm_goto (tgt := 299) E d_SqlReaderModel_constant_294 (by decide) ?_
          refine Sm_leti fun y15 _ => ?_
          refine Sm_istore (lv' := [(5, .int y15), (0, .ref (G.1 100)), (1, .int x1), (2, .int x2), (4, .int x4)]) E d_SqlReaderModel_constant_299 (by decide) rfl ?_
          refine Sm_iinc (k := 0) (d := 1) E d_SqlReaderModel_constant_301 rfl rfl (by decide) fun y16 _ => Sm_lvs (lv' := [(5, .int y16), (0, .ref (G.1 100)), (1, .int x1), (2, .int x2), (4, .int x4)]) rfl ?_
          refine Sm_goto (tgt := 224) E d_SqlReaderModel_constant_304 (by decide) ?_
          exact Sm_sub [1, 2, 3, 4, 0] rfl (h224 _ _ _ _ _)
set_option maxRecDepth 100000 in
set_option maxHeartbeats 4000000 in
theorem tM_SqlReaderModel_constant_J205 {X : Cx} {G : Gx} {res : Int32 × St} (E : EM X G prog_11_method_41_code R_SqlReaderModel 6 { frames := 5, cells := 0, slots := 0, locals := 109 }) (hR : RtI X vwCl (wM G) prog_11_method_41_code res) : ∀ (x1 : Int32) (x2 : Int32) (x4 : Int32) (s1 : Int32) (s2 : Int64) (u : St), SM X G 6 res (mM_SqlReaderModel_constant_J205 x1 x2 x4 s1 s2 u) u 205 [(0, .ref (G.1 100)), (1, .int x1), (2, .int x2), (4, .int x4)] [.long s2, .int s1, .ref (G.1 117)] := by
  intro x1 x2 x4 s1 s2 u
  rw [mM_SqlReaderModel_constant_J205]
  refine Sm_gd fun hi => stM_17 E (inb_in hi) d_SqlReaderModel_constant_205 fun u9 _ => ?_
  refine Sm_aload_n E d_SqlReaderModel_constant_206 rfl 0 rfl ?_
  refine gfM_0_length E fl_SqlReaderModel_66 d_SqlReaderModel_constant_207 ?_
  refine Sm_iload E d_SqlReaderModel_constant_210 3 rfl ?_
  refine Sm_iconst (v := 0) E d_SqlReaderModel_constant_212 (by decide) ?_
  refine Sm_gd fun hi => stM_19 E (inb_in hi) d_SqlReaderModel_constant_213 fun u10 _ => ?_
  refine Sm_aload_n E d_SqlReaderModel_constant_214 rfl 0 rfl ?_
  refine gfM_0_from E fl_SqlReaderModel_17 d_SqlReaderModel_constant_215 ?_
  refine Sm_iload_n E d_SqlReaderModel_constant_218 rfl 1 rfl ?_
  refine Sm_gd fun hi => ldM_3 E (inb_in hi) d_SqlReaderModel_constant_219 ?_
  refine Sm_iconst (v := 1) E d_SqlReaderModel_constant_220 (by decide) ?_
  refine Sm_iadd E d_SqlReaderModel_constant_221 ?_
  refine Sm_leti fun y11 _ => ?_
  refine Sm_istore (lv' := [(5, .int y11), (0, .ref (G.1 100)), (1, .int x1), (2, .int x2), (4, .int x4)]) E d_SqlReaderModel_constant_222 (by decide) rfl ?_
  exact Sm_sub [1, 2, 3, 4, 0] rfl (tM_SqlReaderModel_constant_L224 E hR FU _ _ _ _ _)
set_option maxRecDepth 100000 in
set_option maxHeartbeats 4000000 in
theorem tM_SqlReaderModel_constant_J171 {X : Cx} {G : Gx} {res : Int32 × St} (E : EM X G prog_11_method_41_code R_SqlReaderModel 6 { frames := 5, cells := 0, slots := 0, locals := 109 }) (hR : RtI X vwCl (wM G) prog_11_method_41_code res) : ∀ (x1 : Int32) (x2 : Int32) (s1 : Int32) (s2 : Int32) (u : St), SM X G 6 res (mM_SqlReaderModel_constant_J171 x1 x2 s1 s2 u) u 171 [(0, .ref (G.1 100)), (1, .int x1), (2, .int x2)] [.int s2, .int s1, .ref (G.1 100)] := by
  intro x1 x2 s1 s2 u
  rw [mM_SqlReaderModel_constant_J171]
  refine Sm_iconst (v := (-1)) E d_SqlReaderModel_constant_171 (by decide) ?_
  refine Sm_cVI (As := [.int s1, .int s2, .int (-1)]) (b := (G.1 100)) (st := []) (n := 3) E exOk wM_as (fun _ h => cM_SqlReaderModel_add s1 s2 (-1) u h) gk_SqlReaderModel_287 dk_SqlReaderModel_add rfl ⟨rfl, rfl⟩ ⟨Nat.le_of_ble_eq_true rfl, Nat.le_of_ble_eq_true rfl⟩ (rvW (q0 := 0) (ci := 1) E rfl rfl rfl) rfl (Nat.le_of_ble_eq_true rfl) d_SqlReaderModel_constant_172 fun r4 u5 _ => ?_
  refine Sm_istore (lv' := [(4, .int r4), (0, .ref (G.1 100)), (1, .int x1), (2, .int x2)]) E d_SqlReaderModel_constant_175 (by decide) rfl ?_
  refine Sm_iload E d_SqlReaderModel_constant_177 0 rfl ?_
  refine Sm_sipush (v := 200) E d_SqlReaderModel_constant_179 (by decide) ?_
  refine Sm_icmp_ge (tgt := 307) E d_SqlReaderModel_constant_182 (by decide) (fun _ => ?_) (fun _ => ?_)
  · exact Sm_sub [1, 2, 3, 0] rfl (tM_SqlReaderModel_constant_J307 E hR _ _ _ _)
  · refine Sm_aload_n E d_SqlReaderModel_constant_185 rfl 1 rfl ?_
    refine gfM_0_number E fl_SqlReaderModel_59 d_SqlReaderModel_constant_186 ?_
    refine Sm_iload E d_SqlReaderModel_constant_189 0 rfl ?_
    refine Sm_iload_n E d_SqlReaderModel_constant_191 rfl 3 rfl ?_
    refine Sm_iconst (v := 3) E d_SqlReaderModel_constant_192 (by decide) ?_
    refine Sm_icmp_ne (tgt := 204) E d_SqlReaderModel_constant_193 (by decide) (fun _ => ?_) (fun _ => ?_)
    · refine Sm_lconst (v := 0) E d_SqlReaderModel_constant_204 (by decide) ?_
      exact Sm_sub [1, 2, 3, 0] rfl (tM_SqlReaderModel_constant_J205 E hR _ _ _ _ _ _)
    · refine Sm_aload_n E d_SqlReaderModel_constant_196 rfl 1 rfl ?_
      refine Sm_iload_n E d_SqlReaderModel_constant_197 rfl 2 rfl ?_
      refine Sm_cVj (As := [.int x1]) (b := (G.1 100)) (st := [.int r4, .ref (G.1 117)]) (n := 1) E exOk wM_as (fun _ h => cM_SqlReaderModel_numberOf x1 u5 h) gk_SqlReaderModel_415 dk_SqlReaderModel_numberOf rfl ⟨rfl, rfl⟩ ⟨Nat.le_of_ble_eq_true rfl, Nat.le_of_ble_eq_true rfl⟩ (rvW (q0 := 0) (ci := 1) E rfl rfl rfl) rfl (Nat.le_of_ble_eq_true rfl) d_SqlReaderModel_constant_198 fun r17 _ => ?_
      refine Sm_goto (tgt := 205) E d_SqlReaderModel_constant_201 (by decide) ?_
      exact Sm_sub [1, 2, 3, 0] rfl (tM_SqlReaderModel_constant_J205 E hR _ _ _ _ _ _)
set_option maxRecDepth 100000 in
set_option maxHeartbeats 4000000 in
theorem tM_SqlReaderModel_constant_J119 {X : Cx} {G : Gx} {res : Int32 × St} (E : EM X G prog_11_method_41_code R_SqlReaderModel 6 { frames := 5, cells := 0, slots := 0, locals := 109 }) (hR : RtI X vwCl (wM G) prog_11_method_41_code res) : ∀ (x1 : Int32) (x2 : Int32) (x3 : Int32) (s1 : Int32) (u : St), SM X G 6 res (mM_SqlReaderModel_constant_J119 x1 x2 x3 s1 u) u 119 [(0, .ref (G.1 100)), (1, .int x1), (2, .int x2), (3, .int x3)] [.int s1, .ref (G.1 100)] := by
  intro x1 x2 x3 s1 u
  rw [mM_SqlReaderModel_constant_J119]
  refine Sm_iload_n E d_SqlReaderModel_constant_119 rfl 2 rfl ?_
  refine Sm_iconst (v := 5) E d_SqlReaderModel_constant_120 (by decide) ?_
  refine Sm_icmp_ne (tgt := 143) E d_SqlReaderModel_constant_121 (by decide) (fun _ => ?_) (fun _ => ?_)
  · refine Sm_iload_n E d_SqlReaderModel_constant_143 rfl 3 rfl ?_
    refine Sm_if_eq (tgt := 162) E d_SqlReaderModel_constant_144 (by decide) (fun _ => ?_) (fun _ => ?_)
    · refine Sm_iload_n E d_SqlReaderModel_constant_162 rfl 3 rfl ?_
      refine Sm_if_eq (tgt := 170) E d_SqlReaderModel_constant_163 (by decide) (fun _ => ?_) (fun _ => ?_)
      · refine Sm_iconst (v := (-1)) E d_SqlReaderModel_constant_170 (by decide) ?_
        exact Sm_sub [0, 1, 2] rfl (tM_SqlReaderModel_constant_J171 E hR _ _ _ _ _)
      · refine Sm_iconst (v := 0) E d_SqlReaderModel_constant_166 (by decide) ?_
        refine Sm_goto (tgt := 171) E d_SqlReaderModel_constant_167 (by decide) ?_
        exact Sm_sub [0, 1, 2] rfl (tM_SqlReaderModel_constant_J171 E hR _ _ _ _ _)
    · refine Sm_aload_n E d_SqlReaderModel_constant_147 rfl 0 rfl ?_
      refine Sm_iload_n E d_SqlReaderModel_constant_148 rfl 1 rfl ?_
      refine Sm_ldcS_w E sr_SqlReaderModel_299 d_SqlReaderModel_constant_149 ?_
      refine Sm_cVi (As := [.int x1, .ref (G.2.2.1 108)]) (b := (G.1 100)) (st := [.int s1, .ref (G.1 100)]) (n := 2) E exOk wM_as (fun _ h => cM_SqlReaderModel_is x1 108 u h) gk_SqlReaderModel_293 dk_SqlReaderModel_is rfl ⟨rfl, rfl⟩ ⟨Nat.le_of_ble_eq_true rfl, Nat.le_of_ble_eq_true rfl⟩ (rvW (q0 := 0) (ci := 1) E rfl rfl rfl) rfl (Nat.le_of_ble_eq_true rfl) d_SqlReaderModel_constant_152 fun r18 _ => ?_
      refine Sm_if_eq (tgt := 162) E d_SqlReaderModel_constant_155 (by decide) (fun _ => ?_) (fun _ => ?_)
      · refine Sm_iload_n E d_SqlReaderModel_constant_162 rfl 3 rfl ?_
        refine Sm_if_eq (tgt := 170) E d_SqlReaderModel_constant_163 (by decide) (fun _ => ?_) (fun _ => ?_)
        · refine Sm_iconst (v := (-1)) E d_SqlReaderModel_constant_170 (by decide) ?_
          exact Sm_sub [0, 1, 2] rfl (tM_SqlReaderModel_constant_J171 E hR _ _ _ _ _)
        · refine Sm_iconst (v := 0) E d_SqlReaderModel_constant_166 (by decide) ?_
          refine Sm_goto (tgt := 171) E d_SqlReaderModel_constant_167 (by decide) ?_
          exact Sm_sub [0, 1, 2] rfl (tM_SqlReaderModel_constant_J171 E hR _ _ _ _ _)
      · refine Sm_iconst (v := 1) E d_SqlReaderModel_constant_158 (by decide) ?_
        refine Sm_goto (tgt := 171) E d_SqlReaderModel_constant_159 (by decide) ?_
        exact Sm_sub [0, 1, 2] rfl (tM_SqlReaderModel_constant_J171 E hR _ _ _ _ _)
  · refine Sm_aload_n E d_SqlReaderModel_constant_124 rfl 0 rfl ?_
    refine gfM_0_text E fl_SqlReaderModel_7 d_SqlReaderModel_constant_125 ?_
    refine Sm_aload_n E d_SqlReaderModel_constant_128 rfl 0 rfl ?_
    refine gfM_0_from E fl_SqlReaderModel_17 d_SqlReaderModel_constant_129 ?_
    refine Sm_iload_n E d_SqlReaderModel_constant_132 rfl 1 rfl ?_
    refine Sm_gd fun hi => ldM_3 E (inb_in hi) d_SqlReaderModel_constant_133 ?_
    refine Sm_iconst (v := 1) E d_SqlReaderModel_constant_134 (by decide) ?_
    refine Sm_iadd E d_SqlReaderModel_constant_135 ?_
    refine Sm_gd fun hi => ldM_1 E (inb_in hi) d_SqlReaderModel_constant_136 ?_
    refine Sm_bipush (v := 48) E d_SqlReaderModel_constant_137 (by decide) ?_
    refine Sm_isub E d_SqlReaderModel_constant_139 ?_
    refine Sm_goto (tgt := 171) E d_SqlReaderModel_constant_140 (by decide) ?_
    exact Sm_sub [0, 1, 2] rfl (tM_SqlReaderModel_constant_J171 E hR _ _ _ _ _)
set_option maxRecDepth 100000 in
set_option maxHeartbeats 4000000 in
theorem tM_SqlReaderModel_constant_J78 {X : Cx} {G : Gx} {res : Int32 × St} (E : EM X G prog_11_method_41_code R_SqlReaderModel 6 { frames := 5, cells := 0, slots := 0, locals := 109 }) (hR : RtI X vwCl (wM G) prog_11_method_41_code res) : ∀ (x1 : Int32) (x2 : Int32) (x3 : Int32) (s1 : Int32) (u : St), SM X G 6 res (mM_SqlReaderModel_constant_J78 x1 x2 x3 s1 u) u 78 [(0, .ref (G.1 100)), (1, .int x1), (2, .int x2), (3, .int x3)] [.int s1, .ref (G.1 100)] := by
  intro x1 x2 x3 s1 u
  rw [mM_SqlReaderModel_constant_J78]
  refine Sm_gd fun hz => pfM_0_bad E fl_SqlReaderModel_226 d_SqlReaderModel_constant_78 (zb_n hz) (zb_f hz) fun u3 _ => ?_
  refine Sm_aload_n E d_SqlReaderModel_constant_81 rfl 0 rfl ?_
  refine Sm_iload_n E d_SqlReaderModel_constant_82 rfl 2 rfl ?_
  refine Sm_iconst (v := 3) E d_SqlReaderModel_constant_83 (by decide) ?_
  refine Sm_icmp_ne (tgt := 91) E d_SqlReaderModel_constant_84 (by decide) (fun _ => ?_) (fun _ => ?_)
  · refine Sm_iload_n E d_SqlReaderModel_constant_91 rfl 2 rfl ?_
    refine Sm_iconst (v := 4) E d_SqlReaderModel_constant_92 (by decide) ?_
    refine Sm_icmp_ne (tgt := 100) E d_SqlReaderModel_constant_93 (by decide) (fun _ => ?_) (fun _ => ?_)
    · refine Sm_iload_n E d_SqlReaderModel_constant_100 rfl 2 rfl ?_
      refine Sm_iconst (v := 5) E d_SqlReaderModel_constant_101 (by decide) ?_
      refine Sm_icmp_ne (tgt := 110) E d_SqlReaderModel_constant_102 (by decide) (fun _ => ?_) (fun _ => ?_)
      · refine Sm_iload_n E d_SqlReaderModel_constant_110 rfl 3 rfl ?_
        refine Sm_if_eq (tgt := 118) E d_SqlReaderModel_constant_111 (by decide) (fun _ => ?_) (fun _ => ?_)
        · refine Sm_iconst (v := 0) E d_SqlReaderModel_constant_118 (by decide) ?_
          exact Sm_sub [0, 1, 2, 3] rfl (tM_SqlReaderModel_constant_J119 E hR _ _ _ _ _)
        · refine Sm_iconst (v := 3) E d_SqlReaderModel_constant_114 (by decide) ?_
          refine Sm_goto (tgt := 119) E d_SqlReaderModel_constant_115 (by decide) ?_
          exact Sm_sub [0, 1, 2, 3] rfl (tM_SqlReaderModel_constant_J119 E hR _ _ _ _ _)
      · refine Sm_bipush (v := 28) E d_SqlReaderModel_constant_105 (by decide) ?_
        refine Sm_goto (tgt := 119) E d_SqlReaderModel_constant_107 (by decide) ?_
        exact Sm_sub [0, 1, 2, 3] rfl (tM_SqlReaderModel_constant_J119 E hR _ _ _ _ _)
    · refine Sm_iconst (v := 2) E d_SqlReaderModel_constant_96 (by decide) ?_
      refine Sm_goto (tgt := 119) E d_SqlReaderModel_constant_97 (by decide) ?_
      exact Sm_sub [0, 1, 2, 3] rfl (tM_SqlReaderModel_constant_J119 E hR _ _ _ _ _)
  · refine Sm_iconst (v := 1) E d_SqlReaderModel_constant_87 (by decide) ?_
    refine Sm_goto (tgt := 119) E d_SqlReaderModel_constant_88 (by decide) ?_
    exact Sm_sub [0, 1, 2, 3] rfl (tM_SqlReaderModel_constant_J119 E hR _ _ _ _ _)
set_option maxRecDepth 100000 in
set_option maxHeartbeats 4000000 in
theorem tM_SqlReaderModel_constant_J34 {X : Cx} {G : Gx} {res : Int32 × St} (E : EM X G prog_11_method_41_code R_SqlReaderModel 6 { frames := 5, cells := 0, slots := 0, locals := 109 }) (hR : RtI X vwCl (wM G) prog_11_method_41_code res) : ∀ (x1 : Int32) (x2 : Int32) (s0 : Int32) (u : St), SM X G 6 res (mM_SqlReaderModel_constant_J34 x1 x2 s0 u) u 34 [(0, .ref (G.1 100)), (1, .int x1), (2, .int x2)] [.int s0] := by
  intro x1 x2 s0 u
  rw [mM_SqlReaderModel_constant_J34]
  refine Sm_istore_n (lv' := [(3, .int s0), (0, .ref (G.1 100)), (1, .int x1), (2, .int x2)]) E d_SqlReaderModel_constant_34 rfl (by decide) rfl ?_
  refine Sm_aload_n E d_SqlReaderModel_constant_35 rfl 1 rfl ?_
  refine Sm_aload_n E d_SqlReaderModel_constant_36 rfl 1 rfl ?_
  refine gfM_0_bad E fl_SqlReaderModel_226 d_SqlReaderModel_constant_37 ?_
  refine Sm_if_ne (tgt := 73) E d_SqlReaderModel_constant_40 (by decide) (fun _ => ?_) (fun _ => ?_)
  · refine Sm_iconst (v := 1) E d_SqlReaderModel_constant_73 (by decide) ?_
    refine Sm_goto (tgt := 78) E d_SqlReaderModel_constant_74 (by decide) ?_
    exact Sm_sub [1, 2, 3, 0] rfl (tM_SqlReaderModel_constant_J78 E hR _ _ _ _ _)
  · refine Sm_iload_n E d_SqlReaderModel_constant_43 rfl 3 rfl ?_
    refine Sm_iconst (v := 3) E d_SqlReaderModel_constant_44 (by decide) ?_
    refine Sm_icmp_eq (tgt := 77) E d_SqlReaderModel_constant_45 (by decide) (fun _ => ?_) (fun _ => ?_)
    · refine Sm_iconst (v := 0) E d_SqlReaderModel_constant_77 (by decide) ?_
      exact Sm_sub [1, 2, 3, 0] rfl (tM_SqlReaderModel_constant_J78 E hR _ _ _ _ _)
    · refine Sm_iload_n E d_SqlReaderModel_constant_48 rfl 3 rfl ?_
      refine Sm_iconst (v := 4) E d_SqlReaderModel_constant_49 (by decide) ?_
      refine Sm_icmp_eq (tgt := 77) E d_SqlReaderModel_constant_50 (by decide) (fun _ => ?_) (fun _ => ?_)
      · refine Sm_iconst (v := 0) E d_SqlReaderModel_constant_77 (by decide) ?_
        exact Sm_sub [1, 2, 3, 0] rfl (tM_SqlReaderModel_constant_J78 E hR _ _ _ _ _)
      · refine Sm_iload_n E d_SqlReaderModel_constant_53 rfl 3 rfl ?_
        refine Sm_iconst (v := 5) E d_SqlReaderModel_constant_54 (by decide) ?_
        refine Sm_icmp_eq (tgt := 77) E d_SqlReaderModel_constant_55 (by decide) (fun _ => ?_) (fun _ => ?_)
        · refine Sm_iconst (v := 0) E d_SqlReaderModel_constant_77 (by decide) ?_
          exact Sm_sub [1, 2, 3, 0] rfl (tM_SqlReaderModel_constant_J78 E hR _ _ _ _ _)
        · refine Sm_iload_n E d_SqlReaderModel_constant_58 rfl 0 rfl ?_
          refine Sm_if_ne (tgt := 77) E d_SqlReaderModel_constant_59 (by decide) (fun _ => ?_) (fun _ => ?_)
          · refine Sm_iconst (v := 0) E d_SqlReaderModel_constant_77 (by decide) ?_
            exact Sm_sub [1, 2, 3, 0] rfl (tM_SqlReaderModel_constant_J78 E hR _ _ _ _ _)
          · refine Sm_aload_n E d_SqlReaderModel_constant_62 rfl 1 rfl ?_
            refine Sm_iload_n E d_SqlReaderModel_constant_63 rfl 2 rfl ?_
            refine Sm_ldcS_w E sr_SqlReaderModel_303 d_SqlReaderModel_constant_64 ?_
            refine Sm_cVi (As := [.int x1, .ref (G.2.2.1 100)]) (b := (G.1 100)) (st := [.ref (G.1 100)]) (n := 2) E exOk wM_as (fun _ h => cM_SqlReaderModel_is x1 100 u h) gk_SqlReaderModel_293 dk_SqlReaderModel_is rfl ⟨rfl, rfl⟩ ⟨Nat.le_of_ble_eq_true rfl, Nat.le_of_ble_eq_true rfl⟩ (rvW (q0 := 0) (ci := 1) E rfl rfl rfl) rfl (Nat.le_of_ble_eq_true rfl) d_SqlReaderModel_constant_67 fun r19 _ => ?_
            refine Sm_if_ne (tgt := 77) E d_SqlReaderModel_constant_70 (by decide) (fun _ => ?_) (fun _ => ?_)
            · refine Sm_iconst (v := 0) E d_SqlReaderModel_constant_77 (by decide) ?_
              exact Sm_sub [1, 2, 3, 0] rfl (tM_SqlReaderModel_constant_J78 E hR _ _ _ _ _)
            · refine Sm_iconst (v := 1) E d_SqlReaderModel_constant_73 (by decide) ?_
              refine Sm_goto (tgt := 78) E d_SqlReaderModel_constant_74 (by decide) ?_
              exact Sm_sub [1, 2, 3, 0] rfl (tM_SqlReaderModel_constant_J78 E hR _ _ _ _ _)
set_option maxRecDepth 100000 in
set_option maxHeartbeats 4000000 in
theorem cM_SqlReaderModel_constant {l : Launch} {D : va_G} {G : Gx} (x1 : Int32) (u : St) {res : Int32 × St} (hm : mM_SqlReaderModel_constant x1 u = some res) : KM l D G y_SqlReaderModel_constant (.code y_SqlReaderModel_constant prog_11_method_41_code 6 (some .int)) { frames := 5, cells := 0, slots := 0, locals := 109 } [.ref (G.1 100), .int x1] u (qI D vwCl (wM G) (tyW G) (adsM G) res) := by
  refine Ct_I (by decide) wM_as (Nat.le_of_ble_eq_true rfl) hm (fun X _ _ E hR => ?_)
  refine Sm_lvs (lv' := [(0, .ref (G.1 100)), (1, .int x1)]) rfl ?_
  rw [mM_SqlReaderModel_constant]
  refine Sm_aload_n E d_SqlReaderModel_constant_0 rfl 0 rfl ?_
  refine gfM_0_tokenKind E fl_SqlReaderModel_13 d_SqlReaderModel_constant_1 ?_
  refine Sm_iload_n E d_SqlReaderModel_constant_4 rfl 1 rfl ?_
  refine Sm_gd fun hi => ldM_2 E (inb_in hi) d_SqlReaderModel_constant_5 ?_
  refine Sm_leti fun y1 _ => ?_
  refine Sm_istore_n (lv' := [(2, .int y1), (0, .ref (G.1 100)), (1, .int x1)]) E d_SqlReaderModel_constant_6 rfl (by decide) rfl ?_
  refine Sm_aload_n E d_SqlReaderModel_constant_7 rfl 1 rfl ?_
  refine Sm_iload_n E d_SqlReaderModel_constant_8 rfl 2 rfl ?_
  refine Sm_ldcS_w E sr_SqlReaderModel_299 d_SqlReaderModel_constant_9 ?_
  refine Sm_cVi (As := [.int x1, .ref (G.2.2.1 108)]) (b := (G.1 100)) (st := []) (n := 2) E exOk wM_as (fun _ h => cM_SqlReaderModel_is x1 108 u h) gk_SqlReaderModel_293 dk_SqlReaderModel_is rfl ⟨rfl, rfl⟩ ⟨Nat.le_of_ble_eq_true rfl, Nat.le_of_ble_eq_true rfl⟩ (rvW (q0 := 0) (ci := 1) E rfl rfl rfl) rfl (Nat.le_of_ble_eq_true rfl) d_SqlReaderModel_constant_12 fun r2 _ => ?_
  refine Sm_if_ne (tgt := 29) E d_SqlReaderModel_constant_15 (by decide) (fun _ => ?_) (fun _ => ?_)
  · refine Sm_iconst (v := 1) E d_SqlReaderModel_constant_29 (by decide) ?_
    refine Sm_goto (tgt := 34) E d_SqlReaderModel_constant_30 (by decide) ?_
    exact Sm_sub [1, 2, 0] rfl (tM_SqlReaderModel_constant_J34 E hR _ _ _ _)
  · refine Sm_aload_n E d_SqlReaderModel_constant_18 rfl 1 rfl ?_
    refine Sm_iload_n E d_SqlReaderModel_constant_19 rfl 2 rfl ?_
    refine Sm_ldcS_w E sr_SqlReaderModel_301 d_SqlReaderModel_constant_20 ?_
    refine Sm_cVi (As := [.int x1, .ref (G.2.2.1 109)]) (b := (G.1 100)) (st := []) (n := 2) E exOk wM_as (fun _ h => cM_SqlReaderModel_is x1 109 u h) gk_SqlReaderModel_293 dk_SqlReaderModel_is rfl ⟨rfl, rfl⟩ ⟨Nat.le_of_ble_eq_true rfl, Nat.le_of_ble_eq_true rfl⟩ (rvW (q0 := 0) (ci := 1) E rfl rfl rfl) rfl (Nat.le_of_ble_eq_true rfl) d_SqlReaderModel_constant_23 fun r20 _ => ?_
    refine Sm_if_eq (tgt := 33) E d_SqlReaderModel_constant_26 (by decide) (fun _ => ?_) (fun _ => ?_)
    · refine Sm_iconst (v := 0) E d_SqlReaderModel_constant_33 (by decide) ?_
      exact Sm_sub [1, 2, 0] rfl (tM_SqlReaderModel_constant_J34 E hR _ _ _ _)
    · refine Sm_iconst (v := 1) E d_SqlReaderModel_constant_29 (by decide) ?_
      refine Sm_goto (tgt := 34) E d_SqlReaderModel_constant_30 (by decide) ?_
      exact Sm_sub [1, 2, 0] rfl (tM_SqlReaderModel_constant_J34 E hR _ _ _ _)
set_option maxRecDepth 100000 in
set_option maxHeartbeats 4000000 in
theorem tM_SqlReaderModel_endsOperand_J18 {X : Cx} {G : Gx} {res : Int32} {u : St} (E : EM X G prog_11_method_27_code R_SqlReaderModel 3 { frames := 5, cells := 0, slots := 0, locals := 109 }) (hR : RtZ X vwCl (wM G) prog_11_method_27_code .boolean (res, u)) : ∀ (x1 : Int32) , SM X G 3 res (mM_SqlReaderModel_endsOperand_J18 x1 u) u 18 [(0, .ref (G.1 100)), (1, .int x1)] [] := by
  intro x1
  rw [mM_SqlReaderModel_endsOperand_J18]
  refine Sm_aload_n E d_SqlReaderModel_endsOperand_18 rfl 0 rfl ?_
  refine Sm_iload_n E d_SqlReaderModel_endsOperand_19 rfl 1 rfl ?_
  refine Sm_ldcS_w E sr_SqlReaderModel_297 d_SqlReaderModel_endsOperand_20 ?_
  refine Sm_cVi (As := [.int x1, .ref (G.2.2.1 88)]) (b := (G.1 100)) (st := []) (n := 2) E exOk wM_as (fun _ h => cM_SqlReaderModel_is x1 88 u h) gk_SqlReaderModel_293 dk_SqlReaderModel_is rfl ⟨rfl, rfl⟩ ⟨Nat.le_of_ble_eq_true rfl, Nat.le_of_ble_eq_true rfl⟩ (rvW (q0 := 0) (ci := 1) E rfl rfl rfl) rfl (Nat.le_of_ble_eq_true rfl) d_SqlReaderModel_endsOperand_23 fun r2 _ => ?_
  refine Sm_if_ne (tgt := 62) E d_SqlReaderModel_endsOperand_26 (by decide) (fun _ => ?_) (fun _ => ?_)
  · refine Sm_iconst (v := 1) E d_SqlReaderModel_endsOperand_62 (by decide) ?_
    refine Sm_goto (tgt := 67) E d_SqlReaderModel_endsOperand_63 (by decide) ?_
    exact Sm_retz hR (by decide) d_SqlReaderModel_endsOperand_67
  · refine Sm_aload_n E d_SqlReaderModel_endsOperand_29 rfl 0 rfl ?_
    refine Sm_iload_n E d_SqlReaderModel_endsOperand_30 rfl 1 rfl ?_
    refine Sm_ldcS_w E sr_SqlReaderModel_299 d_SqlReaderModel_endsOperand_31 ?_
    refine Sm_cVi (As := [.int x1, .ref (G.2.2.1 108)]) (b := (G.1 100)) (st := []) (n := 2) E exOk wM_as (fun _ h => cM_SqlReaderModel_is x1 108 u h) gk_SqlReaderModel_293 dk_SqlReaderModel_is rfl ⟨rfl, rfl⟩ ⟨Nat.le_of_ble_eq_true rfl, Nat.le_of_ble_eq_true rfl⟩ (rvW (q0 := 0) (ci := 1) E rfl rfl rfl) rfl (Nat.le_of_ble_eq_true rfl) d_SqlReaderModel_endsOperand_34 fun r3 _ => ?_
    refine Sm_if_ne (tgt := 62) E d_SqlReaderModel_endsOperand_37 (by decide) (fun _ => ?_) (fun _ => ?_)
    · refine Sm_iconst (v := 1) E d_SqlReaderModel_endsOperand_62 (by decide) ?_
      refine Sm_goto (tgt := 67) E d_SqlReaderModel_endsOperand_63 (by decide) ?_
      exact Sm_retz hR (by decide) d_SqlReaderModel_endsOperand_67
    · refine Sm_aload_n E d_SqlReaderModel_endsOperand_40 rfl 0 rfl ?_
      refine Sm_iload_n E d_SqlReaderModel_endsOperand_41 rfl 1 rfl ?_
      refine Sm_ldcS_w E sr_SqlReaderModel_301 d_SqlReaderModel_endsOperand_42 ?_
      refine Sm_cVi (As := [.int x1, .ref (G.2.2.1 109)]) (b := (G.1 100)) (st := []) (n := 2) E exOk wM_as (fun _ h => cM_SqlReaderModel_is x1 109 u h) gk_SqlReaderModel_293 dk_SqlReaderModel_is rfl ⟨rfl, rfl⟩ ⟨Nat.le_of_ble_eq_true rfl, Nat.le_of_ble_eq_true rfl⟩ (rvW (q0 := 0) (ci := 1) E rfl rfl rfl) rfl (Nat.le_of_ble_eq_true rfl) d_SqlReaderModel_endsOperand_45 fun r4 _ => ?_
      refine Sm_if_ne (tgt := 62) E d_SqlReaderModel_endsOperand_48 (by decide) (fun _ => ?_) (fun _ => ?_)
      · refine Sm_iconst (v := 1) E d_SqlReaderModel_endsOperand_62 (by decide) ?_
        refine Sm_goto (tgt := 67) E d_SqlReaderModel_endsOperand_63 (by decide) ?_
        exact Sm_retz hR (by decide) d_SqlReaderModel_endsOperand_67
      · refine Sm_aload_n E d_SqlReaderModel_endsOperand_51 rfl 0 rfl ?_
        refine Sm_iload_n E d_SqlReaderModel_endsOperand_52 rfl 1 rfl ?_
        refine Sm_ldcS_w E sr_SqlReaderModel_303 d_SqlReaderModel_endsOperand_53 ?_
        refine Sm_cVi (As := [.int x1, .ref (G.2.2.1 100)]) (b := (G.1 100)) (st := []) (n := 2) E exOk wM_as (fun _ h => cM_SqlReaderModel_is x1 100 u h) gk_SqlReaderModel_293 dk_SqlReaderModel_is rfl ⟨rfl, rfl⟩ ⟨Nat.le_of_ble_eq_true rfl, Nat.le_of_ble_eq_true rfl⟩ (rvW (q0 := 0) (ci := 1) E rfl rfl rfl) rfl (Nat.le_of_ble_eq_true rfl) d_SqlReaderModel_endsOperand_56 fun r5 _ => ?_
        refine Sm_if_eq (tgt := 66) E d_SqlReaderModel_endsOperand_59 (by decide) (fun _ => ?_) (fun _ => ?_)
        · refine Sm_iconst (v := 0) E d_SqlReaderModel_endsOperand_66 (by decide) ?_
          exact Sm_retz hR (by decide) d_SqlReaderModel_endsOperand_67
        · refine Sm_iconst (v := 1) E d_SqlReaderModel_endsOperand_62 (by decide) ?_
          refine Sm_goto (tgt := 67) E d_SqlReaderModel_endsOperand_63 (by decide) ?_
          exact Sm_retz hR (by decide) d_SqlReaderModel_endsOperand_67
set_option maxRecDepth 100000 in
set_option maxHeartbeats 4000000 in
theorem cM_SqlReaderModel_endsOperand {l : Launch} {D : va_G} {G : Gx} (x1 : Int32) (u : St) {res : Int32} (hm : mM_SqlReaderModel_endsOperand x1 u = some res) : KM l D G y_SqlReaderModel_endsOperand (.code y_SqlReaderModel_endsOperand prog_11_method_27_code 3 (some .boolean)) { frames := 5, cells := 0, slots := 0, locals := 109 } [.ref (G.1 100), .int x1] u (qI D vwCl (wM G) (tyW G) (adsM G) (res, u)) := by
  refine Ct_z (by decide) wM_as (Nat.le_of_ble_eq_true rfl) hm (fun X _ _ E hR => ?_)
  refine Sm_lvs (lv' := [(0, .ref (G.1 100)), (1, .int x1)]) rfl ?_
  rw [mM_SqlReaderModel_endsOperand]
  refine Sm_aload_n E d_SqlReaderModel_endsOperand_0 rfl 0 rfl ?_
  refine gfM_0_tokenKind E fl_SqlReaderModel_13 d_SqlReaderModel_endsOperand_1 ?_
  refine Sm_iload_n E d_SqlReaderModel_endsOperand_4 rfl 1 rfl ?_
  refine Sm_gd fun hi => ldM_2 E (inb_in hi) d_SqlReaderModel_endsOperand_5 ?_
  refine Sm_leti fun y1 _ => ?_
  refine Sm_istore_n (lv' := [(2, .int y1), (0, .ref (G.1 100)), (1, .int x1)]) E d_SqlReaderModel_endsOperand_6 rfl (by decide) rfl ?_
  refine Sm_iload_n E d_SqlReaderModel_endsOperand_7 rfl 0 rfl ?_
  refine Sm_iconst (v := 1) E d_SqlReaderModel_endsOperand_8 (by decide) ?_
  refine Sm_icmp_le (tgt := 18) E d_SqlReaderModel_endsOperand_9 (by decide) (fun _ => ?_) (fun _ => ?_)
  · exact Sm_sub [1, 2] rfl (tM_SqlReaderModel_endsOperand_J18 E hR _)
  · refine Sm_iload_n E d_SqlReaderModel_endsOperand_12 rfl 0 rfl ?_
    refine Sm_bipush (v := 6) E d_SqlReaderModel_endsOperand_13 (by decide) ?_
    refine Sm_icmp_lt (tgt := 62) E d_SqlReaderModel_endsOperand_15 (by decide) (fun _ => ?_) (fun _ => ?_)
    · refine Sm_iconst (v := 1) E d_SqlReaderModel_endsOperand_62 (by decide) ?_
      refine Sm_goto (tgt := 67) E d_SqlReaderModel_endsOperand_63 (by decide) ?_
      exact Sm_retz hR (by decide) d_SqlReaderModel_endsOperand_67
    · exact Sm_sub [1, 2] rfl (tM_SqlReaderModel_endsOperand_J18 E hR _)
set_option maxRecDepth 100000 in
set_option maxHeartbeats 4000000 in
theorem cM_SqlReaderModel_joins {l : Launch} {D : va_G} {G : Gx} (x1 : Int32) (x2 : Int32) (x3 : Int32) (u : St) {res : Int32} (hm : mM_SqlReaderModel_joins x1 x2 x3 u = some res) : KM l D G y_SqlReaderModel_joins (.code y_SqlReaderModel_joins prog_11_method_28_code 4 (some .int)) { frames := 5, cells := 0, slots := 0, locals := 109 } [.ref (G.1 100), .int x1, .int x2, .int x3] u (qI D vwCl (wM G) (tyW G) (adsM G) (res, u)) := by
  refine Ct_i (by decide) wM_as (Nat.le_of_ble_eq_true rfl) hm (fun X _ _ E hR => ?_)
  refine Sm_lvs (lv' := [(0, .ref (G.1 100)), (1, .int x1), (2, .int x2), (3, .int x3)]) rfl ?_
  rw [mM_SqlReaderModel_joins]
  refine Sm_iload_n E d_SqlReaderModel_joins_0 rfl 1 rfl ?_
  refine Sm_if_ne (tgt := 22) E d_SqlReaderModel_joins_1 (by decide) (fun _ => ?_) (fun _ => ?_)
  · refine Sm_iload_n E d_SqlReaderModel_joins_22 rfl 1 rfl ?_
    refine Sm_iconst (v := 1) E d_SqlReaderModel_joins_23 (by decide) ?_
    refine Sm_icmp_ne (tgt := 45) E d_SqlReaderModel_joins_24 (by decide) (fun _ => ?_) (fun _ => ?_)
    · refine Sm_iload_n E d_SqlReaderModel_joins_45 rfl 1 rfl ?_
      refine Sm_iconst (v := 4) E d_SqlReaderModel_joins_46 (by decide) ?_
      refine Sm_icmp_ne (tgt := 68) E d_SqlReaderModel_joins_47 (by decide) (fun _ => ?_) (fun _ => ?_)
      · refine Sm_iload_n E d_SqlReaderModel_joins_68 rfl 1 rfl ?_
        refine Sm_iconst (v := 5) E d_SqlReaderModel_joins_69 (by decide) ?_
        refine Sm_icmp_ne (tgt := 115) E d_SqlReaderModel_joins_70 (by decide) (fun _ => ?_) (fun _ => ?_)
        · refine Sm_aload_n E d_SqlReaderModel_joins_115 rfl 0 rfl ?_
          refine Sm_iload_n E d_SqlReaderModel_joins_116 rfl 2 rfl ?_
          refine Sm_ldcS_w E sr_SqlReaderModel_315 d_SqlReaderModel_joins_117 ?_
          refine Sm_cVi (As := [.int x2, .ref (G.2.2.1 106)]) (b := (G.1 100)) (st := []) (n := 2) E exOk wM_as (fun _ h => cM_SqlReaderModel_is x2 106 u h) gk_SqlReaderModel_293 dk_SqlReaderModel_is rfl ⟨rfl, rfl⟩ ⟨Nat.le_of_ble_eq_true rfl, Nat.le_of_ble_eq_true rfl⟩ (rvW (q0 := 0) (ci := 1) E rfl rfl rfl) rfl (Nat.le_of_ble_eq_true rfl) d_SqlReaderModel_joins_120 fun r1 _ => ?_
          refine Sm_if_eq (tgt := 131) E d_SqlReaderModel_joins_123 (by decide) (fun _ => ?_) (fun _ => ?_)
          · refine Sm_aload_n E d_SqlReaderModel_joins_131 rfl 0 rfl ?_
            refine Sm_iload_n E d_SqlReaderModel_joins_132 rfl 2 rfl ?_
            refine Sm_ldcS_w E sr_SqlReaderModel_317 d_SqlReaderModel_joins_133 ?_
            refine Sm_cVi (As := [.int x2, .ref (G.2.2.1 113)]) (b := (G.1 100)) (st := []) (n := 2) E exOk wM_as (fun _ h => cM_SqlReaderModel_is x2 113 u h) gk_SqlReaderModel_293 dk_SqlReaderModel_is rfl ⟨rfl, rfl⟩ ⟨Nat.le_of_ble_eq_true rfl, Nat.le_of_ble_eq_true rfl⟩ (rvW (q0 := 0) (ci := 1) E rfl rfl rfl) rfl (Nat.le_of_ble_eq_true rfl) d_SqlReaderModel_joins_136 fun r2 _ => ?_
            refine Sm_if_eq (tgt := 147) E d_SqlReaderModel_joins_139 (by decide) (fun _ => ?_) (fun _ => ?_)
            · refine Sm_aload_n E d_SqlReaderModel_joins_147 rfl 0 rfl ?_
              refine Sm_iload_n E d_SqlReaderModel_joins_148 rfl 2 rfl ?_
              refine Sm_ldcS_w E sr_SqlReaderModel_319 d_SqlReaderModel_joins_149 ?_
              refine Sm_cVi (As := [.int x2, .ref (G.2.2.1 114)]) (b := (G.1 100)) (st := []) (n := 2) E exOk wM_as (fun _ h => cM_SqlReaderModel_is x2 114 u h) gk_SqlReaderModel_293 dk_SqlReaderModel_is rfl ⟨rfl, rfl⟩ ⟨Nat.le_of_ble_eq_true rfl, Nat.le_of_ble_eq_true rfl⟩ (rvW (q0 := 0) (ci := 1) E rfl rfl rfl) rfl (Nat.le_of_ble_eq_true rfl) d_SqlReaderModel_joins_152 fun r3 _ => ?_
              refine Sm_if_eq (tgt := 163) E d_SqlReaderModel_joins_155 (by decide) (fun _ => ?_) (fun _ => ?_)
              · refine Sm_iconst (v := 0) E d_SqlReaderModel_joins_163 (by decide) ?_
                exact Sm_reti hR d_SqlReaderModel_joins_164
              · refine Sm_bipush (v := 15) E d_SqlReaderModel_joins_158 (by decide) ?_
                refine Sm_goto (tgt := 164) E d_SqlReaderModel_joins_160 (by decide) ?_
                exact Sm_reti hR d_SqlReaderModel_joins_164
            · refine Sm_bipush (v := 14) E d_SqlReaderModel_joins_142 (by decide) ?_
              refine Sm_goto (tgt := 164) E d_SqlReaderModel_joins_144 (by decide) ?_
              exact Sm_reti hR d_SqlReaderModel_joins_164
          · refine Sm_bipush (v := 13) E d_SqlReaderModel_joins_126 (by decide) ?_
            refine Sm_goto (tgt := 164) E d_SqlReaderModel_joins_128 (by decide) ?_
            exact Sm_reti hR d_SqlReaderModel_joins_164
        · refine Sm_iload_n E d_SqlReaderModel_joins_73 rfl 3 rfl ?_
          refine Sm_if_ne (tgt := 81) E d_SqlReaderModel_joins_74 (by decide) (fun _ => ?_) (fun _ => ?_)
          · refine Sm_aload_n E d_SqlReaderModel_joins_81 rfl 0 rfl ?_
            refine Sm_iload_n E d_SqlReaderModel_joins_82 rfl 2 rfl ?_
            refine Sm_ldcS_w E sr_SqlReaderModel_311 d_SqlReaderModel_joins_83 ?_
            refine Sm_cVi (As := [.int x2, .ref (G.2.2.1 112)]) (b := (G.1 100)) (st := []) (n := 2) E exOk wM_as (fun _ h => cM_SqlReaderModel_is x2 112 u h) gk_SqlReaderModel_293 dk_SqlReaderModel_is rfl ⟨rfl, rfl⟩ ⟨Nat.le_of_ble_eq_true rfl, Nat.le_of_ble_eq_true rfl⟩ (rvW (q0 := 0) (ci := 1) E rfl rfl rfl) rfl (Nat.le_of_ble_eq_true rfl) d_SqlReaderModel_joins_86 fun r4 _ => ?_
            refine Sm_if_eq (tgt := 97) E d_SqlReaderModel_joins_89 (by decide) (fun _ => ?_) (fun _ => ?_)
            · refine Sm_aload_n E d_SqlReaderModel_joins_97 rfl 0 rfl ?_
              refine Sm_iload_n E d_SqlReaderModel_joins_98 rfl 2 rfl ?_
              refine Sm_ldcS_w E sr_SqlReaderModel_313 d_SqlReaderModel_joins_99 ?_
              refine Sm_cVi (As := [.int x2, .ref (G.2.2.1 90)]) (b := (G.1 100)) (st := []) (n := 2) E exOk wM_as (fun _ h => cM_SqlReaderModel_is x2 90 u h) gk_SqlReaderModel_293 dk_SqlReaderModel_is rfl ⟨rfl, rfl⟩ ⟨Nat.le_of_ble_eq_true rfl, Nat.le_of_ble_eq_true rfl⟩ (rvW (q0 := 0) (ci := 1) E rfl rfl rfl) rfl (Nat.le_of_ble_eq_true rfl) d_SqlReaderModel_joins_102 fun r5 _ => ?_
              refine Sm_if_eq (tgt := 113) E d_SqlReaderModel_joins_105 (by decide) (fun _ => ?_) (fun _ => ?_)
              · refine Sm_iconst (v := 0) E d_SqlReaderModel_joins_113 (by decide) ?_
                exact Sm_reti hR d_SqlReaderModel_joins_114
              · refine Sm_bipush (v := 12) E d_SqlReaderModel_joins_108 (by decide) ?_
                refine Sm_goto (tgt := 114) E d_SqlReaderModel_joins_110 (by decide) ?_
                exact Sm_reti hR d_SqlReaderModel_joins_114
            · refine Sm_bipush (v := 11) E d_SqlReaderModel_joins_92 (by decide) ?_
              refine Sm_goto (tgt := 114) E d_SqlReaderModel_joins_94 (by decide) ?_
              exact Sm_reti hR d_SqlReaderModel_joins_114
          · refine Sm_iconst (v := 0) E d_SqlReaderModel_joins_77 (by decide) ?_
            refine Sm_goto (tgt := 114) E d_SqlReaderModel_joins_78 (by decide) ?_
            exact Sm_reti hR d_SqlReaderModel_joins_114
      · refine Sm_aload_n E d_SqlReaderModel_joins_50 rfl 0 rfl ?_
        refine Sm_iload_n E d_SqlReaderModel_joins_51 rfl 2 rfl ?_
        refine Sm_ldcS_w E sr_SqlReaderModel_309 d_SqlReaderModel_joins_52 ?_
        refine Sm_cVi (As := [.int x2, .ref (G.2.2.1 111)]) (b := (G.1 100)) (st := []) (n := 2) E exOk wM_as (fun _ h => cM_SqlReaderModel_is x2 111 u h) gk_SqlReaderModel_293 dk_SqlReaderModel_is rfl ⟨rfl, rfl⟩ ⟨Nat.le_of_ble_eq_true rfl, Nat.le_of_ble_eq_true rfl⟩ (rvW (q0 := 0) (ci := 1) E rfl rfl rfl) rfl (Nat.le_of_ble_eq_true rfl) d_SqlReaderModel_joins_55 fun r6 _ => ?_
        refine Sm_if_eq (tgt := 66) E d_SqlReaderModel_joins_58 (by decide) (fun _ => ?_) (fun _ => ?_)
        · refine Sm_iconst (v := 0) E d_SqlReaderModel_joins_66 (by decide) ?_
          exact Sm_reti hR d_SqlReaderModel_joins_67
        · refine Sm_bipush (v := 16) E d_SqlReaderModel_joins_61 (by decide) ?_
          refine Sm_goto (tgt := 67) E d_SqlReaderModel_joins_63 (by decide) ?_
          exact Sm_reti hR d_SqlReaderModel_joins_67
    · refine Sm_aload_n E d_SqlReaderModel_joins_27 rfl 0 rfl ?_
      refine Sm_iload_n E d_SqlReaderModel_joins_28 rfl 2 rfl ?_
      refine Sm_ldcS_w E sr_SqlReaderModel_307 d_SqlReaderModel_joins_29 ?_
      refine Sm_cVi (As := [.int x2, .ref (G.2.2.1 101)]) (b := (G.1 100)) (st := []) (n := 2) E exOk wM_as (fun _ h => cM_SqlReaderModel_is x2 101 u h) gk_SqlReaderModel_293 dk_SqlReaderModel_is rfl ⟨rfl, rfl⟩ ⟨Nat.le_of_ble_eq_true rfl, Nat.le_of_ble_eq_true rfl⟩ (rvW (q0 := 0) (ci := 1) E rfl rfl rfl) rfl (Nat.le_of_ble_eq_true rfl) d_SqlReaderModel_joins_32 fun r7 _ => ?_
      refine Sm_if_eq (tgt := 43) E d_SqlReaderModel_joins_35 (by decide) (fun _ => ?_) (fun _ => ?_)
      · refine Sm_iconst (v := 0) E d_SqlReaderModel_joins_43 (by decide) ?_
        exact Sm_reti hR d_SqlReaderModel_joins_44
      · refine Sm_bipush (v := 26) E d_SqlReaderModel_joins_38 (by decide) ?_
        refine Sm_goto (tgt := 44) E d_SqlReaderModel_joins_40 (by decide) ?_
        exact Sm_reti hR d_SqlReaderModel_joins_44
  · refine Sm_aload_n E d_SqlReaderModel_joins_4 rfl 0 rfl ?_
    refine Sm_iload_n E d_SqlReaderModel_joins_5 rfl 2 rfl ?_
    refine Sm_ldcS_w E sr_SqlReaderModel_305 d_SqlReaderModel_joins_6 ?_
    refine Sm_cVi (As := [.int x2, .ref (G.2.2.1 110)]) (b := (G.1 100)) (st := []) (n := 2) E exOk wM_as (fun _ h => cM_SqlReaderModel_is x2 110 u h) gk_SqlReaderModel_293 dk_SqlReaderModel_is rfl ⟨rfl, rfl⟩ ⟨Nat.le_of_ble_eq_true rfl, Nat.le_of_ble_eq_true rfl⟩ (rvW (q0 := 0) (ci := 1) E rfl rfl rfl) rfl (Nat.le_of_ble_eq_true rfl) d_SqlReaderModel_joins_9 fun r8 _ => ?_
    refine Sm_if_eq (tgt := 20) E d_SqlReaderModel_joins_12 (by decide) (fun _ => ?_) (fun _ => ?_)
    · refine Sm_iconst (v := 0) E d_SqlReaderModel_joins_20 (by decide) ?_
      exact Sm_reti hR d_SqlReaderModel_joins_21
    · refine Sm_bipush (v := 27) E d_SqlReaderModel_joins_15 (by decide) ?_
      refine Sm_goto (tgt := 21) E d_SqlReaderModel_joins_17 (by decide) ?_
      exact Sm_reti hR d_SqlReaderModel_joins_21
def rcCM (n : Nat) (G : Gx) (t : Nat) (a b c d e f : Int32) (u : St) (res : Int32 × St) : Prop := match t with
  | 0 => ∀ (l : Launch) (D : va_G), KM l D G y_SqlReaderModel_chain (.code y_SqlReaderModel_chain prog_11_method_29_code 15 (some .int)) (rmGM n) [.ref (G.1 100), .int a, .int b, .int c, .int d] u (qI D vwCl (wM G) (tyW G) (adsM G) res)
  | 1 => ∀ (l : Launch) (D : va_G), KM l D G y_SqlReaderModel_primary (.code y_SqlReaderModel_primary prog_11_method_39_code 6 (some .int)) (rmGM n) [.ref (G.1 100), .int a, .int b, .int c] u (qI D vwCl (wM G) (tyW G) (adsM G) res)
  | 2 => ∀ (l : Launch) (D : va_G), KM l D G y_SqlReaderModel_in (.code y_SqlReaderModel_in prog_11_method_36_code 13 (some .int)) (rmGM n) [.ref (G.1 100), .int a, .int b, .int c, .int d, .int e, .int f] u (qI D vwCl (wM G) (tyW G) (adsM G) res)
  | 3 => ∀ (l : Launch) (D : va_G), KM l D G y_SqlReaderModel_comparison (.code y_SqlReaderModel_comparison prog_11_method_35_code 16 (some .int)) (rmGM n) [.ref (G.1 100), .int a, .int b, .int c] u (qI D vwCl (wM G) (tyW G) (adsM G) res)
  | 4 => ∀ (l : Launch) (D : va_G), KM l D G y_SqlReaderModel_prefixed (.code y_SqlReaderModel_prefixed prog_11_method_31_code 8 (some .int)) (rmGM n) [.ref (G.1 100), .int a, .int b, .int c, .int d] u (qI D vwCl (wM G) (tyW G) (adsM G) res)
  | 5 => ∀ (l : Launch) (D : va_G), KM l D G y_SqlReaderModel_part (.code y_SqlReaderModel_part prog_11_method_30_code 5 (some .int)) (rmGM n) [.ref (G.1 100), .int a, .int b, .int c, .int d] u (qI D vwCl (wM G) (tyW G) (adsM G) res)
  | _ => True
set_option maxRecDepth 100000 in
set_option maxHeartbeats 4000000 in
theorem tM_SqlReaderModel_chain_J205 {X : Cx} {G : Gx} {res : Int32 × St} (rc : Nat → Int32 → Int32 → Int32 → Int32 → Int32 → Int32 → St → Option (Int32 × St)) (n0 : Nat) (hrc : ∀ (t : Nat) (a b c d e f : Int32) (u : St) (res : Int32 × St), rc t a b c d e f u = some res → rcCM n0 G t a b c d e f u res) (E : EM X G prog_11_method_29_code R_SqlReaderModel 15 (rmGM (n0 + 1))) (hR : RtI X vwCl (wM G) prog_11_method_29_code res) {q32 : Int32 → Int32 → Int32 → Int32 → Int32 → Int32 → Int32 → Int32 → Int32 → Int32 → St → Option (Int32 × St)} (h32 : ∀ (x1 : Int32) (x3 : Int32) (x4 : Int32) (x5 : Int32) (x6 : Int32) (x7 : Int32) (x8 : Int32) (x9 : Int32) (x10 : Int32) (x11 : Int32) (u : St), SM X G 15 res (q32 x1 x3 x4 x5 x6 x7 x8 x9 x10 x11 u) u 32 [(0, .ref (G.1 100)), (1, .int x1), (3, .int x3), (4, .int x4), (5, .int x5), (6, .int x6), (7, .int x7), (8, .int x8), (9, .int x9), (10, .int x10), (11, .int x11)] []) : ∀ (x1 : Int32) (x3 : Int32) (x4 : Int32) (x5 : Int32) (x6 : Int32) (x7 : Int32) (x8 : Int32) (x9 : Int32) (x10 : Int32) (x11 : Int32) (u : St), SM X G 15 res (mM_SqlReaderModel_chain_J205 rc q32 x1 x3 x4 x5 x6 x7 x8 x9 x10 x11 u) u 205 [(0, .ref (G.1 100)), (1, .int x1), (3, .int x3), (4, .int x4), (5, .int x5), (6, .int x6), (7, .int x7), (8, .int x8), (9, .int x9), (10, .int x10), (11, .int x11)] [] := by
  intro x1 x3 x4 x5 x6 x7 x8 x9 x10 x11 u
  rw [mM_SqlReaderModel_chain_J205]
  refine Sm_iload E d_SqlReaderModel_chain_205 10 rfl ?_
  refine Sm_iload_n E d_SqlReaderModel_chain_207 rfl 2 rfl ?_
  refine Sm_icmp_ge (tgt := 223) E d_SqlReaderModel_chain_208 (by decide) (fun _ => ?_) (fun _ => ?_)
  · refine Sm_iload E d_SqlReaderModel_chain_223 7 rfl ?_
    refine Sm_istore (lv' := [(8, .int x8), (0, .ref (G.1 100)), (1, .int x1), (3, .int x3), (4, .int x4), (5, .int x5), (6, .int x6), (7, .int x7), (9, .int x9), (10, .int x10), (11, .int x11)]) E d_SqlReaderModel_chain_225 (by decide) rfl ?_
    refine Sm_iinc (k := 10) (d := 1) E d_SqlReaderModel_chain_227 rfl rfl (by decide) fun y7 _ => Sm_lvs (lv' := [(11, .int y7), (8, .int x8), (0, .ref (G.1 100)), (1, .int x1), (3, .int x3), (4, .int x4), (5, .int x5), (6, .int x6), (7, .int x7), (9, .int x9), (10, .int x10)]) rfl ?_
    refine Sm_goto (tgt := 32) E d_SqlReaderModel_chain_230 (by decide) ?_
    exact Sm_sub [2, 3, 4, 5, 6, 7, 8, 1, 9, 10, 0] rfl (h32 _ _ _ _ _ _ _ _ _ _ _)
  · refine Sm_iload E d_SqlReaderModel_chain_211 7 rfl ?_
    refine Sm_aload_n E d_SqlReaderModel_chain_213 rfl 0 rfl ?_
    refine Sm_iload E d_SqlReaderModel_chain_214 10 rfl ?_
    refine Sm_cVi (As := [.int x11]) (b := (G.1 100)) (st := [.int x8]) (n := 1) E exOk wM_as (fun _ h => cM_SqlReaderModel_opens x11 u h) gk_SqlReaderModel_334 dk_SqlReaderModel_opens rfl ⟨rfl, rfl⟩ ⟨(by show 5 + 1 ≤ n0 + 1 + 7; omega), (by show 8 + (2 + 11) + 109 ≤ 35 * (n0 + 1) + 155; omega)⟩ (rvW (q0 := 0) (ci := 1) E rfl rfl rfl) rfl (Nat.le_of_ble_eq_true rfl) d_SqlReaderModel_chain_216 fun r8 _ => ?_
    refine Sm_iadd E d_SqlReaderModel_chain_219 ?_
    refine Sm_goto (tgt := 225) E d_SqlReaderModel_chain_220 (by decide) ?_
    refine Sm_leti fun y9 _ => ?_
    refine Sm_istore (lv' := [(8, .int y9), (0, .ref (G.1 100)), (1, .int x1), (3, .int x3), (4, .int x4), (5, .int x5), (6, .int x6), (7, .int x7), (9, .int x9), (10, .int x10), (11, .int x11)]) E d_SqlReaderModel_chain_225 (by decide) rfl ?_
    refine Sm_iinc (k := 10) (d := 1) E d_SqlReaderModel_chain_227 rfl rfl (by decide) fun y10 _ => Sm_lvs (lv' := [(11, .int y10), (8, .int y9), (0, .ref (G.1 100)), (1, .int x1), (3, .int x3), (4, .int x4), (5, .int x5), (6, .int x6), (7, .int x7), (9, .int x9), (10, .int x10)]) rfl ?_
    refine Sm_goto (tgt := 32) E d_SqlReaderModel_chain_230 (by decide) ?_
    exact Sm_sub [2, 3, 4, 5, 6, 7, 8, 1, 9, 10, 0] rfl (h32 _ _ _ _ _ _ _ _ _ _ _)
set_option maxRecDepth 100000 in
set_option maxHeartbeats 4000000 in
theorem tM_SqlReaderModel_chain_J159 {X : Cx} {G : Gx} {res : Int32 × St} (rc : Nat → Int32 → Int32 → Int32 → Int32 → Int32 → Int32 → St → Option (Int32 × St)) (n0 : Nat) (hrc : ∀ (t : Nat) (a b c d e f : Int32) (u : St) (res : Int32 × St), rc t a b c d e f u = some res → rcCM n0 G t a b c d e f u res) (E : EM X G prog_11_method_29_code R_SqlReaderModel 15 (rmGM (n0 + 1))) (hR : RtI X vwCl (wM G) prog_11_method_29_code res) {q32 : Int32 → Int32 → Int32 → Int32 → Int32 → Int32 → Int32 → Int32 → Int32 → Int32 → St → Option (Int32 × St)} (h32 : ∀ (x1 : Int32) (x3 : Int32) (x4 : Int32) (x5 : Int32) (x6 : Int32) (x7 : Int32) (x8 : Int32) (x9 : Int32) (x10 : Int32) (x11 : Int32) (u : St), SM X G 15 res (q32 x1 x3 x4 x5 x6 x7 x8 x9 x10 x11 u) u 32 [(0, .ref (G.1 100)), (1, .int x1), (3, .int x3), (4, .int x4), (5, .int x5), (6, .int x6), (7, .int x7), (8, .int x8), (9, .int x9), (10, .int x10), (11, .int x11)] []) : ∀ (x1 : Int32) (x3 : Int32) (x4 : Int32) (x5 : Int32) (x6 : Int32) (x7 : Int32) (x8 : Int32) (x9 : Int32) (x10 : Int32) (x11 : Int32) (x13 : Int32) (u : St), SM X G 15 res (mM_SqlReaderModel_chain_J159 rc q32 x1 x3 x4 x5 x6 x7 x8 x9 x10 x11 x13 u) u 159 [(0, .ref (G.1 100)), (1, .int x1), (3, .int x3), (4, .int x4), (5, .int x5), (6, .int x6), (7, .int x7), (8, .int x8), (9, .int x9), (10, .int x10), (11, .int x11), (13, .int x13)] [] := by
  intro x1 x3 x4 x5 x6 x7 x8 x9 x10 x11 x13 u
  rw [mM_SqlReaderModel_chain_J159]
  refine Sm_aload_n E d_SqlReaderModel_chain_159 rfl 0 rfl ?_
  refine Sm_iload E d_SqlReaderModel_chain_160 9 rfl ?_
  refine Sm_iload E d_SqlReaderModel_chain_162 6 rfl ?_
  refine Sm_iload E d_SqlReaderModel_chain_164 10 rfl ?_
  refine Sm_iload E d_SqlReaderModel_chain_166 3 rfl ?_
  refine Sm_cSI (As := [.ref (G.1 100), .int x10, .int x7, .int x11, .int x4]) (st := []) (n := 5) E exOk wM_as (fun _ h => hrc 5 _ _ _ _ _ _ _ _ h X.2.1 (xD X)) gk_SqlReaderModel_330 dk_SqlReaderModel_part rfl ⟨rfl, rfl⟩ ⟨(by show n0 + 7 + 1 ≤ n0 + 1 + 7; omega), (by show 8 + (5 + 11) + (35 * n0 + 155) ≤ 35 * (n0 + 1) + 155; omega)⟩ rfl (Nat.le_of_ble_eq_true rfl) d_SqlReaderModel_chain_168 fun r2 u3 _ => ?_
  refine Sm_istore (lv' := [(14, .int r2), (0, .ref (G.1 100)), (1, .int x1), (3, .int x3), (4, .int x4), (5, .int x5), (6, .int x6), (7, .int x7), (8, .int x8), (9, .int x9), (10, .int x10), (11, .int x11), (13, .int x13)]) E d_SqlReaderModel_chain_171 (by decide) rfl ?_
  refine Sm_iload E d_SqlReaderModel_chain_173 5 rfl ?_
  refine Sm_if_ge (tgt := 183) E d_SqlReaderModel_chain_175 (by decide) (fun _ => ?_) (fun _ => ?_)
  · refine Sm_aload_n E d_SqlReaderModel_chain_183 rfl 1 rfl ?_
    refine Sm_iload E d_SqlReaderModel_chain_184 6 rfl ?_
    refine Sm_iload E d_SqlReaderModel_chain_186 5 rfl ?_
    refine Sm_iload E d_SqlReaderModel_chain_188 0 rfl ?_
    refine Sm_cVI (As := [.int x6, .int x5, .int r2]) (b := (G.1 100)) (st := []) (n := 3) E exOk wM_as (fun _ h => cM_SqlReaderModel_add x6 x5 r2 u3 h) gk_SqlReaderModel_287 dk_SqlReaderModel_add rfl ⟨rfl, rfl⟩ ⟨(by show 1 + 1 ≤ n0 + 1 + 7; omega), (by show 8 + (4 + 11) + 23 ≤ 35 * (n0 + 1) + 155; omega)⟩ (rvW (q0 := 0) (ci := 1) E rfl rfl rfl) rfl (Nat.le_of_ble_eq_true rfl) d_SqlReaderModel_chain_190 fun r4 u5 _ => ?_
    refine Sm_istore (lv' := [(5, .int r4), (14, .int r2), (0, .ref (G.1 100)), (1, .int x1), (3, .int x3), (4, .int x4), (6, .int x6), (7, .int x7), (8, .int x8), (9, .int x9), (10, .int x10), (11, .int x11), (13, .int x13)]) E d_SqlReaderModel_chain_193 (by decide) rfl ?_
    refine Sm_iload E d_SqlReaderModel_chain_195 12 rfl ?_
    refine Sm_istore (lv' := [(6, .int x13), (5, .int r4), (14, .int r2), (0, .ref (G.1 100)), (1, .int x1), (3, .int x3), (4, .int x4), (7, .int x7), (8, .int x8), (9, .int x9), (10, .int x10), (11, .int x11), (13, .int x13)]) E d_SqlReaderModel_chain_197 (by decide) rfl ?_
    refine Sm_iload E d_SqlReaderModel_chain_199 11 rfl ?_
    refine Sm_iconst (v := 1) E d_SqlReaderModel_chain_201 (by decide) ?_
    refine Sm_iadd E d_SqlReaderModel_chain_202 ?_
    refine Sm_leti fun y6 _ => ?_
    refine Sm_istore (lv' := [(7, .int y6), (6, .int x13), (5, .int r4), (14, .int r2), (0, .ref (G.1 100)), (1, .int x1), (3, .int x3), (4, .int x4), (8, .int x8), (9, .int x9), (10, .int x10), (11, .int x11), (13, .int x13)]) E d_SqlReaderModel_chain_203 (by decide) rfl ?_
    exact Sm_sub [4, 5, 6, 7, 2, 1, 0, 8, 9, 10, 11] rfl (tM_SqlReaderModel_chain_J205 rc n0 hrc E hR h32 _ _ _ _ _ _ _ _ _ _ _)
  · refine Sm_iload E d_SqlReaderModel_chain_178 0 rfl ?_
    refine Sm_goto (tgt := 193) E d_SqlReaderModel_chain_180 (by decide) ?_
    refine Sm_istore (lv' := [(5, .int r2), (14, .int r2), (0, .ref (G.1 100)), (1, .int x1), (3, .int x3), (4, .int x4), (6, .int x6), (7, .int x7), (8, .int x8), (9, .int x9), (10, .int x10), (11, .int x11), (13, .int x13)]) E d_SqlReaderModel_chain_193 (by decide) rfl ?_
    refine Sm_iload E d_SqlReaderModel_chain_195 12 rfl ?_
    refine Sm_istore (lv' := [(6, .int x13), (5, .int r2), (14, .int r2), (0, .ref (G.1 100)), (1, .int x1), (3, .int x3), (4, .int x4), (7, .int x7), (8, .int x8), (9, .int x9), (10, .int x10), (11, .int x11), (13, .int x13)]) E d_SqlReaderModel_chain_197 (by decide) rfl ?_
    refine Sm_iload E d_SqlReaderModel_chain_199 11 rfl ?_
    refine Sm_iconst (v := 1) E d_SqlReaderModel_chain_201 (by decide) ?_
    refine Sm_iadd E d_SqlReaderModel_chain_202 ?_
    refine Sm_leti fun y11 _ => ?_
    refine Sm_istore (lv' := [(7, .int y11), (6, .int x13), (5, .int r2), (14, .int r2), (0, .ref (G.1 100)), (1, .int x1), (3, .int x3), (4, .int x4), (8, .int x8), (9, .int x9), (10, .int x10), (11, .int x11), (13, .int x13)]) E d_SqlReaderModel_chain_203 (by decide) rfl ?_
    exact Sm_sub [4, 5, 6, 7, 2, 1, 0, 8, 9, 10, 11] rfl (tM_SqlReaderModel_chain_J205 rc n0 hrc E hR h32 _ _ _ _ _ _ _ _ _ _ _)
set_option maxRecDepth 100000 in
set_option maxHeartbeats 4000000 in
theorem tM_SqlReaderModel_chain_J148 {X : Cx} {G : Gx} {res : Int32 × St} (rc : Nat → Int32 → Int32 → Int32 → Int32 → Int32 → Int32 → St → Option (Int32 × St)) (n0 : Nat) (hrc : ∀ (t : Nat) (a b c d e f : Int32) (u : St) (res : Int32 × St), rc t a b c d e f u = some res → rcCM n0 G t a b c d e f u res) (E : EM X G prog_11_method_29_code R_SqlReaderModel 15 (rmGM (n0 + 1))) (hR : RtI X vwCl (wM G) prog_11_method_29_code res) {q32 : Int32 → Int32 → Int32 → Int32 → Int32 → Int32 → Int32 → Int32 → Int32 → Int32 → St → Option (Int32 × St)} (h32 : ∀ (x1 : Int32) (x3 : Int32) (x4 : Int32) (x5 : Int32) (x6 : Int32) (x7 : Int32) (x8 : Int32) (x9 : Int32) (x10 : Int32) (x11 : Int32) (u : St), SM X G 15 res (q32 x1 x3 x4 x5 x6 x7 x8 x9 x10 x11 u) u 32 [(0, .ref (G.1 100)), (1, .int x1), (3, .int x3), (4, .int x4), (5, .int x5), (6, .int x6), (7, .int x7), (8, .int x8), (9, .int x9), (10, .int x10), (11, .int x11)] []) : ∀ (x1 : Int32) (x3 : Int32) (x4 : Int32) (x5 : Int32) (x6 : Int32) (x7 : Int32) (x8 : Int32) (x9 : Int32) (x10 : Int32) (x11 : Int32) (x13 : Int32) (u : St), SM X G 15 res (mM_SqlReaderModel_chain_J148 rc q32 x1 x3 x4 x5 x6 x7 x8 x9 x10 x11 x13 u) u 148 [(0, .ref (G.1 100)), (1, .int x1), (3, .int x3), (4, .int x4), (5, .int x5), (6, .int x6), (7, .int x7), (8, .int x8), (9, .int x9), (10, .int x10), (11, .int x11), (13, .int x13)] [] := by
  intro x1 x3 x4 x5 x6 x7 x8 x9 x10 x11 x13 u
  rw [mM_SqlReaderModel_chain_J148]
  refine Sm_iload E d_SqlReaderModel_chain_148 11 rfl ?_
  refine Sm_if_gt (tgt := 159) E d_SqlReaderModel_chain_150 (by decide) (fun _ => ?_) (fun _ => ?_)
  · exact Sm_sub [0, 1, 2, 3, 4, 5, 6, 7, 8, 9, 10, 11] rfl (tM_SqlReaderModel_chain_J159 rc n0 hrc E hR h32 _ _ _ _ _ _ _ _ _ _ _ _)
  · refine Sm_iload E d_SqlReaderModel_chain_153 10 rfl ?_
    refine Sm_iload_n E d_SqlReaderModel_chain_155 rfl 2 rfl ?_
    refine Sm_icmp_ne (tgt := 205) E d_SqlReaderModel_chain_156 (by decide) (fun _ => ?_) (fun _ => ?_)
    · exact Sm_sub [0, 1, 2, 3, 4, 5, 6, 7, 8, 9, 10] rfl (tM_SqlReaderModel_chain_J205 rc n0 hrc E hR h32 _ _ _ _ _ _ _ _ _ _ _)
    · exact Sm_sub [0, 1, 2, 3, 4, 5, 6, 7, 8, 9, 10, 11] rfl (tM_SqlReaderModel_chain_J159 rc n0 hrc E hR h32 _ _ _ _ _ _ _ _ _ _ _ _)
set_option maxRecDepth 100000 in
set_option maxHeartbeats 4000000 in
theorem tM_SqlReaderModel_chain_J128 {X : Cx} {G : Gx} {res : Int32 × St} (rc : Nat → Int32 → Int32 → Int32 → Int32 → Int32 → Int32 → St → Option (Int32 × St)) (n0 : Nat) (hrc : ∀ (t : Nat) (a b c d e f : Int32) (u : St) (res : Int32 × St), rc t a b c d e f u = some res → rcCM n0 G t a b c d e f u res) (E : EM X G prog_11_method_29_code R_SqlReaderModel 15 (rmGM (n0 + 1))) (hR : RtI X vwCl (wM G) prog_11_method_29_code res) {q32 : Int32 → Int32 → Int32 → Int32 → Int32 → Int32 → Int32 → Int32 → Int32 → Int32 → St → Option (Int32 × St)} (h32 : ∀ (x1 : Int32) (x3 : Int32) (x4 : Int32) (x5 : Int32) (x6 : Int32) (x7 : Int32) (x8 : Int32) (x9 : Int32) (x10 : Int32) (x11 : Int32) (u : St), SM X G 15 res (q32 x1 x3 x4 x5 x6 x7 x8 x9 x10 x11 u) u 32 [(0, .ref (G.1 100)), (1, .int x1), (3, .int x3), (4, .int x4), (5, .int x5), (6, .int x6), (7, .int x7), (8, .int x8), (9, .int x9), (10, .int x10), (11, .int x11)] []) : ∀ (x1 : Int32) (x3 : Int32) (x4 : Int32) (x5 : Int32) (x6 : Int32) (x7 : Int32) (x8 : Int32) (x10 : Int32) (x11 : Int32) (x13 : Int32) (s0 : Int32) (u : St), SM X G 15 res (mM_SqlReaderModel_chain_J128 rc q32 x1 x3 x4 x5 x6 x7 x8 x10 x11 x13 s0 u) u 128 [(0, .ref (G.1 100)), (1, .int x1), (3, .int x3), (4, .int x4), (5, .int x5), (6, .int x6), (7, .int x7), (8, .int x8), (10, .int x10), (11, .int x11), (13, .int x13)] [.int s0] := by
  intro x1 x3 x4 x5 x6 x7 x8 x10 x11 x13 s0 u
  rw [mM_SqlReaderModel_chain_J128]
  refine Sm_istore (lv' := [(9, .int s0), (0, .ref (G.1 100)), (1, .int x1), (3, .int x3), (4, .int x4), (5, .int x5), (6, .int x6), (7, .int x7), (8, .int x8), (10, .int x10), (11, .int x11), (13, .int x13)]) E d_SqlReaderModel_chain_128 (by decide) rfl ?_
  refine Sm_iload E d_SqlReaderModel_chain_130 11 rfl ?_
  refine Sm_bipush (v := 26) E d_SqlReaderModel_chain_132 (by decide) ?_
  refine Sm_icmp_ne (tgt := 148) E d_SqlReaderModel_chain_134 (by decide) (fun _ => ?_) (fun _ => ?_)
  · exact Sm_sub [1, 2, 3, 4, 5, 6, 7, 8, 0, 9, 10, 11] rfl (tM_SqlReaderModel_chain_J148 rc n0 hrc E hR h32 _ _ _ _ _ _ _ _ _ _ _ _)
  · refine Sm_iload E d_SqlReaderModel_chain_137 0 rfl ?_
    refine Sm_if_le (tgt := 148) E d_SqlReaderModel_chain_139 (by decide) (fun _ => ?_) (fun _ => ?_)
    · exact Sm_sub [1, 2, 3, 4, 5, 6, 7, 8, 0, 9, 10, 11] rfl (tM_SqlReaderModel_chain_J148 rc n0 hrc E hR h32 _ _ _ _ _ _ _ _ _ _ _ _)
    · refine Sm_iinc (k := 0) (d := (-1)) E d_SqlReaderModel_chain_142 rfl rfl (by decide) fun y12 _ => Sm_lvs (lv' := [(9, .int y12), (0, .ref (G.1 100)), (1, .int x1), (3, .int x3), (4, .int x4), (5, .int x5), (6, .int x6), (7, .int x7), (8, .int x8), (10, .int x10), (11, .int x11), (13, .int x13)]) rfl ?_
      refine Sm_iconst (v := 0) E d_SqlReaderModel_chain_145 (by decide) ?_
      refine Sm_istore (lv' := [(13, .int 0), (9, .int y12), (0, .ref (G.1 100)), (1, .int x1), (3, .int x3), (4, .int x4), (5, .int x5), (6, .int x6), (7, .int x7), (8, .int x8), (10, .int x10), (11, .int x11)]) E d_SqlReaderModel_chain_146 (by decide) rfl ?_
      exact Sm_sub [2, 3, 4, 5, 6, 7, 8, 9, 1, 10, 11, 0] rfl (tM_SqlReaderModel_chain_J148 rc n0 hrc E hR h32 _ _ _ _ _ _ _ _ _ _ _ _)
set_option maxRecDepth 100000 in
set_option maxHeartbeats 4000000 in
theorem tM_SqlReaderModel_chain_J95 {X : Cx} {G : Gx} {res : Int32 × St} (rc : Nat → Int32 → Int32 → Int32 → Int32 → Int32 → Int32 → St → Option (Int32 × St)) (n0 : Nat) (hrc : ∀ (t : Nat) (a b c d e f : Int32) (u : St) (res : Int32 × St), rc t a b c d e f u = some res → rcCM n0 G t a b c d e f u res) (E : EM X G prog_11_method_29_code R_SqlReaderModel 15 (rmGM (n0 + 1))) (hR : RtI X vwCl (wM G) prog_11_method_29_code res) {q32 : Int32 → Int32 → Int32 → Int32 → Int32 → Int32 → Int32 → Int32 → Int32 → Int32 → St → Option (Int32 × St)} (h32 : ∀ (x1 : Int32) (x3 : Int32) (x4 : Int32) (x5 : Int32) (x6 : Int32) (x7 : Int32) (x8 : Int32) (x9 : Int32) (x10 : Int32) (x11 : Int32) (u : St), SM X G 15 res (q32 x1 x3 x4 x5 x6 x7 x8 x9 x10 x11 u) u 32 [(0, .ref (G.1 100)), (1, .int x1), (3, .int x3), (4, .int x4), (5, .int x5), (6, .int x6), (7, .int x7), (8, .int x8), (9, .int x9), (10, .int x10), (11, .int x11)] []) : ∀ (x1 : Int32) (x3 : Int32) (x4 : Int32) (x5 : Int32) (x6 : Int32) (x7 : Int32) (x8 : Int32) (x9 : Int32) (x10 : Int32) (x11 : Int32) (x12 : Int32) (s0 : Int32) (u : St), SM X G 15 res (mM_SqlReaderModel_chain_J95 rc q32 x1 x3 x4 x5 x6 x7 x8 x9 x10 x11 x12 s0 u) u 95 [(0, .ref (G.1 100)), (1, .int x1), (3, .int x3), (4, .int x4), (5, .int x5), (6, .int x6), (7, .int x7), (8, .int x8), (9, .int x9), (10, .int x10), (11, .int x11), (12, .int x12)] [.int s0] := by
  intro x1 x3 x4 x5 x6 x7 x8 x9 x10 x11 x12 s0 u
  rw [mM_SqlReaderModel_chain_J95]
  refine Sm_istore (lv' := [(13, .int s0), (0, .ref (G.1 100)), (1, .int x1), (3, .int x3), (4, .int x4), (5, .int x5), (6, .int x6), (7, .int x7), (8, .int x8), (9, .int x9), (10, .int x10), (11, .int x11), (12, .int x12)]) E d_SqlReaderModel_chain_95 (by decide) rfl ?_
  refine Sm_iload E d_SqlReaderModel_chain_97 12 rfl ?_
  refine Sm_if_eq (tgt := 126) E d_SqlReaderModel_chain_99 (by decide) (fun _ => ?_) (fun _ => ?_)
  · refine Sm_iload E d_SqlReaderModel_chain_126 9 rfl ?_
    exact Sm_sub [1, 2, 3, 4, 5, 6, 7, 8, 10, 11, 0] rfl (tM_SqlReaderModel_chain_J128 rc n0 hrc E hR h32 _ _ _ _ _ _ _ _ _ _ _ _)
  · refine Sm_iload_n E d_SqlReaderModel_chain_102 rfl 2 rfl ?_
    refine Sm_iconst (v := 1) E d_SqlReaderModel_chain_103 (by decide) ?_
    refine Sm_icmp_ne (tgt := 126) E d_SqlReaderModel_chain_104 (by decide) (fun _ => ?_) (fun _ => ?_)
    · refine Sm_iload E d_SqlReaderModel_chain_126 9 rfl ?_
      exact Sm_sub [1, 2, 3, 4, 5, 6, 7, 8, 10, 11, 0] rfl (tM_SqlReaderModel_chain_J128 rc n0 hrc E hR h32 _ _ _ _ _ _ _ _ _ _ _ _)
    · refine Sm_aload_n E d_SqlReaderModel_chain_107 rfl 1 rfl ?_
      refine Sm_iload E d_SqlReaderModel_chain_108 11 rfl ?_
      refine Sm_ldcS_w E sr_SqlReaderModel_328 d_SqlReaderModel_chain_110 ?_
      refine Sm_cVi (As := [.int x11, .ref (G.2.2.1 98)]) (b := (G.1 100)) (st := []) (n := 2) E exOk wM_as (fun _ h => cM_SqlReaderModel_is x11 98 u h) gk_SqlReaderModel_293 dk_SqlReaderModel_is rfl ⟨rfl, rfl⟩ ⟨(by show 4 + 1 ≤ n0 + 1 + 7; omega), (by show 8 + (5 + 11) + 85 ≤ 35 * (n0 + 1) + 155; omega)⟩ (rvW (q0 := 0) (ci := 1) E rfl rfl rfl) rfl (Nat.le_of_ble_eq_true rfl) d_SqlReaderModel_chain_113 fun r13 _ => ?_
      refine Sm_if_eq (tgt := 126) E d_SqlReaderModel_chain_116 (by decide) (fun _ => ?_) (fun _ => ?_)
      · refine Sm_iload E d_SqlReaderModel_chain_126 9 rfl ?_
        exact Sm_sub [1, 2, 3, 4, 5, 6, 7, 8, 10, 11, 0] rfl (tM_SqlReaderModel_chain_J128 rc n0 hrc E hR h32 _ _ _ _ _ _ _ _ _ _ _ _)
      · refine Sm_iload E d_SqlReaderModel_chain_119 9 rfl ?_
        refine Sm_iconst (v := 1) E d_SqlReaderModel_chain_121 (by decide) ?_
        refine Sm_iadd E d_SqlReaderModel_chain_122 ?_
        refine Sm_goto (tgt := 128) E d_SqlReaderModel_chain_123 (by decide) ?_
        exact Sm_sub [1, 2, 3, 4, 5, 6, 7, 8, 10, 11, 0] rfl (tM_SqlReaderModel_chain_J128 rc n0 hrc E hR h32 _ _ _ _ _ _ _ _ _ _ _ _)
set_option maxRecDepth 100000 in
set_option maxHeartbeats 4000000 in
theorem tM_SqlReaderModel_chain_J54 {X : Cx} {G : Gx} {res : Int32 × St} (rc : Nat → Int32 → Int32 → Int32 → Int32 → Int32 → Int32 → St → Option (Int32 × St)) (n0 : Nat) (hrc : ∀ (t : Nat) (a b c d e f : Int32) (u : St) (res : Int32 × St), rc t a b c d e f u = some res → rcCM n0 G t a b c d e f u res) (E : EM X G prog_11_method_29_code R_SqlReaderModel 15 (rmGM (n0 + 1))) (hR : RtI X vwCl (wM G) prog_11_method_29_code res) {q32 : Int32 → Int32 → Int32 → Int32 → Int32 → Int32 → Int32 → Int32 → Int32 → Int32 → St → Option (Int32 × St)} (h32 : ∀ (x1 : Int32) (x3 : Int32) (x4 : Int32) (x5 : Int32) (x6 : Int32) (x7 : Int32) (x8 : Int32) (x9 : Int32) (x10 : Int32) (x11 : Int32) (u : St), SM X G 15 res (q32 x1 x3 x4 x5 x6 x7 x8 x9 x10 x11 u) u 32 [(0, .ref (G.1 100)), (1, .int x1), (3, .int x3), (4, .int x4), (5, .int x5), (6, .int x6), (7, .int x7), (8, .int x8), (9, .int x9), (10, .int x10), (11, .int x11)] []) : ∀ (x1 : Int32) (x3 : Int32) (x4 : Int32) (x5 : Int32) (x6 : Int32) (x7 : Int32) (x8 : Int32) (x9 : Int32) (x10 : Int32) (x11 : Int32) (s0 : Int32) (u : St), SM X G 15 res (mM_SqlReaderModel_chain_J54 rc q32 x1 x3 x4 x5 x6 x7 x8 x9 x10 x11 s0 u) u 54 [(0, .ref (G.1 100)), (1, .int x1), (3, .int x3), (4, .int x4), (5, .int x5), (6, .int x6), (7, .int x7), (8, .int x8), (9, .int x9), (10, .int x10), (11, .int x11)] [.int s0] := by
  intro x1 x3 x4 x5 x6 x7 x8 x9 x10 x11 s0 u
  rw [mM_SqlReaderModel_chain_J54]
  refine Sm_istore (lv' := [(12, .int s0), (0, .ref (G.1 100)), (1, .int x1), (3, .int x3), (4, .int x4), (5, .int x5), (6, .int x6), (7, .int x7), (8, .int x8), (9, .int x9), (10, .int x10), (11, .int x11)]) E d_SqlReaderModel_chain_54 (by decide) rfl ?_
  refine Sm_iload E d_SqlReaderModel_chain_56 0 rfl ?_
  refine Sm_if_eq (tgt := 94) E d_SqlReaderModel_chain_58 (by decide) (fun _ => ?_) (fun _ => ?_)
  · refine Sm_iconst (v := 0) E d_SqlReaderModel_chain_94 (by decide) ?_
    exact Sm_sub [1, 2, 3, 4, 5, 6, 7, 8, 9, 10, 11, 0] rfl (tM_SqlReaderModel_chain_J95 rc n0 hrc E hR h32 _ _ _ _ _ _ _ _ _ _ _ _ _)
  · refine Sm_aload_n E d_SqlReaderModel_chain_61 rfl 1 rfl ?_
    refine Sm_iload_n E d_SqlReaderModel_chain_62 rfl 2 rfl ?_
    refine Sm_iload E d_SqlReaderModel_chain_63 11 rfl ?_
    refine Sm_iload E d_SqlReaderModel_chain_65 11 rfl ?_
    refine Sm_iload E d_SqlReaderModel_chain_67 7 rfl ?_
    refine Sm_icmp_le (tgt := 87) E d_SqlReaderModel_chain_69 (by decide) (fun _ => ?_) (fun _ => ?_)
    · refine Sm_iconst (v := 0) E d_SqlReaderModel_chain_87 (by decide) ?_
      refine Sm_cVi (As := [.int x1, .int x11, .int 0]) (b := (G.1 100)) (st := []) (n := 3) E exOk wM_as (fun _ h => cM_SqlReaderModel_joins x1 x11 0 u h) gk_SqlReaderModel_324 dk_SqlReaderModel_joins rfl ⟨rfl, rfl⟩ ⟨(by show 5 + 1 ≤ n0 + 1 + 7; omega), (by show 8 + (4 + 11) + 109 ≤ 35 * (n0 + 1) + 155; omega)⟩ (rvW (q0 := 0) (ci := 1) E rfl rfl rfl) rfl (Nat.le_of_ble_eq_true rfl) d_SqlReaderModel_chain_88 fun r14 _ => ?_
      refine Sm_goto (tgt := 95) E d_SqlReaderModel_chain_91 (by decide) ?_
      exact Sm_sub [1, 2, 3, 4, 5, 6, 7, 8, 9, 10, 11, 0] rfl (tM_SqlReaderModel_chain_J95 rc n0 hrc E hR h32 _ _ _ _ _ _ _ _ _ _ _ _ _)
    · refine Sm_aload_n E d_SqlReaderModel_chain_72 rfl 1 rfl ?_
      refine Sm_iload E d_SqlReaderModel_chain_73 11 rfl ?_
      refine Sm_iconst (v := 1) E d_SqlReaderModel_chain_75 (by decide) ?_
      refine Sm_isub E d_SqlReaderModel_chain_76 ?_
      refine Sm_cVi (As := [.int (x11 - 1)]) (b := (G.1 100)) (st := [.int x11, .int x1, .ref (G.1 100)]) (n := 1) E exOk wM_as (fun _ h => cM_SqlReaderModel_endsOperand (x11 - 1) u h) gk_SqlReaderModel_321 dk_SqlReaderModel_endsOperand rfl ⟨rfl, rfl⟩ ⟨(by show 5 + 1 ≤ n0 + 1 + 7; omega), (by show 8 + (3 + 11) + 109 ≤ 35 * (n0 + 1) + 155; omega)⟩ (rvW (q0 := 0) (ci := 1) E rfl rfl rfl) rfl (Nat.le_of_ble_eq_true rfl) d_SqlReaderModel_chain_77 fun r15 _ => ?_
      refine Sm_if_eq (tgt := 87) E d_SqlReaderModel_chain_80 (by decide) (fun _ => ?_) (fun _ => ?_)
      · refine Sm_iconst (v := 0) E d_SqlReaderModel_chain_87 (by decide) ?_
        refine Sm_cVi (As := [.int x1, .int x11, .int 0]) (b := (G.1 100)) (st := []) (n := 3) E exOk wM_as (fun _ h => cM_SqlReaderModel_joins x1 x11 0 u h) gk_SqlReaderModel_324 dk_SqlReaderModel_joins rfl ⟨rfl, rfl⟩ ⟨(by show 5 + 1 ≤ n0 + 1 + 7; omega), (by show 8 + (4 + 11) + 109 ≤ 35 * (n0 + 1) + 155; omega)⟩ (rvW (q0 := 0) (ci := 1) E rfl rfl rfl) rfl (Nat.le_of_ble_eq_true rfl) d_SqlReaderModel_chain_88 fun r16 _ => ?_
        refine Sm_goto (tgt := 95) E d_SqlReaderModel_chain_91 (by decide) ?_
        exact Sm_sub [1, 2, 3, 4, 5, 6, 7, 8, 9, 10, 11, 0] rfl (tM_SqlReaderModel_chain_J95 rc n0 hrc E hR h32 _ _ _ _ _ _ _ _ _ _ _ _ _)
      · refine Sm_iconst (v := 1) E d_SqlReaderModel_chain_83 (by decide) ?_
        refine Sm_goto (tgt := 88) E d_SqlReaderModel_chain_84 (by decide) ?_
        refine Sm_cVi (As := [.int x1, .int x11, .int 1]) (b := (G.1 100)) (st := []) (n := 3) E exOk wM_as (fun _ h => cM_SqlReaderModel_joins x1 x11 1 u h) gk_SqlReaderModel_324 dk_SqlReaderModel_joins rfl ⟨rfl, rfl⟩ ⟨(by show 5 + 1 ≤ n0 + 1 + 7; omega), (by show 8 + (4 + 11) + 109 ≤ 35 * (n0 + 1) + 155; omega)⟩ (rvW (q0 := 0) (ci := 1) E rfl rfl rfl) rfl (Nat.le_of_ble_eq_true rfl) d_SqlReaderModel_chain_88 fun r17 _ => ?_
        refine Sm_goto (tgt := 95) E d_SqlReaderModel_chain_91 (by decide) ?_
        exact Sm_sub [1, 2, 3, 4, 5, 6, 7, 8, 9, 10, 11, 0] rfl (tM_SqlReaderModel_chain_J95 rc n0 hrc E hR h32 _ _ _ _ _ _ _ _ _ _ _ _ _)
set_option maxRecDepth 100000 in
set_option maxHeartbeats 4000000 in
theorem tM_SqlReaderModel_chain_L32 {X : Cx} {G : Gx} {res : Int32 × St} (rc : Nat → Int32 → Int32 → Int32 → Int32 → Int32 → Int32 → St → Option (Int32 × St)) (n0 : Nat) (hrc : ∀ (t : Nat) (a b c d e f : Int32) (u : St) (res : Int32 × St), rc t a b c d e f u = some res → rcCM n0 G t a b c d e f u res) (E : EM X G prog_11_method_29_code R_SqlReaderModel 15 (rmGM (n0 + 1))) (hR : RtI X vwCl (wM G) prog_11_method_29_code res) : ∀ (n : Nat) (x1 : Int32) (x3 : Int32) (x4 : Int32) (x5 : Int32) (x6 : Int32) (x7 : Int32) (x8 : Int32) (x9 : Int32) (x10 : Int32) (x11 : Int32) (u : St), SM X G 15 res (mM_SqlReaderModel_chain_L32 rc n x1 x3 x4 x5 x6 x7 x8 x9 x10 x11 u) u 32 [(0, .ref (G.1 100)), (1, .int x1), (3, .int x3), (4, .int x4), (5, .int x5), (6, .int x6), (7, .int x7), (8, .int x8), (9, .int x9), (10, .int x10), (11, .int x11)] [] := by
  intro n
  induction n with
  | zero => intro x1 x3 x4 x5 x6 x7 x8 x9 x10 x11 u; exact Sm_none
  | succ n h32 =>
    intro x1 x3 x4 x5 x6 x7 x8 x9 x10 x11 u
    rw [mM_SqlReaderModel_chain_L32]
    refine Sm_iload E d_SqlReaderModel_chain_32 10 rfl ?_
    refine Sm_iload_n E d_SqlReaderModel_chain_34 rfl 2 rfl ?_
    refine Sm_icmp_gt (tgt := 233) E d_SqlReaderModel_chain_35 (by decide) (fun _ => ?_) (fun _ => ?_)
    · refine Sm_iload E d_SqlReaderModel_chain_233 4 rfl ?_
      exact Sm_retI hR d_SqlReaderModel_chain_235
    · refine Sm_iload E d_SqlReaderModel_chain_38 10 rfl ?_
      refine Sm_iload_n E d_SqlReaderModel_chain_40 rfl 2 rfl ?_
      refine Sm_icmp_ge (tgt := 53) E d_SqlReaderModel_chain_41 (by decide) (fun _ => ?_) (fun _ => ?_)
      · refine Sm_iconst (v := 0) E d_SqlReaderModel_chain_53 (by decide) ?_
        exact Sm_sub [0, 1, 2, 3, 4, 5, 6, 7, 8, 9, 10] rfl (tM_SqlReaderModel_chain_J54 rc n0 hrc E hR h32 _ _ _ _ _ _ _ _ _ _ _ _)
      · refine Sm_iload E d_SqlReaderModel_chain_44 7 rfl ?_
        refine Sm_if_ne (tgt := 53) E d_SqlReaderModel_chain_46 (by decide) (fun _ => ?_) (fun _ => ?_)
        · refine Sm_iconst (v := 0) E d_SqlReaderModel_chain_53 (by decide) ?_
          exact Sm_sub [0, 1, 2, 3, 4, 5, 6, 7, 8, 9, 10] rfl (tM_SqlReaderModel_chain_J54 rc n0 hrc E hR h32 _ _ _ _ _ _ _ _ _ _ _ _)
        · refine Sm_iconst (v := 1) E d_SqlReaderModel_chain_49 (by decide) ?_
          refine Sm_goto (tgt := 54) E d_SqlReaderModel_chain_50 (by decide) ?_
          exact Sm_sub [0, 1, 2, 3, 4, 5, 6, 7, 8, 9, 10] rfl (tM_SqlReaderModel_chain_J54 rc n0 hrc E hR h32 _ _ _ _ _ _ _ _ _ _ _ _)
set_option maxRecDepth 100000 in
set_option maxHeartbeats 4000000 in
theorem cM_SqlReaderModel_chain_o {l : Launch} {D : va_G} {G : Gx} (rc : Nat → Int32 → Int32 → Int32 → Int32 → Int32 → Int32 → St → Option (Int32 × St)) (n0 : Nat) (hrc : ∀ (t : Nat) (a b c d e f : Int32) (u : St) (res : Int32 × St), rc t a b c d e f u = some res → rcCM n0 G t a b c d e f u res) (x1 : Int32) (x2 : Int32) (x3 : Int32) (x4 : Int32) (u : St) {res : Int32 × St} (hm : mM_SqlReaderModel_chain_o rc x1 x2 x3 x4 u = some res) : KM l D G y_SqlReaderModel_chain (.code y_SqlReaderModel_chain prog_11_method_29_code 15 (some .int)) (rmGM (n0 + 1)) [.ref (G.1 100), .int x1, .int x2, .int x3, .int x4] u (qI D vwCl (wM G) (tyW G) (adsM G) res) := by
  refine Ct_I (by decide) wM_as (Nat.le_of_ble_eq_true rfl) hm (fun X _ _ E hR => ?_)
  refine Sm_lvs (lv' := [(0, .ref (G.1 100)), (1, .int x1), (2, .int x2), (3, .int x3), (4, .int x4)]) rfl ?_
  rw [mM_SqlReaderModel_chain_o]
  refine Sm_iconst (v := (-1)) E d_SqlReaderModel_chain_0 (by decide) ?_
  refine Sm_istore (lv' := [(5, .int (-1)), (0, .ref (G.1 100)), (1, .int x1), (2, .int x2), (3, .int x3), (4, .int x4)]) E d_SqlReaderModel_chain_1 (by decide) rfl ?_
  refine Sm_iconst (v := 0) E d_SqlReaderModel_chain_3 (by decide) ?_
  refine Sm_istore (lv' := [(6, .int 0), (5, .int (-1)), (0, .ref (G.1 100)), (1, .int x1), (2, .int x2), (3, .int x3), (4, .int x4)]) E d_SqlReaderModel_chain_4 (by decide) rfl ?_
  refine Sm_iload_n E d_SqlReaderModel_chain_6 rfl 4 rfl ?_
  refine Sm_istore (lv' := [(7, .int x2), (6, .int 0), (5, .int (-1)), (0, .ref (G.1 100)), (1, .int x1), (2, .int x2), (3, .int x3), (4, .int x4)]) E d_SqlReaderModel_chain_7 (by decide) rfl ?_
  refine Sm_iconst (v := 0) E d_SqlReaderModel_chain_9 (by decide) ?_
  refine Sm_istore (lv' := [(8, .int 0), (7, .int x2), (6, .int 0), (5, .int (-1)), (0, .ref (G.1 100)), (1, .int x1), (2, .int x2), (3, .int x3), (4, .int x4)]) E d_SqlReaderModel_chain_10 (by decide) rfl ?_
  refine Sm_iconst (v := 0) E d_SqlReaderModel_chain_12 (by decide) ?_
  refine Sm_istore (lv' := [(9, .int 0), (8, .int 0), (7, .int x2), (6, .int 0), (5, .int (-1)), (0, .ref (G.1 100)), (1, .int x1), (2, .int x2), (3, .int x3), (4, .int x4)]) E d_SqlReaderModel_chain_13 (by decide) rfl ?_
  refine Sm_iload_n E d_SqlReaderModel_chain_15 rfl 6 rfl ?_
  refine Sm_iconst (v := 1) E d_SqlReaderModel_chain_16 (by decide) ?_
  refine Sm_icmp_ne (tgt := 24) E d_SqlReaderModel_chain_17 (by decide) (fun _ => ?_) (fun _ => ?_)
  · refine Sm_iload_n E d_SqlReaderModel_chain_24 rfl 6 rfl ?_
    refine Sm_iconst (v := 1) E d_SqlReaderModel_chain_25 (by decide) ?_
    refine Sm_iadd E d_SqlReaderModel_chain_26 ?_
    refine Sm_leti fun y1 _ => ?_
    refine Sm_istore (lv' := [(10, .int y1), (9, .int 0), (8, .int 0), (7, .int x2), (6, .int 0), (5, .int (-1)), (0, .ref (G.1 100)), (1, .int x1), (2, .int x2), (3, .int x3), (4, .int x4)]) E d_SqlReaderModel_chain_27 (by decide) rfl ?_
    refine Sm_iload_n E d_SqlReaderModel_chain_29 rfl 8 rfl ?_
    refine Sm_istore (lv' := [(11, .int x2), (10, .int y1), (9, .int 0), (8, .int 0), (7, .int x2), (6, .int 0), (5, .int (-1)), (0, .ref (G.1 100)), (1, .int x1), (2, .int x2), (3, .int x3), (4, .int x4)]) E d_SqlReaderModel_chain_30 (by decide) rfl ?_
    exact Sm_sub [7, 8, 10, 11, 6, 5, 4, 3, 2, 1, 0] rfl (tM_SqlReaderModel_chain_L32 rc n0 hrc E hR FU _ _ _ _ _ _ _ _ _ _ _)
  · refine Sm_iconst (v := 2) E d_SqlReaderModel_chain_20 (by decide) ?_
    refine Sm_goto (tgt := 27) E d_SqlReaderModel_chain_21 (by decide) ?_
    refine Sm_istore (lv' := [(10, .int 2), (9, .int 0), (8, .int 0), (7, .int x2), (6, .int 0), (5, .int (-1)), (0, .ref (G.1 100)), (1, .int x1), (2, .int x2), (3, .int x3), (4, .int x4)]) E d_SqlReaderModel_chain_27 (by decide) rfl ?_
    refine Sm_iload_n E d_SqlReaderModel_chain_29 rfl 8 rfl ?_
    refine Sm_istore (lv' := [(11, .int x2), (10, .int 2), (9, .int 0), (8, .int 0), (7, .int x2), (6, .int 0), (5, .int (-1)), (0, .ref (G.1 100)), (1, .int x1), (2, .int x2), (3, .int x3), (4, .int x4)]) E d_SqlReaderModel_chain_30 (by decide) rfl ?_
    exact Sm_sub [7, 8, 10, 11, 6, 5, 4, 3, 2, 1, 0] rfl (tM_SqlReaderModel_chain_L32 rc n0 hrc E hR FU _ _ _ _ _ _ _ _ _ _ _)
set_option maxRecDepth 100000 in
set_option maxHeartbeats 4000000 in
theorem tM_SqlReaderModel_primary_J304 {X : Cx} {G : Gx} {res : Int32 × St} (rc : Nat → Int32 → Int32 → Int32 → Int32 → Int32 → Int32 → St → Option (Int32 × St)) (n0 : Nat) (hrc : ∀ (t : Nat) (a b c d e f : Int32) (u : St) (res : Int32 × St), rc t a b c d e f u = some res → rcCM n0 G t a b c d e f u res) (E : EM X G prog_11_method_39_code R_SqlReaderModel 6 (rmGM (n0 + 1))) (hR : RtI X vwCl (wM G) prog_11_method_39_code res) : ∀ (x1 : Int32) (x5 : Int32) (s1 : Int32) (u : St), SM X G 6 res (mM_SqlReaderModel_primary_J304 rc x1 x5 s1 u) u 304 [(1, .int x1), (5, .int x5)] [.int s1, .ref (G.1 100)] := by
  intro x1 x5 s1 u
  rw [mM_SqlReaderModel_primary_J304]
  refine Sm_iload E d_SqlReaderModel_primary_304 1 rfl ?_
  refine Sm_if_eq (tgt := 315) E d_SqlReaderModel_primary_306 (by decide) (fun _ => ?_) (fun _ => ?_)
  · refine Sm_iload_n E d_SqlReaderModel_primary_315 rfl 0 rfl ?_
    refine Sm_cVI (As := [.int s1, .int x1]) (b := (G.1 100)) (st := []) (n := 2) E exOk wM_as (fun _ h => cM_SqlReaderModel_place s1 x1 u h) gk_SqlReaderModel_409 dk_SqlReaderModel_place rfl ⟨rfl, rfl⟩ ⟨(by show 2 + 1 ≤ n0 + 1 + 7; omega), (by show 8 + (4 + 11) + 46 ≤ 35 * (n0 + 1) + 155; omega)⟩ (rvW (q0 := 0) (ci := 1) E rfl rfl rfl) rfl (Nat.le_of_ble_eq_true rfl) d_SqlReaderModel_primary_316 fun r14 u15 _ => ?_
    exact Sm_retI hR d_SqlReaderModel_primary_319
  · refine Sm_iload_n E d_SqlReaderModel_primary_309 rfl 0 rfl ?_
    refine Sm_iconst (v := 2) E d_SqlReaderModel_primary_310 (by decide) ?_
    refine Sm_iadd E d_SqlReaderModel_primary_311 ?_
    refine Sm_goto (tgt := 316) E d_SqlReaderModel_primary_312 (by decide) ?_
    refine Sm_cVI (As := [.int s1, .int (x1 + 2)]) (b := (G.1 100)) (st := []) (n := 2) E exOk wM_as (fun _ h => cM_SqlReaderModel_place s1 (x1 + 2) u h) gk_SqlReaderModel_409 dk_SqlReaderModel_place rfl ⟨rfl, rfl⟩ ⟨(by show 2 + 1 ≤ n0 + 1 + 7; omega), (by show 8 + (4 + 11) + 46 ≤ 35 * (n0 + 1) + 155; omega)⟩ (rvW (q0 := 0) (ci := 1) E rfl rfl rfl) rfl (Nat.le_of_ble_eq_true rfl) d_SqlReaderModel_primary_316 fun r16 u17 _ => ?_
    exact Sm_retI hR d_SqlReaderModel_primary_319
set_option maxRecDepth 100000 in
set_option maxHeartbeats 4000000 in
theorem tM_SqlReaderModel_primary_J290 {X : Cx} {G : Gx} {res : Int32 × St} (rc : Nat → Int32 → Int32 → Int32 → Int32 → Int32 → Int32 → St → Option (Int32 × St)) (n0 : Nat) (hrc : ∀ (t : Nat) (a b c d e f : Int32) (u : St) (res : Int32 × St), rc t a b c d e f u = some res → rcCM n0 G t a b c d e f u res) (E : EM X G prog_11_method_39_code R_SqlReaderModel 6 (rmGM (n0 + 1))) (hR : RtI X vwCl (wM G) prog_11_method_39_code res) : ∀ (x1 : Int32) (x5 : Int32) (s1 : Int32) (u : St), SM X G 6 res (mM_SqlReaderModel_primary_J290 rc x1 x5 s1 u) u 290 [(0, .ref (G.1 100)), (1, .int x1), (5, .int x5)] [.int s1, .ref (G.1 100)] := by
  intro x1 x5 s1 u
  rw [mM_SqlReaderModel_primary_J290]
  refine Sm_gd fun hz => pfM_0_bad E fl_SqlReaderModel_226 d_SqlReaderModel_primary_290 (zb_n hz) (zb_f hz) fun u13 _ => ?_
  refine Sm_aload_n E d_SqlReaderModel_primary_293 rfl 0 rfl ?_
  refine Sm_iload E d_SqlReaderModel_primary_294 2 rfl ?_
  refine Sm_if_eq (tgt := 303) E d_SqlReaderModel_primary_296 (by decide) (fun _ => ?_) (fun _ => ?_)
  · refine Sm_iconst (v := (-1)) E d_SqlReaderModel_primary_303 (by decide) ?_
    exact Sm_sub [1, 2] rfl (tM_SqlReaderModel_primary_J304 rc n0 hrc E hR _ _ _ _)
  · refine Sm_iload_n E d_SqlReaderModel_primary_299 rfl 1 rfl ?_
    refine Sm_goto (tgt := 304) E d_SqlReaderModel_primary_300 (by decide) ?_
    exact Sm_sub [1, 2] rfl (tM_SqlReaderModel_primary_J304 rc n0 hrc E hR _ _ _ _)
set_option maxRecDepth 100000 in
set_option maxHeartbeats 4000000 in
theorem tM_SqlReaderModel_primary_J263 {X : Cx} {G : Gx} {res : Int32 × St} (rc : Nat → Int32 → Int32 → Int32 → Int32 → Int32 → Int32 → St → Option (Int32 × St)) (n0 : Nat) (hrc : ∀ (t : Nat) (a b c d e f : Int32) (u : St) (res : Int32 × St), rc t a b c d e f u = some res → rcCM n0 G t a b c d e f u res) (E : EM X G prog_11_method_39_code R_SqlReaderModel 6 (rmGM (n0 + 1))) (hR : RtI X vwCl (wM G) prog_11_method_39_code res) : ∀ (x1 : Int32) (x2 : Int32) (s0 : Int32) (u : St), SM X G 6 res (mM_SqlReaderModel_primary_J263 rc x1 x2 s0 u) u 263 [(0, .ref (G.1 100)), (1, .int x1), (2, .int x2)] [.int s0] := by
  intro x1 x2 s0 u
  rw [mM_SqlReaderModel_primary_J263]
  refine Sm_istore (lv' := [(5, .int s0), (0, .ref (G.1 100)), (1, .int x1), (2, .int x2)]) E d_SqlReaderModel_primary_263 (by decide) rfl ?_
  refine Sm_aload_n E d_SqlReaderModel_primary_265 rfl 1 rfl ?_
  refine Sm_aload_n E d_SqlReaderModel_primary_266 rfl 1 rfl ?_
  refine gfM_0_bad E fl_SqlReaderModel_226 d_SqlReaderModel_primary_267 ?_
  refine Sm_if_ne (tgt := 285) E d_SqlReaderModel_primary_270 (by decide) (fun _ => ?_) (fun _ => ?_)
  · refine Sm_iconst (v := 1) E d_SqlReaderModel_primary_285 (by decide) ?_
    refine Sm_goto (tgt := 290) E d_SqlReaderModel_primary_286 (by decide) ?_
    exact Sm_sub [1, 2, 0] rfl (tM_SqlReaderModel_primary_J290 rc n0 hrc E hR _ _ _ _)
  · refine Sm_iload E d_SqlReaderModel_primary_273 0 rfl ?_
    refine Sm_if_ne (tgt := 289) E d_SqlReaderModel_primary_275 (by decide) (fun _ => ?_) (fun _ => ?_)
    · refine Sm_iconst (v := 0) E d_SqlReaderModel_primary_289 (by decide) ?_
      exact Sm_sub [1, 2, 0] rfl (tM_SqlReaderModel_primary_J290 rc n0 hrc E hR _ _ _ _)
    · refine Sm_iload_n E d_SqlReaderModel_primary_278 rfl 3 rfl ?_
      refine Sm_iload_n E d_SqlReaderModel_primary_279 rfl 2 rfl ?_
      refine Sm_iconst (v := 1) E d_SqlReaderModel_primary_280 (by decide) ?_
      refine Sm_iadd E d_SqlReaderModel_primary_281 ?_
      refine Sm_icmp_eq (tgt := 289) E d_SqlReaderModel_primary_282 (by decide) (fun _ => ?_) (fun _ => ?_)
      · refine Sm_iconst (v := 0) E d_SqlReaderModel_primary_289 (by decide) ?_
        exact Sm_sub [1, 2, 0] rfl (tM_SqlReaderModel_primary_J290 rc n0 hrc E hR _ _ _ _)
      · refine Sm_iconst (v := 1) E d_SqlReaderModel_primary_285 (by decide) ?_
        refine Sm_goto (tgt := 290) E d_SqlReaderModel_primary_286 (by decide) ?_
        exact Sm_sub [1, 2, 0] rfl (tM_SqlReaderModel_primary_J290 rc n0 hrc E hR _ _ _ _)
set_option maxRecDepth 100000 in
set_option maxHeartbeats 4000000 in
theorem tM_SqlReaderModel_primary_J200 {X : Cx} {G : Gx} {res : Int32 × St} (rc : Nat → Int32 → Int32 → Int32 → Int32 → Int32 → Int32 → St → Option (Int32 × St)) (n0 : Nat) (hrc : ∀ (t : Nat) (a b c d e f : Int32) (u : St) (res : Int32 × St), rc t a b c d e f u = some res → rcCM n0 G t a b c d e f u res) (E : EM X G prog_11_method_39_code R_SqlReaderModel 6 (rmGM (n0 + 1))) (hR : RtI X vwCl (wM G) prog_11_method_39_code res) : ∀ (x1 : Int32) (x2 : Int32) (x3 : Int32) (s1 : Int32) (u : St), SM X G 6 res (mM_SqlReaderModel_primary_J200 rc x1 x2 x3 s1 u) u 200 [(0, .ref (G.1 100)), (1, .int x1), (2, .int x2), (3, .int x3)] [.int s1, .ref (G.1 100)] := by
  intro x1 x2 x3 s1 u
  rw [mM_SqlReaderModel_primary_J200]
  refine Sm_gd fun hz => pfM_0_bad E fl_SqlReaderModel_226 d_SqlReaderModel_primary_200 (zb_n hz) (zb_f hz) fun u20 _ => ?_
  refine Sm_aload_n E d_SqlReaderModel_primary_203 rfl 0 rfl ?_
  refine Sm_iconst (v := 0) E d_SqlReaderModel_primary_204 (by decide) ?_
  refine Sm_iload_n E d_SqlReaderModel_primary_205 rfl 1 rfl ?_
  refine Sm_iconst (v := 1) E d_SqlReaderModel_primary_206 (by decide) ?_
  refine Sm_iadd E d_SqlReaderModel_primary_207 ?_
  refine Sm_iload_n E d_SqlReaderModel_primary_208 rfl 2 rfl ?_
  refine Sm_iconst (v := 1) E d_SqlReaderModel_primary_209 (by decide) ?_
  refine Sm_isub E d_SqlReaderModel_primary_210 ?_
  refine Sm_iload_n E d_SqlReaderModel_primary_211 rfl 3 rfl ?_
  refine Sm_iconst (v := 1) E d_SqlReaderModel_primary_212 (by decide) ?_
  refine Sm_iadd E d_SqlReaderModel_primary_213 ?_
  refine Sm_cSI (As := [.ref (G.1 100), .int 0, .int (x1 + 1), .int (x2 - 1), .int (x3 + 1)]) (st := []) (n := 5) E exOk wM_as (fun _ h => hrc 5 _ _ _ _ _ _ _ _ h X.2.1 (xD X)) gk_SqlReaderModel_330 dk_SqlReaderModel_part rfl ⟨rfl, rfl⟩ ⟨(by show n0 + 7 + 1 ≤ n0 + 1 + 7; omega), (by show 8 + (5 + 11) + (35 * n0 + 155) ≤ 35 * (n0 + 1) + 155; omega)⟩ rfl (Nat.le_of_ble_eq_true rfl) d_SqlReaderModel_primary_214 fun r21 u22 _ => ?_
  exact Sm_retI hR d_SqlReaderModel_primary_217
set_option maxRecDepth 100000 in
set_option maxHeartbeats 4000000 in
theorem tM_SqlReaderModel_primary_J119 {X : Cx} {G : Gx} {res : Int32 × St} (rc : Nat → Int32 → Int32 → Int32 → Int32 → Int32 → Int32 → St → Option (Int32 × St)) (n0 : Nat) (hrc : ∀ (t : Nat) (a b c d e f : Int32) (u : St) (res : Int32 × St), rc t a b c d e f u = some res → rcCM n0 G t a b c d e f u res) (E : EM X G prog_11_method_39_code R_SqlReaderModel 6 (rmGM (n0 + 1))) (hR : RtI X vwCl (wM G) prog_11_method_39_code res) : ∀ (x1 : Int32) (x2 : Int32) (x3 : Int32) (x4 : Int32) (x5 : Int32) (s1 : Int32) (u : St), SM X G 6 res (mM_SqlReaderModel_primary_J119 rc x1 x2 x3 x4 x5 s1 u) u 119 [(0, .ref (G.1 100)), (1, .int x1), (2, .int x2), (3, .int x3), (4, .int x4), (5, .int x5)] [.int s1, .ref (G.1 100)] := by
  intro x1 x2 x3 x4 x5 s1 u
  rw [mM_SqlReaderModel_primary_J119]
  refine Sm_gd fun hz => pfM_0_bad E fl_SqlReaderModel_226 d_SqlReaderModel_primary_119 (zb_n hz) (zb_f hz) fun u24 _ => ?_
  refine Sm_iload E d_SqlReaderModel_primary_122 5 rfl ?_
  refine Sm_if_ne (tgt := 134) E d_SqlReaderModel_primary_124 (by decide) (fun _ => ?_) (fun _ => ?_)
  · refine Sm_aload_n E d_SqlReaderModel_primary_134 rfl 0 rfl ?_
    refine Sm_iconst (v := 5) E d_SqlReaderModel_primary_135 (by decide) ?_
    refine Sm_iconst (v := (-1)) E d_SqlReaderModel_primary_136 (by decide) ?_
    refine Sm_iconst (v := (-1)) E d_SqlReaderModel_primary_137 (by decide) ?_
    refine Sm_cVI (As := [.int 5, .int (-1), .int (-1)]) (b := (G.1 100)) (st := []) (n := 3) E exOk wM_as (fun _ h => cM_SqlReaderModel_add 5 (-1) (-1) u24 h) gk_SqlReaderModel_287 dk_SqlReaderModel_add rfl ⟨rfl, rfl⟩ ⟨(by show 1 + 1 ≤ n0 + 1 + 7; omega), (by show 8 + (4 + 11) + 23 ≤ 35 * (n0 + 1) + 155; omega)⟩ (rvW (q0 := 0) (ci := 1) E rfl rfl rfl) rfl (Nat.le_of_ble_eq_true rfl) d_SqlReaderModel_primary_138 fun r25 u26 _ => ?_
    exact Sm_retI hR d_SqlReaderModel_primary_141
  · refine Sm_aload_n E d_SqlReaderModel_primary_127 rfl 0 rfl ?_
    refine gfM_0_bad E fl_SqlReaderModel_226 d_SqlReaderModel_primary_128 ?_
    refine Sm_if_eq (tgt := 142) E d_SqlReaderModel_primary_131 (by decide) (fun _ => ?_) (fun _ => ?_)
    · refine Sm_aload_n E d_SqlReaderModel_primary_142 rfl 0 rfl ?_
      refine Sm_iload E d_SqlReaderModel_primary_143 4 rfl ?_
      refine Sm_aload_n E d_SqlReaderModel_primary_145 rfl 0 rfl ?_
      refine Sm_iconst (v := 0) E d_SqlReaderModel_primary_146 (by decide) ?_
      refine Sm_iload_n E d_SqlReaderModel_primary_147 rfl 1 rfl ?_
      refine Sm_iconst (v := 2) E d_SqlReaderModel_primary_148 (by decide) ?_
      refine Sm_iadd E d_SqlReaderModel_primary_149 ?_
      refine Sm_iload_n E d_SqlReaderModel_primary_150 rfl 2 rfl ?_
      refine Sm_iconst (v := 1) E d_SqlReaderModel_primary_151 (by decide) ?_
      refine Sm_isub E d_SqlReaderModel_primary_152 ?_
      refine Sm_iload_n E d_SqlReaderModel_primary_153 rfl 3 rfl ?_
      refine Sm_iconst (v := 1) E d_SqlReaderModel_primary_154 (by decide) ?_
      refine Sm_iadd E d_SqlReaderModel_primary_155 ?_
      refine Sm_cSI (As := [.ref (G.1 100), .int 0, .int (x1 + 2), .int (x2 - 1), .int (x3 + 1)]) (st := [.int x4, .ref (G.1 100)]) (n := 5) E exOk wM_as (fun _ h => hrc 5 _ _ _ _ _ _ _ _ h X.2.1 (xD X)) gk_SqlReaderModel_330 dk_SqlReaderModel_part rfl ⟨rfl, rfl⟩ ⟨(by show n0 + 7 + 1 ≤ n0 + 1 + 7; omega), (by show 8 + (5 + 11) + (35 * n0 + 155) ≤ 35 * (n0 + 1) + 155; omega)⟩ rfl (Nat.le_of_ble_eq_true rfl) d_SqlReaderModel_primary_156 fun r27 u28 _ => ?_
      refine Sm_iconst (v := (-1)) E d_SqlReaderModel_primary_159 (by decide) ?_
      refine Sm_cVI (As := [.int x4, .int r27, .int (-1)]) (b := (G.1 100)) (st := []) (n := 3) E exOk wM_as (fun _ h => cM_SqlReaderModel_add x4 r27 (-1) u28 h) gk_SqlReaderModel_287 dk_SqlReaderModel_add rfl ⟨rfl, rfl⟩ ⟨(by show 1 + 1 ≤ n0 + 1 + 7; omega), (by show 8 + (4 + 11) + 23 ≤ 35 * (n0 + 1) + 155; omega)⟩ (rvW (q0 := 0) (ci := 1) E rfl rfl rfl) rfl (Nat.le_of_ble_eq_true rfl) d_SqlReaderModel_primary_160 fun r29 u30 _ => ?_
      exact Sm_retI hR d_SqlReaderModel_primary_163
    · refine Sm_aload_n E d_SqlReaderModel_primary_134 rfl 0 rfl ?_
      refine Sm_iconst (v := 5) E d_SqlReaderModel_primary_135 (by decide) ?_
      refine Sm_iconst (v := (-1)) E d_SqlReaderModel_primary_136 (by decide) ?_
      refine Sm_iconst (v := (-1)) E d_SqlReaderModel_primary_137 (by decide) ?_
      refine Sm_cVI (As := [.int 5, .int (-1), .int (-1)]) (b := (G.1 100)) (st := []) (n := 3) E exOk wM_as (fun _ h => cM_SqlReaderModel_add 5 (-1) (-1) u24 h) gk_SqlReaderModel_287 dk_SqlReaderModel_add rfl ⟨rfl, rfl⟩ ⟨(by show 1 + 1 ≤ n0 + 1 + 7; omega), (by show 8 + (4 + 11) + 23 ≤ 35 * (n0 + 1) + 155; omega)⟩ (rvW (q0 := 0) (ci := 1) E rfl rfl rfl) rfl (Nat.le_of_ble_eq_true rfl) d_SqlReaderModel_primary_138 fun r31 u32 _ => ?_
      exact Sm_retI hR d_SqlReaderModel_primary_141
set_option maxRecDepth 100000 in
set_option maxHeartbeats 4000000 in
theorem tM_SqlReaderModel_primary_J70 {X : Cx} {G : Gx} {res : Int32 × St} (rc : Nat → Int32 → Int32 → Int32 → Int32 → Int32 → Int32 → St → Option (Int32 × St)) (n0 : Nat) (hrc : ∀ (t : Nat) (a b c d e f : Int32) (u : St) (res : Int32 × St), rc t a b c d e f u = some res → rcCM n0 G t a b c d e f u res) (E : EM X G prog_11_method_39_code R_SqlReaderModel 6 (rmGM (n0 + 1))) (hR : RtI X vwCl (wM G) prog_11_method_39_code res) : ∀ (x1 : Int32) (x2 : Int32) (x3 : Int32) (x4 : Int32) (s0 : Int32) (u : St), SM X G 6 res (mM_SqlReaderModel_primary_J70 rc x1 x2 x3 x4 s0 u) u 70 [(0, .ref (G.1 100)), (1, .int x1), (2, .int x2), (3, .int x3), (4, .int x4)] [.int s0] := by
  intro x1 x2 x3 x4 s0 u
  rw [mM_SqlReaderModel_primary_J70]
  refine Sm_istore (lv' := [(5, .int s0), (0, .ref (G.1 100)), (1, .int x1), (2, .int x2), (3, .int x3), (4, .int x4)]) E d_SqlReaderModel_primary_70 (by decide) rfl ?_
  refine Sm_aload_n E d_SqlReaderModel_primary_72 rfl 1 rfl ?_
  refine Sm_aload_n E d_SqlReaderModel_primary_73 rfl 1 rfl ?_
  refine gfM_0_bad E fl_SqlReaderModel_226 d_SqlReaderModel_primary_74 ?_
  refine Sm_if_ne (tgt := 114) E d_SqlReaderModel_primary_77 (by decide) (fun _ => ?_) (fun _ => ?_)
  · refine Sm_iconst (v := 1) E d_SqlReaderModel_primary_114 (by decide) ?_
    refine Sm_goto (tgt := 119) E d_SqlReaderModel_primary_115 (by decide) ?_
    exact Sm_sub [1, 2, 3, 4, 5, 0] rfl (tM_SqlReaderModel_primary_J119 rc n0 hrc E hR _ _ _ _ _ _ _)
  · refine Sm_aload_n E d_SqlReaderModel_primary_80 rfl 1 rfl ?_
    refine gfM_0_inItems E fl_SqlReaderModel_400 d_SqlReaderModel_primary_81 ?_
    refine Sm_if_eq (tgt := 114) E d_SqlReaderModel_primary_84 (by decide) (fun _ => ?_) (fun _ => ?_)
    · refine Sm_iconst (v := 1) E d_SqlReaderModel_primary_114 (by decide) ?_
      refine Sm_goto (tgt := 119) E d_SqlReaderModel_primary_115 (by decide) ?_
      exact Sm_sub [1, 2, 3, 4, 5, 0] rfl (tM_SqlReaderModel_primary_J119 rc n0 hrc E hR _ _ _ _ _ _ _)
    · refine Sm_aload_n E d_SqlReaderModel_primary_87 rfl 1 rfl ?_
      refine Sm_iload_n E d_SqlReaderModel_primary_88 rfl 2 rfl ?_
      refine Sm_iconst (v := 1) E d_SqlReaderModel_primary_89 (by decide) ?_
      refine Sm_iadd E d_SqlReaderModel_primary_90 ?_
      refine Sm_ldcS_w E sr_SqlReaderModel_291 d_SqlReaderModel_primary_91 ?_
      refine Sm_cVi (As := [.int (x1 + 1), .ref (G.2.2.1 79)]) (b := (G.1 100)) (st := [.ref (G.1 100)]) (n := 2) E exOk wM_as (fun _ h => cM_SqlReaderModel_is (x1 + 1) 79 u h) gk_SqlReaderModel_293 dk_SqlReaderModel_is rfl ⟨rfl, rfl⟩ ⟨(by show 4 + 1 ≤ n0 + 1 + 7; omega), (by show 8 + (5 + 11) + 85 ≤ 35 * (n0 + 1) + 155; omega)⟩ (rvW (q0 := 0) (ci := 1) E rfl rfl rfl) rfl (Nat.le_of_ble_eq_true rfl) d_SqlReaderModel_primary_94 fun r33 _ => ?_
      refine Sm_if_eq (tgt := 114) E d_SqlReaderModel_primary_97 (by decide) (fun _ => ?_) (fun _ => ?_)
      · refine Sm_iconst (v := 1) E d_SqlReaderModel_primary_114 (by decide) ?_
        refine Sm_goto (tgt := 119) E d_SqlReaderModel_primary_115 (by decide) ?_
        exact Sm_sub [1, 2, 3, 4, 5, 0] rfl (tM_SqlReaderModel_primary_J119 rc n0 hrc E hR _ _ _ _ _ _ _)
      · refine Sm_aload_n E d_SqlReaderModel_primary_100 rfl 1 rfl ?_
        refine Sm_iload_n E d_SqlReaderModel_primary_101 rfl 2 rfl ?_
        refine Sm_iconst (v := 1) E d_SqlReaderModel_primary_102 (by decide) ?_
        refine Sm_iadd E d_SqlReaderModel_primary_103 ?_
        refine Sm_iload_n E d_SqlReaderModel_primary_104 rfl 3 rfl ?_
        refine Sm_cVi (As := [.int (x1 + 1), .int x2]) (b := (G.1 100)) (st := [.ref (G.1 100)]) (n := 2) E exOk wM_as (fun _ h => cM_SqlReaderModel_closing (x1 + 1) x2 u h) gk_SqlReaderModel_384 dk_SqlReaderModel_closing rfl ⟨rfl, rfl⟩ ⟨(by show 6 + 1 ≤ n0 + 1 + 7; omega), (by show 8 + (5 + 11) + 130 ≤ 35 * (n0 + 1) + 155; omega)⟩ (rvW (q0 := 0) (ci := 1) E rfl rfl rfl) rfl (Nat.le_of_ble_eq_true rfl) d_SqlReaderModel_primary_105 fun r34 _ => ?_
        refine Sm_iload_n E d_SqlReaderModel_primary_108 rfl 3 rfl ?_
        refine Sm_iconst (v := 1) E d_SqlReaderModel_primary_109 (by decide) ?_
        refine Sm_isub E d_SqlReaderModel_primary_110 ?_
        refine Sm_icmp_eq (tgt := 118) E d_SqlReaderModel_primary_111 (by decide) (fun _ => ?_) (fun _ => ?_)
        · refine Sm_iconst (v := 0) E d_SqlReaderModel_primary_118 (by decide) ?_
          exact Sm_sub [1, 2, 3, 4, 5, 0] rfl (tM_SqlReaderModel_primary_J119 rc n0 hrc E hR _ _ _ _ _ _ _)
        · refine Sm_iconst (v := 1) E d_SqlReaderModel_primary_114 (by decide) ?_
          refine Sm_goto (tgt := 119) E d_SqlReaderModel_primary_115 (by decide) ?_
          exact Sm_sub [1, 2, 3, 4, 5, 0] rfl (tM_SqlReaderModel_primary_J119 rc n0 hrc E hR _ _ _ _ _ _ _)
set_option maxRecDepth 100000 in
set_option maxHeartbeats 4000000 in
theorem cM_SqlReaderModel_primary_o {l : Launch} {D : va_G} {G : Gx} (rc : Nat → Int32 → Int32 → Int32 → Int32 → Int32 → Int32 → St → Option (Int32 × St)) (n0 : Nat) (hrc : ∀ (t : Nat) (a b c d e f : Int32) (u : St) (res : Int32 × St), rc t a b c d e f u = some res → rcCM n0 G t a b c d e f u res) (x1 : Int32) (x2 : Int32) (x3 : Int32) (u : St) {res : Int32 × St} (hm : mM_SqlReaderModel_primary_o rc x1 x2 x3 u = some res) : KM l D G y_SqlReaderModel_primary (.code y_SqlReaderModel_primary prog_11_method_39_code 6 (some .int)) (rmGM (n0 + 1)) [.ref (G.1 100), .int x1, .int x2, .int x3] u (qI D vwCl (wM G) (tyW G) (adsM G) res) := by
  refine Ct_I (by decide) wM_as (Nat.le_of_ble_eq_true rfl) hm (fun X _ _ E hR => ?_)
  refine Sm_lvs (lv' := [(0, .ref (G.1 100)), (1, .int x1), (2, .int x2), (3, .int x3)]) rfl ?_
  rw [mM_SqlReaderModel_primary_o]
  refine Sm_aload_n E d_SqlReaderModel_primary_0 rfl 0 rfl ?_
  refine Sm_iload_n E d_SqlReaderModel_primary_1 rfl 1 rfl ?_
  refine Sm_cVi (As := [.int x1]) (b := (G.1 100)) (st := []) (n := 1) E exOk wM_as (fun _ h => cM_SqlReaderModel_gathers x1 u h) gk_SqlReaderModel_397 dk_SqlReaderModel_gathers rfl ⟨rfl, rfl⟩ ⟨(by show 5 + 1 ≤ n0 + 1 + 7; omega), (by show 8 + (2 + 11) + 109 ≤ 35 * (n0 + 1) + 155; omega)⟩ (rvW (q0 := 0) (ci := 1) E rfl rfl rfl) rfl (Nat.le_of_ble_eq_true rfl) d_SqlReaderModel_primary_2 fun r1 _ => ?_
  refine Sm_istore (lv' := [(4, .int r1), (0, .ref (G.1 100)), (1, .int x1), (2, .int x2), (3, .int x3)]) E d_SqlReaderModel_primary_5 (by decide) rfl ?_
  refine Sm_iload E d_SqlReaderModel_primary_7 0 rfl ?_
  refine Sm_if_le (tgt := 164) E d_SqlReaderModel_primary_9 (by decide) (fun _ => ?_) (fun _ => ?_)
  · refine Sm_aload_n E d_SqlReaderModel_primary_164 rfl 1 rfl ?_
    refine Sm_iload_n E d_SqlReaderModel_primary_165 rfl 2 rfl ?_
    refine Sm_ldcS_w E sr_SqlReaderModel_291 d_SqlReaderModel_primary_166 ?_
    refine Sm_cVi (As := [.int x1, .ref (G.2.2.1 79)]) (b := (G.1 100)) (st := []) (n := 2) E exOk wM_as (fun _ h => cM_SqlReaderModel_is x1 79 u h) gk_SqlReaderModel_293 dk_SqlReaderModel_is rfl ⟨rfl, rfl⟩ ⟨(by show 4 + 1 ≤ n0 + 1 + 7; omega), (by show 8 + (5 + 11) + 85 ≤ 35 * (n0 + 1) + 155; omega)⟩ (rvW (q0 := 0) (ci := 1) E rfl rfl rfl) rfl (Nat.le_of_ble_eq_true rfl) d_SqlReaderModel_primary_169 fun r2 _ => ?_
    refine Sm_if_eq (tgt := 218) E d_SqlReaderModel_primary_172 (by decide) (fun _ => ?_) (fun _ => ?_)
    · refine Sm_aload_n E d_SqlReaderModel_primary_218 rfl 1 rfl ?_
      refine Sm_iload_n E d_SqlReaderModel_primary_219 rfl 2 rfl ?_
      refine Sm_iconst (v := 2) E d_SqlReaderModel_primary_220 (by decide) ?_
      refine Sm_cVi (As := [.int x1, .int 2]) (b := (G.1 100)) (st := []) (n := 2) E exOk wM_as (fun _ h => cM_SqlReaderModel_isKind x1 2 u h) gk_SqlReaderModel_403 dk_SqlReaderModel_isKind rfl ⟨rfl, rfl⟩ ⟨(by show 0 + 1 ≤ n0 + 1 + 7; omega), (by show 8 + (3 + 11) + 0 ≤ 35 * (n0 + 1) + 155; omega)⟩ (rvW (q0 := 0) (ci := 1) E rfl rfl rfl) rfl (Nat.le_of_ble_eq_true rfl) d_SqlReaderModel_primary_221 fun r3 _ => ?_
      refine Sm_if_eq (tgt := 320) E d_SqlReaderModel_primary_224 (by decide) (fun _ => ?_) (fun _ => ?_)
      · refine Sm_aload_n E d_SqlReaderModel_primary_320 rfl 1 rfl ?_
        refine Sm_aload_n E d_SqlReaderModel_primary_321 rfl 1 rfl ?_
        refine gfM_0_bad E fl_SqlReaderModel_226 d_SqlReaderModel_primary_322 ?_
        refine Sm_if_ne (tgt := 335) E d_SqlReaderModel_primary_325 (by decide) (fun _ => ?_) (fun _ => ?_)
        · refine Sm_iconst (v := 1) E d_SqlReaderModel_primary_335 (by decide) ?_
          refine Sm_goto (tgt := 340) E d_SqlReaderModel_primary_336 (by decide) ?_
          refine pfM_0_bad E fl_SqlReaderModel_226 d_SqlReaderModel_primary_340 (by decide) rfl fun u4 _ => ?_
          refine Sm_aload_n E d_SqlReaderModel_primary_343 rfl 1 rfl ?_
          refine Sm_iload_n E d_SqlReaderModel_primary_344 rfl 2 rfl ?_
          refine Sm_cVI (As := [.int x1]) (b := (G.1 100)) (st := []) (n := 1) E exOk wM_as (fun _ h => cM_SqlReaderModel_constant x1 u4 h) gk_SqlReaderModel_412 dk_SqlReaderModel_constant rfl ⟨rfl, rfl⟩ ⟨(by show 5 + 1 ≤ n0 + 1 + 7; omega), (by show 8 + (6 + 11) + 109 ≤ 35 * (n0 + 1) + 155; omega)⟩ (rvW (q0 := 0) (ci := 1) E rfl rfl rfl) rfl (Nat.le_of_ble_eq_true rfl) d_SqlReaderModel_primary_345 fun r5 u6 _ => ?_
          exact Sm_retI hR d_SqlReaderModel_primary_348
        · refine Sm_iload_n E d_SqlReaderModel_primary_328 rfl 3 rfl ?_
          refine Sm_iload_n E d_SqlReaderModel_primary_329 rfl 2 rfl ?_
          refine Sm_iconst (v := 1) E d_SqlReaderModel_primary_330 (by decide) ?_
          refine Sm_iadd E d_SqlReaderModel_primary_331 ?_
          refine Sm_icmp_eq (tgt := 339) E d_SqlReaderModel_primary_332 (by decide) (fun _ => ?_) (fun _ => ?_)
          · refine Sm_iconst (v := 0) E d_SqlReaderModel_primary_339 (by decide) ?_
            refine pfM_0_bad E fl_SqlReaderModel_226 d_SqlReaderModel_primary_340 (by decide) rfl fun u7 _ => ?_
            refine Sm_aload_n E d_SqlReaderModel_primary_343 rfl 1 rfl ?_
            refine Sm_iload_n E d_SqlReaderModel_primary_344 rfl 2 rfl ?_
            refine Sm_cVI (As := [.int x1]) (b := (G.1 100)) (st := []) (n := 1) E exOk wM_as (fun _ h => cM_SqlReaderModel_constant x1 u7 h) gk_SqlReaderModel_412 dk_SqlReaderModel_constant rfl ⟨rfl, rfl⟩ ⟨(by show 5 + 1 ≤ n0 + 1 + 7; omega), (by show 8 + (6 + 11) + 109 ≤ 35 * (n0 + 1) + 155; omega)⟩ (rvW (q0 := 0) (ci := 1) E rfl rfl rfl) rfl (Nat.le_of_ble_eq_true rfl) d_SqlReaderModel_primary_345 fun r8 u9 _ => ?_
            exact Sm_retI hR d_SqlReaderModel_primary_348
          · refine Sm_iconst (v := 1) E d_SqlReaderModel_primary_335 (by decide) ?_
            refine Sm_goto (tgt := 340) E d_SqlReaderModel_primary_336 (by decide) ?_
            refine pfM_0_bad E fl_SqlReaderModel_226 d_SqlReaderModel_primary_340 (by decide) rfl fun u10 _ => ?_
            refine Sm_aload_n E d_SqlReaderModel_primary_343 rfl 1 rfl ?_
            refine Sm_iload_n E d_SqlReaderModel_primary_344 rfl 2 rfl ?_
            refine Sm_cVI (As := [.int x1]) (b := (G.1 100)) (st := []) (n := 1) E exOk wM_as (fun _ h => cM_SqlReaderModel_constant x1 u10 h) gk_SqlReaderModel_412 dk_SqlReaderModel_constant rfl ⟨rfl, rfl⟩ ⟨(by show 5 + 1 ≤ n0 + 1 + 7; omega), (by show 8 + (6 + 11) + 109 ≤ 35 * (n0 + 1) + 155; omega)⟩ (rvW (q0 := 0) (ci := 1) E rfl rfl rfl) rfl (Nat.le_of_ble_eq_true rfl) d_SqlReaderModel_primary_345 fun r11 u12 _ => ?_
            exact Sm_retI hR d_SqlReaderModel_primary_348
      · refine Sm_iload_n E d_SqlReaderModel_primary_227 rfl 3 rfl ?_
        refine Sm_iload_n E d_SqlReaderModel_primary_228 rfl 2 rfl ?_
        refine Sm_iconst (v := 3) E d_SqlReaderModel_primary_229 (by decide) ?_
        refine Sm_iadd E d_SqlReaderModel_primary_230 ?_
        refine Sm_icmp_ne (tgt := 262) E d_SqlReaderModel_primary_231 (by decide) (fun _ => ?_) (fun _ => ?_)
        · refine Sm_iconst (v := 0) E d_SqlReaderModel_primary_262 (by decide) ?_
          exact Sm_sub [1, 2, 3] rfl (tM_SqlReaderModel_primary_J263 rc n0 hrc E hR _ _ _ _)
        · refine Sm_aload_n E d_SqlReaderModel_primary_234 rfl 1 rfl ?_
          refine Sm_iload_n E d_SqlReaderModel_primary_235 rfl 2 rfl ?_
          refine Sm_iconst (v := 1) E d_SqlReaderModel_primary_236 (by decide) ?_
          refine Sm_iadd E d_SqlReaderModel_primary_237 ?_
          refine Sm_ldcS_w E sr_SqlReaderModel_407 d_SqlReaderModel_primary_238 ?_
          refine Sm_cVi (As := [.int (x1 + 1), .ref (G.2.2.1 107)]) (b := (G.1 100)) (st := []) (n := 2) E exOk wM_as (fun _ h => cM_SqlReaderModel_is (x1 + 1) 107 u h) gk_SqlReaderModel_293 dk_SqlReaderModel_is rfl ⟨rfl, rfl⟩ ⟨(by show 4 + 1 ≤ n0 + 1 + 7; omega), (by show 8 + (5 + 11) + 85 ≤ 35 * (n0 + 1) + 155; omega)⟩ (rvW (q0 := 0) (ci := 1) E rfl rfl rfl) rfl (Nat.le_of_ble_eq_true rfl) d_SqlReaderModel_primary_241 fun r18 _ => ?_
          refine Sm_if_eq (tgt := 262) E d_SqlReaderModel_primary_244 (by decide) (fun _ => ?_) (fun _ => ?_)
          · refine Sm_iconst (v := 0) E d_SqlReaderModel_primary_262 (by decide) ?_
            exact Sm_sub [1, 2, 3] rfl (tM_SqlReaderModel_primary_J263 rc n0 hrc E hR _ _ _ _)
          · refine Sm_aload_n E d_SqlReaderModel_primary_247 rfl 1 rfl ?_
            refine Sm_iload_n E d_SqlReaderModel_primary_248 rfl 2 rfl ?_
            refine Sm_iconst (v := 2) E d_SqlReaderModel_primary_249 (by decide) ?_
            refine Sm_iadd E d_SqlReaderModel_primary_250 ?_
            refine Sm_iconst (v := 2) E d_SqlReaderModel_primary_251 (by decide) ?_
            refine Sm_cVi (As := [.int (x1 + 2), .int 2]) (b := (G.1 100)) (st := []) (n := 2) E exOk wM_as (fun _ h => cM_SqlReaderModel_isKind (x1 + 2) 2 u h) gk_SqlReaderModel_403 dk_SqlReaderModel_isKind rfl ⟨rfl, rfl⟩ ⟨(by show 0 + 1 ≤ n0 + 1 + 7; omega), (by show 8 + (3 + 11) + 0 ≤ 35 * (n0 + 1) + 155; omega)⟩ (rvW (q0 := 0) (ci := 1) E rfl rfl rfl) rfl (Nat.le_of_ble_eq_true rfl) d_SqlReaderModel_primary_252 fun r19 _ => ?_
            refine Sm_if_eq (tgt := 262) E d_SqlReaderModel_primary_255 (by decide) (fun _ => ?_) (fun _ => ?_)
            · refine Sm_iconst (v := 0) E d_SqlReaderModel_primary_262 (by decide) ?_
              exact Sm_sub [1, 2, 3] rfl (tM_SqlReaderModel_primary_J263 rc n0 hrc E hR _ _ _ _)
            · refine Sm_iconst (v := 1) E d_SqlReaderModel_primary_258 (by decide) ?_
              refine Sm_goto (tgt := 263) E d_SqlReaderModel_primary_259 (by decide) ?_
              exact Sm_sub [1, 2, 3] rfl (tM_SqlReaderModel_primary_J263 rc n0 hrc E hR _ _ _ _)
    · refine Sm_aload_n E d_SqlReaderModel_primary_175 rfl 1 rfl ?_
      refine Sm_aload_n E d_SqlReaderModel_primary_176 rfl 1 rfl ?_
      refine gfM_0_bad E fl_SqlReaderModel_226 d_SqlReaderModel_primary_177 ?_
      refine Sm_if_ne (tgt := 195) E d_SqlReaderModel_primary_180 (by decide) (fun _ => ?_) (fun _ => ?_)
      · refine Sm_iconst (v := 1) E d_SqlReaderModel_primary_195 (by decide) ?_
        refine Sm_goto (tgt := 200) E d_SqlReaderModel_primary_196 (by decide) ?_
        exact Sm_sub [1, 2, 3, 4] rfl (tM_SqlReaderModel_primary_J200 rc n0 hrc E hR _ _ _ _ _)
      · refine Sm_aload_n E d_SqlReaderModel_primary_183 rfl 1 rfl ?_
        refine Sm_iload_n E d_SqlReaderModel_primary_184 rfl 2 rfl ?_
        refine Sm_iload_n E d_SqlReaderModel_primary_185 rfl 3 rfl ?_
        refine Sm_cVi (As := [.int x1, .int x2]) (b := (G.1 100)) (st := [.ref (G.1 100)]) (n := 2) E exOk wM_as (fun _ h => cM_SqlReaderModel_closing x1 x2 u h) gk_SqlReaderModel_384 dk_SqlReaderModel_closing rfl ⟨rfl, rfl⟩ ⟨(by show 6 + 1 ≤ n0 + 1 + 7; omega), (by show 8 + (5 + 11) + 130 ≤ 35 * (n0 + 1) + 155; omega)⟩ (rvW (q0 := 0) (ci := 1) E rfl rfl rfl) rfl (Nat.le_of_ble_eq_true rfl) d_SqlReaderModel_primary_186 fun r23 _ => ?_
        refine Sm_iload_n E d_SqlReaderModel_primary_189 rfl 3 rfl ?_
        refine Sm_iconst (v := 1) E d_SqlReaderModel_primary_190 (by decide) ?_
        refine Sm_isub E d_SqlReaderModel_primary_191 ?_
        refine Sm_icmp_eq (tgt := 199) E d_SqlReaderModel_primary_192 (by decide) (fun _ => ?_) (fun _ => ?_)
        · refine Sm_iconst (v := 0) E d_SqlReaderModel_primary_199 (by decide) ?_
          exact Sm_sub [1, 2, 3, 4] rfl (tM_SqlReaderModel_primary_J200 rc n0 hrc E hR _ _ _ _ _)
        · refine Sm_iconst (v := 1) E d_SqlReaderModel_primary_195 (by decide) ?_
          refine Sm_goto (tgt := 200) E d_SqlReaderModel_primary_196 (by decide) ?_
          exact Sm_sub [1, 2, 3, 4] rfl (tM_SqlReaderModel_primary_J200 rc n0 hrc E hR _ _ _ _ _)
  · refine Sm_iload E d_SqlReaderModel_primary_12 0 rfl ?_
    refine Sm_bipush (v := 6) E d_SqlReaderModel_primary_14 (by decide) ?_
    refine Sm_icmp_ne (tgt := 69) E d_SqlReaderModel_primary_16 (by decide) (fun _ => ?_) (fun _ => ?_)
    · refine Sm_iconst (v := 0) E d_SqlReaderModel_primary_69 (by decide) ?_
      exact Sm_sub [1, 2, 3, 4, 0] rfl (tM_SqlReaderModel_primary_J70 rc n0 hrc E hR _ _ _ _ _ _)
    · refine Sm_iload_n E d_SqlReaderModel_primary_19 rfl 3 rfl ?_
      refine Sm_iload_n E d_SqlReaderModel_primary_20 rfl 2 rfl ?_
      refine Sm_iconst (v := 4) E d_SqlReaderModel_primary_21 (by decide) ?_
      refine Sm_iadd E d_SqlReaderModel_primary_22 ?_
      refine Sm_icmp_ne (tgt := 69) E d_SqlReaderModel_primary_23 (by decide) (fun _ => ?_) (fun _ => ?_)
      · refine Sm_iconst (v := 0) E d_SqlReaderModel_primary_69 (by decide) ?_
        exact Sm_sub [1, 2, 3, 4, 0] rfl (tM_SqlReaderModel_primary_J70 rc n0 hrc E hR _ _ _ _ _ _)
      · refine Sm_aload_n E d_SqlReaderModel_primary_26 rfl 1 rfl ?_
        refine Sm_iload_n E d_SqlReaderModel_primary_27 rfl 2 rfl ?_
        refine Sm_iconst (v := 1) E d_SqlReaderModel_primary_28 (by decide) ?_
        refine Sm_iadd E d_SqlReaderModel_primary_29 ?_
        refine Sm_ldcS_w E sr_SqlReaderModel_291 d_SqlReaderModel_primary_30 ?_
        refine Sm_cVi (As := [.int (x1 + 1), .ref (G.2.2.1 79)]) (b := (G.1 100)) (st := []) (n := 2) E exOk wM_as (fun _ h => cM_SqlReaderModel_is (x1 + 1) 79 u h) gk_SqlReaderModel_293 dk_SqlReaderModel_is rfl ⟨rfl, rfl⟩ ⟨(by show 4 + 1 ≤ n0 + 1 + 7; omega), (by show 8 + (5 + 11) + 85 ≤ 35 * (n0 + 1) + 155; omega)⟩ (rvW (q0 := 0) (ci := 1) E rfl rfl rfl) rfl (Nat.le_of_ble_eq_true rfl) d_SqlReaderModel_primary_33 fun r35 _ => ?_
        refine Sm_if_eq (tgt := 69) E d_SqlReaderModel_primary_36 (by decide) (fun _ => ?_) (fun _ => ?_)
        · refine Sm_iconst (v := 0) E d_SqlReaderModel_primary_69 (by decide) ?_
          exact Sm_sub [1, 2, 3, 4, 0] rfl (tM_SqlReaderModel_primary_J70 rc n0 hrc E hR _ _ _ _ _ _)
        · refine Sm_aload_n E d_SqlReaderModel_primary_39 rfl 1 rfl ?_
          refine Sm_iload_n E d_SqlReaderModel_primary_40 rfl 2 rfl ?_
          refine Sm_iconst (v := 2) E d_SqlReaderModel_primary_41 (by decide) ?_
          refine Sm_iadd E d_SqlReaderModel_primary_42 ?_
          refine Sm_ldcS_w E sr_SqlReaderModel_315 d_SqlReaderModel_primary_43 ?_
          refine Sm_cVi (As := [.int (x1 + 2), .ref (G.2.2.1 106)]) (b := (G.1 100)) (st := []) (n := 2) E exOk wM_as (fun _ h => cM_SqlReaderModel_is (x1 + 2) 106 u h) gk_SqlReaderModel_293 dk_SqlReaderModel_is rfl ⟨rfl, rfl⟩ ⟨(by show 4 + 1 ≤ n0 + 1 + 7; omega), (by show 8 + (5 + 11) + 85 ≤ 35 * (n0 + 1) + 155; omega)⟩ (rvW (q0 := 0) (ci := 1) E rfl rfl rfl) rfl (Nat.le_of_ble_eq_true rfl) d_SqlReaderModel_primary_46 fun r36 _ => ?_
          refine Sm_if_eq (tgt := 69) E d_SqlReaderModel_primary_49 (by decide) (fun _ => ?_) (fun _ => ?_)
          · refine Sm_iconst (v := 0) E d_SqlReaderModel_primary_69 (by decide) ?_
            exact Sm_sub [1, 2, 3, 4, 0] rfl (tM_SqlReaderModel_primary_J70 rc n0 hrc E hR _ _ _ _ _ _)
          · refine Sm_aload_n E d_SqlReaderModel_primary_52 rfl 1 rfl ?_
            refine Sm_iload_n E d_SqlReaderModel_primary_53 rfl 2 rfl ?_
            refine Sm_iconst (v := 3) E d_SqlReaderModel_primary_54 (by decide) ?_
            refine Sm_iadd E d_SqlReaderModel_primary_55 ?_
            refine Sm_ldcS_w E sr_SqlReaderModel_297 d_SqlReaderModel_primary_56 ?_
            refine Sm_cVi (As := [.int (x1 + 3), .ref (G.2.2.1 88)]) (b := (G.1 100)) (st := []) (n := 2) E exOk wM_as (fun _ h => cM_SqlReaderModel_is (x1 + 3) 88 u h) gk_SqlReaderModel_293 dk_SqlReaderModel_is rfl ⟨rfl, rfl⟩ ⟨(by show 4 + 1 ≤ n0 + 1 + 7; omega), (by show 8 + (5 + 11) + 85 ≤ 35 * (n0 + 1) + 155; omega)⟩ (rvW (q0 := 0) (ci := 1) E rfl rfl rfl) rfl (Nat.le_of_ble_eq_true rfl) d_SqlReaderModel_primary_59 fun r37 _ => ?_
            refine Sm_if_eq (tgt := 69) E d_SqlReaderModel_primary_62 (by decide) (fun _ => ?_) (fun _ => ?_)
            · refine Sm_iconst (v := 0) E d_SqlReaderModel_primary_69 (by decide) ?_
              exact Sm_sub [1, 2, 3, 4, 0] rfl (tM_SqlReaderModel_primary_J70 rc n0 hrc E hR _ _ _ _ _ _)
            · refine Sm_iconst (v := 1) E d_SqlReaderModel_primary_65 (by decide) ?_
              refine Sm_goto (tgt := 70) E d_SqlReaderModel_primary_66 (by decide) ?_
              exact Sm_sub [1, 2, 3, 4, 0] rfl (tM_SqlReaderModel_primary_J70 rc n0 hrc E hR _ _ _ _ _ _)
