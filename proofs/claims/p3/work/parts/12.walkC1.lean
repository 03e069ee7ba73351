set_option maxRecDepth 100000 in
set_option maxHeartbeats 4000000 in
theorem tC_Text_append_L30 {X : Cx} {G : Gx} {res : Int32 × St} (E : EC X G prog_8_method_12_code R_Text 5 { frames := 0, cells := 0, slots := 0, locals := 0 }) (hR : RtZ X vwCl (wC G) prog_8_method_12_code .boolean res) : ∀ (n : Nat) (x1 : Int64) (x4 : Int32) (u : St), SC X G 5 res (mC_Text_append_L30 n x1 x4 u) u 30 [(0, .ref (G.1 1)), (1, .long x1), (4, .int x4)] [] := by
  intro n
  induction n with
  | zero => intro x1 x4 u; exact Sm_none
  | succ n h30 =>
    intro x1 x4 u
    rw [mC_Text_append_L30]
    refine Sm_iload E d_Text_append_30 2 rfl ?_
    refine Sm_if_lt (tgt := 69) E d_Text_append_32 (by decide) (fun _ => ?_) (fun _ => ?_)
    · refine Sm_iconst (v := 1) E d_Text_append_69 (by decide) ?_
      exact Sm_retZ hR (by decide) d_Text_append_70
    · refine Sm_aload_n E d_Text_append_35 rfl 0 rfl ?_
      refine gfC_1_bytes E fl_Text_9 d_Text_append_36 ?_
      refine Sm_aload_n E d_Text_append_39 rfl 0 rfl ?_
      refine gfC_1_size E fl_Text_20 d_Text_append_40 ?_
      refine Sm_lload_n E d_Text_append_43 rfl 1 rfl ?_
      refine Sm_bipush (v := 8) E d_Text_append_44 (by decide) ?_
      refine Sm_iload E d_Text_append_46 2 rfl ?_
      refine Sm_imul E d_Text_append_48 ?_
      refine Sm_lushr E d_Text_append_49 ?_
      refine Sm_l2i E d_Text_append_50 ?_
      refine Sm_i2b E d_Text_append_51 ?_
      refine Sm_gd fun hi => stC_2 E (inb_in hi) d_Text_append_52 fun u2 _ => ?_
      refine Sm_aload_n E d_Text_append_53 rfl 0 rfl ?_
      refine Sm_dup E d_Text_append_54 rfl ?_
      refine gfC_1_size E fl_Text_20 d_Text_append_55 ?_
      refine Sm_iconst (v := 1) E d_Text_append_58 (by decide) ?_
      refine Sm_iadd E d_Text_append_59 ?_
      refine pfC_1_size E fl_Text_20 d_Text_append_60 fun u3 _ => ?_
      refine Sm_iinc (k := 2) (d := (-1)) E d_Text_append_63 rfl rfl (by decide) fun y4 _ => Sm_lvs (lv' := [(4, .int y4), (0, .ref (G.1 1)), (1, .long x1)]) rfl ?_
      refine Sm_goto (tgt := 30) E d_Text_append_66 (by decide) ?_
      exact Sm_sub [1, 2, 0] rfl (h30 _ _ _)
set_option maxRecDepth 100000 in
set_option maxHeartbeats 4000000 in
theorem cC_Text_append {l : Launch} {D : va_G} {G : Gx} (x1 : Int64) (x3 : Int32) (u : St) {res : Int32 × St} (hm : mC_Text_append x1 x3 u = some res) : KC l D G y_Text_append (.code y_Text_append prog_8_method_12_code 5 (some .boolean)) { frames := 0, cells := 0, slots := 0, locals := 0 } [.ref (G.1 1), .long x1, .int x3] u (qI D vwCl (wC G) (tyW G) (adsC G) res) := by
  refine Ct_Z (by decide) wC_as (Nat.le_of_ble_eq_true rfl) hm (fun X _ _ E hR => ?_)
  refine Sm_lvs (lv' := [(0, .ref (G.1 1)), (1, .long x1), (3, .int x3)]) rfl ?_
  rw [mC_Text_append]
  refine Sm_iload_n E d_Text_append_0 rfl 2 rfl ?_
  refine Sm_iconst (v := 1) E d_Text_append_1 (by decide) ?_
  refine Sm_icmp_lt (tgt := 23) E d_Text_append_2 (by decide) (fun _ => ?_) (fun _ => ?_)
  · refine Sm_iconst (v := 0) E d_Text_append_23 (by decide) ?_
    exact Sm_retZ hR (by decide) d_Text_append_24
  · refine Sm_iload_n E d_Text_append_5 rfl 2 rfl ?_
    refine Sm_bipush (v := 8) E d_Text_append_6 (by decide) ?_
    refine Sm_icmp_gt (tgt := 23) E d_Text_append_8 (by decide) (fun _ => ?_) (fun _ => ?_)
    · refine Sm_iconst (v := 0) E d_Text_append_23 (by decide) ?_
      exact Sm_retZ hR (by decide) d_Text_append_24
    · refine Sm_aload_n E d_Text_append_11 rfl 0 rfl ?_
      refine gfC_1_size E fl_Text_20 d_Text_append_12 ?_
      refine Sm_sipush (v := 2000) E d_Text_append_15 (by decide) ?_
      refine Sm_iload_n E d_Text_append_18 rfl 2 rfl ?_
      refine Sm_isub E d_Text_append_19 ?_
      refine Sm_icmp_le (tgt := 25) E d_Text_append_20 (by decide) (fun _ => ?_) (fun _ => ?_)
      · refine Sm_iload_n E d_Text_append_25 rfl 2 rfl ?_
        refine Sm_iconst (v := 1) E d_Text_append_26 (by decide) ?_
        refine Sm_isub E d_Text_append_27 ?_
        refine Sm_leti fun y1 _ => ?_
        refine Sm_istore (lv' := [(4, .int y1), (0, .ref (G.1 1)), (1, .long x1), (3, .int x3)]) E d_Text_append_28 (by decide) rfl ?_
        exact Sm_sub [1, 2, 0] rfl (tC_Text_append_L30 E hR FU _ _ _)
      · refine Sm_iconst (v := 0) E d_Text_append_23 (by decide) ?_
        exact Sm_retZ hR (by decide) d_Text_append_24
set_option maxRecDepth 100000 in
set_option maxHeartbeats 4000000 in
theorem cC_SqlReader_type {l : Launch} {D : va_G} {G : Gx} (x1 : Int64) (x3 : Int32) (u : St) {res : Int32 × St} (hm : mC_SqlReader_type x1 x3 u = some res) : KC l D G y_SqlReader_type (.code y_SqlReader_type prog_1_method_2_code 4 (some .boolean)) { frames := 1, cells := 0, slots := 0, locals := 24 } [.ref (G.1 0), .long x1, .int x3] u (qI D vwCl (wC G) (tyW G) (adsC G) res) := by
  refine Ct_Z (by decide) wC_as (Nat.le_of_ble_eq_true rfl) hm (fun X _ _ E hR => ?_)
  refine Sm_lvs (lv' := [(0, .ref (G.1 0)), (1, .long x1), (3, .int x3)]) rfl ?_
  rw [mC_SqlReader_type]
  refine Sm_aload_n E d_SqlReader_type_0 rfl 0 rfl ?_
  refine gfC_0_typed E fl_SqlReader_10 d_SqlReader_type_1 ?_
  refine Sm_lload_n E d_SqlReader_type_4 rfl 1 rfl ?_
  refine Sm_iload_n E d_SqlReader_type_5 rfl 2 rfl ?_
  refine Sm_cVI (As := [.long x1, .int x3]) (b := (G.1 1)) (st := []) (n := 2) E exOk wC_as (fun _ h => cC_Text_append x1 x3 u h) gk_SqlReader_69 dk_Text_append rfl ⟨rfl, rfl⟩ ⟨Nat.le_of_ble_eq_true rfl, Nat.le_of_ble_eq_true rfl⟩ (rvW (q0 := 1) (ci := 8) E rfl rfl rfl) rfl (Nat.le_of_ble_eq_true rfl) d_SqlReader_type_6 fun r1 u2 _ => ?_
  exact Sm_gd fun hz => Sm_retZ hR (zb_n hz) d_SqlReader_type_9
set_option maxRecDepth 100000 in
set_option maxHeartbeats 4000000 in
theorem cC_Text_at_1 {l : Launch} {D : va_G} {G : Gx} (x1 : Int32) (u : St) {res : Int32} (hm : mC_Text_at_1 x1 u = some res) : KC l D G y_Text_at (.code y_Text_at prog_8_method_10_code 2 (some .int)) { frames := 0, cells := 0, slots := 0, locals := 0 } [.ref (G.1 1), .int x1] u (qI D vwCl (wC G) (tyW G) (adsC G) (res, u)) := by
  refine Ct_i (by decide) wC_as (Nat.le_of_ble_eq_true rfl) hm (fun X _ _ E hR => ?_)
  refine Sm_lvs (lv' := [(0, .ref (G.1 1)), (1, .int x1)]) rfl ?_
  rw [mC_Text_at_1]
  refine Sm_iload_n E d_Text_at_0 rfl 1 rfl ?_
  refine Sm_if_lt (tgt := 12) E d_Text_at_1 (by decide) (fun _ => ?_) (fun _ => ?_)
  · refine Sm_iconst (v := (-1)) E d_Text_at_12 (by decide) ?_
    refine Sm_goto (tgt := 26) E d_Text_at_13 (by decide) ?_
    exact Sm_reti hR d_Text_at_26
  · refine Sm_iload_n E d_Text_at_4 rfl 1 rfl ?_
    refine Sm_aload_n E d_Text_at_5 rfl 0 rfl ?_
    refine gfC_1_size E fl_Text_20 d_Text_at_6 ?_
    refine Sm_icmp_lt (tgt := 16) E d_Text_at_9 (by decide) (fun _ => ?_) (fun _ => ?_)
    · refine Sm_aload_n E d_Text_at_16 rfl 0 rfl ?_
      refine gfC_1_bytes E fl_Text_9 d_Text_at_17 ?_
      refine Sm_iload_n E d_Text_at_20 rfl 1 rfl ?_
      refine Sm_gd fun hi => ldC_2 E (inb_in hi) d_Text_at_21 ?_
      refine Sm_sipush (v := 255) E d_Text_at_22 (by decide) ?_
      refine Sm_iand E d_Text_at_25 ?_
      exact Sm_reti hR d_Text_at_26
    · refine Sm_iconst (v := (-1)) E d_Text_at_12 (by decide) ?_
      refine Sm_goto (tgt := 26) E d_Text_at_13 (by decide) ?_
      exact Sm_reti hR d_Text_at_26
set_option maxRecDepth 100000 in
set_option maxHeartbeats 4000000 in
theorem cC_Text_isSmall {l : Launch} {D : va_G} {G : Gx} (x0 : Int32) (u : St) {res : Int32} (hm : mC_Text_isSmall x0 u = some res) : KC l D G y_Text_isSmall (.code y_Text_isSmall prog_8_method_5_code 1 (some .boolean)) { frames := 0, cells := 0, slots := 0, locals := 0 } [.int x0] u (qI D vwCl (wC G) (tyW G) (adsC G) (res, u)) := by
  refine Ct_z (by decide) wC_as (Nat.le_of_ble_eq_true rfl) hm (fun X _ _ E hR => ?_)
  refine Sm_lvs (lv' := [(0, .int x0)]) rfl ?_
  rw [mC_Text_isSmall]
  refine Sm_iload_n E d_Text_isSmall_0 rfl 0 rfl ?_
  refine Sm_bipush (v := 97) E d_Text_isSmall_1 (by decide) ?_
  refine Sm_icmp_lt (tgt := 16) E d_Text_isSmall_3 (by decide) (fun _ => ?_) (fun _ => ?_)
  · refine Sm_iconst (v := 0) E d_Text_isSmall_16 (by decide) ?_
    exact Sm_retz hR (by decide) d_Text_isSmall_17
  · refine Sm_iload_n E d_Text_isSmall_6 rfl 0 rfl ?_
    refine Sm_bipush (v := 122) E d_Text_isSmall_7 (by decide) ?_
    refine Sm_icmp_gt (tgt := 16) E d_Text_isSmall_9 (by decide) (fun _ => ?_) (fun _ => ?_)
    · refine Sm_iconst (v := 0) E d_Text_isSmall_16 (by decide) ?_
      exact Sm_retz hR (by decide) d_Text_isSmall_17
    · refine Sm_iconst (v := 1) E d_Text_isSmall_12 (by decide) ?_
      refine Sm_goto (tgt := 17) E d_Text_isSmall_13 (by decide) ?_
      exact Sm_retz hR (by decide) d_Text_isSmall_17
set_option maxRecDepth 100000 in
set_option maxHeartbeats 4000000 in
theorem cC_Text_isDigit {l : Launch} {D : va_G} {G : Gx} (x0 : Int32) (u : St) {res : Int32} (hm : mC_Text_isDigit x0 u = some res) : KC l D G y_Text_isDigit (.code y_Text_isDigit prog_8_method_6_code 1 (some .boolean)) { frames := 0, cells := 0, slots := 0, locals := 0 } [.int x0] u (qI D vwCl (wC G) (tyW G) (adsC G) (res, u)) := by
  refine Ct_z (by decide) wC_as (Nat.le_of_ble_eq_true rfl) hm (fun X _ _ E hR => ?_)
  refine Sm_lvs (lv' := [(0, .int x0)]) rfl ?_
  rw [mC_Text_isDigit]
  refine Sm_iload_n E d_Text_isDigit_0 rfl 0 rfl ?_
  refine Sm_bipush (v := 48) E d_Text_isDigit_1 (by decide) ?_
  refine Sm_icmp_lt (tgt := 16) E d_Text_isDigit_3 (by decide) (fun _ => ?_) (fun _ => ?_)
  · refine Sm_iconst (v := 0) E d_Text_isDigit_16 (by decide) ?_
    exact Sm_retz hR (by decide) d_Text_isDigit_17
  · refine Sm_iload_n E d_Text_isDigit_6 rfl 0 rfl ?_
    refine Sm_bipush (v := 57) E d_Text_isDigit_7 (by decide) ?_
    refine Sm_icmp_gt (tgt := 16) E d_Text_isDigit_9 (by decide) (fun _ => ?_) (fun _ => ?_)
    · refine Sm_iconst (v := 0) E d_Text_isDigit_16 (by decide) ?_
      exact Sm_retz hR (by decide) d_Text_isDigit_17
    · refine Sm_iconst (v := 1) E d_Text_isDigit_12 (by decide) ?_
      refine Sm_goto (tgt := 17) E d_Text_isDigit_13 (by decide) ?_
      exact Sm_retz hR (by decide) d_Text_isDigit_17
set_option maxRecDepth 100000 in
set_option maxHeartbeats 4000000 in
theorem cC_Text_isOfName {l : Launch} {D : va_G} {G : Gx} (x0 : Int32) (u : St) {res : Int32} (hm : mC_Text_isOfName x0 u = some res) : KC l D G y_Text_isOfName (.code y_Text_isOfName prog_8_method_7_code 1 (some .boolean)) { frames := 1, cells := 0, slots := 0, locals := 20 } [.int x0] u (qI D vwCl (wC G) (tyW G) (adsC G) (res, u)) := by
  refine Ct_z (by decide) wC_as (Nat.le_of_ble_eq_true rfl) hm (fun X _ _ E hR => ?_)
  refine Sm_lvs (lv' := [(0, .int x0)]) rfl ?_
  rw [mC_Text_isOfName]
  refine Sm_iload_n E d_Text_isOfName_0 rfl 0 rfl ?_
  refine Sm_cSi (As := [.int x0]) (st := []) (n := 1) E exOk wC_as (fun _ h => cC_Text_isSmall x0 u h) gk_Text_13 dk_Text_isSmall rfl ⟨rfl, rfl⟩ ⟨Nat.le_of_ble_eq_true rfl, Nat.le_of_ble_eq_true rfl⟩ rfl (Nat.le_of_ble_eq_true rfl) d_Text_isOfName_1 fun r1 _ => ?_
  refine Sm_if_ne (tgt := 20) E d_Text_isOfName_4 (by decide) (fun _ => ?_) (fun _ => ?_)
  · refine Sm_iconst (v := 1) E d_Text_isOfName_20 (by decide) ?_
    refine Sm_goto (tgt := 25) E d_Text_isOfName_21 (by decide) ?_
    exact Sm_retz hR (by decide) d_Text_isOfName_25
  · refine Sm_iload_n E d_Text_isOfName_7 rfl 0 rfl ?_
    refine Sm_cSi (As := [.int x0]) (st := []) (n := 1) E exOk wC_as (fun _ h => cC_Text_isDigit x0 u h) gk_Text_17 dk_Text_isDigit rfl ⟨rfl, rfl⟩ ⟨Nat.le_of_ble_eq_true rfl, Nat.le_of_ble_eq_true rfl⟩ rfl (Nat.le_of_ble_eq_true rfl) d_Text_isOfName_8 fun r2 _ => ?_
    refine Sm_if_ne (tgt := 20) E d_Text_isOfName_11 (by decide) (fun _ => ?_) (fun _ => ?_)
    · refine Sm_iconst (v := 1) E d_Text_isOfName_20 (by decide) ?_
      refine Sm_goto (tgt := 25) E d_Text_isOfName_21 (by decide) ?_
      exact Sm_retz hR (by decide) d_Text_isOfName_25
    · refine Sm_iload_n E d_Text_isOfName_14 rfl 0 rfl ?_
      refine Sm_bipush (v := 95) E d_Text_isOfName_15 (by decide) ?_
      refine Sm_icmp_ne (tgt := 24) E d_Text_isOfName_17 (by decide) (fun _ => ?_) (fun _ => ?_)
      · refine Sm_iconst (v := 0) E d_Text_isOfName_24 (by decide) ?_
        exact Sm_retz hR (by decide) d_Text_isOfName_25
      · refine Sm_iconst (v := 1) E d_Text_isOfName_20 (by decide) ?_
        refine Sm_goto (tgt := 25) E d_Text_isOfName_21 (by decide) ?_
        exact Sm_retz hR (by decide) d_Text_isOfName_25
set_option maxRecDepth 100000 in
set_option maxHeartbeats 4000000 in
theorem tC_Text_isName_L24 {X : Cx} {G : Gx} {res : Int32} {u : St} (E : EC X G prog_8_method_15_code R_Text 2 { frames := 2, cells := 0, slots := 0, locals := 40 }) (hR : RtZ X vwCl (wC G) prog_8_method_15_code .boolean (res, u)) : ∀ (n : Nat) (x1 : Int32) , SC X G 2 res (mC_Text_isName_L24 n x1 u) u 24 [(0, .ref (G.1 1)), (1, .int x1)] [] := by
  intro n
  induction n with
  | zero => intro x1; exact Sm_none
  | succ n h24 =>
    intro x1
    rw [mC_Text_isName_L24]
    refine Sm_iload_n E d_Text_isName_24 rfl 1 rfl ?_
    refine Sm_aload_n E d_Text_isName_25 rfl 0 rfl ?_
    refine gfC_1_size E fl_Text_20 d_Text_isName_26 ?_
    refine Sm_icmp_ge (tgt := 51) E d_Text_isName_29 (by decide) (fun _ => ?_) (fun _ => ?_)
    · refine Sm_iconst (v := 1) E d_Text_isName_51 (by decide) ?_
      exact Sm_retz hR (by decide) d_Text_isName_52
    · refine Sm_aload_n E d_Text_isName_32 rfl 0 rfl ?_
      refine Sm_iload_n E d_Text_isName_33 rfl 1 rfl ?_
      refine Sm_cVi (As := [.int x1]) (b := (G.1 1)) (st := []) (n := 1) E exOk wC_as (fun _ h => cC_Text_at_1 x1 u h) gk_Text_34 dk_Text_at rfl ⟨rfl, rfl⟩ ⟨Nat.le_of_ble_eq_true rfl, Nat.le_of_ble_eq_true rfl⟩ (rvW (q0 := 1) (ci := 8) E rfl rfl rfl) rfl (Nat.le_of_ble_eq_true rfl) d_Text_isName_34 fun r3 _ => ?_
      refine Sm_cSi (As := [.int r3]) (st := []) (n := 1) E exOk wC_as (fun _ h => cC_Text_isOfName r3 u h) gk_Text_38 dk_Text_isOfName rfl ⟨rfl, rfl⟩ ⟨Nat.le_of_ble_eq_true rfl, Nat.le_of_ble_eq_true rfl⟩ rfl (Nat.le_of_ble_eq_true rfl) d_Text_isName_37 fun r4 _ => ?_
      refine Sm_if_ne (tgt := 45) E d_Text_isName_40 (by decide) (fun _ => ?_) (fun _ => ?_)
      · refine Sm_iinc (k := 1) (d := 1) E d_Text_isName_45 rfl rfl (by decide) fun y5 _ => Sm_lvs (lv' := [(1, .int y5), (0, .ref (G.1 1))]) rfl ?_
        refine Sm_goto (tgt := 24) E d_Text_isName_48 (by decide) ?_
        exact Sm_sub [1, 0] rfl (h24 _)
      · refine Sm_iconst (v := 0) E d_Text_isName_43 (by decide) ?_
        exact Sm_retz hR (by decide) d_Text_isName_44
set_option maxRecDepth 100000 in
set_option maxHeartbeats 4000000 in
theorem cC_Text_isName {l : Launch} {D : va_G} {G : Gx} (u : St) {res : Int32} (hm : mC_Text_isName u = some res) : KC l D G y_Text_isName (.code y_Text_isName prog_8_method_15_code 2 (some .boolean)) { frames := 2, cells := 0, slots := 0, locals := 40 } [.ref (G.1 1)] u (qI D vwCl (wC G) (tyW G) (adsC G) (res, u)) := by
  refine Ct_z (by decide) wC_as (Nat.le_of_ble_eq_true rfl) hm (fun X _ _ E hR => ?_)
  refine Sm_lvs (lv' := [(0, .ref (G.1 1))]) rfl ?_
  rw [mC_Text_isName]
  refine Sm_aload_n E d_Text_isName_0 rfl 0 rfl ?_
  refine gfC_1_size E fl_Text_20 d_Text_isName_1 ?_
  refine Sm_bipush (v := 16) E d_Text_isName_4 (by decide) ?_
  refine Sm_icmp_gt (tgt := 20) E d_Text_isName_6 (by decide) (fun _ => ?_) (fun _ => ?_)
  · refine Sm_iconst (v := 0) E d_Text_isName_20 (by decide) ?_
    exact Sm_retz hR (by decide) d_Text_isName_21
  · refine Sm_aload_n E d_Text_isName_9 rfl 0 rfl ?_
    refine Sm_iconst (v := 0) E d_Text_isName_10 (by decide) ?_
    refine Sm_cVi (As := [.int 0]) (b := (G.1 1)) (st := []) (n := 1) E exOk wC_as (fun _ h => cC_Text_at_1 0 u h) gk_Text_34 dk_Text_at rfl ⟨rfl, rfl⟩ ⟨Nat.le_of_ble_eq_true rfl, Nat.le_of_ble_eq_true rfl⟩ (rvW (q0 := 1) (ci := 8) E rfl rfl rfl) rfl (Nat.le_of_ble_eq_true rfl) d_Text_isName_11 fun r1 _ => ?_
    refine Sm_cSi (As := [.int r1]) (st := []) (n := 1) E exOk wC_as (fun _ h => cC_Text_isSmall r1 u h) gk_Text_13 dk_Text_isSmall rfl ⟨rfl, rfl⟩ ⟨Nat.le_of_ble_eq_true rfl, Nat.le_of_ble_eq_true rfl⟩ rfl (Nat.le_of_ble_eq_true rfl) d_Text_isName_14 fun r2 _ => ?_
    refine Sm_if_ne (tgt := 22) E d_Text_isName_17 (by decide) (fun _ => ?_) (fun _ => ?_)
    · refine Sm_iconst (v := 1) E d_Text_isName_22 (by decide) ?_
      refine Sm_istore_n (lv' := [(1, .int 1), (0, .ref (G.1 1))]) E d_Text_isName_23 rfl (by decide) rfl ?_
      exact Sm_sub [1, 0] rfl (tC_Text_isName_L24 E hR FU _)
    · refine Sm_iconst (v := 0) E d_Text_isName_20 (by decide) ?_
      exact Sm_retz hR (by decide) d_Text_isName_21
set_option maxRecDepth 100000 in
set_option maxHeartbeats 4000000 in
theorem cC_Text_size_1 {l : Launch} {D : va_G} {G : Gx} (u : St) {res : Int32} (hm : mC_Text_size_1 u = some res) : KC l D G y_Text_size (.code y_Text_size prog_8_method_8_code 1 (some .int)) { frames := 0, cells := 0, slots := 0, locals := 0 } [.ref (G.1 1)] u (qI D vwCl (wC G) (tyW G) (adsC G) (res, u)) := by
  refine Ct_i (by decide) wC_as (Nat.le_of_ble_eq_true rfl) hm (fun X _ _ E hR => ?_)
  refine Sm_lvs (lv' := [(0, .ref (G.1 1))]) rfl ?_
  rw [mC_Text_size_1]
  refine Sm_aload_n E d_Text_size_0 rfl 0 rfl ?_
  refine gfC_1_size E fl_Text_20 d_Text_size_1 ?_
  exact Sm_reti hR d_Text_size_4
set_option maxRecDepth 100000 in
set_option maxHeartbeats 4000000 in
theorem cC_Text_span {l : Launch} {D : va_G} {G : Gx} (x0 : Int32) (x1 : Int32) (u : St) {res : Int32} (hm : mC_Text_span x0 x1 u = some res) : KC l D G y_Text_span (.code y_Text_span prog_8_method_2_code 2 (some .int)) { frames := 0, cells := 0, slots := 0, locals := 0 } [.int x0, .int x1] u (qI D vwCl (wC G) (tyW G) (adsC G) (res, u)) := by
  refine Ct_i (by decide) wC_as (Nat.le_of_ble_eq_true rfl) hm (fun X _ _ E hR => ?_)
  refine Sm_lvs (lv' := [(0, .int x0), (1, .int x1)]) rfl ?_
  rw [mC_Text_span]
  refine Sm_iload_n E d_Text_span_0 rfl 0 rfl ?_
  refine Sm_iconst (v := 5) E d_Text_span_1 (by decide) ?_
  refine Sm_ishl E d_Text_span_2 ?_
  refine Sm_iload_n E d_Text_span_3 rfl 1 rfl ?_
  refine Sm_ior E d_Text_span_4 ?_
  exact Sm_reti hR d_Text_span_5
set_option maxRecDepth 100000 in
set_option maxHeartbeats 4000000 in
theorem cC_Text_sizeOf {l : Launch} {D : va_G} {G : Gx} (x0 : Int32) (u : St) {res : Int32} (hm : mC_Text_sizeOf x0 u = some res) : KC l D G y_Text_sizeOf (.code y_Text_sizeOf prog_8_method_4_code 1 (some .int)) { frames := 0, cells := 0, slots := 0, locals := 0 } [.int x0] u (qI D vwCl (wC G) (tyW G) (adsC G) (res, u)) := by
  refine Ct_i (by decide) wC_as (Nat.le_of_ble_eq_true rfl) hm (fun X _ _ E hR => ?_)
  refine Sm_lvs (lv' := [(0, .int x0)]) rfl ?_
  rw [mC_Text_sizeOf]
  refine Sm_iload_n E d_Text_sizeOf_0 rfl 0 rfl ?_
  refine Sm_if_ge (tgt := 8) E d_Text_sizeOf_1 (by decide) (fun _ => ?_) (fun _ => ?_)
  · refine Sm_iload_n E d_Text_sizeOf_8 rfl 0 rfl ?_
    refine Sm_bipush (v := 31) E d_Text_sizeOf_9 (by decide) ?_
    refine Sm_iand E d_Text_sizeOf_11 ?_
    exact Sm_reti hR d_Text_sizeOf_12
  · refine Sm_iconst (v := 0) E d_Text_sizeOf_4 (by decide) ?_
    refine Sm_goto (tgt := 12) E d_Text_sizeOf_5 (by decide) ?_
    exact Sm_reti hR d_Text_sizeOf_12
set_option maxRecDepth 100000 in
set_option maxHeartbeats 4000000 in
theorem cC_Text_startOf {l : Launch} {D : va_G} {G : Gx} (x0 : Int32) (u : St) {res : Int32} (hm : mC_Text_startOf x0 u = some res) : KC l D G y_Text_startOf (.code y_Text_startOf prog_8_method_3_code 1 (some .int)) { frames := 0, cells := 0, slots := 0, locals := 0 } [.int x0] u (qI D vwCl (wC G) (tyW G) (adsC G) (res, u)) := by
  refine Ct_i (by decide) wC_as (Nat.le_of_ble_eq_true rfl) hm (fun X _ _ E hR => ?_)
  refine Sm_lvs (lv' := [(0, .int x0)]) rfl ?_
  rw [mC_Text_startOf]
  refine Sm_iload_n E d_Text_startOf_0 rfl 0 rfl ?_
  refine Sm_iconst (v := 5) E d_Text_startOf_1 (by decide) ?_
  refine Sm_ishr E d_Text_startOf_2 ?_
  exact Sm_reti hR d_Text_startOf_3
set_option maxRecDepth 100000 in
set_option maxHeartbeats 4000000 in
theorem cC_Text_at_4 {l : Launch} {D : va_G} {G : Gx} (x1 : Int32) (u : St) {res : Int32} (hm : mC_Text_at_4 x1 u = some res) : KC l D G y_Text_at (.code y_Text_at prog_8_method_10_code 2 (some .int)) { frames := 0, cells := 0, slots := 0, locals := 0 } [.ref (G.1 4), .int x1] u (qI D vwCl (wC G) (tyW G) (adsC G) (res, u)) := by
  refine Ct_i (by decide) wC_as (Nat.le_of_ble_eq_true rfl) hm (fun X _ _ E hR => ?_)
  refine Sm_lvs (lv' := [(0, .ref (G.1 4)), (1, .int x1)]) rfl ?_
  rw [mC_Text_at_4]
  refine Sm_iload_n E d_Text_at_0 rfl 1 rfl ?_
  refine Sm_if_lt (tgt := 12) E d_Text_at_1 (by decide) (fun _ => ?_) (fun _ => ?_)
  · refine Sm_iconst (v := (-1)) E d_Text_at_12 (by decide) ?_
    refine Sm_goto (tgt := 26) E d_Text_at_13 (by decide) ?_
    exact Sm_reti hR d_Text_at_26
  · refine Sm_iload_n E d_Text_at_4 rfl 1 rfl ?_
    refine Sm_aload_n E d_Text_at_5 rfl 0 rfl ?_
    refine gfC_4_size E fl_Text_20 d_Text_at_6 ?_
    refine Sm_icmp_lt (tgt := 16) E d_Text_at_9 (by decide) (fun _ => ?_) (fun _ => ?_)
    · refine Sm_aload_n E d_Text_at_16 rfl 0 rfl ?_
      refine gfC_4_bytes E fl_Text_9 d_Text_at_17 ?_
      refine Sm_iload_n E d_Text_at_20 rfl 1 rfl ?_
      refine Sm_gd fun hi => ldC_5 E (inb_in hi) d_Text_at_21 ?_
      refine Sm_sipush (v := 255) E d_Text_at_22 (by decide) ?_
      refine Sm_iand E d_Text_at_25 ?_
      exact Sm_reti hR d_Text_at_26
    · refine Sm_iconst (v := (-1)) E d_Text_at_12 (by decide) ?_
      refine Sm_goto (tgt := 26) E d_Text_at_13 (by decide) ?_
      exact Sm_reti hR d_Text_at_26
set_option maxRecDepth 100000 in
set_option maxHeartbeats 4000000 in
theorem tC_Text_same_4_1_L20 {X : Cx} {G : Gx} {res : Int32} {u : St} (E : EC X G prog_8_method_17_code R_Text 6 { frames := 1, cells := 0, slots := 0, locals := 21 }) (hR : RtZ X vwCl (wC G) prog_8_method_17_code .boolean (res, u)) : ∀ (n : Nat) (x1 : Int32) (x3 : Int32) (x4 : Int32) (x5 : Int32) , SC X G 6 res (mC_Text_same_4_1_L20 n x1 x3 x4 x5 u) u 20 [(0, .ref (G.1 4)), (1, .int x1), (2, .ref (G.1 1)), (3, .int x3), (4, .int x4), (5, .int x5)] [] := by
  intro n
  induction n with
  | zero => intro x1 x3 x4 x5; exact Sm_none
  | succ n h20 =>
    intro x1 x3 x4 x5
    rw [mC_Text_same_4_1_L20]
    refine Sm_iload E d_Text_same_20 5 rfl ?_
    refine Sm_iload E d_Text_same_22 4 rfl ?_
    refine Sm_icmp_ge (tgt := 60) E d_Text_same_24 (by decide) (fun _ => ?_) (fun _ => ?_)
    · refine Sm_iconst (v := 1) E d_Text_same_60 (by decide) ?_
      exact Sm_retz hR (by decide) d_Text_same_61
    · refine Sm_aload_n E d_Text_same_27 rfl 0 rfl ?_
      refine Sm_iload_n E d_Text_same_28 rfl 1 rfl ?_
      refine Sm_cSi (As := [.int x1]) (st := [.ref (G.1 4)]) (n := 1) E exOk wC_as (fun _ h => cC_Text_startOf x1 u h) gk_Text_44 dk_Text_startOf rfl ⟨rfl, rfl⟩ ⟨Nat.le_of_ble_eq_true rfl, Nat.le_of_ble_eq_true rfl⟩ rfl (Nat.le_of_ble_eq_true rfl) d_Text_same_29 fun r3 _ => ?_
      refine Sm_iload E d_Text_same_32 5 rfl ?_
      refine Sm_iadd E d_Text_same_34 ?_
      refine Sm_cVi (As := [.int (r3 + x5)]) (b := (G.1 4)) (st := []) (n := 1) E exOk wC_as (fun _ h => cC_Text_at_4 (r3 + x5) u h) gk_Text_34 dk_Text_at rfl ⟨rfl, rfl⟩ ⟨Nat.le_of_ble_eq_true rfl, Nat.le_of_ble_eq_true rfl⟩ (rvW (q0 := 4) (ci := 8) E rfl rfl rfl) rfl (Nat.le_of_ble_eq_true rfl) d_Text_same_35 fun r4 _ => ?_
      refine Sm_aload_n E d_Text_same_38 rfl 2 rfl ?_
      refine Sm_iload_n E d_Text_same_39 rfl 3 rfl ?_
      refine Sm_cSi (As := [.int x3]) (st := [.ref (G.1 1), .int r4]) (n := 1) E exOk wC_as (fun _ h => cC_Text_startOf x3 u h) gk_Text_44 dk_Text_startOf rfl ⟨rfl, rfl⟩ ⟨Nat.le_of_ble_eq_true rfl, Nat.le_of_ble_eq_true rfl⟩ rfl (Nat.le_of_ble_eq_true rfl) d_Text_same_40 fun r5 _ => ?_
      refine Sm_iload E d_Text_same_43 5 rfl ?_
      refine Sm_iadd E d_Text_same_45 ?_
      refine Sm_cVi (As := [.int (r5 + x5)]) (b := (G.1 1)) (st := [.int r4]) (n := 1) E exOk wC_as (fun _ h => cC_Text_at_1 (r5 + x5) u h) gk_Text_34 dk_Text_at rfl ⟨rfl, rfl⟩ ⟨Nat.le_of_ble_eq_true rfl, Nat.le_of_ble_eq_true rfl⟩ (rvW (q0 := 1) (ci := 8) E rfl rfl rfl) rfl (Nat.le_of_ble_eq_true rfl) d_Text_same_46 fun r6 _ => ?_
      refine Sm_icmp_eq (tgt := 54) E d_Text_same_49 (by decide) (fun _ => ?_) (fun _ => ?_)
      · refine Sm_iinc (k := 5) (d := 1) E d_Text_same_54 rfl rfl (by decide) fun y7 _ => Sm_lvs (lv' := [(5, .int y7), (0, .ref (G.1 4)), (1, .int x1), (2, .ref (G.1 1)), (3, .int x3), (4, .int x4)]) rfl ?_
        refine Sm_goto (tgt := 20) E d_Text_same_57 (by decide) ?_
        exact Sm_sub [1, 2, 3, 4, 5, 0] rfl (h20 _ _ _ _)
      · refine Sm_iconst (v := 0) E d_Text_same_52 (by decide) ?_
        exact Sm_retz hR (by decide) d_Text_same_53
set_option maxRecDepth 100000 in
set_option maxHeartbeats 4000000 in
theorem cC_Text_same_4_1 {l : Launch} {D : va_G} {G : Gx} (x1 : Int32) (x3 : Int32) (u : St) {res : Int32} (hm : mC_Text_same_4_1 x1 x3 u = some res) : KC l D G y_Text_same (.code y_Text_same prog_8_method_17_code 6 (some .boolean)) { frames := 1, cells := 0, slots := 0, locals := 21 } [.ref (G.1 4), .int x1, .ref (G.1 1), .int x3] u (qI D vwCl (wC G) (tyW G) (adsC G) (res, u)) := by
  refine Ct_z (by decide) wC_as (Nat.le_of_ble_eq_true rfl) hm (fun X _ _ E hR => ?_)
  refine Sm_lvs (lv' := [(0, .ref (G.1 4)), (1, .int x1), (2, .ref (G.1 1)), (3, .int x3)]) rfl ?_
  rw [mC_Text_same_4_1]
  refine Sm_iload_n E d_Text_same_0 rfl 1 rfl ?_
  refine Sm_cSi (As := [.int x1]) (st := []) (n := 1) E exOk wC_as (fun _ h => cC_Text_sizeOf x1 u h) gk_Text_41 dk_Text_sizeOf rfl ⟨rfl, rfl⟩ ⟨Nat.le_of_ble_eq_true rfl, Nat.le_of_ble_eq_true rfl⟩ rfl (Nat.le_of_ble_eq_true rfl) d_Text_same_1 fun r1 _ => ?_
  refine Sm_istore (lv' := [(4, .int r1), (0, .ref (G.1 4)), (1, .int x1), (2, .ref (G.1 1)), (3, .int x3)]) E d_Text_same_4 (by decide) rfl ?_
  refine Sm_iload E d_Text_same_6 0 rfl ?_
  refine Sm_iload_n E d_Text_same_8 rfl 4 rfl ?_
  refine Sm_cSi (As := [.int x3]) (st := [.int r1]) (n := 1) E exOk wC_as (fun _ h => cC_Text_sizeOf x3 u h) gk_Text_41 dk_Text_sizeOf rfl ⟨rfl, rfl⟩ ⟨Nat.le_of_ble_eq_true rfl, Nat.le_of_ble_eq_true rfl⟩ rfl (Nat.le_of_ble_eq_true rfl) d_Text_same_9 fun r2 _ => ?_
  refine Sm_icmp_eq (tgt := 17) E d_Text_same_12 (by decide) (fun _ => ?_) (fun _ => ?_)
  · refine Sm_iconst (v := 0) E d_Text_same_17 (by decide) ?_
    refine Sm_istore (lv' := [(5, .int 0), (4, .int r1), (0, .ref (G.1 4)), (1, .int x1), (2, .ref (G.1 1)), (3, .int x3)]) E d_Text_same_18 (by decide) rfl ?_
    exact Sm_sub [2, 3, 4, 5, 1, 0] rfl (tC_Text_same_4_1_L20 E hR FU _ _ _ _)
  · refine Sm_iconst (v := 0) E d_Text_same_15 (by decide) ?_
    exact Sm_retz hR (by decide) d_Text_same_16
set_option maxRecDepth 100000 in
set_option maxHeartbeats 4000000 in
theorem tC_Catalog_findTable_3_1_L2 {X : Cx} {G : Gx} {res : Int32} {u : St} (E : EC X G prog_2_method_4_code R_Catalog 4 { frames := 2, cells := 0, slots := 0, locals := 46 }) (hR : RtI X vwCl (wC G) prog_2_method_4_code (res, u)) : ∀ (n : Nat) (x2 : Int32) (x3 : Int32) , SC X G 4 res (mC_Catalog_findTable_3_1_L2 n x2 x3 u) u 2 [(0, .ref (G.1 3)), (1, .ref (G.1 1)), (2, .int x2), (3, .int x3)] [] := by
  intro n
  induction n with
  | zero => intro x2 x3; exact Sm_none
  | succ n h2 =>
    intro x2 x3
    rw [mC_Catalog_findTable_3_1_L2]
    refine Sm_iload_n E d_Catalog_findTable_2 rfl 3 rfl ?_
    refine Sm_aload_n E d_Catalog_findTable_3 rfl 0 rfl ?_
    refine gfC_3_tables E fl_Catalog_35 d_Catalog_findTable_4 ?_
    refine Sm_icmp_ge (tgt := 36) E d_Catalog_findTable_7 (by decide) (fun _ => ?_) (fun _ => ?_)
    · refine Sm_iconst (v := (-1)) E d_Catalog_findTable_36 (by decide) ?_
      exact Sm_reti hR d_Catalog_findTable_37
    · refine Sm_aload_n E d_Catalog_findTable_10 rfl 0 rfl ?_
      refine gfC_3_names E fl_Catalog_12 d_Catalog_findTable_11 ?_
      refine Sm_aload_n E d_Catalog_findTable_14 rfl 0 rfl ?_
      refine gfC_3_tableNames E fl_Catalog_18 d_Catalog_findTable_15 ?_
      refine Sm_iload_n E d_Catalog_findTable_18 rfl 3 rfl ?_
      refine Sm_gd fun hi => ldC_6 E (inb_in hi) d_Catalog_findTable_19 ?_
      refine Sm_aload_n E d_Catalog_findTable_20 rfl 1 rfl ?_
      refine Sm_iload_n E d_Catalog_findTable_21 rfl 2 rfl ?_
      refine Sm_cVi (As := [.int (ga u 2 x3), .ref (G.1 1), .int x2]) (b := (G.1 4)) (st := []) (n := 3) E exOk wC_as (fun _ h => cC_Text_same_4_1 (ga u 2 x3) x2 u h) gk_Catalog_63 dk_Text_same rfl ⟨rfl, rfl⟩ ⟨Nat.le_of_ble_eq_true rfl, Nat.le_of_ble_eq_true rfl⟩ (rvW (q0 := 4) (ci := 8) E rfl rfl rfl) rfl (Nat.le_of_ble_eq_true rfl) d_Catalog_findTable_22 fun r1 _ => ?_
      refine Sm_if_eq (tgt := 30) E d_Catalog_findTable_25 (by decide) (fun _ => ?_) (fun _ => ?_)
      · refine Sm_iinc (k := 3) (d := 1) E d_Catalog_findTable_30 rfl rfl (by decide) fun y2 _ => Sm_lvs (lv' := [(3, .int y2), (0, .ref (G.1 3)), (1, .ref (G.1 1)), (2, .int x2)]) rfl ?_
        refine Sm_goto (tgt := 2) E d_Catalog_findTable_33 (by decide) ?_
        exact Sm_sub [1, 2, 3, 0] rfl (h2 _ _)
      · refine Sm_iload_n E d_Catalog_findTable_28 rfl 3 rfl ?_
        exact Sm_reti hR d_Catalog_findTable_29
set_option maxRecDepth 100000 in
set_option maxHeartbeats 4000000 in
theorem cC_Catalog_findTable_3_1 {l : Launch} {D : va_G} {G : Gx} (x2 : Int32) (u : St) {res : Int32} (hm : mC_Catalog_findTable_3_1 x2 u = some res) : KC l D G y_Catalog_findTable (.code y_Catalog_findTable prog_2_method_4_code 4 (some .int)) { frames := 2, cells := 0, slots := 0, locals := 46 } [.ref (G.1 3), .ref (G.1 1), .int x2] u (qI D vwCl (wC G) (tyW G) (adsC G) (res, u)) := by
  refine Ct_i (by decide) wC_as (Nat.le_of_ble_eq_true rfl) hm (fun X _ _ E hR => ?_)
  refine Sm_lvs (lv' := [(0, .ref (G.1 3)), (1, .ref (G.1 1)), (2, .int x2)]) rfl ?_
  rw [mC_Catalog_findTable_3_1]
  refine Sm_iconst (v := 0) E d_Catalog_findTable_0 (by decide) ?_
  refine Sm_istore_n (lv' := [(3, .int 0), (0, .ref (G.1 3)), (1, .ref (G.1 1)), (2, .int x2)]) E d_Catalog_findTable_1 rfl (by decide) rfl ?_
  exact Sm_sub [1, 2, 3, 0] rfl (tC_Catalog_findTable_3_1_L2 E hR FU _ _)
set_option maxRecDepth 100000 in
set_option maxHeartbeats 4000000 in
theorem tC_Text_keep_L7 {X : Cx} {G : Gx} {res : Int32 × St} (E : EC X G prog_8_method_14_code R_Text 4 { frames := 1, cells := 0, slots := 0, locals := 21 }) (hR : RtI X vwCl (wC G) prog_8_method_14_code res) : ∀ (n : Nat) (x2 : Int32) (x3 : Int32) (u : St), SC X G 4 res (mC_Text_keep_L7 n x2 x3 u) u 7 [(0, .ref (G.1 4)), (1, .ref (G.1 1)), (2, .int x2), (3, .int x3)] [] := by
  intro n
  induction n with
  | zero => intro x2 x3 u; exact Sm_none
  | succ n h7 =>
    intro x2 x3 u
    rw [mC_Text_keep_L7]
    refine Sm_iload_n E d_Text_keep_7 rfl 3 rfl ?_
    refine Sm_aload_n E d_Text_keep_8 rfl 1 rfl ?_
    refine gfC_1_size E fl_Text_20 d_Text_keep_9 ?_
    refine Sm_icmp_ge (tgt := 56) E d_Text_keep_12 (by decide) (fun _ => ?_) (fun _ => ?_)
    · refine Sm_iload_n E d_Text_keep_56 rfl 2 rfl ?_
      refine Sm_aload_n E d_Text_keep_57 rfl 0 rfl ?_
      refine gfC_4_size E fl_Text_20 d_Text_keep_58 ?_
      refine Sm_iload_n E d_Text_keep_61 rfl 2 rfl ?_
      refine Sm_isub E d_Text_keep_62 ?_
      refine Sm_cSi (As := [.int x2, .int ((u.1 2) - x2)]) (st := []) (n := 2) E exOk wC_as (fun _ h => cC_Text_span x2 ((u.1 2) - x2) u h) gk_Text_30 dk_Text_span rfl ⟨rfl, rfl⟩ ⟨Nat.le_of_ble_eq_true rfl, Nat.le_of_ble_eq_true rfl⟩ rfl (Nat.le_of_ble_eq_true rfl) d_Text_keep_63 fun r2 _ => ?_
      exact Sm_retI hR d_Text_keep_66
    · refine Sm_aload_n E d_Text_keep_15 rfl 0 rfl ?_
      refine gfC_4_size E fl_Text_20 d_Text_keep_16 ?_
      refine Sm_sipush (v := 2000) E d_Text_keep_19 (by decide) ?_
      refine Sm_icmp_ge (tgt := 56) E d_Text_keep_22 (by decide) (fun _ => ?_) (fun _ => ?_)
      · refine Sm_iload_n E d_Text_keep_56 rfl 2 rfl ?_
        refine Sm_aload_n E d_Text_keep_57 rfl 0 rfl ?_
        refine gfC_4_size E fl_Text_20 d_Text_keep_58 ?_
        refine Sm_iload_n E d_Text_keep_61 rfl 2 rfl ?_
        refine Sm_isub E d_Text_keep_62 ?_
        refine Sm_cSi (As := [.int x2, .int ((u.1 2) - x2)]) (st := []) (n := 2) E exOk wC_as (fun _ h => cC_Text_span x2 ((u.1 2) - x2) u h) gk_Text_30 dk_Text_span rfl ⟨rfl, rfl⟩ ⟨Nat.le_of_ble_eq_true rfl, Nat.le_of_ble_eq_true rfl⟩ rfl (Nat.le_of_ble_eq_true rfl) d_Text_keep_63 fun r3 _ => ?_
        exact Sm_retI hR d_Text_keep_66
      · refine Sm_aload_n E d_Text_keep_25 rfl 0 rfl ?_
        refine gfC_4_bytes E fl_Text_9 d_Text_keep_26 ?_
        refine Sm_aload_n E d_Text_keep_29 rfl 0 rfl ?_
        refine gfC_4_size E fl_Text_20 d_Text_keep_30 ?_
        refine Sm_aload_n E d_Text_keep_33 rfl 1 rfl ?_
        refine gfC_1_bytes E fl_Text_9 d_Text_keep_34 ?_
        refine Sm_iload_n E d_Text_keep_37 rfl 3 rfl ?_
        refine Sm_gd fun hi => ldC_2 E (inb_in hi) d_Text_keep_38 ?_
        refine Sm_gd fun hi => stC_5 E (inb_in hi) d_Text_keep_39 fun u4 _ => ?_
        refine Sm_aload_n E d_Text_keep_40 rfl 0 rfl ?_
        refine Sm_dup E d_Text_keep_41 rfl ?_
        refine gfC_4_size E fl_Text_20 d_Text_keep_42 ?_
        refine Sm_iconst (v := 1) E d_Text_keep_45 (by decide) ?_
        refine Sm_iadd E d_Text_keep_46 ?_
        refine pfC_4_size E fl_Text_20 d_Text_keep_47 fun u5 _ => ?_
        refine Sm_iinc (k := 3) (d := 1) E d_Text_keep_50 rfl rfl (by decide) fun y6 _ => Sm_lvs (lv' := [(3, .int y6), (0, .ref (G.1 4)), (1, .ref (G.1 1)), (2, .int x2)]) rfl ?_
        refine Sm_goto (tgt := 7) E d_Text_keep_53 (by decide) ?_
        exact Sm_sub [1, 2, 3, 0] rfl (h7 _ _ _)
set_option maxRecDepth 100000 in
set_option maxHeartbeats 4000000 in
theorem cC_Text_keep {l : Launch} {D : va_G} {G : Gx} (u : St) {res : Int32 × St} (hm : mC_Text_keep u = some res) : KC l D G y_Text_keep (.code y_Text_keep prog_8_method_14_code 4 (some .int)) { frames := 1, cells := 0, slots := 0, locals := 21 } [.ref (G.1 4), .ref (G.1 1)] u (qI D vwCl (wC G) (tyW G) (adsC G) res) := by
  refine Ct_I (by decide) wC_as (Nat.le_of_ble_eq_true rfl) hm (fun X _ _ E hR => ?_)
  refine Sm_lvs (lv' := [(0, .ref (G.1 4)), (1, .ref (G.1 1))]) rfl ?_
  rw [mC_Text_keep]
  refine Sm_aload_n E d_Text_keep_0 rfl 0 rfl ?_
  refine gfC_4_size E fl_Text_20 d_Text_keep_1 ?_
  refine Sm_leti fun y1 _ => ?_
  refine Sm_istore_n (lv' := [(2, .int y1), (0, .ref (G.1 4)), (1, .ref (G.1 1))]) E d_Text_keep_4 rfl (by decide) rfl ?_
  refine Sm_iconst (v := 0) E d_Text_keep_5 (by decide) ?_
  refine Sm_istore_n (lv' := [(3, .int 0), (2, .int y1), (0, .ref (G.1 4)), (1, .ref (G.1 1))]) E d_Text_keep_6 rfl (by decide) rfl ?_
  exact Sm_sub [2, 3, 1, 0] rfl (tC_Text_keep_L7 E hR FU _ _ _)
set_option maxRecDepth 100000 in
set_option maxHeartbeats 4000000 in
theorem cC_Catalog_addTable {l : Launch} {D : va_G} {G : Gx} (u : St) {res : Int32 × St} (hm : mC_Catalog_addTable u = some res) : KC l D G y_Catalog_addTable (.code y_Catalog_addTable prog_2_method_2_code 2 (some .int)) { frames := 3, cells := 0, slots := 0, locals := 69 } [.ref (G.1 3), .ref (G.1 1)] u (qI D vwCl (wC G) (tyW G) (adsC G) res) := by
  refine Ct_I (by decide) wC_as (Nat.le_of_ble_eq_true rfl) hm (fun X _ _ E hR => ?_)
  refine Sm_lvs (lv' := [(0, .ref (G.1 3)), (1, .ref (G.1 1))]) rfl ?_
  rw [mC_Catalog_addTable]
  refine Sm_aload_n E d_Catalog_addTable_0 rfl 1 rfl ?_
  refine Sm_cVi (As := []) (b := (G.1 1)) (st := []) (n := 0) E exOk wC_as (fun _ h => cC_Text_isName u h) gk_Catalog_31 dk_Text_isName rfl ⟨rfl, rfl⟩ ⟨Nat.le_of_ble_eq_true rfl, Nat.le_of_ble_eq_true rfl⟩ (rvW (q0 := 1) (ci := 8) E rfl rfl rfl) rfl (Nat.le_of_ble_eq_true rfl) d_Catalog_addTable_1 fun r1 _ => ?_
  refine Sm_if_eq (tgt := 16) E d_Catalog_addTable_4 (by decide) (fun _ => ?_) (fun _ => ?_)
  · refine Sm_iconst (v := (-1)) E d_Catalog_addTable_16 (by decide) ?_
    exact Sm_retI hR d_Catalog_addTable_17
  · refine Sm_aload_n E d_Catalog_addTable_7 rfl 0 rfl ?_
    refine gfC_3_tables E fl_Catalog_35 d_Catalog_addTable_8 ?_
    refine Sm_bipush (v := 8) E d_Catalog_addTable_11 (by decide) ?_
    refine Sm_icmp_lt (tgt := 18) E d_Catalog_addTable_13 (by decide) (fun _ => ?_) (fun _ => ?_)
    · refine Sm_aload_n E d_Catalog_addTable_18 rfl 0 rfl ?_
      refine Sm_aload_n E d_Catalog_addTable_19 rfl 1 rfl ?_
      refine Sm_iconst (v := 0) E d_Catalog_addTable_20 (by decide) ?_
      refine Sm_aload_n E d_Catalog_addTable_21 rfl 1 rfl ?_
      refine Sm_cVi (As := []) (b := (G.1 1)) (st := [.int 0, .ref (G.1 1), .ref (G.1 3)]) (n := 0) E exOk wC_as (fun _ h => cC_Text_size_1 u h) gk_Catalog_39 dk_Text_size rfl ⟨rfl, rfl⟩ ⟨Nat.le_of_ble_eq_true rfl, Nat.le_of_ble_eq_true rfl⟩ (rvW (q0 := 1) (ci := 8) E rfl rfl rfl) rfl (Nat.le_of_ble_eq_true rfl) d_Catalog_addTable_22 fun r2 _ => ?_
      refine Sm_cSi (As := [.int 0, .int r2]) (st := [.ref (G.1 1), .ref (G.1 3)]) (n := 2) E exOk wC_as (fun _ h => cC_Text_span 0 r2 u h) gk_Catalog_43 dk_Text_span rfl ⟨rfl, rfl⟩ ⟨Nat.le_of_ble_eq_true rfl, Nat.le_of_ble_eq_true rfl⟩ rfl (Nat.le_of_ble_eq_true rfl) d_Catalog_addTable_25 fun r3 _ => ?_
      refine Sm_cVi (As := [.ref (G.1 1), .int r3]) (b := (G.1 3)) (st := []) (n := 2) E exOk wC_as (fun _ h => cC_Catalog_findTable_3_1 r3 u h) gk_Catalog_47 dk_Catalog_findTable rfl ⟨rfl, rfl⟩ ⟨Nat.le_of_ble_eq_true rfl, Nat.le_of_ble_eq_true rfl⟩ (rvW (q0 := 3) (ci := 2) E rfl rfl rfl) rfl (Nat.le_of_ble_eq_true rfl) d_Catalog_addTable_28 fun r4 _ => ?_
      refine Sm_if_lt (tgt := 37) E d_Catalog_addTable_31 (by decide) (fun _ => ?_) (fun _ => ?_)
      · refine Sm_aload_n E d_Catalog_addTable_37 rfl 0 rfl ?_
        refine gfC_3_tableNames E fl_Catalog_18 d_Catalog_addTable_38 ?_
        refine Sm_aload_n E d_Catalog_addTable_41 rfl 0 rfl ?_
        refine gfC_3_tables E fl_Catalog_35 d_Catalog_addTable_42 ?_
        refine Sm_aload_n E d_Catalog_addTable_45 rfl 0 rfl ?_
        refine gfC_3_names E fl_Catalog_12 d_Catalog_addTable_46 ?_
        refine Sm_aload_n E d_Catalog_addTable_49 rfl 1 rfl ?_
        refine Sm_cVI (As := [.ref (G.1 1)]) (b := (G.1 4)) (st := [.int (u.1 1), .ref (G.1 6)]) (n := 1) E exOk wC_as (fun _ h => cC_Text_keep u h) gk_Catalog_51 dk_Text_keep rfl ⟨rfl, rfl⟩ ⟨Nat.le_of_ble_eq_true rfl, Nat.le_of_ble_eq_true rfl⟩ (rvW (q0 := 4) (ci := 8) E rfl rfl rfl) rfl (Nat.le_of_ble_eq_true rfl) d_Catalog_addTable_50 fun r5 u6 _ => ?_
        refine Sm_gd fun hi => stC_6 E (inb_in hi) d_Catalog_addTable_53 fun u7 _ => ?_
        refine Sm_aload_n E d_Catalog_addTable_54 rfl 0 rfl ?_
        refine Sm_dup E d_Catalog_addTable_55 rfl ?_
        refine gfC_3_tables E fl_Catalog_35 d_Catalog_addTable_56 ?_
        refine Sm_iconst (v := 1) E d_Catalog_addTable_59 (by decide) ?_
        refine Sm_iadd E d_Catalog_addTable_60 ?_
        refine pfC_3_tables E fl_Catalog_35 d_Catalog_addTable_61 fun u8 _ => ?_
        refine Sm_aload_n E d_Catalog_addTable_64 rfl 0 rfl ?_
        refine gfC_3_tables E fl_Catalog_35 d_Catalog_addTable_65 ?_
        refine Sm_iconst (v := 1) E d_Catalog_addTable_68 (by decide) ?_
        refine Sm_isub E d_Catalog_addTable_69 ?_
        exact Sm_retI hR d_Catalog_addTable_70
      · refine Sm_bipush (v := (-2)) E d_Catalog_addTable_34 (by decide) ?_
        exact Sm_retI hR d_Catalog_addTable_36
    · refine Sm_iconst (v := (-1)) E d_Catalog_addTable_16 (by decide) ?_
      exact Sm_retI hR d_Catalog_addTable_17
set_option maxRecDepth 100000 in
set_option maxHeartbeats 4000000 in
theorem cC_Text_clear {l : Launch} {D : va_G} {G : Gx} (u : St) {res : St} (hm : mC_Text_clear u = some res) : KC l D G y_Text_clear (.code y_Text_clear prog_8_method_9_code 1 none) { frames := 0, cells := 0, slots := 0, locals := 0 } [.ref (G.1 1)] u (qV D vwCl (wC G) (tyW G) (adsC G) res) := by
  refine Ct_V (by decide) wC_as (Nat.le_of_ble_eq_true rfl) hm (fun X _ _ E hR => ?_)
  refine Sm_lvs (lv' := [(0, .ref (G.1 1))]) rfl ?_
  rw [mC_Text_clear]
  refine Sm_aload_n E d_Text_clear_0 rfl 0 rfl ?_
  refine Sm_iconst (v := 0) E d_Text_clear_1 (by decide) ?_
  refine pfC_1_size E fl_Text_20 d_Text_clear_2 fun u1 _ => ?_
  exact Sm_retV hR d_Text_clear_5
set_option maxRecDepth 100000 in
set_option maxHeartbeats 4000000 in
theorem cC_SqlReader_table {l : Launch} {D : va_G} {G : Gx} (u : St) {res : Int32 × St} (hm : mC_SqlReader_table u = some res) : KC l D G y_SqlReader_table (.code y_SqlReader_table prog_1_method_3_code 2 (some .int)) { frames := 4, cells := 0, slots := 0, locals := 90 } [.ref (G.1 0)] u (qI D vwCl (wC G) (tyW G) (adsC G) res) := by
  refine Ct_I (by decide) wC_as (Nat.le_of_ble_eq_true rfl) hm (fun X _ _ E hR => ?_)
  refine Sm_lvs (lv' := [(0, .ref (G.1 0))]) rfl ?_
  rw [mC_SqlReader_table]
  refine Sm_aload_n E d_SqlReader_table_0 rfl 0 rfl ?_
  refine gfC_0_catalog E fl_SqlReader_19 d_SqlReader_table_1 ?_
  refine Sm_aload_n E d_SqlReader_table_4 rfl 0 rfl ?_
  refine gfC_0_typed E fl_SqlReader_10 d_SqlReader_table_5 ?_
  refine Sm_cVI (As := [.ref (G.1 1)]) (b := (G.1 3)) (st := []) (n := 1) E exOk wC_as (fun _ h => cC_Catalog_addTable u h) gk_SqlReader_73 dk_Catalog_addTable rfl ⟨rfl, rfl⟩ ⟨Nat.le_of_ble_eq_true rfl, Nat.le_of_ble_eq_true rfl⟩ (rvW (q0 := 3) (ci := 2) E rfl rfl rfl) rfl (Nat.le_of_ble_eq_true rfl) d_SqlReader_table_8 fun r1 u2 _ => ?_
  refine Sm_istore_n (lv' := [(1, .int r1), (0, .ref (G.1 0))]) E d_SqlReader_table_11 rfl (by decide) rfl ?_
  refine Sm_aload_n E d_SqlReader_table_12 rfl 1 rfl ?_
  refine gfC_0_typed E fl_SqlReader_10 d_SqlReader_table_13 ?_
  refine Sm_cVV (As := []) (b := (G.1 1)) (st := []) (n := 0) E exOk wC_as (fun _ h => cC_Text_clear u2 h) gk_SqlReader_77 dk_Text_clear rfl ⟨rfl, rfl⟩ ⟨Nat.le_of_ble_eq_true rfl, Nat.le_of_ble_eq_true rfl⟩ (rvW (q0 := 1) (ci := 8) E rfl rfl rfl) rfl (Nat.le_of_ble_eq_true rfl) d_SqlReader_table_16 fun u3 _ => ?_
  refine Sm_iload_n E d_SqlReader_table_19 rfl 0 rfl ?_
  exact Sm_retI hR d_SqlReader_table_20
set_option maxRecDepth 100000 in
set_option maxHeartbeats 4000000 in
theorem cC_Catalog_has {l : Launch} {D : va_G} {G : Gx} (x1 : Int32) (u : St) {res : Int32} (hm : mC_Catalog_has x1 u = some res) : KC l D G y_Catalog_has (.code y_Catalog_has prog_2_method_8_code 2 (some .boolean)) { frames := 0, cells := 0, slots := 0, locals := 0 } [.ref (G.1 3), .int x1] u (qI D vwCl (wC G) (tyW G) (adsC G) (res, u)) := by
  refine Ct_z (by decide) wC_as (Nat.le_of_ble_eq_true rfl) hm (fun X _ _ E hR => ?_)
  refine Sm_lvs (lv' := [(0, .ref (G.1 3)), (1, .int x1)]) rfl ?_
  rw [mC_Catalog_has]
  refine Sm_iload_n E d_Catalog_has_0 rfl 1 rfl ?_
  refine Sm_if_lt (tgt := 16) E d_Catalog_has_1 (by decide) (fun _ => ?_) (fun _ => ?_)
  · refine Sm_iconst (v := 0) E d_Catalog_has_16 (by decide) ?_
    exact Sm_retz hR (by decide) d_Catalog_has_17
  · refine Sm_iload_n E d_Catalog_has_4 rfl 1 rfl ?_
    refine Sm_aload_n E d_Catalog_has_5 rfl 0 rfl ?_
    refine gfC_3_tables E fl_Catalog_35 d_Catalog_has_6 ?_
    refine Sm_icmp_ge (tgt := 16) E d_Catalog_has_9 (by decide) (fun _ => ?_) (fun _ => ?_)
    · refine Sm_iconst (v := 0) E d_Catalog_has_16 (by decide) ?_
      exact Sm_retz hR (by decide) d_Catalog_has_17
    · refine Sm_iconst (v := 1) E d_Catalog_has_12 (by decide) ?_
      refine Sm_goto (tgt := 17) E d_Catalog_has_13 (by decide) ?_
      exact Sm_retz hR (by decide) d_Catalog_has_17
set_option maxRecDepth 100000 in
set_option maxHeartbeats 4000000 in
theorem cC_Catalog_columnsOf {l : Launch} {D : va_G} {G : Gx} (x1 : Int32) (u : St) {res : Int32} (hm : mC_Catalog_columnsOf x1 u = some res) : KC l D G y_Catalog_columnsOf (.code y_Catalog_columnsOf prog_2_method_6_code 2 (some .int)) { frames := 1, cells := 0, slots := 0, locals := 21 } [.ref (G.1 3), .int x1] u (qI D vwCl (wC G) (tyW G) (adsC G) (res, u)) := by
  refine Ct_i (by decide) wC_as (Nat.le_of_ble_eq_true rfl) hm (fun X _ _ E hR => ?_)
  refine Sm_lvs (lv' := [(0, .ref (G.1 3)), (1, .int x1)]) rfl ?_
  rw [mC_Catalog_columnsOf]
  refine Sm_aload_n E d_Catalog_columnsOf_0 rfl 0 rfl ?_
  refine Sm_iload_n E d_Catalog_columnsOf_1 rfl 1 rfl ?_
  refine Sm_cVi (As := [.int x1]) (b := (G.1 3)) (st := []) (n := 1) E exOk wC_as (fun _ h => cC_Catalog_has x1 u h) gk_Catalog_55 dk_Catalog_has rfl ⟨rfl, rfl⟩ ⟨Nat.le_of_ble_eq_true rfl, Nat.le_of_ble_eq_true rfl⟩ (rvW (q0 := 3) (ci := 2) E rfl rfl rfl) rfl (Nat.le_of_ble_eq_true rfl) d_Catalog_columnsOf_2 fun r1 _ => ?_
  refine Sm_if_eq (tgt := 17) E d_Catalog_columnsOf_5 (by decide) (fun _ => ?_) (fun _ => ?_)
  · refine Sm_iconst (v := 0) E d_Catalog_columnsOf_17 (by decide) ?_
    exact Sm_reti hR d_Catalog_columnsOf_18
  · refine Sm_aload_n E d_Catalog_columnsOf_8 rfl 0 rfl ?_
    refine gfC_3_columnCounts E fl_Catalog_22 d_Catalog_columnsOf_9 ?_
    refine Sm_iload_n E d_Catalog_columnsOf_12 rfl 1 rfl ?_
    refine Sm_gd fun hi => ldC_7 E (inb_in hi) d_Catalog_columnsOf_13 ?_
    refine Sm_goto (tgt := 18) E d_Catalog_columnsOf_14 (by decide) ?_
    exact Sm_reti hR d_Catalog_columnsOf_18
set_option maxRecDepth 100000 in
set_option maxHeartbeats 4000000 in
theorem tC_Catalog_findColumn_3_1_L3 {X : Cx} {G : Gx} {res : Int32} {u : St} (E : EC X G prog_2_method_5_code R_Catalog 5 { frames := 2, cells := 0, slots := 0, locals := 46 }) (hR : RtI X vwCl (wC G) prog_2_method_5_code (res, u)) : ∀ (n : Nat) (x1 : Int32) (x3 : Int32) (x4 : Int32) , SC X G 5 res (mC_Catalog_findColumn_3_1_L3 n x1 x3 x4 u) u 3 [(0, .ref (G.1 3)), (1, .int x1), (2, .ref (G.1 1)), (3, .int x3), (4, .int x4)] [] := by
  intro n
  induction n with
  | zero => intro x1 x3 x4; exact Sm_none
  | succ n h3 =>
    intro x1 x3 x4
    rw [mC_Catalog_findColumn_3_1_L3]
    refine Sm_iload E d_Catalog_findColumn_3 4 rfl ?_
    refine Sm_aload_n E d_Catalog_findColumn_5 rfl 0 rfl ?_
    refine Sm_iload_n E d_Catalog_findColumn_6 rfl 1 rfl ?_
    refine Sm_cVi (As := [.int x1]) (b := (G.1 3)) (st := [.int x4]) (n := 1) E exOk wC_as (fun _ h => cC_Catalog_columnsOf x1 u h) gk_Catalog_67 dk_Catalog_columnsOf rfl ⟨rfl, rfl⟩ ⟨Nat.le_of_ble_eq_true rfl, Nat.le_of_ble_eq_true rfl⟩ (rvW (q0 := 3) (ci := 2) E rfl rfl rfl) rfl (Nat.le_of_ble_eq_true rfl) d_Catalog_findColumn_7 fun r1 _ => ?_
    refine Sm_icmp_ge (tgt := 46) E d_Catalog_findColumn_10 (by decide) (fun _ => ?_) (fun _ => ?_)
    · refine Sm_iconst (v := (-1)) E d_Catalog_findColumn_46 (by decide) ?_
      exact Sm_reti hR d_Catalog_findColumn_47
    · refine Sm_aload_n E d_Catalog_findColumn_13 rfl 0 rfl ?_
      refine gfC_3_names E fl_Catalog_12 d_Catalog_findColumn_14 ?_
      refine Sm_aload_n E d_Catalog_findColumn_17 rfl 0 rfl ?_
      refine gfC_3_columnNames E fl_Catalog_25 d_Catalog_findColumn_18 ?_
      refine Sm_iload_n E d_Catalog_findColumn_21 rfl 1 rfl ?_
      refine Sm_bipush (v := 8) E d_Catalog_findColumn_22 (by decide) ?_
      refine Sm_imul E d_Catalog_findColumn_24 ?_
      refine Sm_iload E d_Catalog_findColumn_25 4 rfl ?_
      refine Sm_iadd E d_Catalog_findColumn_27 ?_
      refine Sm_gd fun hi => ldC_8 E (inb_in hi) d_Catalog_findColumn_28 ?_
      refine Sm_aload_n E d_Catalog_findColumn_29 rfl 2 rfl ?_
      refine Sm_iload_n E d_Catalog_findColumn_30 rfl 3 rfl ?_
      refine Sm_cVi (As := [.int (ga u 4 ((x1 * 8) + x4)), .ref (G.1 1), .int x3]) (b := (G.1 4)) (st := []) (n := 3) E exOk wC_as (fun _ h => cC_Text_same_4_1 (ga u 4 ((x1 * 8) + x4)) x3 u h) gk_Catalog_63 dk_Text_same rfl ⟨rfl, rfl⟩ ⟨Nat.le_of_ble_eq_true rfl, Nat.le_of_ble_eq_true rfl⟩ (rvW (q0 := 4) (ci := 8) E rfl rfl rfl) rfl (Nat.le_of_ble_eq_true rfl) d_Catalog_findColumn_31 fun r2 _ => ?_
      refine Sm_if_eq (tgt := 40) E d_Catalog_findColumn_34 (by decide) (fun _ => ?_) (fun _ => ?_)
      · refine Sm_iinc (k := 4) (d := 1) E d_Catalog_findColumn_40 rfl rfl (by decide) fun y3 _ => Sm_lvs (lv' := [(4, .int y3), (0, .ref (G.1 3)), (1, .int x1), (2, .ref (G.1 1)), (3, .int x3)]) rfl ?_
        refine Sm_goto (tgt := 3) E d_Catalog_findColumn_43 (by decide) ?_
        exact Sm_sub [1, 2, 3, 4, 0] rfl (h3 _ _ _)
      · refine Sm_iload E d_Catalog_findColumn_37 4 rfl ?_
        exact Sm_reti hR d_Catalog_findColumn_39
set_option maxRecDepth 100000 in
set_option maxHeartbeats 4000000 in
theorem cC_Catalog_findColumn_3_1 {l : Launch} {D : va_G} {G : Gx} (x1 : Int32) (x3 : Int32) (u : St) {res : Int32} (hm : mC_Catalog_findColumn_3_1 x1 x3 u = some res) : KC l D G y_Catalog_findColumn (.code y_Catalog_findColumn prog_2_method_5_code 5 (some .int)) { frames := 2, cells := 0, slots := 0, locals := 46 } [.ref (G.1 3), .int x1, .ref (G.1 1), .int x3] u (qI D vwCl (wC G) (tyW G) (adsC G) (res, u)) := by
  refine Ct_i (by decide) wC_as (Nat.le_of_ble_eq_true rfl) hm (fun X _ _ E hR => ?_)
  refine Sm_lvs (lv' := [(0, .ref (G.1 3)), (1, .int x1), (2, .ref (G.1 1)), (3, .int x3)]) rfl ?_
  rw [mC_Catalog_findColumn_3_1]
  refine Sm_iconst (v := 0) E d_Catalog_findColumn_0 (by decide) ?_
  refine Sm_istore (lv' := [(4, .int 0), (0, .ref (G.1 3)), (1, .int x1), (2, .ref (G.1 1)), (3, .int x3)]) E d_Catalog_findColumn_1 (by decide) rfl ?_
  exact Sm_sub [1, 2, 3, 4, 0] rfl (tC_Catalog_findColumn_3_1_L3 E hR FU _ _ _)
set_option maxRecDepth 100000 in
set_option maxHeartbeats 4000000 in
theorem cC_Catalog_addColumn {l : Launch} {D : va_G} {G : Gx} (x1 : Int32) (x2 : Int32) (u : St) {res : Int32 × St} (hm : mC_Catalog_addColumn x1 x2 u = some res) : KC l D G y_Catalog_addColumn (.code y_Catalog_addColumn prog_2_method_3_code 5 (some .int)) { frames := 3, cells := 0, slots := 0, locals := 70 } [.ref (G.1 3), .int x1, .int x2, .ref (G.1 1)] u (qI D vwCl (wC G) (tyW G) (adsC G) res) := by
  refine Ct_I (by decide) wC_as (Nat.le_of_ble_eq_true rfl) hm (fun X _ _ E hR => ?_)
  refine Sm_lvs (lv' := [(0, .ref (G.1 3)), (1, .int x1), (2, .int x2), (3, .ref (G.1 1))]) rfl ?_
  rw [mC_Catalog_addColumn]
  refine Sm_aload_n E d_Catalog_addColumn_0 rfl 3 rfl ?_
  refine Sm_cVi (As := []) (b := (G.1 1)) (st := []) (n := 0) E exOk wC_as (fun _ h => cC_Text_isName u h) gk_Catalog_31 dk_Text_isName rfl ⟨rfl, rfl⟩ ⟨Nat.le_of_ble_eq_true rfl, Nat.le_of_ble_eq_true rfl⟩ (rvW (q0 := 1) (ci := 8) E rfl rfl rfl) rfl (Nat.le_of_ble_eq_true rfl) d_Catalog_addColumn_1 fun r1 _ => ?_
  refine Sm_if_eq (tgt := 25) E d_Catalog_addColumn_4 (by decide) (fun _ => ?_) (fun _ => ?_)
  · refine Sm_iconst (v := (-1)) E d_Catalog_addColumn_25 (by decide) ?_
    exact Sm_retI hR d_Catalog_addColumn_26
  · refine Sm_aload_n E d_Catalog_addColumn_7 rfl 0 rfl ?_
    refine Sm_iload_n E d_Catalog_addColumn_8 rfl 1 rfl ?_
    refine Sm_cVi (As := [.int x1]) (b := (G.1 3)) (st := []) (n := 1) E exOk wC_as (fun _ h => cC_Catalog_has x1 u h) gk_Catalog_55 dk_Catalog_has rfl ⟨rfl, rfl⟩ ⟨Nat.le_of_ble_eq_true rfl, Nat.le_of_ble_eq_true rfl⟩ (rvW (q0 := 3) (ci := 2) E rfl rfl rfl) rfl (Nat.le_of_ble_eq_true rfl) d_Catalog_addColumn_9 fun r2 _ => ?_
    refine Sm_if_eq (tgt := 25) E d_Catalog_addColumn_12 (by decide) (fun _ => ?_) (fun _ => ?_)
    · refine Sm_iconst (v := (-1)) E d_Catalog_addColumn_25 (by decide) ?_
      exact Sm_retI hR d_Catalog_addColumn_26
    · refine Sm_iload_n E d_Catalog_addColumn_15 rfl 2 rfl ?_
      refine Sm_iconst (v := 1) E d_Catalog_addColumn_16 (by decide) ?_
      refine Sm_icmp_lt (tgt := 25) E d_Catalog_addColumn_17 (by decide) (fun _ => ?_) (fun _ => ?_)
      · refine Sm_iconst (v := (-1)) E d_Catalog_addColumn_25 (by decide) ?_
        exact Sm_retI hR d_Catalog_addColumn_26
      · refine Sm_iload_n E d_Catalog_addColumn_20 rfl 2 rfl ?_
        refine Sm_iconst (v := 3) E d_Catalog_addColumn_21 (by decide) ?_
        refine Sm_icmp_le (tgt := 27) E d_Catalog_addColumn_22 (by decide) (fun _ => ?_) (fun _ => ?_)
        · refine Sm_aload_n E d_Catalog_addColumn_27 rfl 0 rfl ?_
          refine gfC_3_columnCounts E fl_Catalog_22 d_Catalog_addColumn_28 ?_
          refine Sm_iload_n E d_Catalog_addColumn_31 rfl 1 rfl ?_
          refine Sm_gd fun hi => ldC_7 E (inb_in hi) d_Catalog_addColumn_32 ?_
          refine Sm_leti fun y3 _ => ?_
          refine Sm_istore (lv' := [(4, .int y3), (0, .ref (G.1 3)), (1, .int x1), (2, .int x2), (3, .ref (G.1 1))]) E d_Catalog_addColumn_33 (by decide) rfl ?_
          refine Sm_iload E d_Catalog_addColumn_35 0 rfl ?_
          refine Sm_bipush (v := 8) E d_Catalog_addColumn_37 (by decide) ?_
          refine Sm_icmp_lt (tgt := 44) E d_Catalog_addColumn_39 (by decide) (fun _ => ?_) (fun _ => ?_)
          · refine Sm_aload_n E d_Catalog_addColumn_44 rfl 1 rfl ?_
            refine Sm_iload_n E d_Catalog_addColumn_45 rfl 2 rfl ?_
            refine Sm_aload_n E d_Catalog_addColumn_46 rfl 4 rfl ?_
            refine Sm_iconst (v := 0) E d_Catalog_addColumn_47 (by decide) ?_
            refine Sm_aload_n E d_Catalog_addColumn_48 rfl 4 rfl ?_
            refine Sm_cVi (As := []) (b := (G.1 1)) (st := [.int 0, .ref (G.1 1), .int x1, .ref (G.1 3)]) (n := 0) E exOk wC_as (fun _ h => cC_Text_size_1 u h) gk_Catalog_39 dk_Text_size rfl ⟨rfl, rfl⟩ ⟨Nat.le_of_ble_eq_true rfl, Nat.le_of_ble_eq_true rfl⟩ (rvW (q0 := 1) (ci := 8) E rfl rfl rfl) rfl (Nat.le_of_ble_eq_true rfl) d_Catalog_addColumn_49 fun r4 _ => ?_
            refine Sm_cSi (As := [.int 0, .int r4]) (st := [.ref (G.1 1), .int x1, .ref (G.1 3)]) (n := 2) E exOk wC_as (fun _ h => cC_Text_span 0 r4 u h) gk_Catalog_43 dk_Text_span rfl ⟨rfl, rfl⟩ ⟨Nat.le_of_ble_eq_true rfl, Nat.le_of_ble_eq_true rfl⟩ rfl (Nat.le_of_ble_eq_true rfl) d_Catalog_addColumn_52 fun r5 _ => ?_
            refine Sm_cVi (As := [.int x1, .ref (G.1 1), .int r5]) (b := (G.1 3)) (st := []) (n := 3) E exOk wC_as (fun _ h => cC_Catalog_findColumn_3_1 x1 r5 u h) gk_Catalog_59 dk_Catalog_findColumn rfl ⟨rfl, rfl⟩ ⟨Nat.le_of_ble_eq_true rfl, Nat.le_of_ble_eq_true rfl⟩ (rvW (q0 := 3) (ci := 2) E rfl rfl rfl) rfl (Nat.le_of_ble_eq_true rfl) d_Catalog_addColumn_55 fun r6 _ => ?_
            refine Sm_if_lt (tgt := 64) E d_Catalog_addColumn_58 (by decide) (fun _ => ?_) (fun _ => ?_)
            · refine Sm_aload_n E d_Catalog_addColumn_64 rfl 1 rfl ?_
              refine gfC_3_columnNames E fl_Catalog_25 d_Catalog_addColumn_65 ?_
              refine Sm_iload_n E d_Catalog_addColumn_68 rfl 2 rfl ?_
              refine Sm_bipush (v := 8) E d_Catalog_addColumn_69 (by decide) ?_
              refine Sm_imul E d_Catalog_addColumn_71 ?_
              refine Sm_iload E d_Catalog_addColumn_72 0 rfl ?_
              refine Sm_iadd E d_Catalog_addColumn_74 ?_
              refine Sm_aload_n E d_Catalog_addColumn_75 rfl 1 rfl ?_
              refine gfC_3_names E fl_Catalog_12 d_Catalog_addColumn_76 ?_
              refine Sm_aload_n E d_Catalog_addColumn_79 rfl 4 rfl ?_
              refine Sm_cVI (As := [.ref (G.1 1)]) (b := (G.1 4)) (st := [.int ((x1 * 8) + y3), .ref (G.1 8)]) (n := 1) E exOk wC_as (fun _ h => cC_Text_keep u h) gk_Catalog_51 dk_Text_keep rfl ⟨rfl, rfl⟩ ⟨Nat.le_of_ble_eq_true rfl, Nat.le_of_ble_eq_true rfl⟩ (rvW (q0 := 4) (ci := 8) E rfl rfl rfl) rfl (Nat.le_of_ble_eq_true rfl) d_Catalog_addColumn_80 fun r7 u8 _ => ?_
              refine Sm_gd fun hi => stC_8 E (inb_in hi) d_Catalog_addColumn_83 fun u9 _ => ?_
              refine Sm_aload_n E d_Catalog_addColumn_84 rfl 1 rfl ?_
              refine gfC_3_columnTypes E fl_Catalog_28 d_Catalog_addColumn_85 ?_
              refine Sm_iload_n E d_Catalog_addColumn_88 rfl 2 rfl ?_
              refine Sm_bipush (v := 8) E d_Catalog_addColumn_89 (by decide) ?_
              refine Sm_imul E d_Catalog_addColumn_91 ?_
              refine Sm_iload E d_Catalog_addColumn_92 0 rfl ?_
              refine Sm_iadd E d_Catalog_addColumn_94 ?_
              refine Sm_iload_n E d_Catalog_addColumn_95 rfl 3 rfl ?_
              refine Sm_gd fun hi => stC_9 E (inb_in hi) d_Catalog_addColumn_96 fun u10 _ => ?_
              refine Sm_aload_n E d_Catalog_addColumn_97 rfl 1 rfl ?_
              refine gfC_3_columnCounts E fl_Catalog_22 d_Catalog_addColumn_98 ?_
              refine Sm_iload_n E d_Catalog_addColumn_101 rfl 2 rfl ?_
              refine Sm_iload E d_Catalog_addColumn_102 0 rfl ?_
              refine Sm_iconst (v := 1) E d_Catalog_addColumn_104 (by decide) ?_
              refine Sm_iadd E d_Catalog_addColumn_105 ?_
              refine Sm_gd fun hi => stC_7 E (inb_in hi) d_Catalog_addColumn_106 fun u11 _ => ?_
              refine Sm_iload E d_Catalog_addColumn_107 0 rfl ?_
              exact Sm_retI hR d_Catalog_addColumn_109
            · refine Sm_bipush (v := (-2)) E d_Catalog_addColumn_61 (by decide) ?_
              exact Sm_retI hR d_Catalog_addColumn_63
          · refine Sm_iconst (v := (-1)) E d_Catalog_addColumn_42 (by decide) ?_
            exact Sm_retI hR d_Catalog_addColumn_43
        · refine Sm_iconst (v := (-1)) E d_Catalog_addColumn_25 (by decide) ?_
          exact Sm_retI hR d_Catalog_addColumn_26
set_option maxRecDepth 100000 in
set_option maxHeartbeats 4000000 in
theorem cC_SqlReader_column {l : Launch} {D : va_G} {G : Gx} (x1 : Int32) (x2 : Int32) (u : St) {res : Int32 × St} (hm : mC_SqlReader_column x1 x2 u = some res) : KC l D G y_SqlReader_column (.code y_SqlReader_column prog_1_method_4_code 4 (some .int)) { frames := 4, cells := 0, slots := 0, locals := 94 } [.ref (G.1 0), .int x1, .int x2] u (qI D vwCl (wC G) (tyW G) (adsC G) res) := by
  refine Ct_I (by decide) wC_as (Nat.le_of_ble_eq_true rfl) hm (fun X _ _ E hR => ?_)
  refine Sm_lvs (lv' := [(0, .ref (G.1 0)), (1, .int x1), (2, .int x2)]) rfl ?_
  rw [mC_SqlReader_column]
  refine Sm_aload_n E d_SqlReader_column_0 rfl 0 rfl ?_
  refine gfC_0_catalog E fl_SqlReader_19 d_SqlReader_column_1 ?_
  refine Sm_iload_n E d_SqlReader_column_4 rfl 1 rfl ?_
  refine Sm_iload_n E d_SqlReader_column_5 rfl 2 rfl ?_
  refine Sm_aload_n E d_SqlReader_column_6 rfl 0 rfl ?_
  refine gfC_0_typed E fl_SqlReader_10 d_SqlReader_column_7 ?_
  refine Sm_cVI (As := [.int x1, .int x2, .ref (G.1 1)]) (b := (G.1 3)) (st := []) (n := 3) E exOk wC_as (fun _ h => cC_Catalog_addColumn x1 x2 u h) gk_SqlReader_80 dk_Catalog_addColumn rfl ⟨rfl, rfl⟩ ⟨Nat.le_of_ble_eq_true rfl, Nat.le_of_ble_eq_true rfl⟩ (rvW (q0 := 3) (ci := 2) E rfl rfl rfl) rfl (Nat.le_of_ble_eq_true rfl) d_SqlReader_column_10 fun r1 u2 _ => ?_
  refine Sm_istore_n (lv' := [(3, .int r1), (0, .ref (G.1 0)), (1, .int x1), (2, .int x2)]) E d_SqlReader_column_13 rfl (by decide) rfl ?_
  refine Sm_aload_n E d_SqlReader_column_14 rfl 1 rfl ?_
  refine gfC_0_typed E fl_SqlReader_10 d_SqlReader_column_15 ?_
  refine Sm_cVV (As := []) (b := (G.1 1)) (st := []) (n := 0) E exOk wC_as (fun _ h => cC_Text_clear u2 h) gk_SqlReader_77 dk_Text_clear rfl ⟨rfl, rfl⟩ ⟨Nat.le_of_ble_eq_true rfl, Nat.le_of_ble_eq_true rfl⟩ (rvW (q0 := 1) (ci := 8) E rfl rfl rfl) rfl (Nat.le_of_ble_eq_true rfl) d_SqlReader_column_18 fun u3 _ => ?_
  refine Sm_iload_n E d_SqlReader_column_21 rfl 0 rfl ?_
  exact Sm_retI hR d_SqlReader_column_22
set_option maxRecDepth 100000 in
set_option maxHeartbeats 4000000 in
theorem cC_Nodes_clear {l : Launch} {D : va_G} {G : Gx} (u : St) {res : St} (hm : mC_Nodes_clear u = some res) : KC l D G y_Nodes_clear (.code y_Nodes_clear prog_5_method_5_code 1 none) { frames := 0, cells := 0, slots := 0, locals := 0 } [.ref (G.1 14)] u (qV D vwCl (wC G) (tyW G) (adsC G) res) := by
  refine Ct_V (by decide) wC_as (Nat.le_of_ble_eq_true rfl) hm (fun X _ _ E hR => ?_)
  refine Sm_lvs (lv' := [(0, .ref (G.1 14))]) rfl ?_
  rw [mC_Nodes_clear]
  refine Sm_aload_n E d_Nodes_clear_0 rfl 0 rfl ?_
  refine Sm_iconst (v := 0) E d_Nodes_clear_1 (by decide) ?_
  refine pfC_14_size E fl_Nodes_39 d_Nodes_clear_2 fun u1 _ => ?_
  refine Sm_aload_n E d_Nodes_clear_5 rfl 0 rfl ?_
  refine Sm_iconst (v := 0) E d_Nodes_clear_6 (by decide) ?_
  refine pfC_14_over E fl_Nodes_43 d_Nodes_clear_7 (by decide) rfl fun u2 _ => ?_
  exact Sm_retV hR d_Nodes_clear_10
set_option maxRecDepth 100000 in
set_option maxHeartbeats 4000000 in
theorem tC_Arrays_fill_L5 {X : Cx} {G : Gx} {res : St} (E : EC X G prog_18_method_103_code R_Arrays 4 { frames := 0, cells := 0, slots := 0, locals := 0 }) (hR : RtV X vwCl (wC G) prog_18_method_103_code res) : ∀ (n : Nat) (x1 : Int32) (x2 : Int32) (x3 : Int32) (u : St), SC X G 4 res (mC_Arrays_fill_L5 n x1 x2 x3 u) u 5 [(0, .ref (G.1 25)), (1, .int x1), (2, .int x2), (3, .int x3)] [] := by
  intro n
  induction n with
  | zero => intro x1 x2 x3 u; exact Sm_none
  | succ n h5 =>
    intro x1 x2 x3 u
    rw [mC_Arrays_fill_L5]
    refine Sm_iload_n E d_Arrays_fill_5 rfl 2 rfl ?_
    refine Sm_iload_n E d_Arrays_fill_6 rfl 3 rfl ?_
    refine Sm_icmp_ge (tgt := 20) E d_Arrays_fill_7 (by decide) (fun _ => ?_) (fun _ => ?_)
    · exact Sm_retV hR d_Arrays_fill_20
    · refine Sm_aload_n E d_Arrays_fill_10 rfl 0 rfl ?_
      refine Sm_iload_n E d_Arrays_fill_11 rfl 2 rfl ?_
      refine Sm_iload_n E d_Arrays_fill_12 rfl 1 rfl ?_
      refine Sm_gd fun hi => stC_25 E (inb_in hi) d_Arrays_fill_13 fun u1 _ => ?_
      refine Sm_iinc (k := 2) (d := 1) E d_Arrays_fill_14 rfl rfl (by decide) fun y2 _ => Sm_lvs (lv' := [(2, .int y2), (0, .ref (G.1 25)), (1, .int x1), (3, .int x3)]) rfl ?_
      refine Sm_goto (tgt := 5) E d_Arrays_fill_17 (by decide) ?_
      exact Sm_sub [1, 2, 0, 3] rfl (h5 _ _ _ _)
set_option maxRecDepth 100000 in
set_option maxHeartbeats 4000000 in
theorem cC_Arrays_fill {l : Launch} {D : va_G} {G : Gx} (x1 : Int32) (u : St) {res : St} (hm : mC_Arrays_fill x1 u = some res) : KC l D G y_Arrays_fill (.code y_Arrays_fill prog_18_method_103_code 4 none) { frames := 0, cells := 0, slots := 0, locals := 0 } [.ref (G.1 25), .int x1] u (qV D vwCl (wC G) (tyW G) (adsC G) res) := by
  refine Ct_V (by decide) wC_as (Nat.le_of_ble_eq_true rfl) hm (fun X _ _ E hR => ?_)
  refine Sm_lvs (lv' := [(0, .ref (G.1 25)), (1, .int x1)]) rfl ?_
  rw [mC_Arrays_fill]
  refine Sm_iconst (v := 0) E d_Arrays_fill_0 (by decide) ?_
  refine Sm_istore_n (lv' := [(2, .int 0), (0, .ref (G.1 25)), (1, .int x1)]) E d_Arrays_fill_1 rfl (by decide) rfl ?_
  refine Sm_aload_n E d_Arrays_fill_2 rfl 1 rfl ?_
  refine anC_25 E d_Arrays_fill_3 ?_
  refine Sm_istore_n (lv' := [(3, .int 14), (2, .int 0), (0, .ref (G.1 25)), (1, .int x1)]) E d_Arrays_fill_4 rfl (by decide) rfl ?_
  exact Sm_sub [2, 3, 1, 0] rfl (tC_Arrays_fill_L5 E hR FU _ _ _ _)
set_option maxRecDepth 100000 in
set_option maxHeartbeats 4000000 in
theorem cC_Lists_clear {l : Launch} {D : va_G} {G : Gx} (u : St) {res : St} (hm : mC_Lists_clear u = some res) : KC l D G y_Lists_clear (.code y_Lists_clear prog_3_method_2_code 1 none) { frames := 1, cells := 0, slots := 0, locals := 23 } [.ref (G.1 24)] u (qV D vwCl (wC G) (tyW G) (adsC G) res) := by
  refine Ct_V (by decide) wC_as (Nat.le_of_ble_eq_true rfl) hm (fun X _ _ E hR => ?_)
  refine Sm_lvs (lv' := [(0, .ref (G.1 24))]) rfl ?_
  rw [mC_Lists_clear]
  refine Sm_aload_n E d_Lists_clear_0 rfl 0 rfl ?_
  refine gfC_24_sizes E fl_Lists_9 d_Lists_clear_1 ?_
  refine Sm_iconst (v := 0) E d_Lists_clear_4 (by decide) ?_
  refine Sm_cSV (As := [.ref (G.1 25), .int 0]) (st := []) (n := 2) E exOk wC_as (fun _ h => cC_Arrays_fill 0 u h) gk_Lists_16 dk_Arrays_fill rfl ⟨rfl, rfl⟩ ⟨Nat.le_of_ble_eq_true rfl, Nat.le_of_ble_eq_true rfl⟩ rfl (Nat.le_of_ble_eq_true rfl) d_Lists_clear_5 fun u1 _ => ?_
  refine Sm_aload_n E d_Lists_clear_8 rfl 0 rfl ?_
  refine Sm_iconst (v := 0) E d_Lists_clear_9 (by decide) ?_
  refine pfC_24_over E fl_Lists_22 d_Lists_clear_10 (by decide) rfl fun u2 _ => ?_
  exact Sm_retV hR d_Lists_clear_13
set_option maxRecDepth 100000 in
set_option maxHeartbeats 4000000 in
theorem cC_Statement_clear {l : Launch} {D : va_G} {G : Gx} (u : St) {res : St} (hm : mC_Statement_clear u = some res) : KC l D G y_Statement_clear (.code y_Statement_clear prog_7_method_2_code 1 none) { frames := 0, cells := 0, slots := 0, locals := 0 } [.ref (G.1 27)] u (qV D vwCl (wC G) (tyW G) (adsC G) res) := by
  refine Ct_V (by decide) wC_as (Nat.le_of_ble_eq_true rfl) hm (fun X _ _ E hR => ?_)
  refine Sm_lvs (lv' := [(0, .ref (G.1 27))]) rfl ?_
  rw [mC_Statement_clear]
  refine Sm_aload_n E d_Statement_clear_0 rfl 0 rfl ?_
  refine Sm_iconst (v := 0) E d_Statement_clear_1 (by decide) ?_
  refine pfC_27_kind E fl_Statement_12 d_Statement_clear_2 fun u1 _ => ?_
  refine Sm_aload_n E d_Statement_clear_5 rfl 0 rfl ?_
  refine Sm_iconst (v := 0) E d_Statement_clear_6 (by decide) ?_
  refine pfC_27_deed E fl_Statement_16 d_Statement_clear_7 fun u2 _ => ?_
  refine Sm_aload_n E d_Statement_clear_10 rfl 0 rfl ?_
  refine Sm_iconst (v := (-1)) E d_Statement_clear_11 (by decide) ?_
  refine pfC_27_title E fl_Statement_19 d_Statement_clear_12 fun u3 _ => ?_
  refine Sm_aload_n E d_Statement_clear_15 rfl 0 rfl ?_
  refine Sm_iconst (v := (-1)) E d_Statement_clear_16 (by decide) ?_
  refine pfC_27_tableName E fl_Statement_22 d_Statement_clear_17 fun u4 _ => ?_
  refine Sm_aload_n E d_Statement_clear_20 rfl 0 rfl ?_
  refine Sm_iconst (v := (-1)) E d_Statement_clear_21 (by decide) ?_
  refine pfC_27_table E fl_Statement_25 d_Statement_clear_22 fun u5 _ => ?_
  refine Sm_aload_n E d_Statement_clear_25 rfl 0 rfl ?_
  refine Sm_iconst (v := (-1)) E d_Statement_clear_26 (by decide) ?_
  refine pfC_27_columnName E fl_Statement_28 d_Statement_clear_27 fun u6 _ => ?_
  refine Sm_aload_n E d_Statement_clear_30 rfl 0 rfl ?_
  refine Sm_iconst (v := (-1)) E d_Statement_clear_31 (by decide) ?_
  refine pfC_27_column E fl_Statement_31 d_Statement_clear_32 fun u7 _ => ?_
  refine Sm_aload_n E d_Statement_clear_35 rfl 0 rfl ?_
  refine Sm_iconst (v := 0) E d_Statement_clear_36 (by decide) ?_
  refine pfC_27_mode E fl_Statement_34 d_Statement_clear_37 fun u8 _ => ?_
  refine Sm_aload_n E d_Statement_clear_40 rfl 0 rfl ?_
  refine Sm_iconst (v := (-1)) E d_Statement_clear_41 (by decide) ?_
  refine pfC_27_limit E fl_Statement_37 d_Statement_clear_42 fun u9 _ => ?_
  refine Sm_aload_n E d_Statement_clear_45 rfl 0 rfl ?_
  refine Sm_iconst (v := (-1)) E d_Statement_clear_46 (by decide) ?_
  refine pfC_27_where E fl_Statement_40 d_Statement_clear_47 fun u10 _ => ?_
  refine Sm_aload_n E d_Statement_clear_50 rfl 0 rfl ?_
  refine Sm_iconst (v := 0) E d_Statement_clear_51 (by decide) ?_
  refine pfC_27_unique E fl_Statement_43 d_Statement_clear_52 (by decide) rfl fun u11 _ => ?_
  refine Sm_aload_n E d_Statement_clear_55 rfl 0 rfl ?_
  refine Sm_iconst (v := 0) E d_Statement_clear_56 (by decide) ?_
  refine pfC_27_distinct E fl_Statement_47 d_Statement_clear_57 (by decide) rfl fun u12 _ => ?_
  refine Sm_aload_n E d_Statement_clear_60 rfl 0 rfl ?_
  refine Sm_iconst (v := 0) E d_Statement_clear_61 (by decide) ?_
  refine pfC_27_star E fl_Statement_50 d_Statement_clear_62 (by decide) rfl fun u13 _ => ?_
  exact Sm_retV hR d_Statement_clear_65
set_option maxRecDepth 100000 in
set_option maxHeartbeats 4000000 in
theorem cC_SqlReader_forget {l : Launch} {D : va_G} {G : Gx} (u : St) {res : St} (hm : mC_SqlReader_forget u = some res) : KC l D G y_SqlReader_forget (.code y_SqlReader_forget prog_1_method_12_code 1 none) { frames := 2, cells := 0, slots := 0, locals := 43 } [.ref (G.1 0)] u (qV D vwCl (wC G) (tyW G) (adsC G) res) := by
  refine Ct_V (by decide) wC_as (Nat.le_of_ble_eq_true rfl) hm (fun X _ _ E hR => ?_)
  refine Sm_lvs (lv' := [(0, .ref (G.1 0))]) rfl ?_
  rw [mC_SqlReader_forget]
  refine Sm_aload_n E d_SqlReader_forget_0 rfl 0 rfl ?_
  refine gfC_0_nodes E fl_SqlReader_33 d_SqlReader_forget_1 ?_
  refine Sm_cVV (As := []) (b := (G.1 14)) (st := []) (n := 0) E exOk wC_as (fun _ h => cC_Nodes_clear u h) gk_SqlReader_179 dk_Nodes_clear rfl ⟨rfl, rfl⟩ ⟨Nat.le_of_ble_eq_true rfl, Nat.le_of_ble_eq_true rfl⟩ (rvW (q0 := 14) (ci := 5) E rfl rfl rfl) rfl (Nat.le_of_ble_eq_true rfl) d_SqlReader_forget_4 fun u1 _ => ?_
  refine Sm_aload_n E d_SqlReader_forget_7 rfl 0 rfl ?_
  refine gfC_0_lists E fl_SqlReader_40 d_SqlReader_forget_8 ?_
  refine Sm_cVV (As := []) (b := (G.1 24)) (st := []) (n := 0) E exOk wC_as (fun _ h => cC_Lists_clear u1 h) gk_SqlReader_180 dk_Lists_clear rfl ⟨rfl, rfl⟩ ⟨Nat.le_of_ble_eq_true rfl, Nat.le_of_ble_eq_true rfl⟩ (rvW (q0 := 24) (ci := 3) E rfl rfl rfl) rfl (Nat.le_of_ble_eq_true rfl) d_SqlReader_forget_11 fun u2 _ => ?_
  refine Sm_aload_n E d_SqlReader_forget_14 rfl 0 rfl ?_
  refine gfC_0_statement E fl_SqlReader_47 d_SqlReader_forget_15 ?_
  refine Sm_cVV (As := []) (b := (G.1 27)) (st := []) (n := 0) E exOk wC_as (fun _ h => cC_Statement_clear u2 h) gk_SqlReader_181 dk_Statement_clear rfl ⟨rfl, rfl⟩ ⟨Nat.le_of_ble_eq_true rfl, Nat.le_of_ble_eq_true rfl⟩ (rvW (q0 := 27) (ci := 7) E rfl rfl rfl) rfl (Nat.le_of_ble_eq_true rfl) d_SqlReader_forget_18 fun u3 _ => ?_
  exact Sm_retV hR d_SqlReader_forget_21
set_option maxRecDepth 100000 in
set_option maxHeartbeats 4000000 in
theorem cC_Text_copy {l : Launch} {D : va_G} {G : Gx} (u : St) {res : St} (hm : mC_Text_copy u = some res) : KC l D G y_Text_copy (.code y_Text_copy prog_8_method_13_code 2 none) { frames := 1, cells := 0, slots := 0, locals := 67 } [.ref (G.1 11), .ref (G.1 1)] u (qV D vwCl (wC G) (tyW G) (adsC G) res) := by
  refine Ct_V (by decide) wC_as (Nat.le_of_ble_eq_true rfl) hm (fun X _ _ E hR => ?_)
  refine Sm_lvs (lv' := [(0, .ref (G.1 11)), (1, .ref (G.1 1))]) rfl ?_
  rw [mC_Text_copy]
  refine Sm_aload_n E d_Text_copy_0 rfl 1 rfl ?_
  refine gfC_1_bytes E fl_Text_9 d_Text_copy_1 ?_
  refine Sm_iconst (v := 0) E d_Text_copy_4 (by decide) ?_
  refine Sm_aload_n E d_Text_copy_5 rfl 0 rfl ?_
  refine gfC_11_bytes E fl_Text_9 d_Text_copy_6 ?_
  refine Sm_iconst (v := 0) E d_Text_copy_9 (by decide) ?_
  refine Sm_aload_n E d_Text_copy_10 rfl 1 rfl ?_
  refine gfC_1_size E fl_Text_20 d_Text_copy_11 ?_
  refine Sm_gd fun hc => Sm_gd fun hf => Sm_copyB (q0 := 2) (q1 := 12) E hc hf ml_Text_24 rfl rfl rfl rfl rfl ⟨Nat.le_of_ble_eq_true rfl, Nat.le_of_ble_eq_true rfl⟩ (Nat.le_of_ble_eq_true rfl) d_Text_copy_14 fun u1 _ => ?_
  refine Sm_aload_n E d_Text_copy_17 rfl 0 rfl ?_
  refine Sm_aload_n E d_Text_copy_18 rfl 1 rfl ?_
  refine gfC_1_size E fl_Text_20 d_Text_copy_19 ?_
  refine pfC_11_size E fl_Text_20 d_Text_copy_22 fun u2 _ => ?_
  exact Sm_retV hR d_Text_copy_25
set_option maxRecDepth 100000 in
set_option maxHeartbeats 4000000 in
theorem cC_Text_size_11 {l : Launch} {D : va_G} {G : Gx} (u : St) {res : Int32} (hm : mC_Text_size_11 u = some res) : KC l D G y_Text_size (.code y_Text_size prog_8_method_8_code 1 (some .int)) { frames := 0, cells := 0, slots := 0, locals := 0 } [.ref (G.1 11)] u (qI D vwCl (wC G) (tyW G) (adsC G) (res, u)) := by
  refine Ct_i (by decide) wC_as (Nat.le_of_ble_eq_true rfl) hm (fun X _ _ E hR => ?_)
  refine Sm_lvs (lv' := [(0, .ref (G.1 11))]) rfl ?_
  rw [mC_Text_size_11]
  refine Sm_aload_n E d_Text_size_0 rfl 0 rfl ?_
  refine gfC_11_size E fl_Text_20 d_Text_size_1 ?_
  exact Sm_reti hR d_Text_size_4
set_option maxRecDepth 100000 in
set_option maxHeartbeats 4000000 in
theorem cC_Text_at_11 {l : Launch} {D : va_G} {G : Gx} (x1 : Int32) (u : St) {res : Int32} (hm : mC_Text_at_11 x1 u = some res) : KC l D G y_Text_at (.code y_Text_at prog_8_method_10_code 2 (some .int)) { frames := 0, cells := 0, slots := 0, locals := 0 } [.ref (G.1 11), .int x1] u (qI D vwCl (wC G) (tyW G) (adsC G) (res, u)) := by
  refine Ct_i (by decide) wC_as (Nat.le_of_ble_eq_true rfl) hm (fun X _ _ E hR => ?_)
  refine Sm_lvs (lv' := [(0, .ref (G.1 11)), (1, .int x1)]) rfl ?_
  rw [mC_Text_at_11]
  refine Sm_iload_n E d_Text_at_0 rfl 1 rfl ?_
  refine Sm_if_lt (tgt := 12) E d_Text_at_1 (by decide) (fun _ => ?_) (fun _ => ?_)
  · refine Sm_iconst (v := (-1)) E d_Text_at_12 (by decide) ?_
    refine Sm_goto (tgt := 26) E d_Text_at_13 (by decide) ?_
    exact Sm_reti hR d_Text_at_26
  · refine Sm_iload_n E d_Text_at_4 rfl 1 rfl ?_
    refine Sm_aload_n E d_Text_at_5 rfl 0 rfl ?_
    refine gfC_11_size E fl_Text_20 d_Text_at_6 ?_
    refine Sm_icmp_lt (tgt := 16) E d_Text_at_9 (by decide) (fun _ => ?_) (fun _ => ?_)
    · refine Sm_aload_n E d_Text_at_16 rfl 0 rfl ?_
      refine gfC_11_bytes E fl_Text_9 d_Text_at_17 ?_
      refine Sm_iload_n E d_Text_at_20 rfl 1 rfl ?_
      refine Sm_gd fun hi => ldC_12 E (inb_in hi) d_Text_at_21 ?_
      refine Sm_sipush (v := 255) E d_Text_at_22 (by decide) ?_
      refine Sm_iand E d_Text_at_25 ?_
      exact Sm_reti hR d_Text_at_26
    · refine Sm_iconst (v := (-1)) E d_Text_at_12 (by decide) ?_
      refine Sm_goto (tgt := 26) E d_Text_at_13 (by decide) ?_
      exact Sm_reti hR d_Text_at_26
set_option maxRecDepth 100000 in
set_option maxHeartbeats 4000000 in
theorem cC_Tokens_isCapital {l : Launch} {D : va_G} {G : Gx} (x0 : Int32) (u : St) {res : Int32} (hm : mC_Tokens_isCapital x0 u = some res) : KC l D G y_Tokens_isCapital (.code y_Tokens_isCapital prog_9_method_17_code 1 (some .boolean)) { frames := 0, cells := 0, slots := 0, locals := 0 } [.int x0] u (qI D vwCl (wC G) (tyW G) (adsC G) (res, u)) := by
  refine Ct_z (by decide) wC_as (Nat.le_of_ble_eq_true rfl) hm (fun X _ _ E hR => ?_)
  refine Sm_lvs (lv' := [(0, .int x0)]) rfl ?_
  rw [mC_Tokens_isCapital]
  refine Sm_iload_n E d_Tokens_isCapital_0 rfl 0 rfl ?_
  refine Sm_bipush (v := 65) E d_Tokens_isCapital_1 (by decide) ?_
  refine Sm_icmp_lt (tgt := 16) E d_Tokens_isCapital_3 (by decide) (fun _ => ?_) (fun _ => ?_)
  · refine Sm_iconst (v := 0) E d_Tokens_isCapital_16 (by decide) ?_
    exact Sm_retz hR (by decide) d_Tokens_isCapital_17
  · refine Sm_iload_n E d_Tokens_isCapital_6 rfl 0 rfl ?_
    refine Sm_bipush (v := 90) E d_Tokens_isCapital_7 (by decide) ?_
    refine Sm_icmp_gt (tgt := 16) E d_Tokens_isCapital_9 (by decide) (fun _ => ?_) (fun _ => ?_)
    · refine Sm_iconst (v := 0) E d_Tokens_isCapital_16 (by decide) ?_
      exact Sm_retz hR (by decide) d_Tokens_isCapital_17
    · refine Sm_iconst (v := 1) E d_Tokens_isCapital_12 (by decide) ?_
      refine Sm_goto (tgt := 17) E d_Tokens_isCapital_13 (by decide) ?_
      exact Sm_retz hR (by decide) d_Tokens_isCapital_17
set_option maxRecDepth 100000 in
set_option maxHeartbeats 4000000 in
theorem tC_Tokens_endOfCapitals_L4 {X : Cx} {G : Gx} {res : Int32} {u : St} (E : EC X G prog_9_method_14_code R_Tokens 4 { frames := 1, cells := 0, slots := 0, locals := 21 }) (hR : RtI X vwCl (wC G) prog_9_method_14_code (res, u)) : ∀ (n : Nat) (x2 : Int32) (x3 : Int32) , SC X G 4 res (mC_Tokens_endOfCapitals_L4 n x2 x3 u) u 4 [(0, .ref (G.1 10)), (2, .int x2), (3, .int x3)] [] := by
  intro n
  induction n with
  | zero => intro x2 x3; exact Sm_none
  | succ n h4 =>
    intro x2 x3
    rw [mC_Tokens_endOfCapitals_L4]
    refine Sm_iload_n E d_Tokens_endOfCapitals_4 rfl 2 rfl ?_
    refine Sm_sipush (v := 2000) E d_Tokens_endOfCapitals_5 (by decide) ?_
    refine Sm_icmp_ge (tgt := 34) E d_Tokens_endOfCapitals_8 (by decide) (fun _ => ?_) (fun _ => ?_)
    · refine Sm_iload_n E d_Tokens_endOfCapitals_34 rfl 1 rfl ?_
      exact Sm_reti hR d_Tokens_endOfCapitals_35
    · refine Sm_aload_n E d_Tokens_endOfCapitals_11 rfl 0 rfl ?_
      refine gfC_10_text E fl_Tokens_10 d_Tokens_endOfCapitals_12 ?_
      refine Sm_iload_n E d_Tokens_endOfCapitals_15 rfl 1 rfl ?_
      refine Sm_cVi (As := [.int x2]) (b := (G.1 11)) (st := []) (n := 1) E exOk wC_as (fun _ h => cC_Text_at_11 x2 u h) gk_Tokens_34 dk_Text_at rfl ⟨rfl, rfl⟩ ⟨Nat.le_of_ble_eq_true rfl, Nat.le_of_ble_eq_true rfl⟩ (rvW (q0 := 11) (ci := 8) E rfl rfl rfl) rfl (Nat.le_of_ble_eq_true rfl) d_Tokens_endOfCapitals_16 fun r1 _ => ?_
      refine Sm_cSi (As := [.int r1]) (st := []) (n := 1) E exOk wC_as (fun _ h => cC_Tokens_isCapital r1 u h) gk_Tokens_59 dk_Tokens_isCapital rfl ⟨rfl, rfl⟩ ⟨Nat.le_of_ble_eq_true rfl, Nat.le_of_ble_eq_true rfl⟩ rfl (Nat.le_of_ble_eq_true rfl) d_Tokens_endOfCapitals_19 fun r2 _ => ?_
      refine Sm_if_eq (tgt := 34) E d_Tokens_endOfCapitals_22 (by decide) (fun _ => ?_) (fun _ => ?_)
      · refine Sm_iload_n E d_Tokens_endOfCapitals_34 rfl 1 rfl ?_
        exact Sm_reti hR d_Tokens_endOfCapitals_35
      · refine Sm_iinc (k := 1) (d := 1) E d_Tokens_endOfCapitals_25 rfl rfl (by decide) fun y3 _ => Sm_lvs (lv' := [(2, .int y3), (0, .ref (G.1 10)), (3, .int x3)]) rfl ?_
        refine Sm_iinc (k := 2) (d := 1) E d_Tokens_endOfCapitals_28 rfl rfl (by decide) fun y4 _ => Sm_lvs (lv' := [(3, .int y4), (2, .int y3), (0, .ref (G.1 10))]) rfl ?_
        refine Sm_goto (tgt := 4) E d_Tokens_endOfCapitals_31 (by decide) ?_
        exact Sm_sub [2, 1, 0] rfl (h4 _ _)
set_option maxRecDepth 100000 in
set_option maxHeartbeats 4000000 in
theorem cC_Tokens_endOfCapitals {l : Launch} {D : va_G} {G : Gx} (x1 : Int32) (u : St) {res : Int32} (hm : mC_Tokens_endOfCapitals x1 u = some res) : KC l D G y_Tokens_endOfCapitals (.code y_Tokens_endOfCapitals prog_9_method_14_code 4 (some .int)) { frames := 1, cells := 0, slots := 0, locals := 21 } [.ref (G.1 10), .int x1] u (qI D vwCl (wC G) (tyW G) (adsC G) (res, u)) := by
  refine Ct_i (by decide) wC_as (Nat.le_of_ble_eq_true rfl) hm (fun X _ _ E hR => ?_)
  refine Sm_lvs (lv' := [(0, .ref (G.1 10)), (1, .int x1)]) rfl ?_
  rw [mC_Tokens_endOfCapitals]
  refine Sm_iload_n E d_Tokens_endOfCapitals_0 rfl 1 rfl ?_
  refine Sm_istore_n (lv' := [(2, .int x1), (0, .ref (G.1 10)), (1, .int x1)]) E d_Tokens_endOfCapitals_1 rfl (by decide) rfl ?_
  refine Sm_iconst (v := 0) E d_Tokens_endOfCapitals_2 (by decide) ?_
  refine Sm_istore_n (lv' := [(3, .int 0), (2, .int x1), (0, .ref (G.1 10)), (1, .int x1)]) E d_Tokens_endOfCapitals_3 rfl (by decide) rfl ?_
  exact Sm_sub [2, 1, 0] rfl (tC_Tokens_endOfCapitals_L4 E hR FU _ _)
set_option maxRecDepth 100000 in
set_option maxHeartbeats 4000000 in
theorem cC_Tokens_keep {l : Launch} {D : va_G} {G : Gx} (x1 : Int32) (x2 : Int32) (x3 : Int32) (x4 : Int32) (u : St) {res : Int32 × St} (hm : mC_Tokens_keep x1 x2 x3 x4 u = some res) : KC l D G y_Tokens_keep (.code y_Tokens_keep prog_9_method_11_code 5 (some .int)) { frames := 1, cells := 0, slots := 0, locals := 21 } [.ref (G.1 10), .int x1, .int x2, .int x3, .int x4] u (qI D vwCl (wC G) (tyW G) (adsC G) res) := by
  refine Ct_I (by decide) wC_as (Nat.le_of_ble_eq_true rfl) hm (fun X _ _ E hR => ?_)
  refine Sm_lvs (lv' := [(0, .ref (G.1 10)), (1, .int x1), (2, .int x2), (3, .int x3), (4, .int x4)]) rfl ?_
  rw [mC_Tokens_keep]
  refine Sm_iload_n E d_Tokens_keep_0 rfl 3 rfl ?_
  refine Sm_iload_n E d_Tokens_keep_1 rfl 2 rfl ?_
  refine Sm_isub E d_Tokens_keep_2 ?_
  refine Sm_iload E d_Tokens_keep_3 4 rfl ?_
  refine Sm_icmp_gt (tgt := 18) E d_Tokens_keep_5 (by decide) (fun _ => ?_) (fun _ => ?_)
  · refine Sm_iconst (v := (-1)) E d_Tokens_keep_18 (by decide) ?_
    exact Sm_retI hR d_Tokens_keep_19
  · refine Sm_aload_n E d_Tokens_keep_8 rfl 0 rfl ?_
    refine gfC_10_size E fl_Tokens_24 d_Tokens_keep_9 ?_
    refine Sm_sipush (v := 2000) E d_Tokens_keep_12 (by decide) ?_
    refine Sm_icmp_lt (tgt := 20) E d_Tokens_keep_15 (by decide) (fun _ => ?_) (fun _ => ?_)
    · refine Sm_aload_n E d_Tokens_keep_20 rfl 0 rfl ?_
      refine gfC_10_entries E fl_Tokens_16 d_Tokens_keep_21 ?_
      refine Sm_aload_n E d_Tokens_keep_24 rfl 0 rfl ?_
      refine gfC_10_size E fl_Tokens_24 d_Tokens_keep_25 ?_
      refine Sm_iload_n E d_Tokens_keep_28 rfl 1 rfl ?_
      refine Sm_bipush (v := 16) E d_Tokens_keep_29 (by decide) ?_
      refine Sm_ishl E d_Tokens_keep_31 ?_
      refine Sm_iload_n E d_Tokens_keep_32 rfl 2 rfl ?_
      refine Sm_iload_n E d_Tokens_keep_33 rfl 3 rfl ?_
      refine Sm_iload_n E d_Tokens_keep_34 rfl 2 rfl ?_
      refine Sm_isub E d_Tokens_keep_35 ?_
      refine Sm_cSi (As := [.int x2, .int (x3 - x2)]) (st := [.int (x1 <<< (16 &&& 31)), .int (u.1 3), .ref (G.1 13)]) (n := 2) E exOk wC_as (fun _ h => cC_Text_span x2 (x3 - x2) u h) gk_Tokens_88 dk_Text_span rfl ⟨rfl, rfl⟩ ⟨Nat.le_of_ble_eq_true rfl, Nat.le_of_ble_eq_true rfl⟩ rfl (Nat.le_of_ble_eq_true rfl) d_Tokens_keep_36 fun r1 _ => ?_
      refine Sm_ior E d_Tokens_keep_39 ?_
      refine Sm_gd fun hi => stC_13 E (inb_in hi) d_Tokens_keep_40 fun u2 _ => ?_
      refine Sm_aload_n E d_Tokens_keep_41 rfl 0 rfl ?_
      refine Sm_dup E d_Tokens_keep_42 rfl ?_
      refine gfC_10_size E fl_Tokens_24 d_Tokens_keep_43 ?_
      refine Sm_iconst (v := 1) E d_Tokens_keep_46 (by decide) ?_
      refine Sm_iadd E d_Tokens_keep_47 ?_
      refine pfC_10_size E fl_Tokens_24 d_Tokens_keep_48 fun u3 _ => ?_
      refine Sm_iload_n E d_Tokens_keep_51 rfl 3 rfl ?_
      exact Sm_retI hR d_Tokens_keep_52
    · refine Sm_iconst (v := (-1)) E d_Tokens_keep_18 (by decide) ?_
      exact Sm_retI hR d_Tokens_keep_19
set_option maxRecDepth 100000 in
set_option maxHeartbeats 4000000 in
theorem tC_Tokens_endOfName_L4 {X : Cx} {G : Gx} {res : Int32} {u : St} (E : EC X G prog_9_method_15_code R_Tokens 4 { frames := 2, cells := 0, slots := 0, locals := 40 }) (hR : RtI X vwCl (wC G) prog_9_method_15_code (res, u)) : ∀ (n : Nat) (x2 : Int32) (x3 : Int32) , SC X G 4 res (mC_Tokens_endOfName_L4 n x2 x3 u) u 4 [(0, .ref (G.1 10)), (2, .int x2), (3, .int x3)] [] := by
  intro n
  induction n with
  | zero => intro x2 x3; exact Sm_none
  | succ n h4 =>
    intro x2 x3
    rw [mC_Tokens_endOfName_L4]
    refine Sm_iload_n E d_Tokens_endOfName_4 rfl 2 rfl ?_
    refine Sm_sipush (v := 2000) E d_Tokens_endOfName_5 (by decide) ?_
    refine Sm_icmp_ge (tgt := 34) E d_Tokens_endOfName_8 (by decide) (fun _ => ?_) (fun _ => ?_)
    · refine Sm_iload_n E d_Tokens_endOfName_34 rfl 1 rfl ?_
      exact Sm_reti hR d_Tokens_endOfName_35
    · refine Sm_aload_n E d_Tokens_endOfName_11 rfl 0 rfl ?_
      refine gfC_10_text E fl_Tokens_10 d_Tokens_endOfName_12 ?_
      refine Sm_iload_n E d_Tokens_endOfName_15 rfl 1 rfl ?_
      refine Sm_cVi (As := [.int x2]) (b := (G.1 11)) (st := []) (n := 1) E exOk wC_as (fun _ h => cC_Text_at_11 x2 u h) gk_Tokens_34 dk_Text_at rfl ⟨rfl, rfl⟩ ⟨Nat.le_of_ble_eq_true rfl, Nat.le_of_ble_eq_true rfl⟩ (rvW (q0 := 11) (ci := 8) E rfl rfl rfl) rfl (Nat.le_of_ble_eq_true rfl) d_Tokens_endOfName_16 fun r1 _ => ?_
      refine Sm_cSi (As := [.int r1]) (st := []) (n := 1) E exOk wC_as (fun _ h => cC_Text_isOfName r1 u h) gk_Tokens_101 dk_Text_isOfName rfl ⟨rfl, rfl⟩ ⟨Nat.le_of_ble_eq_true rfl, Nat.le_of_ble_eq_true rfl⟩ rfl (Nat.le_of_ble_eq_true rfl) d_Tokens_endOfName_19 fun r2 _ => ?_
      refine Sm_if_eq (tgt := 34) E d_Tokens_endOfName_22 (by decide) (fun _ => ?_) (fun _ => ?_)
      · refine Sm_iload_n E d_Tokens_endOfName_34 rfl 1 rfl ?_
        exact Sm_reti hR d_Tokens_endOfName_35
      · refine Sm_iinc (k := 1) (d := 1) E d_Tokens_endOfName_25 rfl rfl (by decide) fun y3 _ => Sm_lvs (lv' := [(2, .int y3), (0, .ref (G.1 10)), (3, .int x3)]) rfl ?_
        refine Sm_iinc (k := 2) (d := 1) E d_Tokens_endOfName_28 rfl rfl (by decide) fun y4 _ => Sm_lvs (lv' := [(3, .int y4), (2, .int y3), (0, .ref (G.1 10))]) rfl ?_
        refine Sm_goto (tgt := 4) E d_Tokens_endOfName_31 (by decide) ?_
        exact Sm_sub [2, 1, 0] rfl (h4 _ _)
set_option maxRecDepth 100000 in
set_option maxHeartbeats 4000000 in
theorem cC_Tokens_endOfName {l : Launch} {D : va_G} {G : Gx} (x1 : Int32) (u : St) {res : Int32} (hm : mC_Tokens_endOfName x1 u = some res) : KC l D G y_Tokens_endOfName (.code y_Tokens_endOfName prog_9_method_15_code 4 (some .int)) { frames := 2, cells := 0, slots := 0, locals := 40 } [.ref (G.1 10), .int x1] u (qI D vwCl (wC G) (tyW G) (adsC G) (res, u)) := by
  refine Ct_i (by decide) wC_as (Nat.le_of_ble_eq_true rfl) hm (fun X _ _ E hR => ?_)
  refine Sm_lvs (lv' := [(0, .ref (G.1 10)), (1, .int x1)]) rfl ?_
  rw [mC_Tokens_endOfName]
  refine Sm_iload_n E d_Tokens_endOfName_0 rfl 1 rfl ?_
  refine Sm_istore_n (lv' := [(2, .int x1), (0, .ref (G.1 10)), (1, .int x1)]) E d_Tokens_endOfName_1 rfl (by decide) rfl ?_
  refine Sm_iconst (v := 0) E d_Tokens_endOfName_2 (by decide) ?_
  refine Sm_istore_n (lv' := [(3, .int 0), (2, .int x1), (0, .ref (G.1 10)), (1, .int x1)]) E d_Tokens_endOfName_3 rfl (by decide) rfl ?_
  exact Sm_sub [2, 1, 0] rfl (tC_Tokens_endOfName_L4 E hR FU _ _)
set_option maxRecDepth 100000 in
set_option maxHeartbeats 4000000 in
theorem tC_Tokens_endOfDigits_L4 {X : Cx} {G : Gx} {res : Int32} {u : St} (E : EC X G prog_9_method_16_code R_Tokens 4 { frames := 1, cells := 0, slots := 0, locals := 21 }) (hR : RtI X vwCl (wC G) prog_9_method_16_code (res, u)) : ∀ (n : Nat) (x2 : Int32) (x3 : Int32) , SC X G 4 res (mC_Tokens_endOfDigits_L4 n x2 x3 u) u 4 [(0, .ref (G.1 10)), (2, .int x2), (3, .int x3)] [] := by
  intro n
  induction n with
  | zero => intro x2 x3; exact Sm_none
  | succ n h4 =>
    intro x2 x3
    rw [mC_Tokens_endOfDigits_L4]
    refine Sm_iload_n E d_Tokens_endOfDigits_4 rfl 2 rfl ?_
    refine Sm_sipush (v := 2000) E d_Tokens_endOfDigits_5 (by decide) ?_
    refine Sm_icmp_ge (tgt := 34) E d_Tokens_endOfDigits_8 (by decide) (fun _ => ?_) (fun _ => ?_)
    · refine Sm_iload_n E d_Tokens_endOfDigits_34 rfl 1 rfl ?_
      exact Sm_reti hR d_Tokens_endOfDigits_35
    · refine Sm_aload_n E d_Tokens_endOfDigits_11 rfl 0 rfl ?_
      refine gfC_10_text E fl_Tokens_10 d_Tokens_endOfDigits_12 ?_
      refine Sm_iload_n E d_Tokens_endOfDigits_15 rfl 1 rfl ?_
      refine Sm_cVi (As := [.int x2]) (b := (G.1 11)) (st := []) (n := 1) E exOk wC_as (fun _ h => cC_Text_at_11 x2 u h) gk_Tokens_34 dk_Text_at rfl ⟨rfl, rfl⟩ ⟨Nat.le_of_ble_eq_true rfl, Nat.le_of_ble_eq_true rfl⟩ (rvW (q0 := 11) (ci := 8) E rfl rfl rfl) rfl (Nat.le_of_ble_eq_true rfl) d_Tokens_endOfDigits_16 fun r1 _ => ?_
      refine Sm_cSi (As := [.int r1]) (st := []) (n := 1) E exOk wC_as (fun _ h => cC_Text_isDigit r1 u h) gk_Tokens_76 dk_Text_isDigit rfl ⟨rfl, rfl⟩ ⟨Nat.le_of_ble_eq_true rfl, Nat.le_of_ble_eq_true rfl⟩ rfl (Nat.le_of_ble_eq_true rfl) d_Tokens_endOfDigits_19 fun r2 _ => ?_
      refine Sm_if_eq (tgt := 34) E d_Tokens_endOfDigits_22 (by decide) (fun _ => ?_) (fun _ => ?_)
      · refine Sm_iload_n E d_Tokens_endOfDigits_34 rfl 1 rfl ?_
        exact Sm_reti hR d_Tokens_endOfDigits_35
      · refine Sm_iinc (k := 1) (d := 1) E d_Tokens_endOfDigits_25 rfl rfl (by decide) fun y3 _ => Sm_lvs (lv' := [(2, .int y3), (0, .ref (G.1 10)), (3, .int x3)]) rfl ?_
        refine Sm_iinc (k := 2) (d := 1) E d_Tokens_endOfDigits_28 rfl rfl (by decide) fun y4 _ => Sm_lvs (lv' := [(3, .int y4), (2, .int y3), (0, .ref (G.1 10))]) rfl ?_
        refine Sm_goto (tgt := 4) E d_Tokens_endOfDigits_31 (by decide) ?_
        exact Sm_sub [2, 1, 0] rfl (h4 _ _)
set_option maxRecDepth 100000 in
set_option maxHeartbeats 4000000 in
theorem cC_Tokens_endOfDigits {l : Launch} {D : va_G} {G : Gx} (x1 : Int32) (u : St) {res : Int32} (hm : mC_Tokens_endOfDigits x1 u = some res) : KC l D G y_Tokens_endOfDigits (.code y_Tokens_endOfDigits prog_9_method_16_code 4 (some .int)) { frames := 1, cells := 0, slots := 0, locals := 21 } [.ref (G.1 10), .int x1] u (qI D vwCl (wC G) (tyW G) (adsC G) (res, u)) := by
  refine Ct_i (by decide) wC_as (Nat.le_of_ble_eq_true rfl) hm (fun X _ _ E hR => ?_)
  refine Sm_lvs (lv' := [(0, .ref (G.1 10)), (1, .int x1)]) rfl ?_
  rw [mC_Tokens_endOfDigits]
  refine Sm_iload_n E d_Tokens_endOfDigits_0 rfl 1 rfl ?_
  refine Sm_istore_n (lv' := [(2, .int x1), (0, .ref (G.1 10)), (1, .int x1)]) E d_Tokens_endOfDigits_1 rfl (by decide) rfl ?_
  refine Sm_iconst (v := 0) E d_Tokens_endOfDigits_2 (by decide) ?_
  refine Sm_istore_n (lv' := [(3, .int 0), (2, .int x1), (0, .ref (G.1 10)), (1, .int x1)]) E d_Tokens_endOfDigits_3 rfl (by decide) rfl ?_
  exact Sm_sub [2, 1, 0] rfl (tC_Tokens_endOfDigits_L4 E hR FU _ _)
set_option maxRecDepth 100000 in
set_option maxHeartbeats 4000000 in
theorem cC_Text_put {l : Launch} {D : va_G} {G : Gx} (x1 : Int32) (x2 : Int32) (u : St) {res : St} (hm : mC_Text_put x1 x2 u = some res) : KC l D G y_Text_put (.code y_Text_put prog_8_method_11_code 3 none) { frames := 0, cells := 0, slots := 0, locals := 0 } [.ref (G.1 11), .int x1, .int x2] u (qV D vwCl (wC G) (tyW G) (adsC G) res) := by
  refine Ct_V (by decide) wC_as (Nat.le_of_ble_eq_true rfl) hm (fun X _ _ E hR => ?_)
  refine Sm_lvs (lv' := [(0, .ref (G.1 11)), (1, .int x1), (2, .int x2)]) rfl ?_
  rw [mC_Text_put]
  refine Sm_iload_n E d_Text_put_0 rfl 1 rfl ?_
  refine Sm_if_lt (tgt := 20) E d_Text_put_1 (by decide) (fun _ => ?_) (fun _ => ?_)
  · exact Sm_retV hR d_Text_put_20
  · refine Sm_iload_n E d_Text_put_4 rfl 1 rfl ?_
    refine Sm_aload_n E d_Text_put_5 rfl 0 rfl ?_
    refine gfC_11_size E fl_Text_20 d_Text_put_6 ?_
    refine Sm_icmp_ge (tgt := 20) E d_Text_put_9 (by decide) (fun _ => ?_) (fun _ => ?_)
    · exact Sm_retV hR d_Text_put_20
    · refine Sm_aload_n E d_Text_put_12 rfl 0 rfl ?_
      refine gfC_11_bytes E fl_Text_9 d_Text_put_13 ?_
      refine Sm_iload_n E d_Text_put_16 rfl 1 rfl ?_
      refine Sm_iload_n E d_Text_put_17 rfl 2 rfl ?_
      refine Sm_i2b E d_Text_put_18 ?_
      refine Sm_gd fun hi => stC_12 E (inb_in hi) d_Text_put_19 fun u1 _ => ?_
      exact Sm_retV hR d_Text_put_20
set_option maxRecDepth 100000 in
set_option maxHeartbeats 4000000 in
theorem tC_Tokens_cutText_J82 {X : Cx} {G : Gx} {res : Int32 × St} (E : EC X G prog_9_method_12_code R_Tokens 6 { frames := 2, cells := 0, slots := 0, locals := 45 }) (hR : RtI X vwCl (wC G) prog_9_method_12_code res) {q7 : Int32 → Int32 → Int32 → Int32 → St → Option (Int32 × St)} (h7 : ∀ (x1 : Int32) (x2 : Int32) (x3 : Int32) (x4 : Int32) (u : St), SC X G 6 res (q7 x1 x2 x3 x4 u) u 7 [(0, .ref (G.1 10)), (1, .int x1), (2, .int x2), (3, .int x3), (4, .int x4)] []) : ∀ (x1 : Int32) (x2 : Int32) (x3 : Int32) (x4 : Int32) (x5 : Int32) (u : St), SC X G 6 res (mC_Tokens_cutText_J82 q7 x1 x2 x3 x4 x5 u) u 82 [(0, .ref (G.1 10)), (1, .int x1), (2, .int x2), (3, .int x3), (4, .int x4), (5, .int x5)] [] := by
  intro x1 x2 x3 x4 x5 u
  rw [mC_Tokens_cutText_J82]
  refine Sm_aload_n E d_Tokens_cutText_82 rfl 0 rfl ?_
  refine gfC_10_text E fl_Tokens_10 d_Tokens_cutText_83 ?_
  refine Sm_iload_n E d_Tokens_cutText_86 rfl 2 rfl ?_
  refine Sm_iload E d_Tokens_cutText_87 5 rfl ?_
  refine Sm_cVV (As := [.int x2, .int x5]) (b := (G.1 11)) (st := []) (n := 2) E exOk wC_as (fun _ h => cC_Text_put x2 x5 u h) gk_Tokens_92 dk_Text_put rfl ⟨rfl, rfl⟩ ⟨Nat.le_of_ble_eq_true rfl, Nat.le_of_ble_eq_true rfl⟩ (rvW (q0 := 11) (ci := 8) E rfl rfl rfl) rfl (Nat.le_of_ble_eq_true rfl) d_Tokens_cutText_89 fun u2 _ => ?_
  refine Sm_iinc (k := 2) (d := 1) E d_Tokens_cutText_92 rfl rfl (by decide) fun y3 _ => Sm_lvs (lv' := [(2, .int y3), (0, .ref (G.1 10)), (1, .int x1), (3, .int x3), (4, .int x4), (5, .int x5)]) rfl ?_
  refine Sm_iinc (k := 3) (d := 1) E d_Tokens_cutText_95 rfl rfl (by decide) fun y4 _ => Sm_lvs (lv' := [(3, .int y4), (2, .int y3), (0, .ref (G.1 10)), (1, .int x1), (4, .int x4), (5, .int x5)]) rfl ?_
  refine Sm_iinc (k := 4) (d := 1) E d_Tokens_cutText_98 rfl rfl (by decide) fun y5 _ => Sm_lvs (lv' := [(4, .int y5), (3, .int y4), (2, .int y3), (0, .ref (G.1 10)), (1, .int x1), (5, .int x5)]) rfl ?_
  refine Sm_goto (tgt := 7) E d_Tokens_cutText_101 (by decide) ?_
  exact Sm_sub [3, 4, 2, 1, 0] rfl (h7 _ _ _ _ _)
set_option maxRecDepth 100000 in
set_option maxHeartbeats 4000000 in
theorem tC_Tokens_cutText_L7 {X : Cx} {G : Gx} {res : Int32 × St} (E : EC X G prog_9_method_12_code R_Tokens 6 { frames := 2, cells := 0, slots := 0, locals := 45 }) (hR : RtI X vwCl (wC G) prog_9_method_12_code res) : ∀ (n : Nat) (x1 : Int32) (x2 : Int32) (x3 : Int32) (x4 : Int32) (u : St), SC X G 6 res (mC_Tokens_cutText_L7 n x1 x2 x3 x4 u) u 7 [(0, .ref (G.1 10)), (1, .int x1), (2, .int x2), (3, .int x3), (4, .int x4)] [] := by
  intro n
  induction n with
  | zero => intro x1 x2 x3 x4 u; exact Sm_none
  | succ n h7 =>
    intro x1 x2 x3 x4 u
    rw [mC_Tokens_cutText_L7]
    refine Sm_iload E d_Tokens_cutText_7 4 rfl ?_
    refine Sm_sipush (v := 2000) E d_Tokens_cutText_9 (by decide) ?_
    refine Sm_icmp_ge (tgt := 104) E d_Tokens_cutText_12 (by decide) (fun _ => ?_) (fun _ => ?_)
    · refine Sm_iconst (v := (-1)) E d_Tokens_cutText_104 (by decide) ?_
      exact Sm_retI hR d_Tokens_cutText_105
    · refine Sm_aload_n E d_Tokens_cutText_15 rfl 0 rfl ?_
      refine gfC_10_text E fl_Tokens_10 d_Tokens_cutText_16 ?_
      refine Sm_iload_n E d_Tokens_cutText_19 rfl 3 rfl ?_
      refine Sm_cVi (As := [.int x3]) (b := (G.1 11)) (st := []) (n := 1) E exOk wC_as (fun _ h => cC_Text_at_11 x3 u h) gk_Tokens_34 dk_Text_at rfl ⟨rfl, rfl⟩ ⟨Nat.le_of_ble_eq_true rfl, Nat.le_of_ble_eq_true rfl⟩ (rvW (q0 := 11) (ci := 8) E rfl rfl rfl) rfl (Nat.le_of_ble_eq_true rfl) d_Tokens_cutText_20 fun r1 _ => ?_
      refine Sm_istore (lv' := [(5, .int r1), (0, .ref (G.1 10)), (1, .int x1), (2, .int x2), (3, .int x3), (4, .int x4)]) E d_Tokens_cutText_23 (by decide) rfl ?_
      refine Sm_iload E d_Tokens_cutText_25 0 rfl ?_
      refine Sm_bipush (v := 32) E d_Tokens_cutText_27 (by decide) ?_
      refine Sm_icmp_lt (tgt := 39) E d_Tokens_cutText_29 (by decide) (fun _ => ?_) (fun _ => ?_)
      · refine Sm_iconst (v := (-1)) E d_Tokens_cutText_39 (by decide) ?_
        exact Sm_retI hR d_Tokens_cutText_40
      · refine Sm_iload E d_Tokens_cutText_32 0 rfl ?_
        refine Sm_bipush (v := 126) E d_Tokens_cutText_34 (by decide) ?_
        refine Sm_icmp_le (tgt := 41) E d_Tokens_cutText_36 (by decide) (fun _ => ?_) (fun _ => ?_)
        · refine Sm_iload E d_Tokens_cutText_41 0 rfl ?_
          refine Sm_bipush (v := 39) E d_Tokens_cutText_43 (by decide) ?_
          refine Sm_icmp_ne (tgt := 82) E d_Tokens_cutText_45 (by decide) (fun _ => ?_) (fun _ => ?_)
          · exact Sm_sub [1, 2, 3, 4, 5, 0] rfl (tC_Tokens_cutText_J82 E hR h7 _ _ _ _ _ _)
          · refine Sm_iinc (k := 4) (d := 1) E d_Tokens_cutText_48 rfl rfl (by decide) fun y6 _ => Sm_lvs (lv' := [(3, .int y6), (5, .int r1), (0, .ref (G.1 10)), (1, .int x1), (2, .int x2), (4, .int x4)]) rfl ?_
            refine Sm_aload_n E d_Tokens_cutText_51 rfl 2 rfl ?_
            refine gfC_10_text E fl_Tokens_10 d_Tokens_cutText_52 ?_
            refine Sm_iload_n E d_Tokens_cutText_55 rfl 0 rfl ?_
            refine Sm_cVi (As := [.int y6]) (b := (G.1 11)) (st := []) (n := 1) E exOk wC_as (fun _ h => cC_Text_at_11 y6 u h) gk_Tokens_34 dk_Text_at rfl ⟨rfl, rfl⟩ ⟨Nat.le_of_ble_eq_true rfl, Nat.le_of_ble_eq_true rfl⟩ (rvW (q0 := 11) (ci := 8) E rfl rfl rfl) rfl (Nat.le_of_ble_eq_true rfl) d_Tokens_cutText_56 fun r7 _ => ?_
            refine Sm_bipush (v := 39) E d_Tokens_cutText_59 (by decide) ?_
            refine Sm_icmp_eq (tgt := 82) E d_Tokens_cutText_61 (by decide) (fun _ => ?_) (fun _ => ?_)
            · exact Sm_sub [2, 3, 4, 0, 5, 1] rfl (tC_Tokens_cutText_J82 E hR h7 _ _ _ _ _ _)
            · refine Sm_aload_n E d_Tokens_cutText_64 rfl 2 rfl ?_
              refine Sm_iconst (v := 3) E d_Tokens_cutText_65 (by decide) ?_
              refine Sm_iload_n E d_Tokens_cutText_66 rfl 3 rfl ?_
              refine Sm_iload_n E d_Tokens_cutText_67 rfl 4 rfl ?_
              refine Sm_bipush (v := 31) E d_Tokens_cutText_68 (by decide) ?_
              refine Sm_cVI (As := [.int 3, .int x1, .int x2, .int 31]) (b := (G.1 10)) (st := []) (n := 4) E exOk wC_as (fun _ h => cC_Tokens_keep 3 x1 x2 31 u h) gk_Tokens_66 dk_Tokens_keep rfl ⟨rfl, rfl⟩ ⟨Nat.le_of_ble_eq_true rfl, Nat.le_of_ble_eq_true rfl⟩ (rvW (q0 := 10) (ci := 9) E rfl rfl rfl) rfl (Nat.le_of_ble_eq_true rfl) d_Tokens_cutText_70 fun r8 u9 _ => ?_
              refine Sm_if_ge (tgt := 80) E d_Tokens_cutText_73 (by decide) (fun _ => ?_) (fun _ => ?_)
              · refine Sm_iload_n E d_Tokens_cutText_80 rfl 0 rfl ?_
                exact Sm_retI hR d_Tokens_cutText_81
              · refine Sm_iconst (v := (-1)) E d_Tokens_cutText_76 (by decide) ?_
                refine Sm_goto (tgt := 81) E d_Tokens_cutText_77 (by decide) ?_
                exact Sm_retI hR d_Tokens_cutText_81
        · refine Sm_iconst (v := (-1)) E d_Tokens_cutText_39 (by decide) ?_
          exact Sm_retI hR d_Tokens_cutText_40
set_option maxRecDepth 100000 in
set_option maxHeartbeats 4000000 in
theorem cC_Tokens_cutText {l : Launch} {D : va_G} {G : Gx} (x1 : Int32) (u : St) {res : Int32 × St} (hm : mC_Tokens_cutText x1 u = some res) : KC l D G y_Tokens_cutText (.code y_Tokens_cutText prog_9_method_12_code 6 (some .int)) { frames := 2, cells := 0, slots := 0, locals := 45 } [.ref (G.1 10), .int x1] u (qI D vwCl (wC G) (tyW G) (adsC G) res) := by
  refine Ct_I (by decide) wC_as (Nat.le_of_ble_eq_true rfl) hm (fun X _ _ E hR => ?_)
  refine Sm_lvs (lv' := [(0, .ref (G.1 10)), (1, .int x1)]) rfl ?_
  rw [mC_Tokens_cutText]
  refine Sm_iload_n E d_Tokens_cutText_0 rfl 1 rfl ?_
  refine Sm_istore_n (lv' := [(2, .int x1), (0, .ref (G.1 10)), (1, .int x1)]) E d_Tokens_cutText_1 rfl (by decide) rfl ?_
  refine Sm_iload_n E d_Tokens_cutText_2 rfl 2 rfl ?_
  refine Sm_istore_n (lv' := [(3, .int x1), (2, .int x1), (0, .ref (G.1 10)), (1, .int x1)]) E d_Tokens_cutText_3 rfl (by decide) rfl ?_
  refine Sm_iconst (v := 0) E d_Tokens_cutText_4 (by decide) ?_
  refine Sm_istore (lv' := [(4, .int 0), (3, .int x1), (2, .int x1), (0, .ref (G.1 10)), (1, .int x1)]) E d_Tokens_cutText_5 (by decide) rfl ?_
  exact Sm_sub [3, 4, 2, 1, 0] rfl (tC_Tokens_cutText_L7 E hR FU _ _ _ _ _)
set_option maxRecDepth 100000 in
set_option maxHeartbeats 4000000 in
theorem cC_String_isLatin1 {l : Launch} {D : va_G} {G : Gx} (k0 : Nat) (u : St) {res : Int32} (hm : mC_String_isLatin1 k0 u = some res) : KC l D G y_String_isLatin1 (.code y_String_isLatin1 prog_14_method_154_code 1 (some .boolean)) { frames := 0, cells := 0, slots := 0, locals := 0 } [.ref (G.2.2.1 k0)] u (qI D vwCl (wC G) (tyW G) (adsC G) (res, u)) := by
  refine Ct_z (by decide) wC_as (Nat.le_of_ble_eq_true rfl) hm (fun X _ _ E hR => ?_)
  refine Sm_lvs (lv' := [(0, .ref (G.2.2.1 k0))]) rfl ?_
  rw [mC_String_isLatin1]
  refine Sm_gsC E fl_String_38 d_String_isLatin1_0 ?_
  refine Sm_if_eq_f (tgt := 17) E d_String_isLatin1_3 (by decide) (by decide) ?_
  refine Sm_aload_n E d_String_isLatin1_6 rfl 0 rfl ?_
  refine Sm_gd fun hk => Sm_strC E hk fl_String_15 d_String_isLatin1_7 ?_
  refine Sm_if_ne_f (tgt := 17) E d_String_isLatin1_10 (by decide) (by decide) ?_
  refine Sm_iconst (v := 1) E d_String_isLatin1_13 (by decide) ?_
  refine Sm_goto (tgt := 18) E d_String_isLatin1_14 (by decide) ?_
  exact Sm_retz hR (by decide) d_String_isLatin1_18
set_option maxRecDepth 100000 in
set_option maxHeartbeats 4000000 in
theorem cC_String_coder {l : Launch} {D : va_G} {G : Gx} (k0 : Nat) (u : St) {res : Int32} (hm : mC_String_coder k0 u = some res) : KC l D G y_String_coder (.code y_String_coder prog_14_method_152_code 1 (some .byte)) { frames := 0, cells := 0, slots := 0, locals := 0 } [.ref (G.2.2.1 k0)] u (qI D vwCl (wC G) (tyW G) (adsC G) (res, u)) := by
  refine Ct_z (by decide) wC_as (Nat.le_of_ble_eq_true rfl) hm (fun X _ _ E hR => ?_)
  refine Sm_lvs (lv' := [(0, .ref (G.2.2.1 k0))]) rfl ?_
  rw [mC_String_coder]
  refine Sm_gsC E fl_String_38 d_String_coder_0 ?_
  refine Sm_if_eq_f (tgt := 13) E d_String_coder_3 (by decide) (by decide) ?_
  refine Sm_aload_n E d_String_coder_6 rfl 0 rfl ?_
  refine Sm_gd fun hk => Sm_strC E hk fl_String_15 d_String_coder_7 ?_
  refine Sm_goto (tgt := 14) E d_String_coder_10 (by decide) ?_
  exact Sm_retz hR (by decide) d_String_coder_14
set_option maxRecDepth 100000 in
set_option maxHeartbeats 4000000 in
theorem cC_String_length {l : Launch} {D : va_G} {G : Gx} (k0 : Nat) (u : St) {res : Int32} (hm : mC_String_length k0 u = some res) : KC l D G y_String_length (.code y_String_length prog_14_method_54_code 1 (some .int)) { frames := 1, cells := 0, slots := 0, locals := 20 } [.ref (G.2.2.1 k0)] u (qI D vwCl (wC G) (tyW G) (adsC G) (res, u)) := by
  refine Ct_i (by decide) wC_as (Nat.le_of_ble_eq_true rfl) hm (fun X _ _ E hR => ?_)
  refine Sm_lvs (lv' := [(0, .ref (G.2.2.1 k0))]) rfl ?_
  rw [mC_String_length]
  refine Sm_aload_n E d_String_length_0 rfl 0 rfl ?_
  refine Sm_gd fun hk => Sm_strV E hk fl_String_9 d_String_length_1 ?_
  refine Sm_gd fun hk => Sm_strn E hk d_String_length_4 ?_
  refine Sm_aload_n E d_String_length_5 rfl 0 rfl ?_
  refine Sm_gd fun hk => Sm_cVi (As := []) (b := (G.2.2.1 k0)) (st := [.int (nI (lnK k0))]) (n := 0) E exOk wC_as (fun _ h => cC_String_coder k0 u h) gk_String_335 dk_String_coder rfl ⟨rfl, rfl⟩ ⟨Nat.le_of_ble_eq_true rfl, Nat.le_of_ble_eq_true rfl⟩ (rvS E hk rfl) rfl (Nat.le_of_ble_eq_true rfl) d_String_length_6 fun r1 _ => ?_
  refine Sm_ishr E d_String_length_9 ?_
  exact Sm_reti hR d_String_length_10
set_option maxRecDepth 100000 in
set_option maxHeartbeats 4000000 in
theorem cC_StringLatin1_canEncode {l : Launch} {D : va_G} {G : Gx} (x0 : Int32) (u : St) {res : Int32} (hm : mC_StringLatin1_canEncode x0 u = some res) : KC l D G y_StringLatin1_canEncode (.code y_StringLatin1_canEncode prog_15_method_4_code 1 (some .boolean)) { frames := 0, cells := 0, slots := 0, locals := 0 } [.int x0] u (qI D vwCl (wC G) (tyW G) (adsC G) (res, u)) := by
  refine Ct_z (by decide) wC_as (Nat.le_of_ble_eq_true rfl) hm (fun X _ _ E hR => ?_)
  refine Sm_lvs (lv' := [(0, .int x0)]) rfl ?_
  rw [mC_StringLatin1_canEncode]
  refine Sm_iload_n E d_StringLatin1_canEncode_0 rfl 0 rfl ?_
  refine Sm_if_lt (tgt := 15) E d_StringLatin1_canEncode_1 (by decide) (fun _ => ?_) (fun _ => ?_)
  · refine Sm_iconst (v := 0) E d_StringLatin1_canEncode_15 (by decide) ?_
    exact Sm_retz hR (by decide) d_StringLatin1_canEncode_16
  · refine Sm_iload_n E d_StringLatin1_canEncode_4 rfl 0 rfl ?_
    refine Sm_sipush (v := 255) E d_StringLatin1_canEncode_5 (by decide) ?_
    refine Sm_icmp_gt (tgt := 15) E d_StringLatin1_canEncode_8 (by decide) (fun _ => ?_) (fun _ => ?_)
    · refine Sm_iconst (v := 0) E d_StringLatin1_canEncode_15 (by decide) ?_
      exact Sm_retz hR (by decide) d_StringLatin1_canEncode_16
    · refine Sm_iconst (v := 1) E d_StringLatin1_canEncode_11 (by decide) ?_
      refine Sm_goto (tgt := 16) E d_StringLatin1_canEncode_12 (by decide) ?_
      exact Sm_retz hR (by decide) d_StringLatin1_canEncode_16
set_option maxRecDepth 100000 in
set_option maxHeartbeats 4000000 in
theorem tC_StringLatin1_indexOfChar_L7 {X : Cx} {G : Gx} {res : Int32} {u : St} (E : EC X G prog_15_method_23_code R_StringLatin1 6 { frames := 0, cells := 0, slots := 0, locals := 0 }) (hR : RtI X vwCl (wC G) prog_15_method_23_code (res, u)) : ∀ (n : Nat) (k0 : Nat) (x3 : Int32) (x4 : Int32) (x5 : Int32) , SC X G 6 res (mC_StringLatin1_indexOfChar_L7 n k0 x3 x4 x5 u) u 7 [(0, .ref (G.2.2.2.1 k0)), (3, .int x3), (4, .int x4), (5, .int x5)] [] := by
  intro n
  induction n with
  | zero => intro k0 x3 x4 x5; exact Sm_none
  | succ n h7 =>
    intro k0 x3 x4 x5
    rw [mC_StringLatin1_indexOfChar_L7]
    refine Sm_iload E d_StringLatin1_indexOfChar_7 3 rfl ?_
    refine Sm_iload_n E d_StringLatin1_indexOfChar_9 rfl 1 rfl ?_
    refine Sm_icmp_ge (tgt := 31) E d_StringLatin1_indexOfChar_10 (by decide) (fun _ => ?_) (fun _ => ?_)
    · refine Sm_iconst (v := (-1)) E d_StringLatin1_indexOfChar_31 (by decide) ?_
      exact Sm_reti hR d_StringLatin1_indexOfChar_32
    · refine Sm_aload_n E d_StringLatin1_indexOfChar_13 rfl 0 rfl ?_
      refine Sm_iload E d_StringLatin1_indexOfChar_14 3 rfl ?_
      refine Sm_gd fun hk => Sm_gd fun hi => Sm_strb E hk (inb_in hi) d_StringLatin1_indexOfChar_16 ?_
      refine Sm_iload E d_StringLatin1_indexOfChar_17 2 rfl ?_
      refine Sm_icmp_ne (tgt := 25) E d_StringLatin1_indexOfChar_19 (by decide) (fun _ => ?_) (fun _ => ?_)
      · refine Sm_iinc (k := 3) (d := 1) E d_StringLatin1_indexOfChar_25 rfl rfl (by decide) fun y2 _ => Sm_lvs (lv' := [(5, .int y2), (0, .ref (G.2.2.2.1 k0)), (3, .int x3), (4, .int x4)]) rfl ?_
        refine Sm_goto (tgt := 7) E d_StringLatin1_indexOfChar_28 (by decide) ?_
        exact Sm_sub [1, 2, 3, 0] rfl (h7 _ _ _ _)
      · refine Sm_iload E d_StringLatin1_indexOfChar_22 3 rfl ?_
        exact Sm_reti hR d_StringLatin1_indexOfChar_24
set_option maxRecDepth 100000 in
set_option maxHeartbeats 4000000 in
theorem cC_StringLatin1_indexOfChar {l : Launch} {D : va_G} {G : Gx} (k0 : Nat) (x1 : Int32) (x2 : Int32) (x3 : Int32) (u : St) {res : Int32} (hm : mC_StringLatin1_indexOfChar k0 x1 x2 x3 u = some res) : KC l D G y_StringLatin1_indexOfChar (.code y_StringLatin1_indexOfChar prog_15_method_23_code 6 (some .int)) { frames := 0, cells := 0, slots := 0, locals := 0 } [.ref (G.2.2.2.1 k0), .int x1, .int x2, .int x3] u (qI D vwCl (wC G) (tyW G) (adsC G) (res, u)) := by
  refine Ct_i (by decide) wC_as (Nat.le_of_ble_eq_true rfl) hm (fun X _ _ E hR => ?_)
  refine Sm_lvs (lv' := [(0, .ref (G.2.2.2.1 k0)), (1, .int x1), (2, .int x2), (3, .int x3)]) rfl ?_
  rw [mC_StringLatin1_indexOfChar]
  refine Sm_iload_n E d_StringLatin1_indexOfChar_0 rfl 1 rfl ?_
  refine Sm_i2b E d_StringLatin1_indexOfChar_1 ?_
  refine Sm_leti fun y1 _ => ?_
  refine Sm_istore (lv' := [(4, .int y1), (0, .ref (G.2.2.2.1 k0)), (1, .int x1), (2, .int x2), (3, .int x3)]) E d_StringLatin1_indexOfChar_2 (by decide) rfl ?_
  refine Sm_iload_n E d_StringLatin1_indexOfChar_4 rfl 3 rfl ?_
  refine Sm_istore (lv' := [(5, .int x2), (4, .int y1), (0, .ref (G.2.2.2.1 k0)), (1, .int x1), (2, .int x2), (3, .int x3)]) E d_StringLatin1_indexOfChar_5 (by decide) rfl ?_
  exact Sm_sub [2, 5, 1, 0] rfl (tC_StringLatin1_indexOfChar_L7 E hR FU _ _ _ _)
set_option maxRecDepth 100000 in
set_option maxHeartbeats 4000000 in
theorem cC_StringLatin1_indexOf {l : Launch} {D : va_G} {G : Gx} (k0 : Nat) (x1 : Int32) (x2 : Int32) (x3 : Int32) (u : St) {res : Int32} (hm : mC_StringLatin1_indexOf k0 x1 x2 x3 u = some res) : KC l D G y_StringLatin1_indexOf (.code y_StringLatin1_indexOf prog_15_method_22_code 4 (some .int)) { frames := 1, cells := 0, slots := 0, locals := 67 } [.ref (G.2.2.2.1 k0), .int x1, .int x2, .int x3] u (qI D vwCl (wC G) (tyW G) (adsC G) (res, u)) := by
  refine Ct_i (by decide) wC_as (Nat.le_of_ble_eq_true rfl) hm (fun X _ _ E hR => ?_)
  refine Sm_lvs (lv' := [(0, .ref (G.2.2.2.1 k0)), (1, .int x1), (2, .int x2), (3, .int x3)]) rfl ?_
  rw [mC_StringLatin1_indexOf]
  refine Sm_iload_n E d_StringLatin1_indexOf_0 rfl 1 rfl ?_
  refine Sm_cSi (As := [.int x1]) (st := []) (n := 1) E exOk wC_as (fun _ h => cC_StringLatin1_canEncode x1 u h) gk_StringLatin1_88 dk_StringLatin1_canEncode rfl ⟨rfl, rfl⟩ ⟨Nat.le_of_ble_eq_true rfl, Nat.le_of_ble_eq_true rfl⟩ rfl (Nat.le_of_ble_eq_true rfl) d_StringLatin1_indexOf_1 fun r1 _ => ?_
  refine Sm_if_ne (tgt := 9) E d_StringLatin1_indexOf_4 (by decide) (fun _ => ?_) (fun _ => ?_)
  · refine Sm_iload_n E d_StringLatin1_indexOf_9 rfl 2 rfl ?_
    refine Sm_iconst (v := 0) E d_StringLatin1_indexOf_10 (by decide) ?_
    refine Sm_mmax E ml_StringLatin1_92 ⟨Nat.le_of_ble_eq_true rfl, Nat.le_of_ble_eq_true rfl⟩ (Nat.le_of_ble_eq_true rfl) d_StringLatin1_indexOf_11 ?_
    refine Sm_leti fun y2 _ => ?_
    refine Sm_istore_n (lv' := [(2, .int y2), (0, .ref (G.2.2.2.1 k0)), (1, .int x1), (3, .int x3)]) E d_StringLatin1_indexOf_14 rfl (by decide) rfl ?_
    refine Sm_iload_n E d_StringLatin1_indexOf_15 rfl 3 rfl ?_
    refine Sm_aload_n E d_StringLatin1_indexOf_16 rfl 1 rfl ?_
    refine Sm_gd fun hk => Sm_strn E hk d_StringLatin1_indexOf_17 ?_
    refine Sm_mmin E ml_StringLatin1_38 ⟨Nat.le_of_ble_eq_true rfl, Nat.le_of_ble_eq_true rfl⟩ (Nat.le_of_ble_eq_true rfl) d_StringLatin1_indexOf_18 ?_
    refine Sm_leti fun y3 _ => ?_
    refine Sm_istore_n (lv' := [(3, .int y3), (2, .int y2), (0, .ref (G.2.2.2.1 k0)), (1, .int x1)]) E d_StringLatin1_indexOf_21 rfl (by decide) rfl ?_
    refine Sm_iload_n E d_StringLatin1_indexOf_22 rfl 1 rfl ?_
    refine Sm_iload_n E d_StringLatin1_indexOf_23 rfl 0 rfl ?_
    refine Sm_icmp_lt (tgt := 29) E d_StringLatin1_indexOf_24 (by decide) (fun _ => ?_) (fun _ => ?_)
    · refine Sm_aload_n E d_StringLatin1_indexOf_29 rfl 2 rfl ?_
      refine Sm_iload_n E d_StringLatin1_indexOf_30 rfl 3 rfl ?_
      refine Sm_iload_n E d_StringLatin1_indexOf_31 rfl 1 rfl ?_
      refine Sm_iload_n E d_StringLatin1_indexOf_32 rfl 0 rfl ?_
      refine Sm_cSi (As := [.ref (G.2.2.2.1 k0), .int x1, .int y2, .int y3]) (st := []) (n := 4) E exOk wC_as (fun _ h => cC_StringLatin1_indexOfChar k0 x1 y2 y3 u h) gk_StringLatin1_95 dk_StringLatin1_indexOfChar rfl ⟨rfl, rfl⟩ ⟨Nat.le_of_ble_eq_true rfl, Nat.le_of_ble_eq_true rfl⟩ rfl (Nat.le_of_ble_eq_true rfl) d_StringLatin1_indexOf_33 fun r4 _ => ?_
      exact Sm_reti hR d_StringLatin1_indexOf_36
    · refine Sm_iconst (v := (-1)) E d_StringLatin1_indexOf_27 (by decide) ?_
      exact Sm_reti hR d_StringLatin1_indexOf_28
  · refine Sm_iconst (v := (-1)) E d_StringLatin1_indexOf_7 (by decide) ?_
    exact Sm_reti hR d_StringLatin1_indexOf_8
set_option maxRecDepth 100000 in
set_option maxHeartbeats 4000000 in
theorem cC_String_indexOf_s_II {l : Launch} {D : va_G} {G : Gx} (k0 : Nat) (x1 : Int32) (x2 : Int32) (u : St) {res : Int32} (hm : mC_String_indexOf_s_II k0 x1 x2 u = some res) : KC l D G y_String_indexOf1 (.code y_String_indexOf1 prog_14_method_80_code 3 (some .int)) { frames := 2, cells := 0, slots := 0, locals := 90 } [.ref (G.2.2.1 k0), .int x1, .int x2] u (qI D vwCl (wC G) (tyW G) (adsC G) (res, u)) := by
  refine Ct_i (by decide) wC_as (Nat.le_of_ble_eq_true rfl) hm (fun X _ _ E hR => ?_)
  refine Sm_lvs (lv' := [(0, .ref (G.2.2.1 k0)), (1, .int x1), (2, .int x2)]) rfl ?_
  rw [mC_String_indexOf_s_II]
  refine Sm_aload_n E d_String_indexOf1_0 rfl 0 rfl ?_
  refine Sm_gd fun hk => Sm_cVi (As := []) (b := (G.2.2.1 k0)) (st := []) (n := 0) E exOk wC_as (fun _ h => cC_String_isLatin1 k0 u h) gk_String_492 dk_String_isLatin1 rfl ⟨rfl, rfl⟩ ⟨Nat.le_of_ble_eq_true rfl, Nat.le_of_ble_eq_true rfl⟩ (rvS E hk rfl) rfl (Nat.le_of_ble_eq_true rfl) d_String_indexOf1_1 fun r1 _ => ?_
  refine Sm_if_eq (tgt := 23) E d_String_indexOf1_4 (by decide) (fun _ => ?_) (fun _ => ?_)
  · refine Sm_aload_n E d_String_indexOf1_23 rfl 0 rfl ?_
    refine Sm_gd fun hk => Sm_strV E hk fl_String_9 d_String_indexOf1_24 ?_
    refine Sm_iload_n E d_String_indexOf1_27 rfl 1 rfl ?_
    refine Sm_iload_n E d_String_indexOf1_28 rfl 2 rfl ?_
    refine Sm_aload_n E d_String_indexOf1_29 rfl 0 rfl ?_
    refine Sm_gd fun hk => Sm_cVi (As := []) (b := (G.2.2.1 k0)) (st := [.int x2, .int x1, .ref (G.2.2.2.1 k0)]) (n := 0) E exOk wC_as (fun _ h => cC_String_length k0 u h) gk_String_505 dk_String_length rfl ⟨rfl, rfl⟩ ⟨Nat.le_of_ble_eq_true rfl, Nat.le_of_ble_eq_true rfl⟩ (rvS E hk rfl) rfl (Nat.le_of_ble_eq_true rfl) d_String_indexOf1_30 fun r2 _ => ?_
    exact Sm_none
  · refine Sm_aload_n E d_String_indexOf1_7 rfl 0 rfl ?_
    refine Sm_gd fun hk => Sm_strV E hk fl_String_9 d_String_indexOf1_8 ?_
    refine Sm_iload_n E d_String_indexOf1_11 rfl 1 rfl ?_
    refine Sm_iload_n E d_String_indexOf1_12 rfl 2 rfl ?_
    refine Sm_aload_n E d_String_indexOf1_13 rfl 0 rfl ?_
    refine Sm_gd fun hk => Sm_cVi (As := []) (b := (G.2.2.1 k0)) (st := [.int x2, .int x1, .ref (G.2.2.2.1 k0)]) (n := 0) E exOk wC_as (fun _ h => cC_String_length k0 u h) gk_String_505 dk_String_length rfl ⟨rfl, rfl⟩ ⟨Nat.le_of_ble_eq_true rfl, Nat.le_of_ble_eq_true rfl⟩ (rvS E hk rfl) rfl (Nat.le_of_ble_eq_true rfl) d_String_indexOf1_14 fun r3 _ => ?_
    refine Sm_cSi (As := [.ref (G.2.2.2.1 k0), .int x1, .int x2, .int r3]) (st := []) (n := 4) E exOk wC_as (fun _ h => cC_StringLatin1_indexOf k0 x1 x2 r3 u h) gk_String_637 dk_StringLatin1_indexOf rfl ⟨rfl, rfl⟩ ⟨Nat.le_of_ble_eq_true rfl, Nat.le_of_ble_eq_true rfl⟩ rfl (Nat.le_of_ble_eq_true rfl) d_String_indexOf1_17 fun r4 _ => ?_
    refine Sm_goto (tgt := 36) E d_String_indexOf1_20 (by decide) ?_
    exact Sm_reti hR d_String_indexOf1_36
set_option maxRecDepth 100000 in
set_option maxHeartbeats 4000000 in
theorem cC_String_indexOf_s_I {l : Launch} {D : va_G} {G : Gx} (k0 : Nat) (x1 : Int32) (u : St) {res : Int32} (hm : mC_String_indexOf_s_I k0 x1 u = some res) : KC l D G y_String_indexOf0 (.code y_String_indexOf0 prog_14_method_79_code 2 (some .int)) { frames := 3, cells := 0, slots := 0, locals := 112 } [.ref (G.2.2.1 k0), .int x1] u (qI D vwCl (wC G) (tyW G) (adsC G) (res, u)) := by
  refine Ct_i (by decide) wC_as (Nat.le_of_ble_eq_true rfl) hm (fun X _ _ E hR => ?_)
  refine Sm_lvs (lv' := [(0, .ref (G.2.2.1 k0)), (1, .int x1)]) rfl ?_
  rw [mC_String_indexOf_s_I]
  refine Sm_aload_n E d_String_indexOf0_0 rfl 0 rfl ?_
  refine Sm_iload_n E d_String_indexOf0_1 rfl 1 rfl ?_
  refine Sm_iconst (v := 0) E d_String_indexOf0_2 (by decide) ?_
  refine Sm_gd fun hk => Sm_cVi (As := [.int x1, .int 0]) (b := (G.2.2.1 k0)) (st := []) (n := 2) E exOk wC_as (fun _ h => cC_String_indexOf_s_II k0 x1 0 u h) gk_String_633 dk_String_indexOf1 rfl ⟨rfl, rfl⟩ ⟨Nat.le_of_ble_eq_true rfl, Nat.le_of_ble_eq_true rfl⟩ (rvS E hk rfl) rfl (Nat.le_of_ble_eq_true rfl) d_String_indexOf0_3 fun r1 _ => ?_
  exact Sm_reti hR d_String_indexOf0_6
set_option maxRecDepth 100000 in
set_option maxHeartbeats 4000000 in
theorem tC_Tokens_signSize_J67 {X : Cx} {G : Gx} {res : Int32} {u : St} (E : EC X G prog_9_method_13_code R_Tokens 5 { frames := 4, cells := 0, slots := 0, locals := 133 }) (hR : RtI X vwCl (wC G) prog_9_method_13_code (res, u)) : ∀ (x2 : Int32) (s0 : Int32) , SC X G 5 res (mC_Tokens_signSize_J67 x2 s0 u) u 67 [(2, .int x2)] [.int s0] := by
  intro x2 s0
  rw [mC_Tokens_signSize_J67]
  refine Sm_istore (lv' := [(4, .int s0), (2, .int x2)]) E d_Tokens_signSize_67 (by decide) rfl ?_
  refine Sm_iload E d_Tokens_signSize_69 0 rfl ?_
  refine Sm_if_eq (tgt := 76) E d_Tokens_signSize_71 (by decide) (fun _ => ?_) (fun _ => ?_)
  · refine Sm_ldcS E sr_Tokens_96 d_Tokens_signSize_76 ?_
    refine Sm_iload_n E d_Tokens_signSize_78 rfl 1 rfl ?_
    refine Sm_i2c E d_Tokens_signSize_79 ?_
    refine Sm_gd fun hk => Sm_cVi (As := [.int (i2c x2)]) (b := (G.2.2.1 0)) (st := []) (n := 1) E exOk wC_as (fun _ h => cC_String_indexOf_s_I 0 (i2c x2) u h) gk_Tokens_98 dk_String_indexOf0 rfl ⟨rfl, rfl⟩ ⟨Nat.le_of_ble_eq_true rfl, Nat.le_of_ble_eq_true rfl⟩ (rvS E hk rfl) rfl (Nat.le_of_ble_eq_true rfl) d_Tokens_signSize_80 fun r3 _ => ?_
    refine Sm_if_lt (tgt := 90) E d_Tokens_signSize_83 (by decide) (fun _ => ?_) (fun _ => ?_)
    · refine Sm_iconst (v := 0) E d_Tokens_signSize_90 (by decide) ?_
      exact Sm_reti hR d_Tokens_signSize_91
    · refine Sm_iconst (v := 1) E d_Tokens_signSize_86 (by decide) ?_
      refine Sm_goto (tgt := 91) E d_Tokens_signSize_87 (by decide) ?_
      exact Sm_reti hR d_Tokens_signSize_91
  · refine Sm_iconst (v := 2) E d_Tokens_signSize_74 (by decide) ?_
    exact Sm_reti hR d_Tokens_signSize_75
set_option maxRecDepth 100000 in
set_option maxHeartbeats 4000000 in
theorem tC_Tokens_signSize_J50 {X : Cx} {G : Gx} {res : Int32} {u : St} (E : EC X G prog_9_method_13_code R_Tokens 5 { frames := 4, cells := 0, slots := 0, locals := 133 }) (hR : RtI X vwCl (wC G) prog_9_method_13_code (res, u)) : ∀ (x2 : Int32) (x3 : Int32) , SC X G 5 res (mC_Tokens_signSize_J50 x2 x3 u) u 50 [(2, .int x2), (3, .int x3)] [] := by
  intro x2 x3
  rw [mC_Tokens_signSize_J50]
  refine Sm_iload_n E d_Tokens_signSize_50 rfl 0 rfl ?_
  refine Sm_bipush (v := 124) E d_Tokens_signSize_51 (by decide) ?_
  refine Sm_icmp_ne (tgt := 66) E d_Tokens_signSize_53 (by decide) (fun _ => ?_) (fun _ => ?_)
  · refine Sm_iconst (v := 0) E d_Tokens_signSize_66 (by decide) ?_
    exact Sm_sub [0] rfl (tC_Tokens_signSize_J67 E hR _ _)
  · refine Sm_iload_n E d_Tokens_signSize_56 rfl 1 rfl ?_
    refine Sm_bipush (v := 124) E d_Tokens_signSize_57 (by decide) ?_
    refine Sm_icmp_ne (tgt := 66) E d_Tokens_signSize_59 (by decide) (fun _ => ?_) (fun _ => ?_)
    · refine Sm_iconst (v := 0) E d_Tokens_signSize_66 (by decide) ?_
      exact Sm_sub [0] rfl (tC_Tokens_signSize_J67 E hR _ _)
    · refine Sm_iconst (v := 1) E d_Tokens_signSize_62 (by decide) ?_
      refine Sm_goto (tgt := 67) E d_Tokens_signSize_63 (by decide) ?_
      exact Sm_sub [0] rfl (tC_Tokens_signSize_J67 E hR _ _)
set_option maxRecDepth 100000 in
set_option maxHeartbeats 4000000 in
theorem tC_Tokens_signSize_J38 {X : Cx} {G : Gx} {res : Int32} {u : St} (E : EC X G prog_9_method_13_code R_Tokens 5 { frames := 4, cells := 0, slots := 0, locals := 133 }) (hR : RtI X vwCl (wC G) prog_9_method_13_code (res, u)) : ∀ (x2 : Int32) (x3 : Int32) , SC X G 5 res (mC_Tokens_signSize_J38 x2 x3 u) u 38 [(2, .int x2), (3, .int x3)] [] := by
  intro x2 x3
  rw [mC_Tokens_signSize_J38]
  refine Sm_iload_n E d_Tokens_signSize_38 rfl 0 rfl ?_
  refine Sm_bipush (v := 62) E d_Tokens_signSize_39 (by decide) ?_
  refine Sm_icmp_ne (tgt := 50) E d_Tokens_signSize_41 (by decide) (fun _ => ?_) (fun _ => ?_)
  · exact Sm_sub [0, 1] rfl (tC_Tokens_signSize_J50 E hR _ _)
  · refine Sm_iload_n E d_Tokens_signSize_44 rfl 1 rfl ?_
    refine Sm_bipush (v := 61) E d_Tokens_signSize_45 (by decide) ?_
    refine Sm_icmp_eq (tgt := 62) E d_Tokens_signSize_47 (by decide) (fun _ => ?_) (fun _ => ?_)
    · refine Sm_iconst (v := 1) E d_Tokens_signSize_62 (by decide) ?_
      refine Sm_goto (tgt := 67) E d_Tokens_signSize_63 (by decide) ?_
      exact Sm_sub [0] rfl (tC_Tokens_signSize_J67 E hR _ _)
    · exact Sm_sub [0, 1] rfl (tC_Tokens_signSize_J50 E hR _ _)
set_option maxRecDepth 100000 in
set_option maxHeartbeats 4000000 in
theorem cC_Tokens_signSize {l : Launch} {D : va_G} {G : Gx} (x1 : Int32) (u : St) {res : Int32} (hm : mC_Tokens_signSize x1 u = some res) : KC l D G y_Tokens_signSize (.code y_Tokens_signSize prog_9_method_13_code 5 (some .int)) { frames := 4, cells := 0, slots := 0, locals := 133 } [.ref (G.1 10), .int x1] u (qI D vwCl (wC G) (tyW G) (adsC G) (res, u)) := by
  refine Ct_i (by decide) wC_as (Nat.le_of_ble_eq_true rfl) hm (fun X _ _ E hR => ?_)
  refine Sm_lvs (lv' := [(0, .ref (G.1 10)), (1, .int x1)]) rfl ?_
  rw [mC_Tokens_signSize]
  refine Sm_aload_n E d_Tokens_signSize_0 rfl 0 rfl ?_
  refine gfC_10_text E fl_Tokens_10 d_Tokens_signSize_1 ?_
  refine Sm_iload_n E d_Tokens_signSize_4 rfl 1 rfl ?_
  refine Sm_cVi (As := [.int x1]) (b := (G.1 11)) (st := []) (n := 1) E exOk wC_as (fun _ h => cC_Text_at_11 x1 u h) gk_Tokens_34 dk_Text_at rfl ⟨rfl, rfl⟩ ⟨Nat.le_of_ble_eq_true rfl, Nat.le_of_ble_eq_true rfl⟩ (rvW (q0 := 11) (ci := 8) E rfl rfl rfl) rfl (Nat.le_of_ble_eq_true rfl) d_Tokens_signSize_5 fun r1 _ => ?_
  refine Sm_istore_n (lv' := [(2, .int r1), (0, .ref (G.1 10)), (1, .int x1)]) E d_Tokens_signSize_8 rfl (by decide) rfl ?_
  refine Sm_aload_n E d_Tokens_signSize_9 rfl 1 rfl ?_
  refine gfC_10_text E fl_Tokens_10 d_Tokens_signSize_10 ?_
  refine Sm_iload_n E d_Tokens_signSize_13 rfl 2 rfl ?_
  refine Sm_iconst (v := 1) E d_Tokens_signSize_14 (by decide) ?_
  refine Sm_iadd E d_Tokens_signSize_15 ?_
  refine Sm_cVi (As := [.int (x1 + 1)]) (b := (G.1 11)) (st := []) (n := 1) E exOk wC_as (fun _ h => cC_Text_at_11 (x1 + 1) u h) gk_Tokens_34 dk_Text_at rfl ⟨rfl, rfl⟩ ⟨Nat.le_of_ble_eq_true rfl, Nat.le_of_ble_eq_true rfl⟩ (rvW (q0 := 11) (ci := 8) E rfl rfl rfl) rfl (Nat.le_of_ble_eq_true rfl) d_Tokens_signSize_16 fun r2 _ => ?_
  refine Sm_istore_n (lv' := [(3, .int r2), (2, .int r1), (0, .ref (G.1 10)), (1, .int x1)]) E d_Tokens_signSize_19 rfl (by decide) rfl ?_
  refine Sm_iload_n E d_Tokens_signSize_20 rfl 1 rfl ?_
  refine Sm_bipush (v := 60) E d_Tokens_signSize_21 (by decide) ?_
  refine Sm_icmp_ne (tgt := 38) E d_Tokens_signSize_23 (by decide) (fun _ => ?_) (fun _ => ?_)
  · exact Sm_sub [1, 0] rfl (tC_Tokens_signSize_J38 E hR _ _)
  · refine Sm_iload_n E d_Tokens_signSize_26 rfl 0 rfl ?_
    refine Sm_bipush (v := 61) E d_Tokens_signSize_27 (by decide) ?_
    refine Sm_icmp_eq (tgt := 62) E d_Tokens_signSize_29 (by decide) (fun _ => ?_) (fun _ => ?_)
    · refine Sm_iconst (v := 1) E d_Tokens_signSize_62 (by decide) ?_
      refine Sm_goto (tgt := 67) E d_Tokens_signSize_63 (by decide) ?_
      exact Sm_sub [1] rfl (tC_Tokens_signSize_J67 E hR _ _)
    · refine Sm_iload_n E d_Tokens_signSize_32 rfl 0 rfl ?_
      refine Sm_bipush (v := 62) E d_Tokens_signSize_33 (by decide) ?_
      refine Sm_icmp_eq (tgt := 62) E d_Tokens_signSize_35 (by decide) (fun _ => ?_) (fun _ => ?_)
      · refine Sm_iconst (v := 1) E d_Tokens_signSize_62 (by decide) ?_
        refine Sm_goto (tgt := 67) E d_Tokens_signSize_63 (by decide) ?_
        exact Sm_sub [1] rfl (tC_Tokens_signSize_J67 E hR _ _)
      · exact Sm_sub [1, 0] rfl (tC_Tokens_signSize_J38 E hR _ _)
set_option maxRecDepth 100000 in
set_option maxHeartbeats 4000000 in
theorem cC_Tokens_cutToken {l : Launch} {D : va_G} {G : Gx} (x1 : Int32) (u : St) {res : Int32 × St} (hm : mC_Tokens_cutToken x1 u = some res) : KC l D G y_Tokens_cutToken (.code y_Tokens_cutToken prog_9_method_10_code 4 (some .int)) { frames := 5, cells := 0, slots := 0, locals := 157 } [.ref (G.1 10), .int x1] u (qI D vwCl (wC G) (tyW G) (adsC G) res) := by
  refine Ct_I (by decide) wC_as (Nat.le_of_ble_eq_true rfl) hm (fun X _ _ E hR => ?_)
  refine Sm_lvs (lv' := [(0, .ref (G.1 10)), (1, .int x1)]) rfl ?_
  rw [mC_Tokens_cutToken]
  refine Sm_aload_n E d_Tokens_cutToken_0 rfl 0 rfl ?_
  refine gfC_10_text E fl_Tokens_10 d_Tokens_cutToken_1 ?_
  refine Sm_iload_n E d_Tokens_cutToken_4 rfl 1 rfl ?_
  refine Sm_cVi (As := [.int x1]) (b := (G.1 11)) (st := []) (n := 1) E exOk wC_as (fun _ h => cC_Text_at_11 x1 u h) gk_Tokens_34 dk_Text_at rfl ⟨rfl, rfl⟩ ⟨Nat.le_of_ble_eq_true rfl, Nat.le_of_ble_eq_true rfl⟩ (rvW (q0 := 11) (ci := 8) E rfl rfl rfl) rfl (Nat.le_of_ble_eq_true rfl) d_Tokens_cutToken_5 fun r1 _ => ?_
  refine Sm_istore_n (lv' := [(2, .int r1), (0, .ref (G.1 10)), (1, .int x1)]) E d_Tokens_cutToken_8 rfl (by decide) rfl ?_
  refine Sm_iload_n E d_Tokens_cutToken_9 rfl 0 rfl ?_
  refine Sm_cSi (As := [.int r1]) (st := []) (n := 1) E exOk wC_as (fun _ h => cC_Tokens_isCapital r1 u h) gk_Tokens_59 dk_Tokens_isCapital rfl ⟨rfl, rfl⟩ ⟨Nat.le_of_ble_eq_true rfl, Nat.le_of_ble_eq_true rfl⟩ rfl (Nat.le_of_ble_eq_true rfl) d_Tokens_cutToken_10 fun r2 _ => ?_
  refine Sm_if_eq (tgt := 30) E d_Tokens_cutToken_13 (by decide) (fun _ => ?_) (fun _ => ?_)
  · refine Sm_iload_n E d_Tokens_cutToken_30 rfl 0 rfl ?_
    refine Sm_cSi (As := [.int r1]) (st := []) (n := 1) E exOk wC_as (fun _ h => cC_Text_isSmall r1 u h) gk_Tokens_70 dk_Text_isSmall rfl ⟨rfl, rfl⟩ ⟨Nat.le_of_ble_eq_true rfl, Nat.le_of_ble_eq_true rfl⟩ rfl (Nat.le_of_ble_eq_true rfl) d_Tokens_cutToken_31 fun r3 _ => ?_
    refine Sm_if_eq (tgt := 51) E d_Tokens_cutToken_34 (by decide) (fun _ => ?_) (fun _ => ?_)
    · refine Sm_iload_n E d_Tokens_cutToken_51 rfl 0 rfl ?_
      refine Sm_cSi (As := [.int r1]) (st := []) (n := 1) E exOk wC_as (fun _ h => cC_Text_isDigit r1 u h) gk_Tokens_76 dk_Text_isDigit rfl ⟨rfl, rfl⟩ ⟨Nat.le_of_ble_eq_true rfl, Nat.le_of_ble_eq_true rfl⟩ rfl (Nat.le_of_ble_eq_true rfl) d_Tokens_cutToken_52 fun r4 _ => ?_
      refine Sm_if_eq (tgt := 72) E d_Tokens_cutToken_55 (by decide) (fun _ => ?_) (fun _ => ?_)
      · refine Sm_iload_n E d_Tokens_cutToken_72 rfl 0 rfl ?_
        refine Sm_bipush (v := 39) E d_Tokens_cutToken_73 (by decide) ?_
        refine Sm_icmp_ne (tgt := 86) E d_Tokens_cutToken_75 (by decide) (fun _ => ?_) (fun _ => ?_)
        · refine Sm_iload_n E d_Tokens_cutToken_86 rfl 0 rfl ?_
          refine Sm_bipush (v := 36) E d_Tokens_cutToken_87 (by decide) ?_
          refine Sm_icmp_ne (tgt := 132) E d_Tokens_cutToken_89 (by decide) (fun _ => ?_) (fun _ => ?_)
          · refine Sm_aload_n E d_Tokens_cutToken_132 rfl 1 rfl ?_
            refine Sm_iload_n E d_Tokens_cutToken_133 rfl 2 rfl ?_
            refine Sm_cVi (As := [.int x1]) (b := (G.1 10)) (st := []) (n := 1) E exOk wC_as (fun _ h => cC_Tokens_signSize x1 u h) gk_Tokens_85 dk_Tokens_signSize rfl ⟨rfl, rfl⟩ ⟨Nat.le_of_ble_eq_true rfl, Nat.le_of_ble_eq_true rfl⟩ (rvW (q0 := 10) (ci := 9) E rfl rfl rfl) rfl (Nat.le_of_ble_eq_true rfl) d_Tokens_cutToken_134 fun r5 _ => ?_
            refine Sm_istore_n (lv' := [(3, .int r5), (2, .int r1), (0, .ref (G.1 10)), (1, .int x1)]) E d_Tokens_cutToken_137 rfl (by decide) rfl ?_
            refine Sm_iload_n E d_Tokens_cutToken_138 rfl 0 rfl ?_
            refine Sm_if_ne (tgt := 146) E d_Tokens_cutToken_139 (by decide) (fun _ => ?_) (fun _ => ?_)
            · refine Sm_aload_n E d_Tokens_cutToken_146 rfl 2 rfl ?_
              refine Sm_iconst (v := 0) E d_Tokens_cutToken_147 (by decide) ?_
              refine Sm_iload_n E d_Tokens_cutToken_148 rfl 3 rfl ?_
              refine Sm_iload_n E d_Tokens_cutToken_149 rfl 3 rfl ?_
              refine Sm_iload_n E d_Tokens_cutToken_150 rfl 0 rfl ?_
              refine Sm_iadd E d_Tokens_cutToken_151 ?_
              refine Sm_iload_n E d_Tokens_cutToken_152 rfl 0 rfl ?_
              refine Sm_cVI (As := [.int 0, .int x1, .int (x1 + r5), .int r5]) (b := (G.1 10)) (st := []) (n := 4) E exOk wC_as (fun _ h => cC_Tokens_keep 0 x1 (x1 + r5) r5 u h) gk_Tokens_66 dk_Tokens_keep rfl ⟨rfl, rfl⟩ ⟨Nat.le_of_ble_eq_true rfl, Nat.le_of_ble_eq_true rfl⟩ (rvW (q0 := 10) (ci := 9) E rfl rfl rfl) rfl (Nat.le_of_ble_eq_true rfl) d_Tokens_cutToken_153 fun r6 u7 _ => ?_
              exact Sm_retI hR d_Tokens_cutToken_156
            · refine Sm_iconst (v := (-1)) E d_Tokens_cutToken_142 (by decide) ?_
              refine Sm_goto (tgt := 156) E d_Tokens_cutToken_143 (by decide) ?_
              exact Sm_retI hR d_Tokens_cutToken_156
          · refine Sm_aload_n E d_Tokens_cutToken_92 rfl 1 rfl ?_
            refine gfC_10_text E fl_Tokens_10 d_Tokens_cutToken_93 ?_
            refine Sm_iload_n E d_Tokens_cutToken_96 rfl 2 rfl ?_
            refine Sm_iconst (v := 1) E d_Tokens_cutToken_97 (by decide) ?_
            refine Sm_iadd E d_Tokens_cutToken_98 ?_
            refine Sm_cVi (As := [.int (x1 + 1)]) (b := (G.1 11)) (st := []) (n := 1) E exOk wC_as (fun _ h => cC_Text_at_11 (x1 + 1) u h) gk_Tokens_34 dk_Text_at rfl ⟨rfl, rfl⟩ ⟨Nat.le_of_ble_eq_true rfl, Nat.le_of_ble_eq_true rfl⟩ (rvW (q0 := 11) (ci := 8) E rfl rfl rfl) rfl (Nat.le_of_ble_eq_true rfl) d_Tokens_cutToken_99 fun r8 _ => ?_
            refine Sm_istore_n (lv' := [(3, .int r8), (2, .int r1), (0, .ref (G.1 10)), (1, .int x1)]) E d_Tokens_cutToken_102 rfl (by decide) rfl ?_
            refine Sm_iload_n E d_Tokens_cutToken_103 rfl 0 rfl ?_
            refine Sm_bipush (v := 49) E d_Tokens_cutToken_104 (by decide) ?_
            refine Sm_icmp_lt (tgt := 115) E d_Tokens_cutToken_106 (by decide) (fun _ => ?_) (fun _ => ?_)
            · refine Sm_iconst (v := (-1)) E d_Tokens_cutToken_115 (by decide) ?_
              refine Sm_goto (tgt := 131) E d_Tokens_cutToken_116 (by decide) ?_
              exact Sm_retI hR d_Tokens_cutToken_131
            · refine Sm_iload_n E d_Tokens_cutToken_109 rfl 0 rfl ?_
              refine Sm_bipush (v := 57) E d_Tokens_cutToken_110 (by decide) ?_
              refine Sm_icmp_le (tgt := 119) E d_Tokens_cutToken_112 (by decide) (fun _ => ?_) (fun _ => ?_)
              · refine Sm_aload_n E d_Tokens_cutToken_119 rfl 2 rfl ?_
                refine Sm_iconst (v := 4) E d_Tokens_cutToken_120 (by decide) ?_
                refine Sm_iload_n E d_Tokens_cutToken_121 rfl 3 rfl ?_
                refine Sm_iconst (v := 1) E d_Tokens_cutToken_122 (by decide) ?_
                refine Sm_iadd E d_Tokens_cutToken_123 ?_
                refine Sm_iload_n E d_Tokens_cutToken_124 rfl 3 rfl ?_
                refine Sm_iconst (v := 2) E d_Tokens_cutToken_125 (by decide) ?_
                refine Sm_iadd E d_Tokens_cutToken_126 ?_
                refine Sm_iconst (v := 1) E d_Tokens_cutToken_127 (by decide) ?_
                refine Sm_cVI (As := [.int 4, .int (x1 + 1), .int (x1 + 2), .int 1]) (b := (G.1 10)) (st := []) (n := 4) E exOk wC_as (fun _ h => cC_Tokens_keep 4 (x1 + 1) (x1 + 2) 1 u h) gk_Tokens_66 dk_Tokens_keep rfl ⟨rfl, rfl⟩ ⟨Nat.le_of_ble_eq_true rfl, Nat.le_of_ble_eq_true rfl⟩ (rvW (q0 := 10) (ci := 9) E rfl rfl rfl) rfl (Nat.le_of_ble_eq_true rfl) d_Tokens_cutToken_128 fun r9 u10 _ => ?_
                exact Sm_retI hR d_Tokens_cutToken_131
              · refine Sm_iconst (v := (-1)) E d_Tokens_cutToken_115 (by decide) ?_
                refine Sm_goto (tgt := 131) E d_Tokens_cutToken_116 (by decide) ?_
                exact Sm_retI hR d_Tokens_cutToken_131
        · refine Sm_aload_n E d_Tokens_cutToken_78 rfl 1 rfl ?_
          refine Sm_iload_n E d_Tokens_cutToken_79 rfl 2 rfl ?_
          refine Sm_iconst (v := 1) E d_Tokens_cutToken_80 (by decide) ?_
          refine Sm_iadd E d_Tokens_cutToken_81 ?_
          refine Sm_cVI (As := [.int (x1 + 1)]) (b := (G.1 10)) (st := []) (n := 1) E exOk wC_as (fun _ h => cC_Tokens_cutText (x1 + 1) u h) gk_Tokens_82 dk_Tokens_cutText rfl ⟨rfl, rfl⟩ ⟨Nat.le_of_ble_eq_true rfl, Nat.le_of_ble_eq_true rfl⟩ (rvW (q0 := 10) (ci := 9) E rfl rfl rfl) rfl (Nat.le_of_ble_eq_true rfl) d_Tokens_cutToken_82 fun r11 u12 _ => ?_
          exact Sm_retI hR d_Tokens_cutToken_85
      · refine Sm_aload_n E d_Tokens_cutToken_58 rfl 1 rfl ?_
        refine Sm_iconst (v := 2) E d_Tokens_cutToken_59 (by decide) ?_
        refine Sm_iload_n E d_Tokens_cutToken_60 rfl 2 rfl ?_
        refine Sm_aload_n E d_Tokens_cutToken_61 rfl 1 rfl ?_
        refine Sm_iload_n E d_Tokens_cutToken_62 rfl 2 rfl ?_
        refine Sm_cVi (As := [.int x1]) (b := (G.1 10)) (st := [.int x1, .int 2, .ref (G.1 10)]) (n := 1) E exOk wC_as (fun _ h => cC_Tokens_endOfDigits x1 u h) gk_Tokens_79 dk_Tokens_endOfDigits rfl ⟨rfl, rfl⟩ ⟨Nat.le_of_ble_eq_true rfl, Nat.le_of_ble_eq_true rfl⟩ (rvW (q0 := 10) (ci := 9) E rfl rfl rfl) rfl (Nat.le_of_ble_eq_true rfl) d_Tokens_cutToken_63 fun r13 _ => ?_
        refine Sm_bipush (v := 18) E d_Tokens_cutToken_66 (by decide) ?_
        refine Sm_cVI (As := [.int 2, .int x1, .int r13, .int 18]) (b := (G.1 10)) (st := []) (n := 4) E exOk wC_as (fun _ h => cC_Tokens_keep 2 x1 r13 18 u h) gk_Tokens_66 dk_Tokens_keep rfl ⟨rfl, rfl⟩ ⟨Nat.le_of_ble_eq_true rfl, Nat.le_of_ble_eq_true rfl⟩ (rvW (q0 := 10) (ci := 9) E rfl rfl rfl) rfl (Nat.le_of_ble_eq_true rfl) d_Tokens_cutToken_68 fun r14 u15 _ => ?_
        exact Sm_retI hR d_Tokens_cutToken_71
    · refine Sm_aload_n E d_Tokens_cutToken_37 rfl 1 rfl ?_
      refine Sm_iconst (v := 1) E d_Tokens_cutToken_38 (by decide) ?_
      refine Sm_iload_n E d_Tokens_cutToken_39 rfl 2 rfl ?_
      refine Sm_aload_n E d_Tokens_cutToken_40 rfl 1 rfl ?_
      refine Sm_iload_n E d_Tokens_cutToken_41 rfl 2 rfl ?_
      refine Sm_cVi (As := [.int x1]) (b := (G.1 10)) (st := [.int x1, .int 1, .ref (G.1 10)]) (n := 1) E exOk wC_as (fun _ h => cC_Tokens_endOfName x1 u h) gk_Tokens_73 dk_Tokens_endOfName rfl ⟨rfl, rfl⟩ ⟨Nat.le_of_ble_eq_true rfl, Nat.le_of_ble_eq_true rfl⟩ (rvW (q0 := 10) (ci := 9) E rfl rfl rfl) rfl (Nat.le_of_ble_eq_true rfl) d_Tokens_cutToken_42 fun r16 _ => ?_
      refine Sm_bipush (v := 16) E d_Tokens_cutToken_45 (by decide) ?_
      refine Sm_cVI (As := [.int 1, .int x1, .int r16, .int 16]) (b := (G.1 10)) (st := []) (n := 4) E exOk wC_as (fun _ h => cC_Tokens_keep 1 x1 r16 16 u h) gk_Tokens_66 dk_Tokens_keep rfl ⟨rfl, rfl⟩ ⟨Nat.le_of_ble_eq_true rfl, Nat.le_of_ble_eq_true rfl⟩ (rvW (q0 := 10) (ci := 9) E rfl rfl rfl) rfl (Nat.le_of_ble_eq_true rfl) d_Tokens_cutToken_47 fun r17 u18 _ => ?_
      exact Sm_retI hR d_Tokens_cutToken_50
  · refine Sm_aload_n E d_Tokens_cutToken_16 rfl 1 rfl ?_
    refine Sm_iconst (v := 0) E d_Tokens_cutToken_17 (by decide) ?_
    refine Sm_iload_n E d_Tokens_cutToken_18 rfl 2 rfl ?_
    refine Sm_aload_n E d_Tokens_cutToken_19 rfl 1 rfl ?_
    refine Sm_iload_n E d_Tokens_cutToken_20 rfl 2 rfl ?_
    refine Sm_cVi (As := [.int x1]) (b := (G.1 10)) (st := [.int x1, .int 0, .ref (G.1 10)]) (n := 1) E exOk wC_as (fun _ h => cC_Tokens_endOfCapitals x1 u h) gk_Tokens_63 dk_Tokens_endOfCapitals rfl ⟨rfl, rfl⟩ ⟨Nat.le_of_ble_eq_true rfl, Nat.le_of_ble_eq_true rfl⟩ (rvW (q0 := 10) (ci := 9) E rfl rfl rfl) rfl (Nat.le_of_ble_eq_true rfl) d_Tokens_cutToken_21 fun r19 _ => ?_
    refine Sm_bipush (v := 31) E d_Tokens_cutToken_24 (by decide) ?_
    refine Sm_cVI (As := [.int 0, .int x1, .int r19, .int 31]) (b := (G.1 10)) (st := []) (n := 4) E exOk wC_as (fun _ h => cC_Tokens_keep 0 x1 r19 31 u h) gk_Tokens_66 dk_Tokens_keep rfl ⟨rfl, rfl⟩ ⟨Nat.le_of_ble_eq_true rfl, Nat.le_of_ble_eq_true rfl⟩ (rvW (q0 := 10) (ci := 9) E rfl rfl rfl) rfl (Nat.le_of_ble_eq_true rfl) d_Tokens_cutToken_26 fun r20 u21 _ => ?_
    exact Sm_retI hR d_Tokens_cutToken_29
set_option maxRecDepth 100000 in
set_option maxHeartbeats 4000000 in
theorem tC_Tokens_cut_L22 {X : Cx} {G : Gx} {res : Int32 × St} (E : EC X G prog_9_method_3_code R_Tokens 4 { frames := 6, cells := 0, slots := 0, locals := 180 }) (hR : RtZ X vwCl (wC G) prog_9_method_3_code .boolean res) : ∀ (n : Nat) (x2 : Int32) (x3 : Int32) (u : St), SC X G 4 res (mC_Tokens_cut_L22 n x2 x3 u) u 22 [(0, .ref (G.1 10)), (2, .int x2), (3, .int x3)] [] := by
  intro n
  induction n with
  | zero => intro x2 x3 u; exact Sm_none
  | succ n h22 =>
    intro x2 x3 u
    rw [mC_Tokens_cut_L22]
    refine Sm_iload_n E d_Tokens_cut_22 rfl 2 rfl ?_
    refine Sm_sipush (v := 2000) E d_Tokens_cut_23 (by decide) ?_
    refine Sm_icmp_ge (tgt := 75) E d_Tokens_cut_26 (by decide) (fun _ => ?_) (fun _ => ?_)
    · refine Sm_iload_n E d_Tokens_cut_75 rfl 1 rfl ?_
      refine Sm_if_lt (tgt := 83) E d_Tokens_cut_76 (by decide) (fun _ => ?_) (fun _ => ?_)
      · refine Sm_iconst (v := 0) E d_Tokens_cut_83 (by decide) ?_
        exact Sm_retZ hR (by decide) d_Tokens_cut_84
      · refine Sm_iconst (v := 1) E d_Tokens_cut_79 (by decide) ?_
        refine Sm_goto (tgt := 84) E d_Tokens_cut_80 (by decide) ?_
        exact Sm_retZ hR (by decide) d_Tokens_cut_84
    · refine Sm_iload_n E d_Tokens_cut_29 rfl 1 rfl ?_
      refine Sm_if_lt (tgt := 75) E d_Tokens_cut_30 (by decide) (fun _ => ?_) (fun _ => ?_)
      · refine Sm_iload_n E d_Tokens_cut_75 rfl 1 rfl ?_
        refine Sm_if_lt (tgt := 83) E d_Tokens_cut_76 (by decide) (fun _ => ?_) (fun _ => ?_)
        · refine Sm_iconst (v := 0) E d_Tokens_cut_83 (by decide) ?_
          exact Sm_retZ hR (by decide) d_Tokens_cut_84
        · refine Sm_iconst (v := 1) E d_Tokens_cut_79 (by decide) ?_
          refine Sm_goto (tgt := 84) E d_Tokens_cut_80 (by decide) ?_
          exact Sm_retZ hR (by decide) d_Tokens_cut_84
      · refine Sm_iload_n E d_Tokens_cut_33 rfl 1 rfl ?_
        refine Sm_aload_n E d_Tokens_cut_34 rfl 0 rfl ?_
        refine gfC_10_text E fl_Tokens_10 d_Tokens_cut_35 ?_
        refine Sm_cVi (As := []) (b := (G.1 11)) (st := [.int x2]) (n := 0) E exOk wC_as (fun _ h => cC_Text_size_11 u h) gk_Tokens_31 dk_Text_size rfl ⟨rfl, rfl⟩ ⟨Nat.le_of_ble_eq_true rfl, Nat.le_of_ble_eq_true rfl⟩ (rvW (q0 := 11) (ci := 8) E rfl rfl rfl) rfl (Nat.le_of_ble_eq_true rfl) d_Tokens_cut_38 fun r4 _ => ?_
        refine Sm_icmp_ge (tgt := 75) E d_Tokens_cut_41 (by decide) (fun _ => ?_) (fun _ => ?_)
        · refine Sm_iload_n E d_Tokens_cut_75 rfl 1 rfl ?_
          refine Sm_if_lt (tgt := 83) E d_Tokens_cut_76 (by decide) (fun _ => ?_) (fun _ => ?_)
          · refine Sm_iconst (v := 0) E d_Tokens_cut_83 (by decide) ?_
            exact Sm_retZ hR (by decide) d_Tokens_cut_84
          · refine Sm_iconst (v := 1) E d_Tokens_cut_79 (by decide) ?_
            refine Sm_goto (tgt := 84) E d_Tokens_cut_80 (by decide) ?_
            exact Sm_retZ hR (by decide) d_Tokens_cut_84
        · refine Sm_aload_n E d_Tokens_cut_44 rfl 0 rfl ?_
          refine gfC_10_text E fl_Tokens_10 d_Tokens_cut_45 ?_
          refine Sm_iload_n E d_Tokens_cut_48 rfl 1 rfl ?_
          refine Sm_cVi (As := [.int x2]) (b := (G.1 11)) (st := []) (n := 1) E exOk wC_as (fun _ h => cC_Text_at_11 x2 u h) gk_Tokens_34 dk_Text_at rfl ⟨rfl, rfl⟩ ⟨Nat.le_of_ble_eq_true rfl, Nat.le_of_ble_eq_true rfl⟩ (rvW (q0 := 11) (ci := 8) E rfl rfl rfl) rfl (Nat.le_of_ble_eq_true rfl) d_Tokens_cut_49 fun r5 _ => ?_
          refine Sm_bipush (v := 32) E d_Tokens_cut_52 (by decide) ?_
          refine Sm_icmp_ne (tgt := 63) E d_Tokens_cut_54 (by decide) (fun _ => ?_) (fun _ => ?_)
          · refine Sm_aload_n E d_Tokens_cut_63 rfl 0 rfl ?_
            refine Sm_iload_n E d_Tokens_cut_64 rfl 1 rfl ?_
            refine Sm_cVI (As := [.int x2]) (b := (G.1 10)) (st := []) (n := 1) E exOk wC_as (fun _ h => cC_Tokens_cutToken x2 u h) gk_Tokens_38 dk_Tokens_cutToken rfl ⟨rfl, rfl⟩ ⟨Nat.le_of_ble_eq_true rfl, Nat.le_of_ble_eq_true rfl⟩ (rvW (q0 := 10) (ci := 9) E rfl rfl rfl) rfl (Nat.le_of_ble_eq_true rfl) d_Tokens_cut_65 fun r6 u7 _ => ?_
            refine Sm_istore_n (lv' := [(2, .int r6), (0, .ref (G.1 10)), (3, .int x3)]) E d_Tokens_cut_68 rfl (by decide) rfl ?_
            refine Sm_iinc (k := 2) (d := 1) E d_Tokens_cut_69 rfl rfl (by decide) fun y8 _ => Sm_lvs (lv' := [(3, .int y8), (2, .int r6), (0, .ref (G.1 10))]) rfl ?_
            refine Sm_goto (tgt := 22) E d_Tokens_cut_72 (by decide) ?_
            exact Sm_sub [2, 1, 0] rfl (h22 _ _ _)
          · refine Sm_iload_n E d_Tokens_cut_57 rfl 1 rfl ?_
            refine Sm_iconst (v := 1) E d_Tokens_cut_58 (by decide) ?_
            refine Sm_iadd E d_Tokens_cut_59 ?_
            refine Sm_goto (tgt := 68) E d_Tokens_cut_60 (by decide) ?_
            refine Sm_leti fun y9 _ => ?_
            refine Sm_istore_n (lv' := [(2, .int y9), (0, .ref (G.1 10)), (3, .int x3)]) E d_Tokens_cut_68 rfl (by decide) rfl ?_
            refine Sm_iinc (k := 2) (d := 1) E d_Tokens_cut_69 rfl rfl (by decide) fun y10 _ => Sm_lvs (lv' := [(3, .int y10), (2, .int y9), (0, .ref (G.1 10))]) rfl ?_
            refine Sm_goto (tgt := 22) E d_Tokens_cut_72 (by decide) ?_
            exact Sm_sub [2, 1, 0] rfl (h22 _ _ _)
set_option maxRecDepth 100000 in
set_option maxHeartbeats 4000000 in
theorem cC_Tokens_cut {l : Launch} {D : va_G} {G : Gx} (u : St) {res : Int32 × St} (hm : mC_Tokens_cut u = some res) : KC l D G y_Tokens_cut (.code y_Tokens_cut prog_9_method_3_code 4 (some .boolean)) { frames := 6, cells := 0, slots := 0, locals := 180 } [.ref (G.1 10), .ref (G.1 1)] u (qI D vwCl (wC G) (tyW G) (adsC G) res) := by
  refine Ct_Z (by decide) wC_as (Nat.le_of_ble_eq_true rfl) hm (fun X _ _ E hR => ?_)
  refine Sm_lvs (lv' := [(0, .ref (G.1 10)), (1, .ref (G.1 1))]) rfl ?_
  rw [mC_Tokens_cut]
  refine Sm_aload_n E d_Tokens_cut_0 rfl 0 rfl ?_
  refine gfC_10_text E fl_Tokens_10 d_Tokens_cut_1 ?_
  refine Sm_aload_n E d_Tokens_cut_4 rfl 1 rfl ?_
  refine Sm_cVV (As := [.ref (G.1 1)]) (b := (G.1 11)) (st := []) (n := 1) E exOk wC_as (fun _ h => cC_Text_copy u h) gk_Tokens_20 dk_Text_copy rfl ⟨rfl, rfl⟩ ⟨Nat.le_of_ble_eq_true rfl, Nat.le_of_ble_eq_true rfl⟩ (rvW (q0 := 11) (ci := 8) E rfl rfl rfl) rfl (Nat.le_of_ble_eq_true rfl) d_Tokens_cut_5 fun u1 _ => ?_
  refine Sm_aload_n E d_Tokens_cut_8 rfl 0 rfl ?_
  refine Sm_iconst (v := 0) E d_Tokens_cut_9 (by decide) ?_
  refine pfC_10_size E fl_Tokens_24 d_Tokens_cut_10 fun u2 _ => ?_
  refine Sm_aload_n E d_Tokens_cut_13 rfl 0 rfl ?_
  refine Sm_iconst (v := 0) E d_Tokens_cut_14 (by decide) ?_
  refine pfC_10_next E fl_Tokens_28 d_Tokens_cut_15 fun u3 _ => ?_
  refine Sm_iconst (v := 0) E d_Tokens_cut_18 (by decide) ?_
  refine Sm_istore_n (lv' := [(2, .int 0), (0, .ref (G.1 10)), (1, .ref (G.1 1))]) E d_Tokens_cut_19 rfl (by decide) rfl ?_
  refine Sm_iconst (v := 0) E d_Tokens_cut_20 (by decide) ?_
  refine Sm_istore_n (lv' := [(3, .int 0), (2, .int 0), (0, .ref (G.1 10)), (1, .ref (G.1 1))]) E d_Tokens_cut_21 rfl (by decide) rfl ?_
  exact Sm_sub [2, 1, 0] rfl (tC_Tokens_cut_L22 E hR FU _ _ _)
set_option maxRecDepth 100000 in
set_option maxHeartbeats 4000000 in
theorem cC_Preconditions_checkIndex {l : Launch} {D : va_G} {G : Gx} (x0 : Int32) (x1 : Int32) (u : St) {res : Int32} (hm : mC_Preconditions_checkIndex x0 x1 u = some res) : KC l D G y_Preconditions_checkIndex (.code y_Preconditions_checkIndex prog_19_method_11_code 3 (some .int)) { frames := 0, cells := 0, slots := 0, locals := 0 } [.int x0, .int x1, va_rf G.2.2.2.2.2] u (qI D vwCl (wC G) (tyW G) (adsC G) (res, u)) := by
  refine Ct_i (by decide) wC_as (by cases G.2.2.2.2.2 <;> exact Nat.le_of_ble_eq_true rfl) hm (fun X _ _ E hR => ?_)
  refine Sm_lvs (lv' := [(0, .int x0), (1, .int x1), (2, va_rf G.2.2.2.2.2)]) rfl ?_
  rw [mC_Preconditions_checkIndex]
  refine Sm_iload_n E d_Preconditions_checkIndex_0 rfl 0 rfl ?_
  refine Sm_if_lt (tgt := 9) E d_Preconditions_checkIndex_1 (by decide) (fun _ => ?_) (fun _ => ?_)
  · exact Sm_none
  · refine Sm_iload_n E d_Preconditions_checkIndex_4 rfl 0 rfl ?_
    refine Sm_iload_n E d_Preconditions_checkIndex_5 rfl 1 rfl ?_
    refine Sm_icmp_lt (tgt := 16) E d_Preconditions_checkIndex_6 (by decide) (fun _ => ?_) (fun _ => ?_)
    · refine Sm_iload_n E d_Preconditions_checkIndex_16 rfl 0 rfl ?_
      exact Sm_reti hR d_Preconditions_checkIndex_17
    · exact Sm_none
set_option maxRecDepth 100000 in
set_option maxHeartbeats 4000000 in
theorem cC_String_checkIndex {l : Launch} {D : va_G} {G : Gx} (x0 : Int32) (x1 : Int32) (u : St) (hm : mC_String_checkIndex x0 x1 u = some ()) : KC l D G y_String_checkIndex (.code y_String_checkIndex prog_14_method_155_code 2 none) { frames := 1, cells := 0, slots := 0, locals := 22 } [.int x0, .int x1] u (qV D vwCl (wC G) (tyW G) (adsC G) u) := by
  refine Ct_v (by decide) wC_as (Nat.le_of_ble_eq_true rfl) hm (fun X _ _ E hR => ?_)
  refine Sm_lvs (lv' := [(0, .int x0), (1, .int x1)]) rfl ?_
  rw [mC_String_checkIndex]
  refine Sm_iload_n E d_String_checkIndex_0 rfl 0 rfl ?_
  refine Sm_iload_n E d_String_checkIndex_1 rfl 1 rfl ?_
  refine Sm_gsX E fl_String_1053 d_String_checkIndex_2 ?_
  refine Sm_cSi (As := [.int x0, .int x1, va_rf G.2.2.2.2.2]) (st := []) (n := 3) E exOk wC_as (fun _ h => cC_Preconditions_checkIndex x0 x1 u h) gk_String_1059 dk_Preconditions_checkIndex rfl ⟨rfl, rfl⟩ ⟨Nat.le_of_ble_eq_true rfl, Nat.le_of_ble_eq_true rfl⟩ rfl (Nat.le_of_ble_eq_true rfl) d_String_checkIndex_5 fun r1 _ => ?_
  refine Sm_pop E d_String_checkIndex_8 rfl ?_
  exact Sm_retv hR d_String_checkIndex_9
set_option maxRecDepth 100000 in
set_option maxHeartbeats 4000000 in
theorem cC_StringLatin1_charAt {l : Launch} {D : va_G} {G : Gx} (k0 : Nat) (x1 : Int32) (u : St) {res : Int32} (hm : mC_StringLatin1_charAt k0 x1 u = some res) : KC l D G y_StringLatin1_charAt (.code y_StringLatin1_charAt prog_15_method_2_code 2 (some .char)) { frames := 2, cells := 0, slots := 0, locals := 43 } [.ref (G.2.2.2.1 k0), .int x1] u (qI D vwCl (wC G) (tyW G) (adsC G) (res, u)) := by
  refine Ct_z (by decide) wC_as (Nat.le_of_ble_eq_true rfl) hm (fun X _ _ E hR => ?_)
  refine Sm_lvs (lv' := [(0, .ref (G.2.2.2.1 k0)), (1, .int x1)]) rfl ?_
  rw [mC_StringLatin1_charAt]
  refine Sm_iload_n E d_StringLatin1_charAt_0 rfl 1 rfl ?_
  refine Sm_aload_n E d_StringLatin1_charAt_1 rfl 0 rfl ?_
  refine Sm_gd fun hk => Sm_strn E hk d_StringLatin1_charAt_2 ?_
  refine Sm_cSv (As := [.int x1, .int (nI (lnK k0))]) (st := []) (n := 2) E exOk wC_as (fun h => cC_String_checkIndex x1 (nI (lnK k0)) u h) gk_StringLatin1_9 dk_String_checkIndex rfl ⟨rfl, rfl⟩ ⟨Nat.le_of_ble_eq_true rfl, Nat.le_of_ble_eq_true rfl⟩ rfl (Nat.le_of_ble_eq_true rfl) d_StringLatin1_charAt_3 fun _ _ => ?_
  refine Sm_aload_n E d_StringLatin1_charAt_6 rfl 0 rfl ?_
  refine Sm_iload_n E d_StringLatin1_charAt_7 rfl 1 rfl ?_
  refine Sm_gd fun hk => Sm_gd fun hi => Sm_strb E hk (inb_in hi) d_StringLatin1_charAt_8 ?_
  refine Sm_sipush (v := 255) E d_StringLatin1_charAt_9 (by decide) ?_
  refine Sm_iand E d_StringLatin1_charAt_12 ?_
  refine Sm_i2c E d_StringLatin1_charAt_13 ?_
  exact Sm_retz hR (pk_nc _) d_StringLatin1_charAt_14
set_option maxRecDepth 100000 in
set_option maxHeartbeats 4000000 in
theorem cC_String_charAt {l : Launch} {D : va_G} {G : Gx} (k0 : Nat) (x1 : Int32) (u : St) {res : Int32} (hm : mC_String_charAt k0 x1 u = some res) : KC l D G y_String_charAt (.code y_String_charAt prog_14_method_56_code 2 (some .char)) { frames := 3, cells := 0, slots := 0, locals := 64 } [.ref (G.2.2.1 k0), .int x1] u (qI D vwCl (wC G) (tyW G) (adsC G) (res, u)) := by
  refine Ct_z (by decide) wC_as (Nat.le_of_ble_eq_true rfl) hm (fun X _ _ E hR => ?_)
  refine Sm_lvs (lv' := [(0, .ref (G.2.2.1 k0)), (1, .int x1)]) rfl ?_
  rw [mC_String_charAt]
  refine Sm_aload_n E d_String_charAt_0 rfl 0 rfl ?_
  refine Sm_gd fun hk => Sm_cVi (As := []) (b := (G.2.2.1 k0)) (st := []) (n := 0) E exOk wC_as (fun _ h => cC_String_isLatin1 k0 u h) gk_String_492 dk_String_isLatin1 rfl ⟨rfl, rfl⟩ ⟨Nat.le_of_ble_eq_true rfl, Nat.le_of_ble_eq_true rfl⟩ (rvS E hk rfl) rfl (Nat.le_of_ble_eq_true rfl) d_String_charAt_1 fun r1 _ => ?_
  refine Sm_if_eq (tgt := 16) E d_String_charAt_4 (by decide) (fun _ => ?_) (fun _ => ?_)
  · refine Sm_aload_n E d_String_charAt_16 rfl 0 rfl ?_
    refine Sm_gd fun hk => Sm_strV E hk fl_String_9 d_String_charAt_17 ?_
    refine Sm_iload_n E d_String_charAt_20 rfl 1 rfl ?_
    exact Sm_none
  · refine Sm_aload_n E d_String_charAt_7 rfl 0 rfl ?_
    refine Sm_gd fun hk => Sm_strV E hk fl_String_9 d_String_charAt_8 ?_
    refine Sm_iload_n E d_String_charAt_11 rfl 1 rfl ?_
    refine Sm_cSi (As := [.ref (G.2.2.2.1 k0), .int x1]) (st := []) (n := 2) E exOk wC_as (fun _ h => cC_StringLatin1_charAt k0 x1 u h) gk_String_495 dk_StringLatin1_charAt rfl ⟨rfl, rfl⟩ ⟨Nat.le_of_ble_eq_true rfl, Nat.le_of_ble_eq_true rfl⟩ rfl (Nat.le_of_ble_eq_true rfl) d_String_charAt_12 fun r2 _ => ?_
    exact Sm_gd fun hz => Sm_retz hR (cb_n hz) d_String_charAt_15
set_option maxRecDepth 100000 in
set_option maxHeartbeats 4000000 in
theorem tC_Tokens_takes_L53 {X : Cx} {G : Gx} {res : Int32 × St} (E : EC X G prog_9_method_5_code R_Tokens 5 { frames := 4, cells := 0, slots := 0, locals := 85 }) (hR : RtZ X vwCl (wC G) prog_9_method_5_code .boolean res) : ∀ (n : Nat) (k1 : Nat) (x3 : Int32) (x4 : Int32) (u : St), SC X G 5 res (mC_Tokens_takes_L53 n k1 x3 x4 u) u 53 [(0, .ref (G.1 10)), (1, .ref (G.2.2.1 k1)), (3, .int x3), (4, .int x4)] [] := by
  intro n
  induction n with
  | zero => intro k1 x3 x4 u; exact Sm_none
  | succ n h53 =>
    intro k1 x3 x4 u
    rw [mC_Tokens_takes_L53]
    refine Sm_iload E d_Tokens_takes_53 3 rfl ?_
    refine Sm_aload_n E d_Tokens_takes_55 rfl 1 rfl ?_
    refine Sm_gd fun hk => Sm_cVi (As := []) (b := (G.2.2.1 k1)) (st := [.int x4]) (n := 0) E exOk wC_as (fun _ h => cC_String_length k1 u h) gk_Tokens_44 dk_String_length rfl ⟨rfl, rfl⟩ ⟨Nat.le_of_ble_eq_true rfl, Nat.le_of_ble_eq_true rfl⟩ (rvS E hk rfl) rfl (Nat.le_of_ble_eq_true rfl) d_Tokens_takes_56 fun r4 _ => ?_
    refine Sm_icmp_ge (tgt := 90) E d_Tokens_takes_59 (by decide) (fun _ => ?_) (fun _ => ?_)
    · refine Sm_aload_n E d_Tokens_takes_90 rfl 0 rfl ?_
      refine Sm_dup E d_Tokens_takes_91 rfl ?_
      refine gfC_10_next E fl_Tokens_28 d_Tokens_takes_92 ?_
      refine Sm_iconst (v := 1) E d_Tokens_takes_95 (by decide) ?_
      refine Sm_iadd E d_Tokens_takes_96 ?_
      refine pfC_10_next E fl_Tokens_28 d_Tokens_takes_97 fun u5 _ => ?_
      refine Sm_iconst (v := 1) E d_Tokens_takes_100 (by decide) ?_
      exact Sm_retZ hR (by decide) d_Tokens_takes_101
    · refine Sm_aload_n E d_Tokens_takes_62 rfl 0 rfl ?_
      refine gfC_10_text E fl_Tokens_10 d_Tokens_takes_63 ?_
      refine Sm_iload_n E d_Tokens_takes_66 rfl 2 rfl ?_
      refine Sm_iload E d_Tokens_takes_67 3 rfl ?_
      refine Sm_iadd E d_Tokens_takes_69 ?_
      refine Sm_cVi (As := [.int (x3 + x4)]) (b := (G.1 11)) (st := []) (n := 1) E exOk wC_as (fun _ h => cC_Text_at_11 (x3 + x4) u h) gk_Tokens_34 dk_Text_at rfl ⟨rfl, rfl⟩ ⟨Nat.le_of_ble_eq_true rfl, Nat.le_of_ble_eq_true rfl⟩ (rvW (q0 := 11) (ci := 8) E rfl rfl rfl) rfl (Nat.le_of_ble_eq_true rfl) d_Tokens_takes_70 fun r6 _ => ?_
      refine Sm_aload_n E d_Tokens_takes_73 rfl 1 rfl ?_
      refine Sm_iload E d_Tokens_takes_74 3 rfl ?_
      refine Sm_gd fun hk => Sm_cVi (As := [.int x4]) (b := (G.2.2.1 k1)) (st := [.int r6]) (n := 1) E exOk wC_as (fun _ h => cC_String_charAt k1 x4 u h) gk_Tokens_52 dk_String_charAt rfl ⟨rfl, rfl⟩ ⟨Nat.le_of_ble_eq_true rfl, Nat.le_of_ble_eq_true rfl⟩ (rvS E hk rfl) rfl (Nat.le_of_ble_eq_true rfl) d_Tokens_takes_76 fun r7 _ => ?_
      refine Sm_icmp_eq (tgt := 84) E d_Tokens_takes_79 (by decide) (fun _ => ?_) (fun _ => ?_)
      · refine Sm_iinc (k := 3) (d := 1) E d_Tokens_takes_84 rfl rfl (by decide) fun y8 _ => Sm_lvs (lv' := [(4, .int y8), (0, .ref (G.1 10)), (1, .ref (G.2.2.1 k1)), (3, .int x3)]) rfl ?_
        refine Sm_goto (tgt := 53) E d_Tokens_takes_87 (by decide) ?_
        exact Sm_sub [1, 2, 3, 0] rfl (h53 _ _ _ _)
      · refine Sm_iconst (v := 0) E d_Tokens_takes_82 (by decide) ?_
        exact Sm_retZ hR (by decide) d_Tokens_takes_83
set_option maxRecDepth 100000 in
set_option maxHeartbeats 4000000 in
theorem tC_Tokens_takes_J24 {X : Cx} {G : Gx} {res : Int32 × St} (E : EC X G prog_9_method_5_code R_Tokens 5 { frames := 4, cells := 0, slots := 0, locals := 85 }) (hR : RtZ X vwCl (wC G) prog_9_method_5_code .boolean res) : ∀ (k1 : Nat) (s0 : Int32) (u : St), SC X G 5 res (mC_Tokens_takes_J24 k1 s0 u) u 24 [(0, .ref (G.1 10)), (1, .ref (G.2.2.1 k1))] [.int s0] := by
  intro k1 s0 u
  rw [mC_Tokens_takes_J24]
  refine Sm_istore_n (lv' := [(2, .int s0), (0, .ref (G.1 10)), (1, .ref (G.2.2.1 k1))]) E d_Tokens_takes_24 rfl (by decide) rfl ?_
  refine Sm_iload_n E d_Tokens_takes_25 rfl 0 rfl ?_
  refine Sm_bipush (v := 16) E d_Tokens_takes_26 (by decide) ?_
  refine Sm_ishr E d_Tokens_takes_28 ?_
  refine Sm_if_ne (tgt := 43) E d_Tokens_takes_29 (by decide) (fun _ => ?_) (fun _ => ?_)
  · refine Sm_iconst (v := 0) E d_Tokens_takes_43 (by decide) ?_
    exact Sm_retZ hR (by decide) d_Tokens_takes_44
  · refine Sm_iload_n E d_Tokens_takes_32 rfl 0 rfl ?_
    refine Sm_cSi (As := [.int s0]) (st := []) (n := 1) E exOk wC_as (fun _ h => cC_Text_sizeOf s0 u h) gk_Tokens_41 dk_Text_sizeOf rfl ⟨rfl, rfl⟩ ⟨Nat.le_of_ble_eq_true rfl, Nat.le_of_ble_eq_true rfl⟩ rfl (Nat.le_of_ble_eq_true rfl) d_Tokens_takes_33 fun r1 _ => ?_
    refine Sm_aload_n E d_Tokens_takes_36 rfl 2 rfl ?_
    refine Sm_gd fun hk => Sm_cVi (As := []) (b := (G.2.2.1 k1)) (st := [.int r1]) (n := 0) E exOk wC_as (fun _ h => cC_String_length k1 u h) gk_Tokens_44 dk_String_length rfl ⟨rfl, rfl⟩ ⟨Nat.le_of_ble_eq_true rfl, Nat.le_of_ble_eq_true rfl⟩ (rvS E hk rfl) rfl (Nat.le_of_ble_eq_true rfl) d_Tokens_takes_37 fun r2 _ => ?_
    refine Sm_icmp_eq (tgt := 45) E d_Tokens_takes_40 (by decide) (fun _ => ?_) (fun _ => ?_)
    · refine Sm_iload_n E d_Tokens_takes_45 rfl 0 rfl ?_
      refine Sm_cSi (As := [.int s0]) (st := []) (n := 1) E exOk wC_as (fun _ h => cC_Text_startOf s0 u h) gk_Tokens_49 dk_Text_startOf rfl ⟨rfl, rfl⟩ ⟨Nat.le_of_ble_eq_true rfl, Nat.le_of_ble_eq_true rfl⟩ rfl (Nat.le_of_ble_eq_true rfl) d_Tokens_takes_46 fun r3 _ => ?_
      refine Sm_istore_n (lv' := [(3, .int r3), (2, .int s0), (0, .ref (G.1 10)), (1, .ref (G.2.2.1 k1))]) E d_Tokens_takes_49 rfl (by decide) rfl ?_
      refine Sm_iconst (v := 0) E d_Tokens_takes_50 (by decide) ?_
      refine Sm_istore (lv' := [(4, .int 0), (3, .int r3), (2, .int s0), (0, .ref (G.1 10)), (1, .ref (G.2.2.1 k1))]) E d_Tokens_takes_51 (by decide) rfl ?_
      exact Sm_sub [3, 4, 1, 0] rfl (tC_Tokens_takes_L53 E hR FU _ _ _ _)
    · refine Sm_iconst (v := 0) E d_Tokens_takes_43 (by decide) ?_
      exact Sm_retZ hR (by decide) d_Tokens_takes_44
set_option maxRecDepth 100000 in
set_option maxHeartbeats 4000000 in
theorem cC_Tokens_takes {l : Launch} {D : va_G} {G : Gx} (k1 : Nat) (u : St) {res : Int32 × St} (hm : mC_Tokens_takes k1 u = some res) : KC l D G y_Tokens_takes (.code y_Tokens_takes prog_9_method_5_code 5 (some .boolean)) { frames := 4, cells := 0, slots := 0, locals := 85 } [.ref (G.1 10), .ref (G.2.2.1 k1)] u (qI D vwCl (wC G) (tyW G) (adsC G) res) := by
  refine Ct_Z (by decide) wC_as (Nat.le_of_ble_eq_true rfl) hm (fun X _ _ E hR => ?_)
  refine Sm_lvs (lv' := [(0, .ref (G.1 10)), (1, .ref (G.2.2.1 k1))]) rfl ?_
  rw [mC_Tokens_takes]
  refine Sm_aload_n E d_Tokens_takes_0 rfl 0 rfl ?_
  refine gfC_10_next E fl_Tokens_28 d_Tokens_takes_1 ?_
  refine Sm_aload_n E d_Tokens_takes_4 rfl 0 rfl ?_
  refine gfC_10_size E fl_Tokens_24 d_Tokens_takes_5 ?_
  refine Sm_icmp_ge (tgt := 23) E d_Tokens_takes_8 (by decide) (fun _ => ?_) (fun _ => ?_)
  · refine Sm_iconst (v := (-1)) E d_Tokens_takes_23 (by decide) ?_
    exact Sm_sub [0, 1] rfl (tC_Tokens_takes_J24 E hR _ _ _)
  · refine Sm_aload_n E d_Tokens_takes_11 rfl 0 rfl ?_
    refine gfC_10_entries E fl_Tokens_16 d_Tokens_takes_12 ?_
    refine Sm_aload_n E d_Tokens_takes_15 rfl 0 rfl ?_
    refine gfC_10_next E fl_Tokens_28 d_Tokens_takes_16 ?_
    refine Sm_gd fun hi => ldC_13 E (inb_in hi) d_Tokens_takes_19 ?_
    refine Sm_goto (tgt := 24) E d_Tokens_takes_20 (by decide) ?_
    exact Sm_sub [0, 1] rfl (tC_Tokens_takes_J24 E hR _ _ _)
set_option maxRecDepth 100000 in
set_option maxHeartbeats 4000000 in
theorem cC_Tokens_take {l : Launch} {D : va_G} {G : Gx} (x1 : Int32) (u : St) {res : Int32 × St} (hm : mC_Tokens_take x1 u = some res) : KC l D G y_Tokens_take (.code y_Tokens_take prog_9_method_6_code 2 (some .int)) { frames := 0, cells := 0, slots := 0, locals := 0 } [.ref (G.1 10), .int x1] u (qI D vwCl (wC G) (tyW G) (adsC G) res) := by
  refine Ct_I (by decide) wC_as (Nat.le_of_ble_eq_true rfl) hm (fun X _ _ E hR => ?_)
  refine Sm_lvs (lv' := [(0, .ref (G.1 10)), (1, .int x1)]) rfl ?_
  rw [mC_Tokens_take]
  refine Sm_aload_n E d_Tokens_take_0 rfl 0 rfl ?_
  refine gfC_10_next E fl_Tokens_28 d_Tokens_take_1 ?_
  refine Sm_aload_n E d_Tokens_take_4 rfl 0 rfl ?_
  refine gfC_10_size E fl_Tokens_24 d_Tokens_take_5 ?_
  refine Sm_icmp_ge (tgt := 27) E d_Tokens_take_8 (by decide) (fun _ => ?_) (fun _ => ?_)
  · refine Sm_iconst (v := (-1)) E d_Tokens_take_27 (by decide) ?_
    exact Sm_retI hR d_Tokens_take_28
  · refine Sm_aload_n E d_Tokens_take_11 rfl 0 rfl ?_
    refine gfC_10_entries E fl_Tokens_16 d_Tokens_take_12 ?_
    refine Sm_aload_n E d_Tokens_take_15 rfl 0 rfl ?_
    refine gfC_10_next E fl_Tokens_28 d_Tokens_take_16 ?_
    refine Sm_gd fun hi => ldC_13 E (inb_in hi) d_Tokens_take_19 ?_
    refine Sm_bipush (v := 16) E d_Tokens_take_20 (by decide) ?_
    refine Sm_ishr E d_Tokens_take_22 ?_
    refine Sm_iload_n E d_Tokens_take_23 rfl 1 rfl ?_
    refine Sm_icmp_eq (tgt := 29) E d_Tokens_take_24 (by decide) (fun _ => ?_) (fun _ => ?_)
    · refine Sm_aload_n E d_Tokens_take_29 rfl 0 rfl ?_
      refine Sm_dup E d_Tokens_take_30 rfl ?_
      refine gfC_10_next E fl_Tokens_28 d_Tokens_take_31 ?_
      refine Sm_iconst (v := 1) E d_Tokens_take_34 (by decide) ?_
      refine Sm_iadd E d_Tokens_take_35 ?_
      refine pfC_10_next E fl_Tokens_28 d_Tokens_take_36 fun u1 _ => ?_
      refine Sm_aload_n E d_Tokens_take_39 rfl 0 rfl ?_
      refine gfC_10_entries E fl_Tokens_16 d_Tokens_take_40 ?_
      refine Sm_aload_n E d_Tokens_take_43 rfl 0 rfl ?_
      refine gfC_10_next E fl_Tokens_28 d_Tokens_take_44 ?_
      refine Sm_iconst (v := 1) E d_Tokens_take_47 (by decide) ?_
      refine Sm_isub E d_Tokens_take_48 ?_
      refine Sm_gd fun hi => ldC_13 E (inb_in hi) d_Tokens_take_49 ?_
      refine Sm_ldc (v := 65535) E kc_Tokens_56 d_Tokens_take_50 ?_
      refine Sm_iand E d_Tokens_take_52 ?_
      exact Sm_retI hR d_Tokens_take_53
    · refine Sm_iconst (v := (-1)) E d_Tokens_take_27 (by decide) ?_
      exact Sm_retI hR d_Tokens_take_28
set_option maxRecDepth 100000 in
set_option maxHeartbeats 4000000 in
theorem cC_Parser_title {l : Launch} {D : va_G} {G : Gx} (u : St) {res : Int32 × St} (hm : mC_Parser_title u = some res) : KC l D G y_Parser_title (.code y_Parser_title prog_6_method_7_code 1 (some .boolean)) { frames := 1, cells := 0, slots := 0, locals := 21 } [.ref (G.1 28)] u (qI D vwCl (wC G) (tyW G) (adsC G) res) := by
  refine Ct_Z (by decide) wC_as (Nat.le_of_ble_eq_true rfl) hm (fun X _ _ E hR => ?_)
  refine Sm_lvs (lv' := [(0, .ref (G.1 28))]) rfl ?_
  rw [mC_Parser_title]
  refine Sm_aload_n E d_Parser_title_0 rfl 0 rfl ?_
  refine gfC_28_statement E fl_Parser_23 d_Parser_title_1 ?_
  refine Sm_aload_n E d_Parser_title_4 rfl 0 rfl ?_
  refine gfC_28_tokens E fl_Parser_9 d_Parser_title_5 ?_
  refine Sm_iconst (v := 1) E d_Parser_title_8 (by decide) ?_
  refine Sm_cVI (As := [.int 1]) (b := (G.1 10)) (st := [.ref (G.1 27)]) (n := 1) E exOk wC_as (fun _ h => cC_Tokens_take 1 u h) gk_Parser_129 dk_Tokens_take rfl ⟨rfl, rfl⟩ ⟨Nat.le_of_ble_eq_true rfl, Nat.le_of_ble_eq_true rfl⟩ (rvW (q0 := 10) (ci := 9) E rfl rfl rfl) rfl (Nat.le_of_ble_eq_true rfl) d_Parser_title_9 fun r1 u2 _ => ?_
  refine pfC_27_title E fl_Parser_133 d_Parser_title_12 fun u3 _ => ?_
  refine Sm_aload_n E d_Parser_title_15 rfl 0 rfl ?_
  refine gfC_28_statement E fl_Parser_23 d_Parser_title_16 ?_
  refine gfC_27_title E fl_Parser_133 d_Parser_title_19 ?_
  refine Sm_if_lt (tgt := 29) E d_Parser_title_22 (by decide) (fun _ => ?_) (fun _ => ?_)
  · refine Sm_iconst (v := 0) E d_Parser_title_29 (by decide) ?_
    exact Sm_retZ hR (by decide) d_Parser_title_30
  · refine Sm_iconst (v := 1) E d_Parser_title_25 (by decide) ?_
    refine Sm_goto (tgt := 30) E d_Parser_title_26 (by decide) ?_
    exact Sm_retZ hR (by decide) d_Parser_title_30
set_option maxRecDepth 100000 in
set_option maxHeartbeats 4000000 in
theorem cC_Parser_begins {l : Launch} {D : va_G} {G : Gx} (u : St) {res : Int32 × St} (hm : mC_Parser_begins u = some res) : KC l D G y_Parser_begins (.code y_Parser_begins prog_6_method_2_code 1 (some .boolean)) { frames := 5, cells := 0, slots := 0, locals := 109 } [.ref (G.1 28)] u (qI D vwCl (wC G) (tyW G) (adsC G) res) := by
  refine Ct_Z (by decide) wC_as (Nat.le_of_ble_eq_true rfl) hm (fun X _ _ E hR => ?_)
  refine Sm_lvs (lv' := [(0, .ref (G.1 28))]) rfl ?_
  rw [mC_Parser_begins]
  refine Sm_aload_n E d_Parser_begins_0 rfl 0 rfl ?_
  refine Sm_aload_n E d_Parser_begins_1 rfl 0 rfl ?_
  refine gfC_28_tokens E fl_Parser_9 d_Parser_begins_2 ?_
  refine Sm_ldcS E sr_Parser_27 d_Parser_begins_5 ?_
  refine Sm_cVI (As := [.ref (G.2.2.1 1)]) (b := (G.1 10)) (st := [.ref (G.1 28)]) (n := 1) E exOk wC_as (fun _ h => cC_Tokens_takes 1 u h) gk_Parser_29 dk_Tokens_takes rfl ⟨rfl, rfl⟩ ⟨Nat.le_of_ble_eq_true rfl, Nat.le_of_ble_eq_true rfl⟩ (rvW (q0 := 10) (ci := 9) E rfl rfl rfl) rfl (Nat.le_of_ble_eq_true rfl) d_Parser_begins_7 fun r1 u2 _ => ?_
  refine Sm_gd fun hz => pfC_28_prepared E fl_Parser_35 d_Parser_begins_10 (zb_n hz) (zb_f hz) fun u3 _ => ?_
  refine Sm_aload_n E d_Parser_begins_13 rfl 0 rfl ?_
  refine gfC_28_prepared E fl_Parser_35 d_Parser_begins_14 ?_
  refine Sm_if_eq (tgt := 39) E d_Parser_begins_17 (by decide) (fun _ => ?_) (fun _ => ?_)
  · refine Sm_iconst (v := 1) E d_Parser_begins_39 (by decide) ?_
    refine Sm_goto (tgt := 44) E d_Parser_begins_40 (by decide) ?_
    exact Sm_retZ hR (by decide) d_Parser_begins_44
  · refine Sm_aload_n E d_Parser_begins_20 rfl 0 rfl ?_
    refine Sm_cVI (As := []) (b := (G.1 28)) (st := []) (n := 0) E exOk wC_as (fun _ h => cC_Parser_title u3 h) gk_Parser_39 dk_Parser_title rfl ⟨rfl, rfl⟩ ⟨Nat.le_of_ble_eq_true rfl, Nat.le_of_ble_eq_true rfl⟩ (rvW (q0 := 28) (ci := 6) E rfl rfl rfl) rfl (Nat.le_of_ble_eq_true rfl) d_Parser_begins_21 fun r4 u5 _ => ?_
    refine Sm_if_eq (tgt := 43) E d_Parser_begins_24 (by decide) (fun _ => ?_) (fun _ => ?_)
    · refine Sm_iconst (v := 0) E d_Parser_begins_43 (by decide) ?_
      exact Sm_retZ hR (by decide) d_Parser_begins_44
    · refine Sm_aload_n E d_Parser_begins_27 rfl 0 rfl ?_
      refine gfC_28_tokens E fl_Parser_9 d_Parser_begins_28 ?_
      refine Sm_ldcS E sr_Parser_43 d_Parser_begins_31 ?_
      refine Sm_cVI (As := [.ref (G.2.2.1 2)]) (b := (G.1 10)) (st := []) (n := 1) E exOk wC_as (fun _ h => cC_Tokens_takes 2 u5 h) gk_Parser_29 dk_Tokens_takes rfl ⟨rfl, rfl⟩ ⟨Nat.le_of_ble_eq_true rfl, Nat.le_of_ble_eq_true rfl⟩ (rvW (q0 := 10) (ci := 9) E rfl rfl rfl) rfl (Nat.le_of_ble_eq_true rfl) d_Parser_begins_33 fun r6 u7 _ => ?_
      refine Sm_if_eq (tgt := 43) E d_Parser_begins_36 (by decide) (fun _ => ?_) (fun _ => ?_)
      · refine Sm_iconst (v := 0) E d_Parser_begins_43 (by decide) ?_
        exact Sm_retZ hR (by decide) d_Parser_begins_44
      · refine Sm_iconst (v := 1) E d_Parser_begins_39 (by decide) ?_
        refine Sm_goto (tgt := 44) E d_Parser_begins_40 (by decide) ?_
        exact Sm_retZ hR (by decide) d_Parser_begins_44
set_option maxRecDepth 100000 in
set_option maxHeartbeats 4000000 in
theorem cC_Nodes_size {l : Launch} {D : va_G} {G : Gx} (u : St) {res : Int32} (hm : mC_Nodes_size u = some res) : KC l D G y_Nodes_size (.code y_Nodes_size prog_5_method_6_code 1 (some .int)) { frames := 0, cells := 0, slots := 0, locals := 0 } [.ref (G.1 14)] u (qI D vwCl (wC G) (tyW G) (adsC G) (res, u)) := by
  refine Ct_i (by decide) wC_as (Nat.le_of_ble_eq_true rfl) hm (fun X _ _ E hR => ?_)
  refine Sm_lvs (lv' := [(0, .ref (G.1 14))]) rfl ?_
  rw [mC_Nodes_size]
  refine Sm_aload_n E d_Nodes_size_0 rfl 0 rfl ?_
  refine gfC_14_size E fl_Nodes_39 d_Nodes_size_1 ?_
  exact Sm_reti hR d_Nodes_size_4
set_option maxRecDepth 100000 in
set_option maxHeartbeats 4000000 in
theorem cC_Nodes_leaf {l : Launch} {D : va_G} {G : Gx} (x1 : Int32) (x2 : Int32) (x3 : Int32) (x4 : Int32) (u : St) {res : Int32 × St} (hm : mC_Nodes_leaf x1 x2 x3 x4 u = some res) : KC l D G y_Nodes_leaf (.code y_Nodes_leaf prog_5_method_10_code 6 (some .int)) { frames := 0, cells := 0, slots := 0, locals := 0 } [.ref (G.1 14), .int x1, .int x2, .int x3, .int x4] u (qI D vwCl (wC G) (tyW G) (adsC G) res) := by
  refine Ct_I (by decide) wC_as (Nat.le_of_ble_eq_true rfl) hm (fun X _ _ E hR => ?_)
  refine Sm_lvs (lv' := [(0, .ref (G.1 14)), (1, .int x1), (2, .int x2), (3, .int x3), (4, .int x4)]) rfl ?_
  rw [mC_Nodes_leaf]
  refine Sm_aload_n E d_Nodes_leaf_0 rfl 0 rfl ?_
  refine gfC_14_size E fl_Nodes_39 d_Nodes_leaf_1 ?_
  refine Sm_sipush (v := 200) E d_Nodes_leaf_4 (by decide) ?_
  refine Sm_icmp_lt (tgt := 17) E d_Nodes_leaf_7 (by decide) (fun _ => ?_) (fun _ => ?_)
  · refine Sm_aload_n E d_Nodes_leaf_17 rfl 0 rfl ?_
    refine gfC_14_size E fl_Nodes_39 d_Nodes_leaf_18 ?_
    refine Sm_leti fun y1 _ => ?_
    refine Sm_istore (lv' := [(5, .int y1), (0, .ref (G.1 14)), (1, .int x1), (2, .int x2), (3, .int x3), (4, .int x4)]) E d_Nodes_leaf_21 (by decide) rfl ?_
    refine Sm_aload_n E d_Nodes_leaf_23 rfl 1 rfl ?_
    refine gfC_14_kinds E fl_Nodes_11 d_Nodes_leaf_24 ?_
    refine Sm_iload E d_Nodes_leaf_27 0 rfl ?_
    refine Sm_iload_n E d_Nodes_leaf_29 rfl 2 rfl ?_
    refine Sm_gd fun hi => stC_15 E (inb_in hi) d_Nodes_leaf_30 fun u2 _ => ?_
    refine Sm_aload_n E d_Nodes_leaf_31 rfl 1 rfl ?_
    refine gfC_14_firsts E fl_Nodes_15 d_Nodes_leaf_32 ?_
    refine Sm_iload E d_Nodes_leaf_35 0 rfl ?_
    refine Sm_iload_n E d_Nodes_leaf_37 rfl 3 rfl ?_
    refine Sm_gd fun hi => stC_16 E (inb_in hi) d_Nodes_leaf_38 fun u3 _ => ?_
    refine Sm_aload_n E d_Nodes_leaf_39 rfl 1 rfl ?_
    refine gfC_14_seconds E fl_Nodes_18 d_Nodes_leaf_40 ?_
    refine Sm_iload E d_Nodes_leaf_43 0 rfl ?_
    refine Sm_iconst (v := (-1)) E d_Nodes_leaf_45 (by decide) ?_
    refine Sm_gd fun hi => stC_17 E (inb_in hi) d_Nodes_leaf_46 fun u4 _ => ?_
    refine Sm_aload_n E d_Nodes_leaf_47 rfl 1 rfl ?_
    refine gfC_14_types E fl_Nodes_21 d_Nodes_leaf_48 ?_
    refine Sm_iload E d_Nodes_leaf_51 0 rfl ?_
    refine Sm_iconst (v := 0) E d_Nodes_leaf_53 (by decide) ?_
    refine Sm_gd fun hi => stC_18 E (inb_in hi) d_Nodes_leaf_54 fun u5 _ => ?_
    refine Sm_aload_n E d_Nodes_leaf_55 rfl 1 rfl ?_
    refine gfC_14_parents E fl_Nodes_24 d_Nodes_leaf_56 ?_
    refine Sm_iload E d_Nodes_leaf_59 0 rfl ?_
    refine Sm_iconst (v := (-1)) E d_Nodes_leaf_61 (by decide) ?_
    refine Sm_gd fun hi => stC_19 E (inb_in hi) d_Nodes_leaf_62 fun u6 _ => ?_
    refine Sm_aload_n E d_Nodes_leaf_63 rfl 1 rfl ?_
    refine gfC_14_needs E fl_Nodes_27 d_Nodes_leaf_64 ?_
    refine Sm_iload E d_Nodes_leaf_67 0 rfl ?_
    refine Sm_iconst (v := 0) E d_Nodes_leaf_69 (by decide) ?_
    refine Sm_gd fun hi => stC_20 E (inb_in hi) d_Nodes_leaf_70 fun u7 _ => ?_
    refine Sm_aload_n E d_Nodes_leaf_71 rfl 1 rfl ?_
    refine gfC_14_faults E fl_Nodes_30 d_Nodes_leaf_72 ?_
    refine Sm_iload E d_Nodes_leaf_75 0 rfl ?_
    refine Sm_iconst (v := 0) E d_Nodes_leaf_77 (by decide) ?_
    refine Sm_gd fun hi => stC_21 E (inb_in hi) d_Nodes_leaf_78 fun u8 _ => ?_
    refine Sm_aload_n E d_Nodes_leaf_79 rfl 1 rfl ?_
    refine gfC_14_spans E fl_Nodes_33 d_Nodes_leaf_80 ?_
    refine Sm_iload E d_Nodes_leaf_83 0 rfl ?_
    refine Sm_iload_n E d_Nodes_leaf_85 rfl 4 rfl ?_
    refine Sm_gd fun hi => stC_22 E (inb_in hi) d_Nodes_leaf_86 fun u9 _ => ?_
    refine Sm_aload_n E d_Nodes_leaf_87 rfl 1 rfl ?_
    refine gfC_14_qualifiers E fl_Nodes_36 d_Nodes_leaf_88 ?_
    refine Sm_iload E d_Nodes_leaf_91 0 rfl ?_
    refine Sm_iload E d_Nodes_leaf_93 5 rfl ?_
    refine Sm_gd fun hi => stC_23 E (inb_in hi) d_Nodes_leaf_95 fun u10 _ => ?_
    refine Sm_aload_n E d_Nodes_leaf_96 rfl 1 rfl ?_
    refine Sm_dup E d_Nodes_leaf_97 rfl ?_
    refine gfC_14_size E fl_Nodes_39 d_Nodes_leaf_98 ?_
    refine Sm_iconst (v := 1) E d_Nodes_leaf_101 (by decide) ?_
    refine Sm_iadd E d_Nodes_leaf_102 ?_
    refine pfC_14_size E fl_Nodes_39 d_Nodes_leaf_103 fun u11 _ => ?_
    refine Sm_iload E d_Nodes_leaf_106 0 rfl ?_
    exact Sm_retI hR d_Nodes_leaf_108
  · refine Sm_aload_n E d_Nodes_leaf_10 rfl 0 rfl ?_
    refine Sm_iconst (v := 1) E d_Nodes_leaf_11 (by decide) ?_
    refine pfC_14_over E fl_Nodes_43 d_Nodes_leaf_12 (by decide) rfl fun u12 _ => ?_
    refine Sm_iconst (v := 0) E d_Nodes_leaf_15 (by decide) ?_
    exact Sm_retI hR d_Nodes_leaf_16
set_option maxRecDepth 100000 in
set_option maxHeartbeats 4000000 in
theorem cC_Nodes_adopt {l : Launch} {D : va_G} {G : Gx} (x1 : Int32) (x2 : Int32) (u : St) {res : St} (hm : mC_Nodes_adopt x1 x2 u = some res) : KC l D G y_Nodes_adopt (.code y_Nodes_adopt prog_5_method_25_code 3 none) { frames := 0, cells := 0, slots := 0, locals := 0 } [.ref (G.1 14), .int x1, .int x2] u (qV D vwCl (wC G) (tyW G) (adsC G) res) := by
  refine Ct_V (by decide) wC_as (Nat.le_of_ble_eq_true rfl) hm (fun X _ _ E hR => ?_)
  refine Sm_lvs (lv' := [(0, .ref (G.1 14)), (1, .int x1), (2, .int x2)]) rfl ?_
  rw [mC_Nodes_adopt]
  refine Sm_iload_n E d_Nodes_adopt_0 rfl 1 rfl ?_
  refine Sm_if_lt (tgt := 19) E d_Nodes_adopt_1 (by decide) (fun _ => ?_) (fun _ => ?_)
  · exact Sm_retV hR d_Nodes_adopt_19
  · refine Sm_iload_n E d_Nodes_adopt_4 rfl 1 rfl ?_
    refine Sm_aload_n E d_Nodes_adopt_5 rfl 0 rfl ?_
    refine gfC_14_size E fl_Nodes_39 d_Nodes_adopt_6 ?_
    refine Sm_icmp_ge (tgt := 19) E d_Nodes_adopt_9 (by decide) (fun _ => ?_) (fun _ => ?_)
    · exact Sm_retV hR d_Nodes_adopt_19
    · refine Sm_aload_n E d_Nodes_adopt_12 rfl 0 rfl ?_
      refine gfC_14_parents E fl_Nodes_24 d_Nodes_adopt_13 ?_
      refine Sm_iload_n E d_Nodes_adopt_16 rfl 1 rfl ?_
      refine Sm_iload_n E d_Nodes_adopt_17 rfl 2 rfl ?_
      refine Sm_gd fun hi => stC_19 E (inb_in hi) d_Nodes_adopt_18 fun u1 _ => ?_
      exact Sm_retV hR d_Nodes_adopt_19
set_option maxRecDepth 100000 in
set_option maxHeartbeats 4000000 in
theorem cC_Nodes_top {l : Launch} {D : va_G} {G : Gx} (x1 : Int32) (x2 : Int32) (u : St) {res : Int32 × St} (hm : mC_Nodes_top x1 x2 u = some res) : KC l D G y_Nodes_top (.code y_Nodes_top prog_5_method_9_code 4 (some .int)) { frames := 1, cells := 0, slots := 0, locals := 25 } [.ref (G.1 14), .int x1, .int x2] u (qI D vwCl (wC G) (tyW G) (adsC G) res) := by
  refine Ct_I (by decide) wC_as (Nat.le_of_ble_eq_true rfl) hm (fun X _ _ E hR => ?_)
  refine Sm_lvs (lv' := [(0, .ref (G.1 14)), (1, .int x1), (2, .int x2)]) rfl ?_
  rw [mC_Nodes_top]
  refine Sm_iload_n E d_Nodes_top_0 rfl 2 rfl ?_
  refine Sm_if_ge (tgt := 6) E d_Nodes_top_1 (by decide) (fun _ => ?_) (fun _ => ?_)
  · refine Sm_aload_n E d_Nodes_top_6 rfl 0 rfl ?_
    refine Sm_iload_n E d_Nodes_top_7 rfl 1 rfl ?_
    refine Sm_iload_n E d_Nodes_top_8 rfl 2 rfl ?_
    refine Sm_iconst (v := (-1)) E d_Nodes_top_9 (by decide) ?_
    refine Sm_iconst (v := (-1)) E d_Nodes_top_10 (by decide) ?_
    refine Sm_cVI (As := [.int x1, .int x2, .int (-1), .int (-1)]) (b := (G.1 14)) (st := []) (n := 4) E exOk wC_as (fun _ h => cC_Nodes_leaf x1 x2 (-1) (-1) u h) gk_Nodes_47 dk_Nodes_leaf rfl ⟨rfl, rfl⟩ ⟨Nat.le_of_ble_eq_true rfl, Nat.le_of_ble_eq_true rfl⟩ (rvW (q0 := 14) (ci := 5) E rfl rfl rfl) rfl (Nat.le_of_ble_eq_true rfl) d_Nodes_top_11 fun r1 u2 _ => ?_
    refine Sm_istore_n (lv' := [(3, .int r1), (0, .ref (G.1 14)), (1, .int x1), (2, .int x2)]) E d_Nodes_top_14 rfl (by decide) rfl ?_
    refine Sm_aload_n E d_Nodes_top_15 rfl 1 rfl ?_
    refine gfC_14_over E fl_Nodes_43 d_Nodes_top_16 ?_
    refine Sm_if_ne (tgt := 28) E d_Nodes_top_19 (by decide) (fun _ => ?_) (fun _ => ?_)
    · refine Sm_iload_n E d_Nodes_top_28 rfl 0 rfl ?_
      exact Sm_retI hR d_Nodes_top_29
    · refine Sm_aload_n E d_Nodes_top_22 rfl 1 rfl ?_
      refine Sm_iload_n E d_Nodes_top_23 rfl 3 rfl ?_
      refine Sm_iload_n E d_Nodes_top_24 rfl 0 rfl ?_
      refine Sm_cVV (As := [.int x2, .int r1]) (b := (G.1 14)) (st := []) (n := 2) E exOk wC_as (fun _ h => cC_Nodes_adopt x2 r1 u2 h) gk_Nodes_51 dk_Nodes_adopt rfl ⟨rfl, rfl⟩ ⟨Nat.le_of_ble_eq_true rfl, Nat.le_of_ble_eq_true rfl⟩ (rvW (q0 := 14) (ci := 5) E rfl rfl rfl) rfl (Nat.le_of_ble_eq_true rfl) d_Nodes_top_25 fun u3 _ => ?_
      refine Sm_iload_n E d_Nodes_top_28 rfl 0 rfl ?_
      exact Sm_retI hR d_Nodes_top_29
  · refine Sm_iconst (v := (-1)) E d_Nodes_top_4 (by decide) ?_
    exact Sm_retI hR d_Nodes_top_5
set_option maxRecDepth 100000 in
set_option maxHeartbeats 4000000 in
theorem cC_Tokens_mark {l : Launch} {D : va_G} {G : Gx} (u : St) {res : Int32} (hm : mC_Tokens_mark u = some res) : KC l D G y_Tokens_mark (.code y_Tokens_mark prog_9_method_7_code 1 (some .int)) { frames := 0, cells := 0, slots := 0, locals := 0 } [.ref (G.1 10)] u (qI D vwCl (wC G) (tyW G) (adsC G) (res, u)) := by
  refine Ct_i (by decide) wC_as (Nat.le_of_ble_eq_true rfl) hm (fun X _ _ E hR => ?_)
  refine Sm_lvs (lv' := [(0, .ref (G.1 10))]) rfl ?_
  rw [mC_Tokens_mark]
  refine Sm_aload_n E d_Tokens_mark_0 rfl 0 rfl ?_
  refine gfC_10_next E fl_Tokens_28 d_Tokens_mark_1 ?_
  exact Sm_reti hR d_Tokens_mark_4
set_option maxRecDepth 100000 in
set_option maxHeartbeats 4000000 in
theorem cC_Parser_wordBehind {l : Launch} {D : va_G} {G : Gx} (u : St) {res : Int32 × St} (hm : mC_Parser_wordBehind u = some res) : KC l D G y_Parser_wordBehind (.code y_Parser_wordBehind prog_6_method_42_code 1 (some .int)) { frames := 5, cells := 0, slots := 0, locals := 109 } [.ref (G.1 28)] u (qI D vwCl (wC G) (tyW G) (adsC G) res) := by
  refine Ct_I (by decide) wC_as (Nat.le_of_ble_eq_true rfl) hm (fun X _ _ E hR => ?_)
  refine Sm_lvs (lv' := [(0, .ref (G.1 28))]) rfl ?_
  rw [mC_Parser_wordBehind]
  refine Sm_aload_n E d_Parser_wordBehind_0 rfl 0 rfl ?_
  refine gfC_28_tokens E fl_Parser_9 d_Parser_wordBehind_1 ?_
  refine Sm_ldcS_w E sr_Parser_381 d_Parser_wordBehind_4 ?_
  refine Sm_cVI (As := [.ref (G.2.2.1 18)]) (b := (G.1 10)) (st := []) (n := 1) E exOk wC_as (fun _ h => cC_Tokens_takes 18 u h) gk_Parser_29 dk_Tokens_takes rfl ⟨rfl, rfl⟩ ⟨Nat.le_of_ble_eq_true rfl, Nat.le_of_ble_eq_true rfl⟩ (rvW (q0 := 10) (ci := 9) E rfl rfl rfl) rfl (Nat.le_of_ble_eq_true rfl) d_Parser_wordBehind_7 fun r1 u2 _ => ?_
  refine Sm_if_eq (tgt := 16) E d_Parser_wordBehind_10 (by decide) (fun _ => ?_) (fun _ => ?_)
  · refine Sm_aload_n E d_Parser_wordBehind_16 rfl 0 rfl ?_
    refine gfC_28_tokens E fl_Parser_9 d_Parser_wordBehind_17 ?_
    refine Sm_ldcS_w E sr_Parser_349 d_Parser_wordBehind_20 ?_
    refine Sm_cVI (As := [.ref (G.2.2.1 19)]) (b := (G.1 10)) (st := []) (n := 1) E exOk wC_as (fun _ h => cC_Tokens_takes 19 u2 h) gk_Parser_29 dk_Tokens_takes rfl ⟨rfl, rfl⟩ ⟨Nat.le_of_ble_eq_true rfl, Nat.le_of_ble_eq_true rfl⟩ (rvW (q0 := 10) (ci := 9) E rfl rfl rfl) rfl (Nat.le_of_ble_eq_true rfl) d_Parser_wordBehind_23 fun r3 u4 _ => ?_
    refine Sm_if_eq (tgt := 32) E d_Parser_wordBehind_26 (by decide) (fun _ => ?_) (fun _ => ?_)
    · refine Sm_aload_n E d_Parser_wordBehind_32 rfl 0 rfl ?_
      refine gfC_28_tokens E fl_Parser_9 d_Parser_wordBehind_33 ?_
      refine Sm_ldcS_w E sr_Parser_383 d_Parser_wordBehind_36 ?_
      refine Sm_cVI (As := [.ref (G.2.2.1 20)]) (b := (G.1 10)) (st := []) (n := 1) E exOk wC_as (fun _ h => cC_Tokens_takes 20 u4 h) gk_Parser_29 dk_Tokens_takes rfl ⟨rfl, rfl⟩ ⟨Nat.le_of_ble_eq_true rfl, Nat.le_of_ble_eq_true rfl⟩ (rvW (q0 := 10) (ci := 9) E rfl rfl rfl) rfl (Nat.le_of_ble_eq_true rfl) d_Parser_wordBehind_39 fun r5 u6 _ => ?_
      refine Sm_if_eq (tgt := 48) E d_Parser_wordBehind_42 (by decide) (fun _ => ?_) (fun _ => ?_)
      · refine Sm_aload_n E d_Parser_wordBehind_48 rfl 0 rfl ?_
        refine gfC_28_tokens E fl_Parser_9 d_Parser_wordBehind_49 ?_
        refine Sm_ldcS_w E sr_Parser_339 d_Parser_wordBehind_52 ?_
        refine Sm_cVI (As := [.ref (G.2.2.1 21)]) (b := (G.1 10)) (st := []) (n := 1) E exOk wC_as (fun _ h => cC_Tokens_takes 21 u6 h) gk_Parser_29 dk_Tokens_takes rfl ⟨rfl, rfl⟩ ⟨Nat.le_of_ble_eq_true rfl, Nat.le_of_ble_eq_true rfl⟩ (rvW (q0 := 10) (ci := 9) E rfl rfl rfl) rfl (Nat.le_of_ble_eq_true rfl) d_Parser_wordBehind_55 fun r7 u8 _ => ?_
        refine Sm_if_eq (tgt := 64) E d_Parser_wordBehind_58 (by decide) (fun _ => ?_) (fun _ => ?_)
        · refine Sm_aload_n E d_Parser_wordBehind_64 rfl 0 rfl ?_
          refine gfC_28_tokens E fl_Parser_9 d_Parser_wordBehind_65 ?_
          refine Sm_ldcS_w E sr_Parser_344 d_Parser_wordBehind_68 ?_
          refine Sm_cVI (As := [.ref (G.2.2.1 22)]) (b := (G.1 10)) (st := []) (n := 1) E exOk wC_as (fun _ h => cC_Tokens_takes 22 u8 h) gk_Parser_29 dk_Tokens_takes rfl ⟨rfl, rfl⟩ ⟨Nat.le_of_ble_eq_true rfl, Nat.le_of_ble_eq_true rfl⟩ (rvW (q0 := 10) (ci := 9) E rfl rfl rfl) rfl (Nat.le_of_ble_eq_true rfl) d_Parser_wordBehind_71 fun r9 u10 _ => ?_
          refine Sm_if_eq (tgt := 80) E d_Parser_wordBehind_74 (by decide) (fun _ => ?_) (fun _ => ?_)
          · refine Sm_aload_n E d_Parser_wordBehind_80 rfl 0 rfl ?_
            refine gfC_28_tokens E fl_Parser_9 d_Parser_wordBehind_81 ?_
            refine Sm_ldcS E sr_Parser_168 d_Parser_wordBehind_84 ?_
            refine Sm_cVI (As := [.ref (G.2.2.1 6)]) (b := (G.1 10)) (st := []) (n := 1) E exOk wC_as (fun _ h => cC_Tokens_takes 6 u10 h) gk_Parser_29 dk_Tokens_takes rfl ⟨rfl, rfl⟩ ⟨Nat.le_of_ble_eq_true rfl, Nat.le_of_ble_eq_true rfl⟩ (rvW (q0 := 10) (ci := 9) E rfl rfl rfl) rfl (Nat.le_of_ble_eq_true rfl) d_Parser_wordBehind_86 fun r11 u12 _ => ?_
            refine Sm_if_eq (tgt := 97) E d_Parser_wordBehind_89 (by decide) (fun _ => ?_) (fun _ => ?_)
            · refine Sm_iconst (v := (-1)) E d_Parser_wordBehind_97 (by decide) ?_
              exact Sm_retI hR d_Parser_wordBehind_98
            · refine Sm_bipush (v := 31) E d_Parser_wordBehind_92 (by decide) ?_
              refine Sm_goto (tgt := 98) E d_Parser_wordBehind_94 (by decide) ?_
              exact Sm_retI hR d_Parser_wordBehind_98
          · refine Sm_bipush (v := 30) E d_Parser_wordBehind_77 (by decide) ?_
            exact Sm_retI hR d_Parser_wordBehind_79
        · refine Sm_bipush (v := 29) E d_Parser_wordBehind_61 (by decide) ?_
          exact Sm_retI hR d_Parser_wordBehind_63
      · refine Sm_bipush (v := 23) E d_Parser_wordBehind_45 (by decide) ?_
        exact Sm_retI hR d_Parser_wordBehind_47
    · refine Sm_bipush (v := 26) E d_Parser_wordBehind_29 (by decide) ?_
      exact Sm_retI hR d_Parser_wordBehind_31
  · refine Sm_bipush (v := 27) E d_Parser_wordBehind_13 (by decide) ?_
    exact Sm_retI hR d_Parser_wordBehind_15
