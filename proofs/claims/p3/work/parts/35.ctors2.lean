set_option maxRecDepth 100000 in
set_option maxHeartbeats 4000000 in
theorem n_Tokens_init {l : Launch} {D : va_G} {G : Gx} (h0 : Nat) : CtN l D vwCl ALL (tyW G) (exN G) y_Tokens_init (.code y_Tokens_init prog_9_method_1_code 1 none) { frames := 2, cells := 3, slots := 4002, locals := 40 } [.ref h0] [(h0, .inr (9, [.null, .null, .int 0, .int 0]))] 3 4002 (fun ws => ∃ q1 q2 q3 : Nat, ws = [(h0, .inr (9, [.ref q1, .ref q3, .int 0, .int 0])), (q1, .inr (8, [.ref q2, .int 0])), (q2, .inl (G.2.1 1, 2000, .inl fun _ => 0)), (q3, .inl (G.2.1 0, 2000, .inl fun _ => 0))]) := by
  refine CtN_mk (by decide) rfl (Nat.le_of_ble_eq_true rfl) (fun X hin E hR => ?_)
  refine Sm_lvs (lv' := [(0, .ref h0)]) rfl ?_
  refine Sm_aload_n E d_Tokens_init_0 rfl 0 rfl ?_
  refine Nm_objInit E nl_Tokens_1 im_Object_init oc_Object ⟨Nat.le_of_ble_eq_true rfl, Nat.le_of_ble_eq_true rfl⟩ (Nat.le_of_ble_eq_true rfl) d_Tokens_init_1 ?_
  refine Sm_aload_n E d_Tokens_init_4 rfl 0 rfl ?_
  refine Nm_new (ci := 8) (fs := [.null, .int 0]) (N := 2) (k := 1) (n := 2) E in_Text ty_Text tk_Text cl_Tokens_7 it_Text ii_Text rfl (by decide) rfl rfl (Nat.le_of_ble_eq_true rfl) (Nat.le_of_ble_eq_true rfl) d_Tokens_init_5 (fun q1 E => ?_)
  refine Nm_ws (ws' := [(h0, .inr (9, [.null, .null, .int 0, .int 0])), (q1, .inr (8, [.null, .int 0]))]) rfl ?_
  refine Sm_dup E d_Tokens_init_8 rfl ?_
  refine Nm_callIN (As := []) (b := q1) (st := [.ref q1, .ref h0]) (na := 0) (wr := [(h0, .inr (9, [.null, .null, .int 0, .int 0]))]) (k := 2) (n := 2002) E exNOk (n_Text_init q1) [1] [0] rfl rfl (by decide) rfl (by decide) (by decide) ck_Text_init ii_Text ((ex_ofN E).2 _ ns_Tokens_9) im_Text_init rfl dk_Text_init rfl ⟨rfl, rfl⟩ ⟨Nat.le_of_ble_eq_true rfl, Nat.le_of_ble_eq_true rfl⟩ rfl (Nat.le_of_ble_eq_true rfl) d_Tokens_init_9 rfl rfl (Nat.le_of_ble_eq_true rfl) (Nat.le_of_ble_eq_true rfl) (fun w1 hw1 E => ?_)
  obtain ⟨q2, rfl⟩ := hw1
  refine Nm_ws (ws' := [(h0, .inr (9, [.null, .null, .int 0, .int 0])), (q1, .inr (8, [.ref q2, .int 0])), (q2, .inl (G.2.1 1, 2000, .inl fun _ => 0))]) rfl ?_
  refine Nm_putF (q0 := 0) (ws' := [(h0, .inr (9, [.ref q1, .null, .int 0, .int 0])), (q1, .inr (8, [.ref q2, .int 0])), (q2, .inl (G.2.1 1, 2000, .inl fun _ => 0))]) E in_Tokens ty_Tokens tk_Tokens nk_Tokens rfl rfl 0 (by decide) rfl rfl hin rfl rfl (Nat.le_of_ble_eq_true rfl) rfl rfl rfl fl_Tokens_10 d_Tokens_init_12 ?_
  refine Sm_aload_n E d_Tokens_init_15 rfl 0 rfl ?_
  refine Sm_sipush (v := 2000) E d_Tokens_init_16 (by decide) ?_
  refine Nm_newa (a0 := (2000, .inl fun _ => 0)) (N := 2000) (k := 3) (n := 4002) E ac_int rfl 0 rfl (fun _ => rfl) (by decide) (by decide) (by decide) rfl rfl (Nat.le_of_ble_eq_true rfl) (Nat.le_of_ble_eq_true rfl) d_Tokens_init_19 (fun q3 E => ?_)
  refine Nm_ws (ws' := [(h0, .inr (9, [.ref q1, .null, .int 0, .int 0])), (q1, .inr (8, [.ref q2, .int 0])), (q2, .inl (G.2.1 1, 2000, .inl fun _ => 0)), (q3, .inl (G.2.1 0, 2000, .inl fun _ => 0))]) rfl ?_
  refine Nm_putF (q0 := 0) (ws' := [(h0, .inr (9, [.ref q1, .ref q3, .int 0, .int 0])), (q1, .inr (8, [.ref q2, .int 0])), (q2, .inl (G.2.1 1, 2000, .inl fun _ => 0)), (q3, .inl (G.2.1 0, 2000, .inl fun _ => 0))]) E in_Tokens ty_Tokens tk_Tokens nk_Tokens rfl rfl 1 (by decide) rfl rfl hin rfl rfl (Nat.le_of_ble_eq_true rfl) rfl rfl rfl fl_Tokens_16 d_Tokens_init_21 ?_
  exact Sm_retN hR ⟨q1, q2, q3, rfl⟩ d_Tokens_init_24
set_option maxRecDepth 100000 in
set_option maxHeartbeats 4000000 in
theorem n_Nodes_init {l : Launch} {D : va_G} {G : Gx} (h0 : Nat) : CtN l D vwCl ALL (tyW G) (exN G) y_Nodes_init (.code y_Nodes_init prog_5_method_1_code 1 none) { frames := 1, cells := 9, slots := 1800, locals := 20 } [.ref h0] [(h0, .inr (5, [.null, .null, .null, .null, .null, .null, .null, .null, .null, .int 0, .int 0]))] 9 1800 (fun ws => ∃ q1 q2 q3 q4 q5 q6 q7 q8 q9 : Nat, ws = [(h0, .inr (5, [.ref q1, .ref q2, .ref q3, .ref q4, .ref q5, .ref q6, .ref q7, .ref q8, .ref q9, .int 0, .int 0])), (q1, .inl (G.2.1 0, 200, .inl fun _ => 0)), (q2, .inl (G.2.1 0, 200, .inl fun _ => 0)), (q3, .inl (G.2.1 0, 200, .inl fun _ => 0)), (q4, .inl (G.2.1 0, 200, .inl fun _ => 0)), (q5, .inl (G.2.1 0, 200, .inl fun _ => 0)), (q6, .inl (G.2.1 0, 200, .inl fun _ => 0)), (q7, .inl (G.2.1 0, 200, .inl fun _ => 0)), (q8, .inl (G.2.1 0, 200, .inl fun _ => 0)), (q9, .inl (G.2.1 0, 200, .inl fun _ => 0))]) := by
  refine CtN_mk (by decide) rfl (Nat.le_of_ble_eq_true rfl) (fun X hin E hR => ?_)
  refine Sm_lvs (lv' := [(0, .ref h0)]) rfl ?_
  refine Sm_aload_n E d_Nodes_init_0 rfl 0 rfl ?_
  refine Nm_objInit E nl_Nodes_3 im_Object_init oc_Object ⟨Nat.le_of_ble_eq_true rfl, Nat.le_of_ble_eq_true rfl⟩ (Nat.le_of_ble_eq_true rfl) d_Nodes_init_1 ?_
  refine Sm_aload_n E d_Nodes_init_4 rfl 0 rfl ?_
  refine Sm_sipush (v := 200) E d_Nodes_init_5 (by decide) ?_
  refine Nm_newa (a0 := (200, .inl fun _ => 0)) (N := 200) (k := 1) (n := 200) E ac_int rfl 0 rfl (fun _ => rfl) (by decide) (by decide) (by decide) rfl rfl (Nat.le_of_ble_eq_true rfl) (Nat.le_of_ble_eq_true rfl) d_Nodes_init_8 (fun q1 E => ?_)
  refine Nm_ws (ws' := [(h0, .inr (5, [.null, .null, .null, .null, .null, .null, .null, .null, .null, .int 0, .int 0])), (q1, .inl (G.2.1 0, 200, .inl fun _ => 0))]) rfl ?_
  refine Nm_putF (q0 := 0) (ws' := [(h0, .inr (5, [.ref q1, .null, .null, .null, .null, .null, .null, .null, .null, .int 0, .int 0])), (q1, .inl (G.2.1 0, 200, .inl fun _ => 0))]) E in_Nodes ty_Nodes tk_Nodes nk_Nodes rfl rfl 0 (by decide) rfl rfl hin rfl rfl (Nat.le_of_ble_eq_true rfl) rfl rfl rfl fl_Nodes_11 d_Nodes_init_10 ?_
  refine Sm_aload_n E d_Nodes_init_13 rfl 0 rfl ?_
  refine Sm_sipush (v := 200) E d_Nodes_init_14 (by decide) ?_
  refine Nm_newa (a0 := (200, .inl fun _ => 0)) (N := 200) (k := 2) (n := 400) E ac_int rfl 0 rfl (fun _ => rfl) (by decide) (by decide) (by decide) rfl rfl (Nat.le_of_ble_eq_true rfl) (Nat.le_of_ble_eq_true rfl) d_Nodes_init_17 (fun q2 E => ?_)
  refine Nm_ws (ws' := [(h0, .inr (5, [.ref q1, .null, .null, .null, .null, .null, .null, .null, .null, .int 0, .int 0])), (q1, .inl (G.2.1 0, 200, .inl fun _ => 0)), (q2, .inl (G.2.1 0, 200, .inl fun _ => 0))]) rfl ?_
  refine Nm_putF (q0 := 0) (ws' := [(h0, .inr (5, [.ref q1, .ref q2, .null, .null, .null, .null, .null, .null, .null, .int 0, .int 0])), (q1, .inl (G.2.1 0, 200, .inl fun _ => 0)), (q2, .inl (G.2.1 0, 200, .inl fun _ => 0))]) E in_Nodes ty_Nodes tk_Nodes nk_Nodes rfl rfl 1 (by decide) rfl rfl hin rfl rfl (Nat.le_of_ble_eq_true rfl) rfl rfl rfl fl_Nodes_15 d_Nodes_init_19 ?_
  refine Sm_aload_n E d_Nodes_init_22 rfl 0 rfl ?_
  refine Sm_sipush (v := 200) E d_Nodes_init_23 (by decide) ?_
  refine Nm_newa (a0 := (200, .inl fun _ => 0)) (N := 200) (k := 3) (n := 600) E ac_int rfl 0 rfl (fun _ => rfl) (by decide) (by decide) (by decide) rfl rfl (Nat.le_of_ble_eq_true rfl) (Nat.le_of_ble_eq_true rfl) d_Nodes_init_26 (fun q3 E => ?_)
  refine Nm_ws (ws' := [(h0, .inr (5, [.ref q1, .ref q2, .null, .null, .null, .null, .null, .null, .null, .int 0, .int 0])), (q1, .inl (G.2.1 0, 200, .inl fun _ => 0)), (q2, .inl (G.2.1 0, 200, .inl fun _ => 0)), (q3, .inl (G.2.1 0, 200, .inl fun _ => 0))]) rfl ?_
  refine Nm_putF (q0 := 0) (ws' := [(h0, .inr (5, [.ref q1, .ref q2, .ref q3, .null, .null, .null, .null, .null, .null, .int 0, .int 0])), (q1, .inl (G.2.1 0, 200, .inl fun _ => 0)), (q2, .inl (G.2.1 0, 200, .inl fun _ => 0)), (q3, .inl (G.2.1 0, 200, .inl fun _ => 0))]) E in_Nodes ty_Nodes tk_Nodes nk_Nodes rfl rfl 2 (by decide) rfl rfl hin rfl rfl (Nat.le_of_ble_eq_true rfl) rfl rfl rfl fl_Nodes_18 d_Nodes_init_28 ?_
  refine Sm_aload_n E d_Nodes_init_31 rfl 0 rfl ?_
  refine Sm_sipush (v := 200) E d_Nodes_init_32 (by decide) ?_
  refine Nm_newa (a0 := (200, .inl fun _ => 0)) (N := 200) (k := 4) (n := 800) E ac_int rfl 0 rfl (fun _ => rfl) (by decide) (by decide) (by decide) rfl rfl (Nat.le_of_ble_eq_true rfl) (Nat.le_of_ble_eq_true rfl) d_Nodes_init_35 (fun q4 E => ?_)
  refine Nm_ws (ws' := [(h0, .inr (5, [.ref q1, .ref q2, .ref q3, .null, .null, .null, .null, .null, .null, .int 0, .int 0])), (q1, .inl (G.2.1 0, 200, .inl fun _ => 0)), (q2, .inl (G.2.1 0, 200, .inl fun _ => 0)), (q3, .inl (G.2.1 0, 200, .inl fun _ => 0)), (q4, .inl (G.2.1 0, 200, .inl fun _ => 0))]) rfl ?_
  refine Nm_putF (q0 := 0) (ws' := [(h0, .inr (5, [.ref q1, .ref q2, .ref q3, .ref q4, .null, .null, .null, .null, .null, .int 0, .int 0])), (q1, .inl (G.2.1 0, 200, .inl fun _ => 0)), (q2, .inl (G.2.1 0, 200, .inl fun _ => 0)), (q3, .inl (G.2.1 0, 200, .inl fun _ => 0)), (q4, .inl (G.2.1 0, 200, .inl fun _ => 0))]) E in_Nodes ty_Nodes tk_Nodes nk_Nodes rfl rfl 3 (by decide) rfl rfl hin rfl rfl (Nat.le_of_ble_eq_true rfl) rfl rfl rfl fl_Nodes_21 d_Nodes_init_37 ?_
  refine Sm_aload_n E d_Nodes_init_40 rfl 0 rfl ?_
  refine Sm_sipush (v := 200) E d_Nodes_init_41 (by decide) ?_
  refine Nm_newa (a0 := (200, .inl fun _ => 0)) (N := 200) (k := 5) (n := 1000) E ac_int rfl 0 rfl (fun _ => rfl) (by decide) (by decide) (by decide) rfl rfl (Nat.le_of_ble_eq_true rfl) (Nat.le_of_ble_eq_true rfl) d_Nodes_init_44 (fun q5 E => ?_)
  refine Nm_ws (ws' := [(h0, .inr (5, [.ref q1, .ref q2, .ref q3, .ref q4, .null, .null, .null, .null, .null, .int 0, .int 0])), (q1, .inl (G.2.1 0, 200, .inl fun _ => 0)), (q2, .inl (G.2.1 0, 200, .inl fun _ => 0)), (q3, .inl (G.2.1 0, 200, .inl fun _ => 0)), (q4, .inl (G.2.1 0, 200, .inl fun _ => 0)), (q5, .inl (G.2.1 0, 200, .inl fun _ => 0))]) rfl ?_
  refine Nm_putF (q0 := 0) (ws' := [(h0, .inr (5, [.ref q1, .ref q2, .ref q3, .ref q4, .ref q5, .null, .null, .null, .null, .int 0, .int 0])), (q1, .inl (G.2.1 0, 200, .inl fun _ => 0)), (q2, .inl (G.2.1 0, 200, .inl fun _ => 0)), (q3, .inl (G.2.1 0, 200, .inl fun _ => 0)), (q4, .inl (G.2.1 0, 200, .inl fun _ => 0)), (q5, .inl (G.2.1 0, 200, .inl fun _ => 0))]) E in_Nodes ty_Nodes tk_Nodes nk_Nodes rfl rfl 4 (by decide) rfl rfl hin rfl rfl (Nat.le_of_ble_eq_true rfl) rfl rfl rfl fl_Nodes_24 d_Nodes_init_46 ?_
  refine Sm_aload_n E d_Nodes_init_49 rfl 0 rfl ?_
  refine Sm_sipush (v := 200) E d_Nodes_init_50 (by decide) ?_
  refine Nm_newa (a0 := (200, .inl fun _ => 0)) (N := 200) (k := 6) (n := 1200) E ac_int rfl 0 rfl (fun _ => rfl) (by decide) (by decide) (by decide) rfl rfl (Nat.le_of_ble_eq_true rfl) (Nat.le_of_ble_eq_true rfl) d_Nodes_init_53 (fun q6 E => ?_)
  refine Nm_ws (ws' := [(h0, .inr (5, [.ref q1, .ref q2, .ref q3, .ref q4, .ref q5, .null, .null, .null, .null, .int 0, .int 0])), (q1, .inl (G.2.1 0, 200, .inl fun _ => 0)), (q2, .inl (G.2.1 0, 200, .inl fun _ => 0)), (q3, .inl (G.2.1 0, 200, .inl fun _ => 0)), (q4, .inl (G.2.1 0, 200, .inl fun _ => 0)), (q5, .inl (G.2.1 0, 200, .inl fun _ => 0)), (q6, .inl (G.2.1 0, 200, .inl fun _ => 0))]) rfl ?_
  refine Nm_putF (q0 := 0) (ws' := [(h0, .inr (5, [.ref q1, .ref q2, .ref q3, .ref q4, .ref q5, .ref q6, .null, .null, .null, .int 0, .int 0])), (q1, .inl (G.2.1 0, 200, .inl fun _ => 0)), (q2, .inl (G.2.1 0, 200, .inl fun _ => 0)), (q3, .inl (G.2.1 0, 200, .inl fun _ => 0)), (q4, .inl (G.2.1 0, 200, .inl fun _ => 0)), (q5, .inl (G.2.1 0, 200, .inl fun _ => 0)), (q6, .inl (G.2.1 0, 200, .inl fun _ => 0))]) E in_Nodes ty_Nodes tk_Nodes nk_Nodes rfl rfl 5 (by decide) rfl rfl hin rfl rfl (Nat.le_of_ble_eq_true rfl) rfl rfl rfl fl_Nodes_27 d_Nodes_init_55 ?_
  refine Sm_aload_n E d_Nodes_init_58 rfl 0 rfl ?_
  refine Sm_sipush (v := 200) E d_Nodes_init_59 (by decide) ?_
  refine Nm_newa (a0 := (200, .inl fun _ => 0)) (N := 200) (k := 7) (n := 1400) E ac_int rfl 0 rfl (fun _ => rfl) (by decide) (by decide) (by decide) rfl rfl (Nat.le_of_ble_eq_true rfl) (Nat.le_of_ble_eq_true rfl) d_Nodes_init_62 (fun q7 E => ?_)
  refine Nm_ws (ws' := [(h0, .inr (5, [.ref q1, .ref q2, .ref q3, .ref q4, .ref q5, .ref q6, .null, .null, .null, .int 0, .int 0])), (q1, .inl (G.2.1 0, 200, .inl fun _ => 0)), (q2, .inl (G.2.1 0, 200, .inl fun _ => 0)), (q3, .inl (G.2.1 0, 200, .inl fun _ => 0)), (q4, .inl (G.2.1 0, 200, .inl fun _ => 0)), (q5, .inl (G.2.1 0, 200, .inl fun _ => 0)), (q6, .inl (G.2.1 0, 200, .inl fun _ => 0)), (q7, .inl (G.2.1 0, 200, .inl fun _ => 0))]) rfl ?_
  refine Nm_putF (q0 := 0) (ws' := [(h0, .inr (5, [.ref q1, .ref q2, .ref q3, .ref q4, .ref q5, .ref q6, .ref q7, .null, .null, .int 0, .int 0])), (q1, .inl (G.2.1 0, 200, .inl fun _ => 0)), (q2, .inl (G.2.1 0, 200, .inl fun _ => 0)), (q3, .inl (G.2.1 0, 200, .inl fun _ => 0)), (q4, .inl (G.2.1 0, 200, .inl fun _ => 0)), (q5, .inl (G.2.1 0, 200, .inl fun _ => 0)), (q6, .inl (G.2.1 0, 200, .inl fun _ => 0)), (q7, .inl (G.2.1 0, 200, .inl fun _ => 0))]) E in_Nodes ty_Nodes tk_Nodes nk_Nodes rfl rfl 6 (by decide) rfl rfl hin rfl rfl (Nat.le_of_ble_eq_true rfl) rfl rfl rfl fl_Nodes_30 d_Nodes_init_64 ?_
  refine Sm_aload_n E d_Nodes_init_67 rfl 0 rfl ?_
  refine Sm_sipush (v := 200) E d_Nodes_init_68 (by decide) ?_
  refine Nm_newa (a0 := (200, .inl fun _ => 0)) (N := 200) (k := 8) (n := 1600) E ac_int rfl 0 rfl (fun _ => rfl) (by decide) (by decide) (by decide) rfl rfl (Nat.le_of_ble_eq_true rfl) (Nat.le_of_ble_eq_true rfl) d_Nodes_init_71 (fun q8 E => ?_)
  refine Nm_ws (ws' := [(h0, .inr (5, [.ref q1, .ref q2, .ref q3, .ref q4, .ref q5, .ref q6, .ref q7, .null, .null, .int 0, .int 0])), (q1, .inl (G.2.1 0, 200, .inl fun _ => 0)), (q2, .inl (G.2.1 0, 200, .inl fun _ => 0)), (q3, .inl (G.2.1 0, 200, .inl fun _ => 0)), (q4, .inl (G.2.1 0, 200, .inl fun _ => 0)), (q5, .inl (G.2.1 0, 200, .inl fun _ => 0)), (q6, .inl (G.2.1 0, 200, .inl fun _ => 0)), (q7, .inl (G.2.1 0, 200, .inl fun _ => 0)), (q8, .inl (G.2.1 0, 200, .inl fun _ => 0))]) rfl ?_
  refine Nm_putF (q0 := 0) (ws' := [(h0, .inr (5, [.ref q1, .ref q2, .ref q3, .ref q4, .ref q5, .ref q6, .ref q7, .ref q8, .null, .int 0, .int 0])), (q1, .inl (G.2.1 0, 200, .inl fun _ => 0)), (q2, .inl (G.2.1 0, 200, .inl fun _ => 0)), (q3, .inl (G.2.1 0, 200, .inl fun _ => 0)), (q4, .inl (G.2.1 0, 200, .inl fun _ => 0)), (q5, .inl (G.2.1 0, 200, .inl fun _ => 0)), (q6, .inl (G.2.1 0, 200, .inl fun _ => 0)), (q7, .inl (G.2.1 0, 200, .inl fun _ => 0)), (q8, .inl (G.2.1 0, 200, .inl fun _ => 0))]) E in_Nodes ty_Nodes tk_Nodes nk_Nodes rfl rfl 7 (by decide) rfl rfl hin rfl rfl (Nat.le_of_ble_eq_true rfl) rfl rfl rfl fl_Nodes_33 d_Nodes_init_73 ?_
  refine Sm_aload_n E d_Nodes_init_76 rfl 0 rfl ?_
  refine Sm_sipush (v := 200) E d_Nodes_init_77 (by decide) ?_
  refine Nm_newa (a0 := (200, .inl fun _ => 0)) (N := 200) (k := 9) (n := 1800) E ac_int rfl 0 rfl (fun _ => rfl) (by decide) (by decide) (by decide) rfl rfl (Nat.le_of_ble_eq_true rfl) (Nat.le_of_ble_eq_true rfl) d_Nodes_init_80 (fun q9 E => ?_)
  refine Nm_ws (ws' := [(h0, .inr (5, [.ref q1, .ref q2, .ref q3, .ref q4, .ref q5, .ref q6, .ref q7, .ref q8, .null, .int 0, .int 0])), (q1, .inl (G.2.1 0, 200, .inl fun _ => 0)), (q2, .inl (G.2.1 0, 200, .inl fun _ => 0)), (q3, .inl (G.2.1 0, 200, .inl fun _ => 0)), (q4, .inl (G.2.1 0, 200, .inl fun _ => 0)), (q5, .inl (G.2.1 0, 200, .inl fun _ => 0)), (q6, .inl (G.2.1 0, 200, .inl fun _ => 0)), (q7, .inl (G.2.1 0, 200, .inl fun _ => 0)), (q8, .inl (G.2.1 0, 200, .inl fun _ => 0)), (q9, .inl (G.2.1 0, 200, .inl fun _ => 0))]) rfl ?_
  refine Nm_putF (q0 := 0) (ws' := [(h0, .inr (5, [.ref q1, .ref q2, .ref q3, .ref q4, .ref q5, .ref q6, .ref q7, .ref q8, .ref q9, .int 0, .int 0])), (q1, .inl (G.2.1 0, 200, .inl fun _ => 0)), (q2, .inl (G.2.1 0, 200, .inl fun _ => 0)), (q3, .inl (G.2.1 0, 200, .inl fun _ => 0)), (q4, .inl (G.2.1 0, 200, .inl fun _ => 0)), (q5, .inl (G.2.1 0, 200, .inl fun _ => 0)), (q6, .inl (G.2.1 0, 200, .inl fun _ => 0)), (q7, .inl (G.2.1 0, 200, .inl fun _ => 0)), (q8, .inl (G.2.1 0, 200, .inl fun _ => 0)), (q9, .inl (G.2.1 0, 200, .inl fun _ => 0))]) E in_Nodes ty_Nodes tk_Nodes nk_Nodes rfl rfl 8 (by decide) rfl rfl hin rfl rfl (Nat.le_of_ble_eq_true rfl) rfl rfl rfl fl_Nodes_36 d_Nodes_init_82 ?_
  exact Sm_retN hR ⟨q1, q2, q3, q4, q5, q6, q7, q8, q9, rfl⟩ d_Nodes_init_85
set_option maxRecDepth 100000 in
set_option maxHeartbeats 4000000 in
theorem n_Lists_init {l : Launch} {D : va_G} {G : Gx} (h0 : Nat) : CtN l D vwCl ALL (tyW G) (exN G) y_Lists_init (.code y_Lists_init prog_3_method_1_code 1 none) { frames := 1, cells := 2, slots := 680, locals := 20 } [.ref h0] [(h0, .inr (3, [.null, .null, .int 0]))] 2 680 (fun ws => ∃ q1 q2 : Nat, ws = [(h0, .inr (3, [.ref q1, .ref q2, .int 0])), (q1, .inl (G.2.1 0, 14, .inl fun _ => 0)), (q2, .inl (G.2.1 0, 666, .inl fun _ => 0))]) := by
  refine CtN_mk (by decide) rfl (Nat.le_of_ble_eq_true rfl) (fun X hin E hR => ?_)
  refine Sm_lvs (lv' := [(0, .ref h0)]) rfl ?_
  refine Sm_aload_n E d_Lists_init_0 rfl 0 rfl ?_
  refine Nm_objInit E nl_Lists_1 im_Object_init oc_Object ⟨Nat.le_of_ble_eq_true rfl, Nat.le_of_ble_eq_true rfl⟩ (Nat.le_of_ble_eq_true rfl) d_Lists_init_1 ?_
  refine Sm_aload_n E d_Lists_init_4 rfl 0 rfl ?_
  refine Sm_bipush (v := 14) E d_Lists_init_5 (by decide) ?_
  refine Nm_newa (a0 := (14, .inl fun _ => 0)) (N := 14) (k := 1) (n := 14) E ac_int rfl 0 rfl (fun _ => rfl) (by decide) (by decide) (by decide) rfl rfl (Nat.le_of_ble_eq_true rfl) (Nat.le_of_ble_eq_true rfl) d_Lists_init_7 (fun q1 E => ?_)
  refine Nm_ws (ws' := [(h0, .inr (3, [.null, .null, .int 0])), (q1, .inl (G.2.1 0, 14, .inl fun _ => 0))]) rfl ?_
  refine Nm_putF (q0 := 0) (ws' := [(h0, .inr (3, [.ref q1, .null, .int 0])), (q1, .inl (G.2.1 0, 14, .inl fun _ => 0))]) E in_Lists ty_Lists tk_Lists nk_Lists rfl rfl 0 (by decide) rfl rfl hin rfl rfl (Nat.le_of_ble_eq_true rfl) rfl rfl rfl fl_Lists_9 d_Lists_init_9 ?_
  refine Sm_aload_n E d_Lists_init_12 rfl 0 rfl ?_
  refine Sm_sipush (v := 666) E d_Lists_init_13 (by decide) ?_
  refine Nm_newa (a0 := (666, .inl fun _ => 0)) (N := 666) (k := 2) (n := 680) E ac_int rfl 0 rfl (fun _ => rfl) (by decide) (by decide) (by decide) rfl rfl (Nat.le_of_ble_eq_true rfl) (Nat.le_of_ble_eq_true rfl) d_Lists_init_16 (fun q2 E => ?_)
  refine Nm_ws (ws' := [(h0, .inr (3, [.ref q1, .null, .int 0])), (q1, .inl (G.2.1 0, 14, .inl fun _ => 0)), (q2, .inl (G.2.1 0, 666, .inl fun _ => 0))]) rfl ?_
  refine Nm_putF (q0 := 0) (ws' := [(h0, .inr (3, [.ref q1, .ref q2, .int 0])), (q1, .inl (G.2.1 0, 14, .inl fun _ => 0)), (q2, .inl (G.2.1 0, 666, .inl fun _ => 0))]) E in_Lists ty_Lists tk_Lists nk_Lists rfl rfl 1 (by decide) rfl rfl hin rfl rfl (Nat.le_of_ble_eq_true rfl) rfl rfl rfl fl_Lists_13 d_Lists_init_18 ?_
  exact Sm_retN hR ⟨q1, q2, rfl⟩ d_Lists_init_21
set_option maxRecDepth 100000 in
set_option maxHeartbeats 4000000 in
theorem n_Statement_init {l : Launch} {D : va_G} {G : Gx} (h0 : Nat) : CtN l D vwCl ALL (tyW G) (exN G) y_Statement_init (.code y_Statement_init prog_7_method_1_code 1 none) { frames := 1, cells := 0, slots := 0, locals := 20 } [.ref h0] [(h0, .inr (7, [.int 0, .int 0, .int 0, .int 0, .int 0, .int 0, .int 0, .int 0, .int 0, .int 0, .int 0, .int 0, .int 0]))] 0 0 (fun ws => ws = [(h0, .inr (7, [.int 0, .int 0, .int (-1), .int (-1), .int (-1), .int (-1), .int (-1), .int 0, .int (-1), .int (-1), .int 0, .int 0, .int 0]))]) := by
  refine CtN_mk (by decide) rfl (Nat.le_of_ble_eq_true rfl) (fun X hin E hR => ?_)
  refine Sm_lvs (lv' := [(0, .ref h0)]) rfl ?_
  refine Sm_aload_n E d_Statement_init_0 rfl 0 rfl ?_
  refine Nm_objInit E nl_Statement_1 im_Object_init oc_Object ⟨Nat.le_of_ble_eq_true rfl, Nat.le_of_ble_eq_true rfl⟩ (Nat.le_of_ble_eq_true rfl) d_Statement_init_1 ?_
  refine Sm_aload_n E d_Statement_init_4 rfl 0 rfl ?_
  refine Nm_toW (w := wS ((fun _ => h0, G.2) : Gx)) (u := zSt) rfl ?_
  refine Sm_eq (show some () = bP (mS_Statement_clear zSt) (fun _ => some ()) from rfl) ?_
  refine Sm_cVV (As := []) (b := h0) (st := []) (n := 0) (rm' := { frames := 0, cells := 0, slots := 0, locals := 0 }) (w := wS ((fun _ => h0, G.2) : Gx)) (En_exW E) exOk wS_as (fun _ h => cS_Statement_clear (G := ((fun _ => h0, G.2) : Gx)) zSt h) gk_Statement_7 dk_Statement_clear rfl ⟨rfl, rfl⟩ ⟨Nat.le_of_ble_eq_true rfl, Nat.le_of_ble_eq_true rfl⟩ (rvW (q0 := 0) (ci := 7) E rfl rfl rfl) rfl (Nat.le_of_ble_eq_true rfl) d_Statement_init_5 fun u1 hu => ?_
  refine Nm_ofW (ws := [(h0, .inr (7, [.int 0, .int 0, .int (-1), .int (-1), .int (-1), .int (-1), .int (-1), .int 0, .int (-1), .int (-1), .int 0, .int 0, .int 0]))]) (by rw [← Option.some.inj hu]; rfl) ?_
  exact Sm_retN hR rfl d_Statement_init_8
set_option maxRecDepth 100000 in
set_option maxHeartbeats 4000000 in
theorem n_Parser_init {l : Launch} {D : va_G} {G : Gx} (h0 p1 p2 p3 p4 : Nat) : CtN l D vwCl ALL (tyW G) (exN G) y_Parser_init (.code y_Parser_init prog_6_method_1_code 5 none) { frames := 1, cells := 0, slots := 0, locals := 20 } [.ref h0, .ref p1, .ref p2, .ref p3, .ref p4] [(h0, .inr (6, [.null, .null, .null, .null, .int 0, .int 0]))] 0 0 (fun ws => ws = [(h0, .inr (6, [.ref p1, .ref p2, .ref p3, .ref p4, .int 0, .int 0]))]) := by
  refine CtN_mk (by decide) rfl (Nat.le_of_ble_eq_true rfl) (fun X hin E hR => ?_)
  refine Sm_lvs (lv' := [(0, .ref h0), (1, .ref p1), (2, .ref p2), (3, .ref p3), (4, .ref p4)]) rfl ?_
  refine Sm_aload_n E d_Parser_init_0 rfl 0 rfl ?_
  refine Nm_objInit E nl_Parser_3 im_Object_init oc_Object ⟨Nat.le_of_ble_eq_true rfl, Nat.le_of_ble_eq_true rfl⟩ (Nat.le_of_ble_eq_true rfl) d_Parser_init_1 ?_
  refine Sm_aload_n E d_Parser_init_4 rfl 0 rfl ?_
  refine Sm_aload_n E d_Parser_init_5 rfl 1 rfl ?_
  refine Nm_putF (q0 := 0) (ws' := [(h0, .inr (6, [.ref p1, .null, .null, .null, .int 0, .int 0]))]) E in_Parser ty_Parser tk_Parser nk_Parser rfl rfl 0 (by decide) rfl rfl hin rfl rfl (Nat.le_of_ble_eq_true rfl) rfl rfl rfl fl_Parser_9 d_Parser_init_6 ?_
  refine Sm_aload_n E d_Parser_init_9 rfl 0 rfl ?_
  refine Sm_aload_n E d_Parser_init_10 rfl 2 rfl ?_
  refine Nm_putF (q0 := 0) (ws' := [(h0, .inr (6, [.ref p1, .ref p2, .null, .null, .int 0, .int 0]))]) E in_Parser ty_Parser tk_Parser nk_Parser rfl rfl 1 (by decide) rfl rfl hin rfl rfl (Nat.le_of_ble_eq_true rfl) rfl rfl rfl fl_Parser_15 d_Parser_init_11 ?_
  refine Sm_aload_n E d_Parser_init_14 rfl 0 rfl ?_
  refine Sm_aload_n E d_Parser_init_15 rfl 3 rfl ?_
  refine Nm_putF (q0 := 0) (ws' := [(h0, .inr (6, [.ref p1, .ref p2, .ref p3, .null, .int 0, .int 0]))]) E in_Parser ty_Parser tk_Parser nk_Parser rfl rfl 2 (by decide) rfl rfl hin rfl rfl (Nat.le_of_ble_eq_true rfl) rfl rfl rfl fl_Parser_19 d_Parser_init_16 ?_
  refine Sm_aload_n E d_Parser_init_19 rfl 0 rfl ?_
  refine Sm_aload E d_Parser_init_20 4 rfl ?_
  refine Nm_putF (q0 := 0) (ws' := [(h0, .inr (6, [.ref p1, .ref p2, .ref p3, .ref p4, .int 0, .int 0]))]) E in_Parser ty_Parser tk_Parser nk_Parser rfl rfl 3 (by decide) rfl rfl hin rfl rfl (Nat.le_of_ble_eq_true rfl) rfl rfl rfl fl_Parser_23 d_Parser_init_22 ?_
  exact Sm_retN hR rfl d_Parser_init_25
set_option maxRecDepth 100000 in
set_option maxHeartbeats 4000000 in
theorem n_Meaning_init {l : Launch} {D : va_G} {G : Gx} (h0 p1 p2 p3 p4 p5 e1 e2 : Nat) : CtN l D vwCl ALL (tyW G) (exN G) y_Meaning_init (.code y_Meaning_init prog_4_method_1_code 6 none) { frames := 1, cells := 0, slots := 0, locals := 20 } [.ref h0, .ref p1, .ref p2, .ref p3, .ref p4, .ref p5] [(h0, .inr (4, [.null, .null, .null, .null, .null, .int 0])), (p2, .inr (9, [.ref e1, .ref e2, .int 0, .int 0]))] 0 0 (fun ws => ws = [(h0, .inr (4, [.ref p1, .ref e1, .ref p3, .ref p4, .ref p5, .int 0])), (p2, .inr (9, [.ref e1, .ref e2, .int 0, .int 0]))]) := by
  refine CtN_mk (by decide) rfl (Nat.le_of_ble_eq_true rfl) (fun X hin E hR => ?_)
  refine Sm_lvs (lv' := [(0, .ref h0), (1, .ref p1), (2, .ref p2), (3, .ref p3), (4, .ref p4), (5, .ref p5)]) rfl ?_
  refine Sm_aload_n E d_Meaning_init_0 rfl 0 rfl ?_
  refine Nm_objInit E nl_Meaning_3 im_Object_init oc_Object ⟨Nat.le_of_ble_eq_true rfl, Nat.le_of_ble_eq_true rfl⟩ (Nat.le_of_ble_eq_true rfl) d_Meaning_init_1 ?_
  refine Sm_aload_n E d_Meaning_init_4 rfl 0 rfl ?_
  refine Sm_aload_n E d_Meaning_init_5 rfl 1 rfl ?_
  refine Nm_putF (q0 := 0) (ws' := [(h0, .inr (4, [.ref p1, .null, .null, .null, .null, .int 0])), (p2, .inr (9, [.ref e1, .ref e2, .int 0, .int 0]))]) E in_Meaning ty_Meaning tk_Meaning nk_Meaning rfl rfl 0 (by decide) rfl rfl hin rfl rfl (Nat.le_of_ble_eq_true rfl) rfl rfl rfl fl_Meaning_9 d_Meaning_init_6 ?_
  refine Sm_aload_n E d_Meaning_init_9 rfl 0 rfl ?_
  refine Sm_aload_n E d_Meaning_init_10 rfl 2 rfl ?_
  refine Nm_toW (w := fun _ : Unit => [(h0, .inr (4, [.ref p1, .null, .null, .null, .null, .int 0])), (p2, .inr (9, [.ref e1, .ref e2, .int 0, .int 0]))]) (u := ()) rfl ?_
  refine Sm_eq (show some () = bP (some ()) (fun _ => some ()) from rfl) ?_
  refine Sm_cVa (w := fun _ : Unit => [(h0, .inr (4, [.ref p1, .null, .null, .null, .null, .int 0])), (p2, .inr (9, [.ref e1, .ref e2, .int 0, .int 0]))]) (As := []) (b := p2) (st := [.ref h0]) (n := 0) (a := e1) E exNOk (fun _ => rfl) (fun _ => cT_text (q0 := 1) rfl) gk_Meaning_15 dk_Tokens_text rfl ⟨rfl, rfl⟩ ⟨Nat.le_of_ble_eq_true rfl, Nat.le_of_ble_eq_true rfl⟩ (rvW (q0 := 1) (ci := 9) E rfl rfl rfl) rfl (Nat.le_of_ble_eq_true rfl) d_Meaning_init_11 fun _ _ => ?_
  refine Nm_ofW (ws := [(h0, .inr (4, [.ref p1, .null, .null, .null, .null, .int 0])), (p2, .inr (9, [.ref e1, .ref e2, .int 0, .int 0]))]) rfl ?_
  refine Nm_putF (q0 := 0) (ws' := [(h0, .inr (4, [.ref p1, .ref e1, .null, .null, .null, .int 0])), (p2, .inr (9, [.ref e1, .ref e2, .int 0, .int 0]))]) E in_Meaning ty_Meaning tk_Meaning nk_Meaning rfl rfl 1 (by decide) rfl rfl hin rfl rfl (Nat.le_of_ble_eq_true rfl) rfl rfl rfl fl_Meaning_21 d_Meaning_init_14 ?_
  refine Sm_aload_n E d_Meaning_init_17 rfl 0 rfl ?_
  refine Sm_aload_n E d_Meaning_init_18 rfl 3 rfl ?_
  refine Nm_putF (q0 := 0) (ws' := [(h0, .inr (4, [.ref p1, .ref e1, .ref p3, .null, .null, .int 0])), (p2, .inr (9, [.ref e1, .ref e2, .int 0, .int 0]))]) E in_Meaning ty_Meaning tk_Meaning nk_Meaning rfl rfl 2 (by decide) rfl rfl hin rfl rfl (Nat.le_of_ble_eq_true rfl) rfl rfl rfl fl_Meaning_24 d_Meaning_init_19 ?_
  refine Sm_aload_n E d_Meaning_init_22 rfl 0 rfl ?_
  refine Sm_aload E d_Meaning_init_23 4 rfl ?_
  refine Nm_putF (q0 := 0) (ws' := [(h0, .inr (4, [.ref p1, .ref e1, .ref p3, .ref p4, .null, .int 0])), (p2, .inr (9, [.ref e1, .ref e2, .int 0, .int 0]))]) E in_Meaning ty_Meaning tk_Meaning nk_Meaning rfl rfl 3 (by decide) rfl rfl hin rfl rfl (Nat.le_of_ble_eq_true rfl) rfl rfl rfl fl_Meaning_28 d_Meaning_init_25 ?_
  refine Sm_aload_n E d_Meaning_init_28 rfl 0 rfl ?_
  refine Sm_aload E d_Meaning_init_29 5 rfl ?_
  refine Nm_putF (q0 := 0) (ws' := [(h0, .inr (4, [.ref p1, .ref e1, .ref p3, .ref p4, .ref p5, .int 0])), (p2, .inr (9, [.ref e1, .ref e2, .int 0, .int 0]))]) E in_Meaning ty_Meaning tk_Meaning nk_Meaning rfl rfl 4 (by decide) rfl rfl hin rfl rfl (Nat.le_of_ble_eq_true rfl) rfl rfl rfl fl_Meaning_32 d_Meaning_init_31 ?_
  exact Sm_retN hR rfl d_Meaning_init_34
