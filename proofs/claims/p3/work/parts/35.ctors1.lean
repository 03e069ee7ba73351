theorem cT_text {l : Launch} {D : va_G} {tys : List (ClassId × FieldType)} {ext : (Nat → Prop) → State → Heap → Prop} {ws : va_W} {q0 b a e : Nat} {x y : Int32} (he : ws[q0]? = some (b, .inr (9, [.ref a, .ref e, .int x, .int y]))) : Ct l D vwCl ALL (fun _ : Unit => ws) tys (ws.map Prod.fst) ext y_Tokens_text (.code y_Tokens_text prog_9_method_2_code 1 (some (.object "SqlReader$Text"))) { frames := 0, cells := 0, slots := 0, locals := 0 } [.ref b] () (qA D vwCl (fun _ : Unit => ws) tys (ws.map Prod.fst) a ()) := by
  refine Ct_a (mv := some ()) (by decide) (fun _ => rfl) (Nat.le_of_ble_eq_true rfl) (Or.inl ⟨_, rfl⟩) rfl (fun X _ _ E hR => ?_)
  refine Sm_lvs (lv' := [(0, .ref b)]) rfl ?_
  refine Sm_aload_n E d_Tokens_text_0 rfl 0 rfl ?_
  refine Sm_get (q0 := q0) E in_Tokens rfl he 0 (by decide) rfl rfl fl_Tokens_10 d_Tokens_text_1 ?_
  exact Sm_reta hR d_Tokens_text_4
def uM0 : St := match mM_SqlReaderModel_forget zSt with
  | some u => u
  | none => zSt
theorem uM0_ok : some () = bP (mM_SqlReaderModel_forget zSt) (fun _ => some ()) := rfl
theorem uM0_eq : mM_SqlReaderModel_forget zSt = some uM0 := rfl
set_option maxRecDepth 100000 in
set_option maxHeartbeats 4000000 in
theorem n_Text_init {l : Launch} {D : va_G} {G : Gx} (h0 : Nat) : CtN l D vwCl ALL (tyW G) (exN G) y_Text_init (.code y_Text_init prog_8_method_1_code 1 none) { frames := 1, cells := 1, slots := 2000, locals := 20 } [.ref h0] [(h0, .inr (8, [.null, .int 0]))] 1 2000 (fun ws => ∃ q1 : Nat, ws = [(h0, .inr (8, [.ref q1, .int 0])), (q1, .inl (G.2.1 1, 2000, .inl fun _ => 0))]) := by
  refine CtN_mk (by decide) rfl (Nat.le_of_ble_eq_true rfl) (fun X hin E hR => ?_)
  refine Sm_lvs (lv' := [(0, .ref h0)]) rfl ?_
  refine Sm_aload_n E d_Text_init_0 rfl 0 rfl ?_
  refine Nm_objInit E nl_Text_1 im_Object_init oc_Object ⟨Nat.le_of_ble_eq_true rfl, Nat.le_of_ble_eq_true rfl⟩ (Nat.le_of_ble_eq_true rfl) d_Text_init_1 ?_
  refine Sm_aload_n E d_Text_init_4 rfl 0 rfl ?_
  refine Sm_sipush (v := 2000) E d_Text_init_5 (by decide) ?_
  refine Nm_newa (a0 := (2000, .inl fun _ => 0)) (N := 2000) (k := 1) (n := 2000) E ac_byte rfl 1 rfl (fun _ => rfl) (by decide) (by decide) (by decide) rfl rfl (Nat.le_of_ble_eq_true rfl) (Nat.le_of_ble_eq_true rfl) d_Text_init_8 (fun q1 E => ?_)
  refine Nm_ws (ws' := [(h0, .inr (8, [.null, .int 0])), (q1, .inl (G.2.1 1, 2000, .inl fun _ => 0))]) rfl ?_
  refine Nm_putF (q0 := 0) (ws' := [(h0, .inr (8, [.ref q1, .int 0])), (q1, .inl (G.2.1 1, 2000, .inl fun _ => 0))]) E in_Text ty_Text tk_Text nk_Text rfl rfl 0 (by decide) rfl rfl hin rfl rfl (Nat.le_of_ble_eq_true rfl) rfl rfl rfl fl_Text_9 d_Text_init_10 ?_
  exact Sm_retN hR ⟨q1, rfl⟩ d_Text_init_13
set_option maxRecDepth 100000 in
set_option maxHeartbeats 4000000 in
theorem n_Catalog_init {l : Launch} {D : va_G} {G : Gx} (h0 : Nat) : CtN l D vwCl ALL (tyW G) (exN G) y_Catalog_init (.code y_Catalog_init prog_2_method_1_code 1 none) { frames := 2, cells := 6, slots := 2146, locals := 40 } [.ref h0] [(h0, .inr (2, [.null, .null, .null, .null, .null, .int 0]))] 6 2146 (fun ws => ∃ q1 q2 q3 q4 q5 q6 : Nat, ws = [(h0, .inr (2, [.ref q1, .ref q3, .ref q4, .ref q5, .ref q6, .int 0])), (q1, .inr (8, [.ref q2, .int 0])), (q2, .inl (G.2.1 1, 2000, .inl fun _ => 0)), (q3, .inl (G.2.1 0, 8, .inl fun _ => 0)), (q4, .inl (G.2.1 0, 8, .inl fun _ => 0)), (q5, .inl (G.2.1 0, 64, .inl fun _ => 0)), (q6, .inl (G.2.1 0, 64, .inl fun _ => 0))]) := by
  refine CtN_mk (by decide) rfl (Nat.le_of_ble_eq_true rfl) (fun X hin E hR => ?_)
  refine Sm_lvs (lv' := [(0, .ref h0)]) rfl ?_
  refine Sm_aload_n E d_Catalog_init_0 rfl 0 rfl ?_
  refine Nm_objInit E nl_Catalog_3 im_Object_init oc_Object ⟨Nat.le_of_ble_eq_true rfl, Nat.le_of_ble_eq_true rfl⟩ (Nat.le_of_ble_eq_true rfl) d_Catalog_init_1 ?_
  refine Sm_aload_n E d_Catalog_init_4 rfl 0 rfl ?_
  refine Nm_new (ci := 8) (fs := [.null, .int 0]) (N := 2) (k := 1) (n := 2) E in_Text ty_Text tk_Text cl_Catalog_9 it_Text ii_Text rfl (by decide) rfl rfl (Nat.le_of_ble_eq_true rfl) (Nat.le_of_ble_eq_true rfl) d_Catalog_init_5 (fun q1 E => ?_)
  refine Nm_ws (ws' := [(h0, .inr (2, [.null, .null, .null, .null, .null, .int 0])), (q1, .inr (8, [.null, .int 0]))]) rfl ?_
  refine Sm_dup E d_Catalog_init_8 rfl ?_
  refine Nm_callIN (As := []) (b := q1) (st := [.ref q1, .ref h0]) (na := 0) (wr := [(h0, .inr (2, [.null, .null, .null, .null, .null, .int 0]))]) (k := 2) (n := 2002) E exNOk (n_Text_init q1) [1] [0] rfl rfl (by decide) rfl (by decide) (by decide) ck_Text_init ii_Text ((ex_ofN E).2 _ ns_Catalog_11) im_Text_init rfl dk_Text_init rfl ⟨rfl, rfl⟩ ⟨Nat.le_of_ble_eq_true rfl, Nat.le_of_ble_eq_true rfl⟩ rfl (Nat.le_of_ble_eq_true rfl) d_Catalog_init_9 rfl rfl (Nat.le_of_ble_eq_true rfl) (Nat.le_of_ble_eq_true rfl) (fun w1 hw1 E => ?_)
  obtain ⟨q2, rfl⟩ := hw1
  refine Nm_ws (ws' := [(h0, .inr (2, [.null, .null, .null, .null, .null, .int 0])), (q1, .inr (8, [.ref q2, .int 0])), (q2, .inl (G.2.1 1, 2000, .inl fun _ => 0))]) rfl ?_
  refine Nm_putF (q0 := 0) (ws' := [(h0, .inr (2, [.ref q1, .null, .null, .null, .null, .int 0])), (q1, .inr (8, [.ref q2, .int 0])), (q2, .inl (G.2.1 1, 2000, .inl fun _ => 0))]) E in_Catalog ty_Catalog tk_Catalog nk_Catalog rfl rfl 0 (by decide) rfl rfl hin rfl rfl (Nat.le_of_ble_eq_true rfl) rfl rfl rfl fl_Catalog_12 d_Catalog_init_12 ?_
  refine Sm_aload_n E d_Catalog_init_15 rfl 0 rfl ?_
  refine Sm_bipush (v := 8) E d_Catalog_init_16 (by decide) ?_
  refine Nm_newa (a0 := (8, .inl fun _ => 0)) (N := 8) (k := 3) (n := 2010) E ac_int rfl 0 rfl (fun _ => rfl) (by decide) (by decide) (by decide) rfl rfl (Nat.le_of_ble_eq_true rfl) (Nat.le_of_ble_eq_true rfl) d_Catalog_init_18 (fun q3 E => ?_)
  refine Nm_ws (ws' := [(h0, .inr (2, [.ref q1, .null, .null, .null, .null, .int 0])), (q1, .inr (8, [.ref q2, .int 0])), (q2, .inl (G.2.1 1, 2000, .inl fun _ => 0)), (q3, .inl (G.2.1 0, 8, .inl fun _ => 0))]) rfl ?_
  refine Nm_putF (q0 := 0) (ws' := [(h0, .inr (2, [.ref q1, .ref q3, .null, .null, .null, .int 0])), (q1, .inr (8, [.ref q2, .int 0])), (q2, .inl (G.2.1 1, 2000, .inl fun _ => 0)), (q3, .inl (G.2.1 0, 8, .inl fun _ => 0))]) E in_Catalog ty_Catalog tk_Catalog nk_Catalog rfl rfl 1 (by decide) rfl rfl hin rfl rfl (Nat.le_of_ble_eq_true rfl) rfl rfl rfl fl_Catalog_18 d_Catalog_init_20 ?_
  refine Sm_aload_n E d_Catalog_init_23 rfl 0 rfl ?_
  refine Sm_bipush (v := 8) E d_Catalog_init_24 (by decide) ?_
  refine Nm_newa (a0 := (8, .inl fun _ => 0)) (N := 8) (k := 4) (n := 2018) E ac_int rfl 0 rfl (fun _ => rfl) (by decide) (by decide) (by decide) rfl rfl (Nat.le_of_ble_eq_true rfl) (Nat.le_of_ble_eq_true rfl) d_Catalog_init_26 (fun q4 E => ?_)
  refine Nm_ws (ws' := [(h0, .inr (2, [.ref q1, .ref q3, .null, .null, .null, .int 0])), (q1, .inr (8, [.ref q2, .int 0])), (q2, .inl (G.2.1 1, 2000, .inl fun _ => 0)), (q3, .inl (G.2.1 0, 8, .inl fun _ => 0)), (q4, .inl (G.2.1 0, 8, .inl fun _ => 0))]) rfl ?_
  refine Nm_putF (q0 := 0) (ws' := [(h0, .inr (2, [.ref q1, .ref q3, .ref q4, .null, .null, .int 0])), (q1, .inr (8, [.ref q2, .int 0])), (q2, .inl (G.2.1 1, 2000, .inl fun _ => 0)), (q3, .inl (G.2.1 0, 8, .inl fun _ => 0)), (q4, .inl (G.2.1 0, 8, .inl fun _ => 0))]) E in_Catalog ty_Catalog tk_Catalog nk_Catalog rfl rfl 2 (by decide) rfl rfl hin rfl rfl (Nat.le_of_ble_eq_true rfl) rfl rfl rfl fl_Catalog_22 d_Catalog_init_28 ?_
  refine Sm_aload_n E d_Catalog_init_31 rfl 0 rfl ?_
  refine Sm_bipush (v := 64) E d_Catalog_init_32 (by decide) ?_
  refine Nm_newa (a0 := (64, .inl fun _ => 0)) (N := 64) (k := 5) (n := 2082) E ac_int rfl 0 rfl (fun _ => rfl) (by decide) (by decide) (by decide) rfl rfl (Nat.le_of_ble_eq_true rfl) (Nat.le_of_ble_eq_true rfl) d_Catalog_init_34 (fun q5 E => ?_)
  refine Nm_ws (ws' := [(h0, .inr (2, [.ref q1, .ref q3, .ref q4, .null, .null, .int 0])), (q1, .inr (8, [.ref q2, .int 0])), (q2, .inl (G.2.1 1, 2000, .inl fun _ => 0)), (q3, .inl (G.2.1 0, 8, .inl fun _ => 0)), (q4, .inl (G.2.1 0, 8, .inl fun _ => 0)), (q5, .inl (G.2.1 0, 64, .inl fun _ => 0))]) rfl ?_
  refine Nm_putF (q0 := 0) (ws' := [(h0, .inr (2, [.ref q1, .ref q3, .ref q4, .ref q5, .null, .int 0])), (q1, .inr (8, [.ref q2, .int 0])), (q2, .inl (G.2.1 1, 2000, .inl fun _ => 0)), (q3, .inl (G.2.1 0, 8, .inl fun _ => 0)), (q4, .inl (G.2.1 0, 8, .inl fun _ => 0)), (q5, .inl (G.2.1 0, 64, .inl fun _ => 0))]) E in_Catalog ty_Catalog tk_Catalog nk_Catalog rfl rfl 3 (by decide) rfl rfl hin rfl rfl (Nat.le_of_ble_eq_true rfl) rfl rfl rfl fl_Catalog_25 d_Catalog_init_36 ?_
  refine Sm_aload_n E d_Catalog_init_39 rfl 0 rfl ?_
  refine Sm_bipush (v := 64) E d_Catalog_init_40 (by decide) ?_
  refine Nm_newa (a0 := (64, .inl fun _ => 0)) (N := 64) (k := 6) (n := 2146) E ac_int rfl 0 rfl (fun _ => rfl) (by decide) (by decide) (by decide) rfl rfl (Nat.le_of_ble_eq_true rfl) (Nat.le_of_ble_eq_true rfl) d_Catalog_init_42 (fun q6 E => ?_)
  refine Nm_ws (ws' := [(h0, .inr (2, [.ref q1, .ref q3, .ref q4, .ref q5, .null, .int 0])), (q1, .inr (8, [.ref q2, .int 0])), (q2, .inl (G.2.1 1, 2000, .inl fun _ => 0)), (q3, .inl (G.2.1 0, 8, .inl fun _ => 0)), (q4, .inl (G.2.1 0, 8, .inl fun _ => 0)), (q5, .inl (G.2.1 0, 64, .inl fun _ => 0)), (q6, .inl (G.2.1 0, 64, .inl fun _ => 0))]) rfl ?_
  refine Nm_putF (q0 := 0) (ws' := [(h0, .inr (2, [.ref q1, .ref q3, .ref q4, .ref q5, .ref q6, .int 0])), (q1, .inr (8, [.ref q2, .int 0])), (q2, .inl (G.2.1 1, 2000, .inl fun _ => 0)), (q3, .inl (G.2.1 0, 8, .inl fun _ => 0)), (q4, .inl (G.2.1 0, 8, .inl fun _ => 0)), (q5, .inl (G.2.1 0, 64, .inl fun _ => 0)), (q6, .inl (G.2.1 0, 64, .inl fun _ => 0))]) E in_Catalog ty_Catalog tk_Catalog nk_Catalog rfl rfl 4 (by decide) rfl rfl hin rfl rfl (Nat.le_of_ble_eq_true rfl) rfl rfl rfl fl_Catalog_28 d_Catalog_init_44 ?_
  exact Sm_retN hR ⟨q1, q2, q3, q4, q5, q6, rfl⟩ d_Catalog_init_47
