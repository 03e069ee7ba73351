section Start
variable {args : Array Value} {s : State} {A : Nat → Prop}
set_option maxRecDepth 100000 in
theorem sy_0 (hP : ∀ w ∈ PR, w.before args s = true) (hT : ∀ w ∈ lw_tbl, w.before args s = true) (hA : ∀ a : Nat, a < s.heap.size → ¬ A a) : ∃ t : Nat, va_Z "SqlReader$Lists" "MOST" "[I" (.ref t) A s s.heap ∧ va_T .int t 14 (fun i => .int (([8, 4, 4, 3, 8, 8, 200, 8, 9, 200, 3, 3, 200, 8] : List Int32).getD i 0)) A s s.heap := by
  obtain ⟨t, ht, hT1⟩ := va_Tof (ty := .int) (tm := .static "SqlReader$Lists" "MOST" "[I") (N := 14) (f := fun i => .int (([8, 4, 4, 3, 8, 8, 200, 8, 9, 200, 3, 3, 200, 8] : List Int32).getD i 0)) (A := A) (by decide) (hP _ (pr 10 (by decide +kernel))) (va_eqt (hP _ (pr 11 (by decide +kernel)))) (fun z hz => va_eqt (hP _ (va_run (p := 12) (N := 14) (f := fun z => Cond.eq (.elem (.static "SqlReader$Lists" "MOST" "[I") (.int (Int32.ofNat z))) (.int (([8, 4, 4, 3, 8, 8, 200, 8, 9, 200, 3, 3, 200, 8] : List Int32).getD z 0))) (by decide +kernel) z hz))) hA
  exact ⟨t, va_Zof (hT _ (lt_ 729 rfl)) (hT _ (lt_ 6 rfl)) ht hA, hT1⟩
set_option maxRecDepth 100000 in
theorem sy_1 (hP : ∀ w ∈ PR, w.before args s = true) (hT : ∀ w ∈ lw_tbl, w.before args s = true) (hA : ∀ a : Nat, a < s.heap.size → ¬ A a) : ∃ t : Nat, va_Z "SqlReader$Lists" "STARTS" "[I" (.ref t) A s s.heap ∧ va_T .int t 14 (fun i => .int (([0, 8, 12, 16, 19, 27, 35, 235, 243, 252, 452, 455, 458, 658] : List Int32).getD i 0)) A s s.heap := by
  obtain ⟨t, ht, hT1⟩ := va_Tof (ty := .int) (tm := .static "SqlReader$Lists" "STARTS" "[I") (N := 14) (f := fun i => .int (([0, 8, 12, 16, 19, 27, 35, 235, 243, 252, 452, 455, 458, 658] : List Int32).getD i 0)) (A := A) (by decide) (hP _ (pr 27 (by decide +kernel))) (va_eqt (hP _ (pr 28 (by decide +kernel)))) (fun z hz => va_eqt (hP _ (va_run (p := 29) (N := 14) (f := fun z => Cond.eq (.elem (.static "SqlReader$Lists" "STARTS" "[I") (.int (Int32.ofNat z))) (.int (([0, 8, 12, 16, 19, 27, 35, 235, 243, 252, 452, 455, 458, 658] : List Int32).getD z 0))) (by decide +kernel) z hz))) hA
  exact ⟨t, va_Zof (hT _ (lt_ 731 rfl)) (hT _ (lt_ 6 rfl)) ht hA, hT1⟩
set_option maxRecDepth 100000 in
theorem sy_2 (hP : ∀ w ∈ PR, w.before args s = true) (hT : ∀ w ∈ lw_tbl, w.before args s = true) (hA : ∀ a : Nat, a < s.heap.size → ¬ A a) : ∃ t : Nat, va_Z "SqlReader$Meaning" "NEEDS" "[I" (.ref t) A s s.heap ∧ va_T .int t 29 (fun i => .int (([0, 0, 0, 0, 0, 0, 0, 1, 0, 0, 1, 1, 1, 1, 1, 1, 2, 0, 0, 0, 0, 0, 0, 0, 0, 3, 3, 3, 0] : List Int32).getD i 0)) A s s.heap := by
  obtain ⟨t, ht, hT1⟩ := va_Tof (ty := .int) (tm := .static "SqlReader$Meaning" "NEEDS" "[I") (N := 29) (f := fun i => .int (([0, 0, 0, 0, 0, 0, 0, 1, 0, 0, 1, 1, 1, 1, 1, 1, 2, 0, 0, 0, 0, 0, 0, 0, 0, 3, 3, 3, 0] : List Int32).getD i 0)) (A := A) (by decide) (hP _ (pr 44 (by decide +kernel))) (va_eqt (hP _ (pr 45 (by decide +kernel)))) (fun z hz => va_eqt (hP _ (va_run (p := 46) (N := 29) (f := fun z => Cond.eq (.elem (.static "SqlReader$Meaning" "NEEDS" "[I") (.int (Int32.ofNat z))) (.int (([0, 0, 0, 0, 0, 0, 0, 1, 0, 0, 1, 1, 1, 1, 1, 1, 2, 0, 0, 0, 0, 0, 0, 0, 0, 3, 3, 3, 0] : List Int32).getD z 0))) (by decide +kernel) z hz))) hA
  exact ⟨t, va_Zof (hT _ (lt_ 1002 rfl)) (hT _ (lt_ 9 rfl)) ht hA, hT1⟩
set_option maxRecDepth 100000 in
theorem sy_3 (hP : ∀ w ∈ PR, w.before args s = true) (hT : ∀ w ∈ lw_tbl, w.before args s = true) (hA : ∀ a : Nat, a < s.heap.size → ¬ A a) : ∃ t : Nat, va_Z "SqlReader$Meaning" "TYPES" "[I" (.ref t) A s s.heap ∧ va_T .int t 29 (fun i => .int (([0, 1, 2, 3, 0, 1, 1, 1, 0, 0, 1, 1, 1, 1, 1, 1, 2, 3, 3, 3, 3, 3, 3, 3, 3, 3, 3, 3, 0] : List Int32).getD i 0)) A s s.heap := by
  obtain ⟨t, ht, hT1⟩ := va_Tof (ty := .int) (tm := .static "SqlReader$Meaning" "TYPES" "[I") (N := 29) (f := fun i => .int (([0, 1, 2, 3, 0, 1, 1, 1, 0, 0, 1, 1, 1, 1, 1, 1, 2, 3, 3, 3, 3, 3, 3, 3, 3, 3, 3, 3, 0] : List Int32).getD i 0)) (A := A) (by decide) (hP _ (pr 76 (by decide +kernel))) (va_eqt (hP _ (pr 77 (by decide +kernel)))) (fun z hz => va_eqt (hP _ (va_run (p := 78) (N := 29) (f := fun z => Cond.eq (.elem (.static "SqlReader$Meaning" "TYPES" "[I") (.int (Int32.ofNat z))) (.int (([0, 1, 2, 3, 0, 1, 1, 1, 0, 0, 1, 1, 1, 1, 1, 1, 2, 3, 3, 3, 3, 3, 3, 3, 3, 3, 3, 3, 0] : List Int32).getD z 0))) (by decide +kernel) z hz))) hA
  exact ⟨t, va_Zof (hT _ (lt_ 1027 rfl)) (hT _ (lt_ 9 rfl)) ht hA, hT1⟩
set_option maxRecDepth 100000 in
theorem ex_start (hP : ∀ w ∈ PR, w.before args s = true) (hT : ∀ w ∈ lw_tbl, w.before args s = true) (hA : ∀ a : Nat, a < s.heap.size → ¬ A a) (ad : Nat → Nat) (ci : Nat → ClassId) : ∃ g, exN ((ad, ci, g) : Gx) A s s.heap := by
  obtain ⟨sd, hs⟩ := sx_fun hP hT hA
  obtain ⟨t0, z0, w0⟩ := sy_0 hP hT hA
  obtain ⟨t1, z1, w1⟩ := sy_1 hP hT hA
  obtain ⟨t2, z2, w2⟩ := sy_2 hP hT hA
  obtain ⟨t3, z3, w3⟩ := sy_3 hP hT hA
  obtain ⟨xo, hxo⟩ : ∃ xo : Option Nat, va_Z "jdk/internal/util/Preconditions" "SIOOBE_FORMATTER" "Ljava/util/function/BiFunction;" (va_rf xo) A s s.heap := by
    obtain ⟨v, hv, hr⟩ := Cond.isRef_spec (show (Cond.isRef (.static "jdk/internal/util/Preconditions" "SIOOBE_FORMATTER" "Ljava/util/function/BiFunction;")).before args s = true from hP _ (pr 5 (by decide +kernel)))
    cases v with
    | null => exact ⟨none, va_Zof (hT _ (lt_ 518 rfl)) (hT _ (lt_ 17 rfl)) hv hA⟩
    | ref a => exact ⟨some a, va_Zof (hT _ (lt_ 518 rfl)) (hT _ (lt_ 17 rfl)) hv hA⟩
    | _ => cases hr
  refine ⟨(fun k => (sd k).1, fun k => (sd k).2, fun j => match j with | 0 => t0 | 1 => t1 | 2 => t2 | 3 => t3 | _ => 0, xo), ⟨fun q hq => ?_, fun k hk => (hs k hk).2, fun j hj => ?_, va_Zof (hT _ (lt_ 475 rfl)) (hT _ (lt_ 13 rfl)) (va_eqi (hP _ (pr 4 (by decide +kernel)))) hA, hxo⟩, List.forall_mem_cons.mpr ⟨va_Nw.of rfl (hT _ (lt_ 29 rfl)), List.forall_mem_cons.mpr ⟨va_Nw.of rfl (hT _ (lt_ 43 rfl)), List.forall_mem_cons.mpr ⟨va_Nw.of rfl (hT _ (lt_ 48 rfl)), List.forall_mem_cons.mpr ⟨va_Nw.of rfl (hT _ (lt_ 71 rfl)), List.forall_mem_cons.mpr ⟨va_Nw.of rfl (hT _ (lt_ 76 rfl)), List.forall_mem_cons.mpr ⟨va_Nw.of rfl (hT _ (lt_ 92 rfl)), List.forall_mem_cons.mpr ⟨va_Nw.of rfl (hT _ (lt_ 132 rfl)), fun _ h => absurd h List.not_mem_nil⟩⟩⟩⟩⟩⟩⟩⟩
  · obtain ⟨h1, h2⟩ := of_decide_eq_true (List.all_eq_true.mp st_ix q hq)
    have h := (hs _ h1).1
    rw [h2] at h
    exact h
  · match j, hj with
    | 0, _ => exact ⟨z0, w0⟩
    | 1, _ => exact ⟨z1, w1⟩
    | 2, _ => exact ⟨z2, w2⟩
    | 3, _ => exact ⟨z3, w3⟩
    | j + 4, h => exact absurd h (by show ¬ j + 4 < 4; omega)
set_option maxRecDepth 100000 in
theorem ar_int (hT : ∀ w ∈ lw_tbl, w.before args s = true) : ∃ c : ClassId, ArrOfT s c .int ∧ va_RA s c .int := by
  obtain ⟨cA, kA, comp, h1, h2, h3⟩ := Cond.arrayClass_spec (show (Cond.arrayClass .int).before args s = true from hT _ (lt_ 68 rfl))
  exact ⟨cA, fun n z => ⟨fun k h => (by cases h), kA, h2, comp, h3⟩, h1⟩
set_option maxRecDepth 100000 in
theorem ar_byte (hT : ∀ w ∈ lw_tbl, w.before args s = true) : ∃ c : ClassId, ArrOfT s c .byte ∧ va_RA s c .byte := by
  obtain ⟨cA, kA, comp, h1, h2, h3⟩ := Cond.arrayClass_spec (show (Cond.arrayClass .byte).before args s = true from hT _ (lt_ 40 rfl))
  exact ⟨cA, fun n z => ⟨fun k h => (by cases h), kA, h2, comp, h3⟩, h1⟩
set_option maxRecDepth 100000 in
theorem ar_long (hT : ∀ w ∈ lw_tbl, w.before args s = true) : ∃ c : ClassId, ArrOfT s c .long ∧ va_RA s c .long := by
  obtain ⟨cA, kA, comp, h1, h2, h3⟩ := Cond.arrayClass_spec (show (Cond.arrayClass .long).before args s = true from hT _ (lt_ 1377 rfl))
  exact ⟨cA, fun n z => ⟨fun k h => (by cases h), kA, h2, comp, h3⟩, h1⟩
set_option maxRecDepth 100000 in
theorem ar_boolean (hT : ∀ w ∈ lw_tbl, w.before args s = true) : ∃ c : ClassId, ArrOfT s c .boolean ∧ va_RA s c .boolean := by
  obtain ⟨cA, kA, comp, h1, h2, h3⟩ := Cond.arrayClass_spec (show (Cond.arrayClass .boolean).before args s = true from hT _ (lt_ 1378 rfl))
  exact ⟨cA, fun n z => ⟨fun k h => (by cases h), kA, h2, comp, h3⟩, h1⟩
end Start
def uC0 : St := (fun k => match k with | 11 => (-1) | 12 => (-1) | 13 => (-1) | 14 => (-1) | 15 => (-1) | 17 => (-1) | 18 => (-1) | _ => 0, fun _ _ => 0, fun _ => 0, fun _ _ => 0)
set_option maxRecDepth 100000 in
set_option maxHeartbeats 8000000 in
/-- THE CLAIM OUT OF THE MODELS: where the law's model answers 1, the law does -/
theorem whole_of {p : Program} {e : Env} {s : State} {m : MethodId} {below : List Frame} {meth : Method} {c : Code} (l : Launch) {b L : Nat} {xv : Nat → Int32} (hm : ∃ n, mL_law_L18 xv L n 0 (uC0, uM0) = some 1) (C0 : lw_At p s m meth c b L xv) : W p l e room_1 s m #[Value.ref b] below meth c s.heap [] 0 0 (lw_Z below #[Value.ref b] s) (entryFrame m ([Value.ref b] : List Value).toArray 4) := by
  obtain ⟨hx, hb, hr, hml, hown, hts, hX, hbl, hlocks, hgv⟩ := id C0
  obtain ⟨n, hm⟩ := hm
  have hP := flat_of_before _ hgv
  have hAll : ∀ w ∈ ALL, w.before #[Value.ref b] s = true := fun w h => hts w (List.mem_filter.mp h).1
  have hA0 : ∀ a : Nat, a < s.heap.size → ¬ Aw [] s.heap.size a := fun a h z => z.elim (fun z => absurd z List.not_mem_nil) (fun z => by omega)
  obtain ⟨c0, iS0, hK0⟩ := u_known (C := R_SqlReader) (T := T_SqlReader) (N := 8) (n := 8) hAll in_SqlReader (hAll _ it_SqlReader)
  obtain ⟨c1, iS1, hK1⟩ := u_known (C := R_SqlReaderModel) (T := T_SqlReaderModel) (N := 71) (n := 71) hAll in_SqlReaderModel (hAll _ it_SqlReaderModel)
  obtain ⟨c2, iS2, hK2⟩ := u_known (C := R_Catalog) (T := T_Catalog) (N := 6) (n := 6) hAll in_Catalog (hAll _ it_Catalog)
  obtain ⟨c3, iS3, hK3⟩ := u_known (C := R_Lists) (T := T_Lists) (N := 3) (n := 3) hAll in_Lists (hAll _ it_Lists)
  obtain ⟨c4, iS4, hK4⟩ := u_known (C := R_Meaning) (T := T_Meaning) (N := 6) (n := 6) hAll in_Meaning (hAll _ it_Meaning)
  obtain ⟨c5, iS5, hK5⟩ := u_known (C := R_Nodes) (T := T_Nodes) (N := 11) (n := 11) hAll in_Nodes (hAll _ it_Nodes)
  obtain ⟨c6, iS6, hK6⟩ := u_known (C := R_Parser) (T := T_Parser) (N := 6) (n := 6) hAll in_Parser (hAll _ it_Parser)
  obtain ⟨c7, iS7, hK7⟩ := u_known (C := R_Statement) (T := T_Statement) (N := 13) (n := 13) hAll in_Statement (hAll _ it_Statement)
  obtain ⟨c8, iS8, hK8⟩ := u_known (C := R_Text) (T := T_Text) (N := 2) (n := 2) hAll in_Text (hAll _ it_Text)
  obtain ⟨c9, iS9, hK9⟩ := u_known (C := R_Tokens) (T := T_Tokens) (N := 4) (n := 4) hAll in_Tokens (hAll _ it_Tokens)
  obtain ⟨dC, dI, hKc⟩ : ∃ (dC : Nat → ClassId) (dI : Nat → Nat → Nat), ∀ (k : Nat) (q : vw_C), vwCl[k]? = some q → u_Kn s q.1 q.2.1 q.2.2 (dC k) (dI k) := by
    refine ⟨fun k => match k with | 0 => c0 | 1 => c1 | 2 => c2 | 3 => c3 | 4 => c4 | 5 => c5 | 6 => c6 | 7 => c7 | 8 => c8 | _ => c9, fun k => match k with | 0 => iS0 | 1 => iS1 | 2 => iS2 | 3 => iS3 | 4 => iS4 | 5 => iS5 | 6 => iS6 | 7 => iS7 | 8 => iS8 | _ => iS9, ?_⟩
    intro k q hq
    match k, hq with
    | 0, hq => cases hq; exact hK0
    | 1, hq => cases hq; exact hK1
    | 2, hq => cases hq; exact hK2
    | 3, hq => cases hq; exact hK3
    | 4, hq => cases hq; exact hK4
    | 5, hq => cases hq; exact hK5
    | 6, hq => cases hq; exact hK6
    | 7, hq => cases hq; exact hK7
    | 8, hq => cases hq; exact hK8
    | 9, hq => cases hq; exact hK9
    | k + 10, hq => simp [vwCl] at hq
  obtain ⟨a0, ha0, hb0⟩ := ar_int hts
  obtain ⟨a1, ha1, hb1⟩ := ar_byte hts
  obtain ⟨a2, ha2, hb2⟩ := ar_long hts
  obtain ⟨a3, ha3, hb3⟩ := ar_boolean hts
  obtain ⟨g, hg⟩ := ex_start hP hts hA0 (fun _ => 0) (fun k => match k with | 0 => a0 | 1 => a1 | 2 => a2 | _ => a3)
  generalize hG : (((fun _ => 0), (fun k => match k with | 0 => a0 | 1 => a1 | 2 => a2 | _ => a3), g) : Gx) = G at hg
  have hK : va_K (dC, dI) vwCl (tyW G) s := by
    refine ⟨hKc, fun k q h => ?_⟩
    subst hG
    match k, h with
    | 0, h => cases h; exact ⟨ha0, hb0⟩
    | 1, h => cases h; exact ⟨ha1, hb1⟩
    | 2, h => cases h; exact ⟨ha2, hb2⟩
    | 3, h => cases h; exact ⟨ha3, hb3⟩
    | k + 4, h => simp [tyW] at h
  clear hG
  have hl := lv_entry ([.ref b]) (n := 4) (Nat.le_of_ble_eq_true rfl)
  rw [lg_entry_eq]
  generalize (lg_sl ([.ref b]) ++ List.replicate (4 - (lg_sl ([.ref b])).length) Slot.unset).toArray = ls at hl ⊢
  obtain ⟨X, hX0⟩ : ∃ X : Cx, X = (p, l, e, room_1, s, m, #[Value.ref b], below, meth, c, lw_Z below #[Value.ref b] s, (dC, dI), Aw [] s.heap.size, 0, 0) := ⟨_, rfl⟩
  have E : En (xu X 0 0) vwCl ALL code R_SqlReaderLaw 4 (tyW G) [] room_1 (exN G) := by subst hX0; exact ⟨hx, hb, hAll, hown, hK, hml, rfl, rfl, ⟨Nat.zero_le _, Nat.zero_le _⟩, hg⟩
  have hR : ∀ k n : Nat, k ≤ 600000 → n ≤ 7302250 → RtL (xu X k n) code := by
    subst hX0
    intro k n hk hn H locs ls pc hS hdg
    refine va_forget (fun q hq => (hS.2.2 q hq).elim (fun z => absurd z List.not_mem_nil) id) ?_
    refine W.widen (k := 600000) (n := 7302250) hk hn ?_
    exact lw_ret hx hb hr hlocks hdg
  have hSc : ∀ k n : Nat, Scr (xu X k n) b L xv := by subst hX0; exact fun _ _ => ⟨hX, hbl, hA0 b hbl⟩
  have go : Sm (xu X 0 0) vwCl idW 4 (1 : Int32) (some 1) [] 0 (lv_args 0 [.ref b]) [] := by
    refine Sm_lvs (lv' := [(0, .ref b)]) rfl ?_
    refine Nm_new (ci := 0) (fs := [.null, .null, .null, .null, .null, .null, .null, .null]) (N := 8) (k := 1) (n := 8) E in_SqlReader ty_SqlReader tk_SqlReader cl_SqlReaderLaw_7 it_SqlReader ii_SqlReader rfl (by decide) rfl rfl (Nat.le_of_ble_eq_true rfl) (Nat.le_of_ble_eq_true rfl) d_SqlReaderLaw_law_0 (fun xC E => ?_)
    refine Nm_ws (ws' := [(xC, .inr (0, [.null, .null, .null, .null, .null, .null, .null, .null]))]) rfl ?_
    refine Sm_dup E d_SqlReaderLaw_law_3 rfl ?_
    refine Nm_callI (As := []) (b := xC) (st := [.ref xC]) (na := 0) (wr := []) (k := 30) (n := 10687) E exNOk (n_SqlReader_init xC) [0] [] rfl rfl (by decide) rfl (by decide) (by decide) ck_SqlReader_init ii_SqlReader nl_SqlReaderLaw_9 im_SqlReader_init rfl dk_SqlReader_init rfl ⟨rfl, rfl⟩ ⟨Nat.le_of_ble_eq_true rfl, Nat.le_of_ble_eq_true rfl⟩ rfl (Nat.le_of_ble_eq_true rfl) d_SqlReaderLaw_law_4 rfl rfl (Nat.le_of_ble_eq_true rfl) (Nat.le_of_ble_eq_true rfl) (fun w1 hw1 E => ?_)
    obtain ⟨cq1, cq2, cq3, cq4, cq5, cq6, cq7, cq8, cq9, cq10, cq11, cq12, cq13, cq14, cq15, cq16, cq17, cq18, cq19, cq20, cq21, cq22, cq23, cq24, cq25, cq26, cq27, cq28, cq29, rfl⟩ := hw1
    refine Nm_ws (ws' := [(xC, .inr (0, [.ref cq1, .ref cq3, .ref cq10, .ref cq14, .ref cq24, .ref cq27, .ref cq28, .ref cq29])), (cq1, .inr (8, [.ref cq2, .int 0])), (cq2, .inl (G.2.1 1, 2000, .inl fun _ => 0)), (cq3, .inr (2, [.ref cq4, .ref cq6, .ref cq7, .ref cq8, .ref cq9, .int 0])), (cq4, .inr (8, [.ref cq5, .int 0])), (cq5, .inl (G.2.1 1, 2000, .inl fun _ => 0)), (cq6, .inl (G.2.1 0, 8, .inl fun _ => 0)), (cq7, .inl (G.2.1 0, 8, .inl fun _ => 0)), (cq8, .inl (G.2.1 0, 64, .inl fun _ => 0)), (cq9, .inl (G.2.1 0, 64, .inl fun _ => 0)), (cq10, .inr (9, [.ref cq11, .ref cq13, .int 0, .int 0])), (cq11, .inr (8, [.ref cq12, .int 0])), (cq12, .inl (G.2.1 1, 2000, .inl fun _ => 0)), (cq13, .inl (G.2.1 0, 2000, .inl fun _ => 0)), (cq14, .inr (5, [.ref cq15, .ref cq16, .ref cq17, .ref cq18, .ref cq19, .ref cq20, .ref cq21, .ref cq22, .ref cq23, .int 0, .int 0])), (cq15, .inl (G.2.1 0, 200, .inl fun _ => 0)), (cq16, .inl (G.2.1 0, 200, .inl fun _ => 0)), (cq17, .inl (G.2.1 0, 200, .inl fun _ => 0)), (cq18, .inl (G.2.1 0, 200, .inl fun _ => 0)), (cq19, .inl (G.2.1 0, 200, .inl fun _ => 0)), (cq20, .inl (G.2.1 0, 200, .inl fun _ => 0)), (cq21, .inl (G.2.1 0, 200, .inl fun _ => 0)), (cq22, .inl (G.2.1 0, 200, .inl fun _ => 0)), (cq23, .inl (G.2.1 0, 200, .inl fun _ => 0)), (cq24, .inr (3, [.ref cq25, .ref cq26, .int 0])), (cq25, .inl (G.2.1 0, 14, .inl fun _ => 0)), (cq26, .inl (G.2.1 0, 666, .inl fun _ => 0)), (cq27, .inr (7, [.int 0, .int 0, .int (-1), .int (-1), .int (-1), .int (-1), .int (-1), .int 0, .int (-1), .int (-1), .int 0, .int 0, .int 0])), (cq28, .inr (6, [.ref cq10, .ref cq14, .ref cq24, .ref cq27, .int 0, .int 0])), (cq29, .inr (4, [.ref cq3, .ref cq11, .ref cq14, .ref cq24, .ref cq27, .int 0]))]) rfl ?_
    refine Sm_astore_n (lv' := [(1, .ref xC), (0, .ref b)]) E d_SqlReaderLaw_law_7 rfl (by decide) rfl ?_
    refine Nm_new (ci := 1) (fs := [.int 0, .null, .int 0, .null, .null, .null, .int 0, .int 0, .null, .null, .null, .null, .null, .null, .int 0, .null, .null, .null, .null, .null, .null, .null, .null, .null, .int 0, .null, .null, .null, .int 0, .int 0, .int 0, .int 0, .int 0, .int 0, .int 0, .int 0, .int 0, .long 0, .int 0, .int 0, .null, .int 0, .null, .int 0, .null, .null, .int 0, .null, .null, .null, .int 0, .null, .null, .null, .int 0, .int 0, .int 0, .null, .int 0, .null, .null, .int 0, .int 0, .int 0, .int 0, .null, .int 0, .int 0, .null, .null, .null]) (N := 71) (k := 31) (n := 10758) E in_SqlReaderModel ty_SqlReaderModel tk_SqlReaderModel cl_SqlReaderLaw_10 it_SqlReaderModel ii_SqlReaderModel rfl (by decide) rfl rfl (Nat.le_of_ble_eq_true rfl) (Nat.le_of_ble_eq_true rfl) d_SqlReaderLaw_law_8 (fun xM E => ?_)
    refine Nm_ws (ws' := [(xC, .inr (0, [.ref cq1, .ref cq3, .ref cq10, .ref cq14, .ref cq24, .ref cq27, .ref cq28, .ref cq29])), (cq1, .inr (8, [.ref cq2, .int 0])), (cq2, .inl (G.2.1 1, 2000, .inl fun _ => 0)), (cq3, .inr (2, [.ref cq4, .ref cq6, .ref cq7, .ref cq8, .ref cq9, .int 0])), (cq4, .inr (8, [.ref cq5, .int 0])), (cq5, .inl (G.2.1 1, 2000, .inl fun _ => 0)), (cq6, .inl (G.2.1 0, 8, .inl fun _ => 0)), (cq7, .inl (G.2.1 0, 8, .inl fun _ => 0)), (cq8, .inl (G.2.1 0, 64, .inl fun _ => 0)), (cq9, .inl (G.2.1 0, 64, .inl fun _ => 0)), (cq10, .inr (9, [.ref cq11, .ref cq13, .int 0, .int 0])), (cq11, .inr (8, [.ref cq12, .int 0])), (cq12, .inl (G.2.1 1, 2000, .inl fun _ => 0)), (cq13, .inl (G.2.1 0, 2000, .inl fun _ => 0)), (cq14, .inr (5, [.ref cq15, .ref cq16, .ref cq17, .ref cq18, .ref cq19, .ref cq20, .ref cq21, .ref cq22, .ref cq23, .int 0, .int 0])), (cq15, .inl (G.2.1 0, 200, .inl fun _ => 0)), (cq16, .inl (G.2.1 0, 200, .inl fun _ => 0)), (cq17, .inl (G.2.1 0, 200, .inl fun _ => 0)), (cq18, .inl (G.2.1 0, 200, .inl fun _ => 0)), (cq19, .inl (G.2.1 0, 200, .inl fun _ => 0)), (cq20, .inl (G.2.1 0, 200, .inl fun _ => 0)), (cq21, .inl (G.2.1 0, 200, .inl fun _ => 0)), (cq22, .inl (G.2.1 0, 200, .inl fun _ => 0)), (cq23, .inl (G.2.1 0, 200, .inl fun _ => 0)), (cq24, .inr (3, [.ref cq25, .ref cq26, .int 0])), (cq25, .inl (G.2.1 0, 14, .inl fun _ => 0)), (cq26, .inl (G.2.1 0, 666, .inl fun _ => 0)), (cq27, .inr (7, [.int 0, .int 0, .int (-1), .int (-1), .int (-1), .int (-1), .int (-1), .int 0, .int (-1), .int (-1), .int 0, .int 0, .int 0])), (cq28, .inr (6, [.ref cq10, .ref cq14, .ref cq24, .ref cq27, .int 0, .int 0])), (cq29, .inr (4, [.ref cq3, .ref cq11, .ref cq14, .ref cq24, .ref cq27, .int 0])), (xM, .inr (1, [.int 0, .null, .int 0, .null, .null, .null, .int 0, .int 0, .null, .null, .null, .null, .null, .null, .int 0, .null, .null, .null, .null, .null, .null, .null, .null, .null, .int 0, .null, .null, .null, .int 0, .int 0, .int 0, .int 0, .int 0, .int 0, .int 0, .int 0, .int 0, .long 0, .int 0, .int 0, .null, .int 0, .null, .int 0, .null, .null, .int 0, .null, .null, .null, .int 0, .null, .null, .null, .int 0, .int 0, .int 0, .null, .int 0, .null, .null, .int 0, .int 0, .int 0, .int 0, .null, .int 0, .int 0, .null, .null, .null]))]) rfl ?_
    refine Sm_dup E d_SqlReaderLaw_law_11 rfl ?_
    refine Nm_callI (As := []) (b := xM) (st := [.ref xM]) (na := 0) (wr := [(xC, .inr (0, [.ref cq1, .ref cq3, .ref cq10, .ref cq14, .ref cq24, .ref cq27, .ref cq28, .ref cq29])), (cq1, .inr (8, [.ref cq2, .int 0])), (cq2, .inl (G.2.1 1, 2000, .inl fun _ => 0)), (cq3, .inr (2, [.ref cq4, .ref cq6, .ref cq7, .ref cq8, .ref cq9, .int 0])), (cq4, .inr (8, [.ref cq5, .int 0])), (cq5, .inl (G.2.1 1, 2000, .inl fun _ => 0)), (cq6, .inl (G.2.1 0, 8, .inl fun _ => 0)), (cq7, .inl (G.2.1 0, 8, .inl fun _ => 0)), (cq8, .inl (G.2.1 0, 64, .inl fun _ => 0)), (cq9, .inl (G.2.1 0, 64, .inl fun _ => 0)), (cq10, .inr (9, [.ref cq11, .ref cq13, .int 0, .int 0])), (cq11, .inr (8, [.ref cq12, .int 0])), (cq12, .inl (G.2.1 1, 2000, .inl fun _ => 0)), (cq13, .inl (G.2.1 0, 2000, .inl fun _ => 0)), (cq14, .inr (5, [.ref cq15, .ref cq16, .ref cq17, .ref cq18, .ref cq19, .ref cq20, .ref cq21, .ref cq22, .ref cq23, .int 0, .int 0])), (cq15, .inl (G.2.1 0, 200, .inl fun _ => 0)), (cq16, .inl (G.2.1 0, 200, .inl fun _ => 0)), (cq17, .inl (G.2.1 0, 200, .inl fun _ => 0)), (cq18, .inl (G.2.1 0, 200, .inl fun _ => 0)), (cq19, .inl (G.2.1 0, 200, .inl fun _ => 0)), (cq20, .inl (G.2.1 0, 200, .inl fun _ => 0)), (cq21, .inl (G.2.1 0, 200, .inl fun _ => 0)), (cq22, .inl (G.2.1 0, 200, .inl fun _ => 0)), (cq23, .inl (G.2.1 0, 200, .inl fun _ => 0)), (cq24, .inr (3, [.ref cq25, .ref cq26, .int 0])), (cq25, .inl (G.2.1 0, 14, .inl fun _ => 0)), (cq26, .inl (G.2.1 0, 666, .inl fun _ => 0)), (cq27, .inr (7, [.int 0, .int 0, .int (-1), .int (-1), .int (-1), .int (-1), .int (-1), .int 0, .int (-1), .int (-1), .int 0, .int 0, .int 0])), (cq28, .inr (6, [.ref cq10, .ref cq14, .ref cq24, .ref cq27, .int 0, .int 0])), (cq29, .inr (4, [.ref cq3, .ref cq11, .ref cq14, .ref cq24, .ref cq27, .int 0]))]) (k := 70) (n := 43221) E exNOk (n_SqlReaderModel_init xM) [30] [0, 1, 2, 3, 4, 5, 6, 7, 8, 9, 10, 11, 12, 13, 14, 15, 16, 17, 18, 19, 20, 21, 22, 23, 24, 25, 26, 27, 28, 29] rfl rfl (by decide) rfl (by decide) (by decide) ck_SqlReaderModel_init ii_SqlReaderModel nl_SqlReaderLaw_12 im_SqlReaderModel_init rfl dk_SqlReaderModel_init rfl ⟨rfl, rfl⟩ ⟨Nat.le_of_ble_eq_true rfl, Nat.le_of_ble_eq_true rfl⟩ rfl (Nat.le_of_ble_eq_true rfl) d_SqlReaderLaw_law_12 rfl rfl (Nat.le_of_ble_eq_true rfl) (Nat.le_of_ble_eq_true rfl) (fun w1 hw1 E => ?_)
    obtain ⟨mq1, mq2, mq3, mq4, mq5, mq6, mq7, mq8, mq9, mq10, mq11, mq12, mq13, mq14, mq15, mq16, mq17, mq18, mq19, mq20, mq21, mq22, mq23, mq24, mq25, mq26, mq27, mq28, mq29, mq30, mq31, mq32, mq33, mq34, mq35, mq36, mq37, mq38, mq39, rfl⟩ := hw1
    obtain ⟨G', hG'⟩ : ∃ G' : Gx, G' = ((fun k => match k with | 0 => xC | 1 => cq1 | 2 => cq2 | 3 => cq3 | 4 => cq4 | 5 => cq5 | 6 => cq6 | 7 => cq7 | 8 => cq8 | 9 => cq9 | 10 => cq10 | 11 => cq11 | 12 => cq12 | 13 => cq13 | 14 => cq14 | 15 => cq15 | 16 => cq16 | 17 => cq17 | 18 => cq18 | 19 => cq19 | 20 => cq20 | 21 => cq21 | 22 => cq22 | 23 => cq23 | 24 => cq24 | 25 => cq25 | 26 => cq26 | 27 => cq27 | 28 => cq28 | 29 => cq29 | 100 => xM | 101 => mq1 | 102 => mq2 | 103 => mq3 | 104 => mq4 | 105 => mq5 | 106 => mq6 | 107 => mq7 | 108 => mq8 | 109 => mq9 | 110 => mq10 | 111 => mq11 | 112 => mq12 | 113 => mq13 | 114 => mq14 | 115 => mq15 | 116 => mq16 | 117 => mq17 | 118 => mq18 | 119 => mq19 | 120 => mq20 | 121 => mq21 | 122 => mq22 | 123 => mq23 | 124 => mq24 | 125 => mq25 | 126 => mq26 | 127 => mq27 | 128 => mq28 | 129 => mq29 | 130 => mq30 | 131 => mq31 | 132 => mq32 | 133 => mq33 | 134 => mq34 | 135 => mq35 | 136 => mq36 | 137 => mq37 | 138 => mq38 | 139 => mq39 | _ => 0, G.2) : Gx) := ⟨_, rfl⟩
    refine Nm_toW (w := w12 (wC G') (wM G')) (u := (uC0, uM0)) (by subst hG'; rfl) ?_
    refine Sm_astore_n (lv' := [(2, .ref xM), (1, .ref xC), (0, .ref b)]) E d_SqlReaderLaw_law_15 rfl (by decide) rfl ?_
    refine Sm_iconst (v := 0) E d_SqlReaderLaw_law_16 (by decide) ?_
    refine Sm_istore_n (lv' := [(3, .int 0), (2, .ref xM), (1, .ref xC), (0, .ref b)]) E d_SqlReaderLaw_law_17 rfl (by decide) rfl ?_
    have hEL : EL (xu X 70 43221) G' := by subst hG'; exact En_exW E
    have hgo := tL_law_L18 hEL (hR 70 43221 (Nat.le_of_ble_eq_true rfl) (Nat.le_of_ble_eq_true rfl)) (hSc 70 43221) n 0 (uC0, uM0)
    rw [hm] at hgo
    exact Sm_sub (lv' := [(0, .ref b), (1, .ref (G'.1 0)), (2, .ref (G'.1 100)), (3, .int 0)]) [3, 2, 1, 0] (by subst hG'; rfl) hgo
  subst hX0
  exact go rfl s.heap [] ls (fun k q h => by simp [idW] at h) ⟨fun i j p q h => by simp [idW] at h, fun k q h => by simp [idW] at h⟩ va_S.rf hl
