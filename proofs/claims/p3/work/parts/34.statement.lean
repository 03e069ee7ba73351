def wS (G : Gx) (u : St) : va_W := [
  (G.1 300, .inr (7, [.int (u.1 0), .int (u.1 1), .int (u.1 2), .int (u.1 3), .int (u.1 4), .int (u.1 5), .int (u.1 6), .int (u.1 7), .int (u.1 8), .int (u.1 9), .int (u.1 10), .int (u.1 11), .int (u.1 12)]))]
def adsS (G : Gx) : List Nat := [G.1 300]
theorem wS_as {G : Gx} : ∀ u : St, (wS G u).map Prod.fst = adsS G := fun _ => rfl
abbrev ES (X : Cx) (G : Gx) (cc : ByteArray) (own : String) (nL : Nat) (rm : Room) : Prop := En X vwCl ALL cc own nL (tyW G) (adsS G) rm (exW G)
abbrev SS (X : Cx) (G : Gx) {α : Type} (nL : Nat) (res : α) (mv : Option α) (u : St) (pc : Nat) (lv : List (Nat × Value)) (st : List Value) : Prop := Sm X vwCl (wS G) nL res mv u pc lv st
abbrev KS (l : Launch) (D : va_G) (G : Gx) (y : MethodName) (cd : Cond) (rm : Room) (av : List Value) (u : St) (Qk : Nat → Qt) : Prop := Ct l D vwCl ALL (wS G) (tyW G) (adsS G) (exW G) y cd rm av u Qk
section WS
variable {X : Cx} {G : Gx} {cc : ByteArray} {own : String} {nL : Nat} {rm : Room} {α : Type} {res : α} {mv : Option α} {u : St} {pc idx : Nat} {lv : List (Nat × Value)} {st : List Value}
theorem gfS_0_kind (E : ES X G cc own nL rm) (hl : Cond.fieldLink own idx R_Statement "kind" "I" ∈ ALL) (hdg : decode cc pc = .ok (.getfield idx, 3)) (k : SS X G nL res mv u (pc + 3) lv (.int (u.1 0) :: st)) : SS X G nL res mv u pc lv (.ref (G.1 300) :: st) :=
  Sm_get (q0 := 0) E in_Statement rfl rfl 0 (by decide) rfl rfl hl hdg k
theorem pfS_0_kind (E : ES X G cc own nL rm) (hl : Cond.fieldLink own idx R_Statement "kind" "I" ∈ ALL) (hdg : decode cc pc = .ok (.putfield idx, 3)) {v : Int32} {K : St → Option α} (k : ∀ u1 : St, u1 = ss u 0 v → SS X G nL res (K u1) u1 (pc + 3) lv st) : SS X G nL res (seq (ss u 0 v) K) u pc lv (.int v :: .ref (G.1 300) :: st) :=
  Sm_put (q0 := 0) E in_Statement ty_Statement tk_Statement nk_Statement rfl rfl 0 (by decide) rfl rfl rfl (Nat.le_of_ble_eq_true rfl) rfl rfl rfl hl hdg k
theorem gfS_0_deed (E : ES X G cc own nL rm) (hl : Cond.fieldLink own idx R_Statement "deed" "I" ∈ ALL) (hdg : decode cc pc = .ok (.getfield idx, 3)) (k : SS X G nL res mv u (pc + 3) lv (.int (u.1 1) :: st)) : SS X G nL res mv u pc lv (.ref (G.1 300) :: st) :=
  Sm_get (q0 := 0) E in_Statement rfl rfl 1 (by decide) rfl rfl hl hdg k
theorem pfS_0_deed (E : ES X G cc own nL rm) (hl : Cond.fieldLink own idx R_Statement "deed" "I" ∈ ALL) (hdg : decode cc pc = .ok (.putfield idx, 3)) {v : Int32} {K : St → Option α} (k : ∀ u1 : St, u1 = ss u 1 v → SS X G nL res (K u1) u1 (pc + 3) lv st) : SS X G nL res (seq (ss u 1 v) K) u pc lv (.int v :: .ref (G.1 300) :: st) :=
  Sm_put (q0 := 0) E in_Statement ty_Statement tk_Statement nk_Statement rfl rfl 1 (by decide) rfl rfl rfl (Nat.le_of_ble_eq_true rfl) rfl rfl rfl hl hdg k
theorem gfS_0_title (E : ES X G cc own nL rm) (hl : Cond.fieldLink own idx R_Statement "title" "I" ∈ ALL) (hdg : decode cc pc = .ok (.getfield idx, 3)) (k : SS X G nL res mv u (pc + 3) lv (.int (u.1 2) :: st)) : SS X G nL res mv u pc lv (.ref (G.1 300) :: st) :=
  Sm_get (q0 := 0) E in_Statement rfl rfl 2 (by decide) rfl rfl hl hdg k
theorem pfS_0_title (E : ES X G cc own nL rm) (hl : Cond.fieldLink own idx R_Statement "title" "I" ∈ ALL) (hdg : decode cc pc = .ok (.putfield idx, 3)) {v : Int32} {K : St → Option α} (k : ∀ u1 : St, u1 = ss u 2 v → SS X G nL res (K u1) u1 (pc + 3) lv st) : SS X G nL res (seq (ss u 2 v) K) u pc lv (.int v :: .ref (G.1 300) :: st) :=
  Sm_put (q0 := 0) E in_Statement ty_Statement tk_Statement nk_Statement rfl rfl 2 (by decide) rfl rfl rfl (Nat.le_of_ble_eq_true rfl) rfl rfl rfl hl hdg k
theorem gfS_0_tableName (E : ES X G cc own nL rm) (hl : Cond.fieldLink own idx R_Statement "tableName" "I" ∈ ALL) (hdg : decode cc pc = .ok (.getfield idx, 3)) (k : SS X G nL res mv u (pc + 3) lv (.int (u.1 3) :: st)) : SS X G nL res mv u pc lv (.ref (G.1 300) :: st) :=
  Sm_get (q0 := 0) E in_Statement rfl rfl 3 (by decide) rfl rfl hl hdg k
theorem pfS_0_tableName (E : ES X G cc own nL rm) (hl : Cond.fieldLink own idx R_Statement "tableName" "I" ∈ ALL) (hdg : decode cc pc = .ok (.putfield idx, 3)) {v : Int32} {K : St → Option α} (k : ∀ u1 : St, u1 = ss u 3 v → SS X G nL res (K u1) u1 (pc + 3) lv st) : SS X G nL res (seq (ss u 3 v) K) u pc lv (.int v :: .ref (G.1 300) :: st) :=
  Sm_put (q0 := 0) E in_Statement ty_Statement tk_Statement nk_Statement rfl rfl 3 (by decide) rfl rfl rfl (Nat.le_of_ble_eq_true rfl) rfl rfl rfl hl hdg k
theorem gfS_0_table (E : ES X G cc own nL rm) (hl : Cond.fieldLink own idx R_Statement "table" "I" ∈ ALL) (hdg : decode cc pc = .ok (.getfield idx, 3)) (k : SS X G nL res mv u (pc + 3) lv (.int (u.1 4) :: st)) : SS X G nL res mv u pc lv (.ref (G.1 300) :: st) :=
  Sm_get (q0 := 0) E in_Statement rfl rfl 4 (by decide) rfl rfl hl hdg k
theorem pfS_0_table (E : ES X G cc own nL rm) (hl : Cond.fieldLink own idx R_Statement "table" "I" ∈ ALL) (hdg : decode cc pc = .ok (.putfield idx, 3)) {v : Int32} {K : St → Option α} (k : ∀ u1 : St, u1 = ss u 4 v → SS X G nL res (K u1) u1 (pc + 3) lv st) : SS X G nL res (seq (ss u 4 v) K) u pc lv (.int v :: .ref (G.1 300) :: st) :=
  Sm_put (q0 := 0) E in_Statement ty_Statement tk_Statement nk_Statement rfl rfl 4 (by decide) rfl rfl rfl (Nat.le_of_ble_eq_true rfl) rfl rfl rfl hl hdg k
theorem gfS_0_columnName (E : ES X G cc own nL rm) (hl : Cond.fieldLink own idx R_Statement "columnName" "I" ∈ ALL) (hdg : decode cc pc = .ok (.getfield idx, 3)) (k : SS X G nL res mv u (pc + 3) lv (.int (u.1 5) :: st)) : SS X G nL res mv u pc lv (.ref (G.1 300) :: st) :=
  Sm_get (q0 := 0) E in_Statement rfl rfl 5 (by decide) rfl rfl hl hdg k
theorem pfS_0_columnName (E : ES X G cc own nL rm) (hl : Cond.fieldLink own idx R_Statement "columnName" "I" ∈ ALL) (hdg : decode cc pc = .ok (.putfield idx, 3)) {v : Int32} {K : St → Option α} (k : ∀ u1 : St, u1 = ss u 5 v → SS X G nL res (K u1) u1 (pc + 3) lv st) : SS X G nL res (seq (ss u 5 v) K) u pc lv (.int v :: .ref (G.1 300) :: st) :=
  Sm_put (q0 := 0) E in_Statement ty_Statement tk_Statement nk_Statement rfl rfl 5 (by decide) rfl rfl rfl (Nat.le_of_ble_eq_true rfl) rfl rfl rfl hl hdg k
theorem gfS_0_column (E : ES X G cc own nL rm) (hl : Cond.fieldLink own idx R_Statement "column" "I" ∈ ALL) (hdg : decode cc pc = .ok (.getfield idx, 3)) (k : SS X G nL res mv u (pc + 3) lv (.int (u.1 6) :: st)) : SS X G nL res mv u pc lv (.ref (G.1 300) :: st) :=
  Sm_get (q0 := 0) E in_Statement rfl rfl 6 (by decide) rfl rfl hl hdg k
theorem pfS_0_column (E : ES X G cc own nL rm) (hl : Cond.fieldLink own idx R_Statement "column" "I" ∈ ALL) (hdg : decode cc pc = .ok (.putfield idx, 3)) {v : Int32} {K : St → Option α} (k : ∀ u1 : St, u1 = ss u 6 v → SS X G nL res (K u1) u1 (pc + 3) lv st) : SS X G nL res (seq (ss u 6 v) K) u pc lv (.int v :: .ref (G.1 300) :: st) :=
  Sm_put (q0 := 0) E in_Statement ty_Statement tk_Statement nk_Statement rfl rfl 6 (by decide) rfl rfl rfl (Nat.le_of_ble_eq_true rfl) rfl rfl rfl hl hdg k
theorem gfS_0_mode (E : ES X G cc own nL rm) (hl : Cond.fieldLink own idx R_Statement "mode" "I" ∈ ALL) (hdg : decode cc pc = .ok (.getfield idx, 3)) (k : SS X G nL res mv u (pc + 3) lv (.int (u.1 7) :: st)) : SS X G nL res mv u pc lv (.ref (G.1 300) :: st) :=
  Sm_get (q0 := 0) E in_Statement rfl rfl 7 (by decide) rfl rfl hl hdg k
theorem pfS_0_mode (E : ES X G cc own nL rm) (hl : Cond.fieldLink own idx R_Statement "mode" "I" ∈ ALL) (hdg : decode cc pc = .ok (.putfield idx, 3)) {v : Int32} {K : St → Option α} (k : ∀ u1 : St, u1 = ss u 7 v → SS X G nL res (K u1) u1 (pc + 3) lv st) : SS X G nL res (seq (ss u 7 v) K) u pc lv (.int v :: .ref (G.1 300) :: st) :=
  Sm_put (q0 := 0) E in_Statement ty_Statement tk_Statement nk_Statement rfl rfl 7 (by decide) rfl rfl rfl (Nat.le_of_ble_eq_true rfl) rfl rfl rfl hl hdg k
theorem gfS_0_limit (E : ES X G cc own nL rm) (hl : Cond.fieldLink own idx R_Statement "limit" "I" ∈ ALL) (hdg : decode cc pc = .ok (.getfield idx, 3)) (k : SS X G nL res mv u (pc + 3) lv (.int (u.1 8) :: st)) : SS X G nL res mv u pc lv (.ref (G.1 300) :: st) :=
  Sm_get (q0 := 0) E in_Statement rfl rfl 8 (by decide) rfl rfl hl hdg k
theorem pfS_0_limit (E : ES X G cc own nL rm) (hl : Cond.fieldLink own idx R_Statement "limit" "I" ∈ ALL) (hdg : decode cc pc = .ok (.putfield idx, 3)) {v : Int32} {K : St → Option α} (k : ∀ u1 : St, u1 = ss u 8 v → SS X G nL res (K u1) u1 (pc + 3) lv st) : SS X G nL res (seq (ss u 8 v) K) u pc lv (.int v :: .ref (G.1 300) :: st) :=
  Sm_put (q0 := 0) E in_Statement ty_Statement tk_Statement nk_Statement rfl rfl 8 (by decide) rfl rfl rfl (Nat.le_of_ble_eq_true rfl) rfl rfl rfl hl hdg k
theorem gfS_0_where (E : ES X G cc own nL rm) (hl : Cond.fieldLink own idx R_Statement "where" "I" ∈ ALL) (hdg : decode cc pc = .ok (.getfield idx, 3)) (k : SS X G nL res mv u (pc + 3) lv (.int (u.1 9) :: st)) : SS X G nL res mv u pc lv (.ref (G.1 300) :: st) :=
  Sm_get (q0 := 0) E in_Statement rfl rfl 9 (by decide) rfl rfl hl hdg k
theorem pfS_0_where (E : ES X G cc own nL rm) (hl : Cond.fieldLink own idx R_Statement "where" "I" ∈ ALL) (hdg : decode cc pc = .ok (.putfield idx, 3)) {v : Int32} {K : St → Option α} (k : ∀ u1 : St, u1 = ss u 9 v → SS X G nL res (K u1) u1 (pc + 3) lv st) : SS X G nL res (seq (ss u 9 v) K) u pc lv (.int v :: .ref (G.1 300) :: st) :=
  Sm_put (q0 := 0) E in_Statement ty_Statement tk_Statement nk_Statement rfl rfl 9 (by decide) rfl rfl rfl (Nat.le_of_ble_eq_true rfl) rfl rfl rfl hl hdg k
theorem gfS_0_unique (E : ES X G cc own nL rm) (hl : Cond.fieldLink own idx R_Statement "unique" "Z" ∈ ALL) (hdg : decode cc pc = .ok (.getfield idx, 3)) (k : SS X G nL res mv u (pc + 3) lv (.int (u.1 10) :: st)) : SS X G nL res mv u pc lv (.ref (G.1 300) :: st) :=
  Sm_get (q0 := 0) E in_Statement rfl rfl 10 (by decide) rfl rfl hl hdg k
theorem pfS_0_unique (E : ES X G cc own nL rm) (hl : Cond.fieldLink own idx R_Statement "unique" "Z" ∈ ALL) (hdg : decode cc pc = .ok (.putfield idx, 3)) {v : Int32} (hn : narrow .boolean (.int v) = .int v) (hf : fits .boolean (.int v) = true) {K : St → Option α} (k : ∀ u1 : St, u1 = ss u 10 v → SS X G nL res (K u1) u1 (pc + 3) lv st) : SS X G nL res (seq (ss u 10 v) K) u pc lv (.int v :: .ref (G.1 300) :: st) :=
  Sm_put (q0 := 0) E in_Statement ty_Statement tk_Statement nk_Statement rfl rfl 10 (by decide) rfl rfl rfl (Nat.le_of_ble_eq_true rfl) rfl hn hf hl hdg k
theorem gfS_0_distinct (E : ES X G cc own nL rm) (hl : Cond.fieldLink own idx R_Statement "distinct" "Z" ∈ ALL) (hdg : decode cc pc = .ok (.getfield idx, 3)) (k : SS X G nL res mv u (pc + 3) lv (.int (u.1 11) :: st)) : SS X G nL res mv u pc lv (.ref (G.1 300) :: st) :=
  Sm_get (q0 := 0) E in_Statement rfl rfl 11 (by decide) rfl rfl hl hdg k
theorem pfS_0_distinct (E : ES X G cc own nL rm) (hl : Cond.fieldLink own idx R_Statement "distinct" "Z" ∈ ALL) (hdg : decode cc pc = .ok (.putfield idx, 3)) {v : Int32} (hn : narrow .boolean (.int v) = .int v) (hf : fits .boolean (.int v) = true) {K : St → Option α} (k : ∀ u1 : St, u1 = ss u 11 v → SS X G nL res (K u1) u1 (pc + 3) lv st) : SS X G nL res (seq (ss u 11 v) K) u pc lv (.int v :: .ref (G.1 300) :: st) :=
  Sm_put (q0 := 0) E in_Statement ty_Statement tk_Statement nk_Statement rfl rfl 11 (by decide) rfl rfl rfl (Nat.le_of_ble_eq_true rfl) rfl hn hf hl hdg k
theorem gfS_0_star (E : ES X G cc own nL rm) (hl : Cond.fieldLink own idx R_Statement "star" "Z" ∈ ALL) (hdg : decode cc pc = .ok (.getfield idx, 3)) (k : SS X G nL res mv u (pc + 3) lv (.int (u.1 12) :: st)) : SS X G nL res mv u pc lv (.ref (G.1 300) :: st) :=
  Sm_get (q0 := 0) E in_Statement rfl rfl 12 (by decide) rfl rfl hl hdg k
theorem pfS_0_star (E : ES X G cc own nL rm) (hl : Cond.fieldLink own idx R_Statement "star" "Z" ∈ ALL) (hdg : decode cc pc = .ok (.putfield idx, 3)) {v : Int32} (hn : narrow .boolean (.int v) = .int v) (hf : fits .boolean (.int v) = true) {K : St → Option α} (k : ∀ u1 : St, u1 = ss u 12 v → SS X G nL res (K u1) u1 (pc + 3) lv st) : SS X G nL res (seq (ss u 12 v) K) u pc lv (.int v :: .ref (G.1 300) :: st) :=
  Sm_put (q0 := 0) E in_Statement ty_Statement tk_Statement nk_Statement rfl rfl 12 (by decide) rfl rfl rfl (Nat.le_of_ble_eq_true rfl) rfl hn hf hl hdg k
end WS
def mS_Statement_clear (u : St) : Option (St) :=
  seq (ss u 0 0) fun u1 =>
  seq (ss u1 1 0) fun u2 =>
  seq (ss u2 2 (-1)) fun u3 =>
  seq (ss u3 3 (-1)) fun u4 =>
  seq (ss u4 4 (-1)) fun u5 =>
  seq (ss u5 5 (-1)) fun u6 =>
  seq (ss u6 6 (-1)) fun u7 =>
  seq (ss u7 7 0) fun u8 =>
  seq (ss u8 8 (-1)) fun u9 =>
  seq (ss u9 9 (-1)) fun u10 =>
  seq (ss u10 10 0) fun u11 =>
  seq (ss u11 11 0) fun u12 =>
  seq (ss u12 12 0) fun u13 =>
  some u13
set_option maxRecDepth 100000 in
set_option maxHeartbeats 4000000 in
theorem cS_Statement_clear {l : Launch} {D : va_G} {G : Gx} (u : St) {res : St} (hm : mS_Statement_clear u = some res) : KS l D G y_Statement_clear (.code y_Statement_clear prog_7_method_2_code 1 none) { frames := 0, cells := 0, slots := 0, locals := 0 } [.ref (G.1 300)] u (qV D vwCl (wS G) (tyW G) (adsS G) res) := by
  refine Ct_V (by decide) wS_as (Nat.le_of_ble_eq_true rfl) hm (fun X _ _ E hR => ?_)
  refine Sm_lvs (lv' := [(0, .ref (G.1 300))]) rfl ?_
  rw [mS_Statement_clear]
  refine Sm_aload_n E d_Statement_clear_0 rfl 0 rfl ?_
  refine Sm_iconst (v := 0) E d_Statement_clear_1 (by decide) ?_
  refine pfS_0_kind E fl_Statement_12 d_Statement_clear_2 fun u1 _ => ?_
  refine Sm_aload_n E d_Statement_clear_5 rfl 0 rfl ?_
  refine Sm_iconst (v := 0) E d_Statement_clear_6 (by decide) ?_
  refine pfS_0_deed E fl_Statement_16 d_Statement_clear_7 fun u2 _ => ?_
  refine Sm_aload_n E d_Statement_clear_10 rfl 0 rfl ?_
  refine Sm_iconst (v := (-1)) E d_Statement_clear_11 (by decide) ?_
  refine pfS_0_title E fl_Statement_19 d_Statement_clear_12 fun u3 _ => ?_
  refine Sm_aload_n E d_Statement_clear_15 rfl 0 rfl ?_
  refine Sm_iconst (v := (-1)) E d_Statement_clear_16 (by decide) ?_
  refine pfS_0_tableName E fl_Statement_22 d_Statement_clear_17 fun u4 _ => ?_
  refine Sm_aload_n E d_Statement_clear_20 rfl 0 rfl ?_
  refine Sm_iconst (v := (-1)) E d_Statement_clear_21 (by decide) ?_
  refine pfS_0_table E fl_Statement_25 d_Statement_clear_22 fun u5 _ => ?_
  refine Sm_aload_n E d_Statement_clear_25 rfl 0 rfl ?_
  refine Sm_iconst (v := (-1)) E d_Statement_clear_26 (by decide) ?_
  refine pfS_0_columnName E fl_Statement_28 d_Statement_clear_27 fun u6 _ => ?_
  refine Sm_aload_n E d_Statement_clear_30 rfl 0 rfl ?_
  refine Sm_iconst (v := (-1)) E d_Statement_clear_31 (by decide) ?_
  refine pfS_0_column E fl_Statement_31 d_Statement_clear_32 fun u7 _ => ?_
  refine Sm_aload_n E d_Statement_clear_35 rfl 0 rfl ?_
  refine Sm_iconst (v := 0) E d_Statement_clear_36 (by decide) ?_
  refine pfS_0_mode E fl_Statement_34 d_Statement_clear_37 fun u8 _ => ?_
  refine Sm_aload_n E d_Statement_clear_40 rfl 0 rfl ?_
  refine Sm_iconst (v := (-1)) E d_Statement_clear_41 (by decide) ?_
  refine pfS_0_limit E fl_Statement_37 d_Statement_clear_42 fun u9 _ => ?_
  refine Sm_aload_n E d_Statement_clear_45 rfl 0 rfl ?_
  refine Sm_iconst (v := (-1)) E d_Statement_clear_46 (by decide) ?_
  refine pfS_0_where E fl_Statement_40 d_Statement_clear_47 fun u10 _ => ?_
  refine Sm_aload_n E d_Statement_clear_50 rfl 0 rfl ?_
  refine Sm_iconst (v := 0) E d_Statement_clear_51 (by decide) ?_
  refine pfS_0_unique E fl_Statement_43 d_Statement_clear_52 (by decide) rfl fun u11 _ => ?_
  refine Sm_aload_n E d_Statement_clear_55 rfl 0 rfl ?_
  refine Sm_iconst (v := 0) E d_Statement_clear_56 (by decide) ?_
  refine pfS_0_distinct E fl_Statement_47 d_Statement_clear_57 (by decide) rfl fun u12 _ => ?_
  refine Sm_aload_n E d_Statement_clear_60 rfl 0 rfl ?_
  refine Sm_iconst (v := 0) E d_Statement_clear_61 (by decide) ?_
  refine pfS_0_star E fl_Statement_50 d_Statement_clear_62 (by decide) rfl fun u13 _ => ?_
  exact Sm_retV hR d_Statement_clear_65
