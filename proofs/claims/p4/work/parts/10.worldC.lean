def wC (G : Gx) (u : St) : va_W := [
  (G.1 0, .inr (0, [.ref (G.1 1), .ref (G.1 3), .ref (G.1 10), .ref (G.1 14), .ref (G.1 24), .ref (G.1 27), .ref (G.1 28), .ref (G.1 29)])),
  (G.1 1, .inr (8, [.ref (G.1 2), .int (u.1 0)])),
  (G.1 2, .inl (G.2.1 1, 2000, .inl (u.2.1 0))),
  (G.1 3, .inr (2, [.ref (G.1 4), .ref (G.1 6), .ref (G.1 7), .ref (G.1 8), .ref (G.1 9), .int (u.1 1)])),
  (G.1 4, .inr (8, [.ref (G.1 5), .int (u.1 2)])),
  (G.1 5, .inl (G.2.1 1, 2000, .inl (u.2.1 1))),
  (G.1 6, .inl (G.2.1 0, 8, .inl (u.2.1 2))),
  (G.1 7, .inl (G.2.1 0, 8, .inl (u.2.1 3))),
  (G.1 8, .inl (G.2.1 0, 64, .inl (u.2.1 4))),
  (G.1 9, .inl (G.2.1 0, 64, .inl (u.2.1 5))),
  (G.1 10, .inr (9, [.ref (G.1 11), .ref (G.1 13), .int (u.1 3), .int (u.1 4)])),
  (G.1 11, .inr (8, [.ref (G.1 12), .int (u.1 5)])),
  (G.1 12, .inl (G.2.1 1, 2000, .inl (u.2.1 6))),
  (G.1 13, .inl (G.2.1 0, 2000, .inl (u.2.1 7))),
  (G.1 14, .inr (5, [.ref (G.1 15), .ref (G.1 16), .ref (G.1 17), .ref (G.1 18), .ref (G.1 19), .ref (G.1 20), .ref (G.1 21), .ref (G.1 22), .ref (G.1 23), .int (u.1 6), .int (u.1 7)])),
  (G.1 15, .inl (G.2.1 0, 200, .inl (u.2.1 8))),
  (G.1 16, .inl (G.2.1 0, 200, .inl (u.2.1 9))),
  (G.1 17, .inl (G.2.1 0, 200, .inl (u.2.1 10))),
  (G.1 18, .inl (G.2.1 0, 200, .inl (u.2.1 11))),
  (G.1 19, .inl (G.2.1 0, 200, .inl (u.2.1 12))),
  (G.1 20, .inl (G.2.1 0, 200, .inl (u.2.1 13))),
  (G.1 21, .inl (G.2.1 0, 200, .inl (u.2.1 14))),
  (G.1 22, .inl (G.2.1 0, 200, .inl (u.2.1 15))),
  (G.1 23, .inl (G.2.1 0, 200, .inl (u.2.1 16))),
  (G.1 24, .inr (3, [.ref (G.1 25), .ref (G.1 26), .int (u.1 8)])),
  (G.1 25, .inl (G.2.1 0, 14, .inl (u.2.1 17))),
  (G.1 26, .inl (G.2.1 0, 666, .inl (u.2.1 18))),
  (G.1 27, .inr (7, [.int (u.1 9), .int (u.1 10), .int (u.1 11), .int (u.1 12), .int (u.1 13), .int (u.1 14), .int (u.1 15), .int (u.1 16), .int (u.1 17), .int (u.1 18), .int (u.1 19), .int (u.1 20), .int (u.1 21)])),
  (G.1 28, .inr (6, [.ref (G.1 10), .ref (G.1 14), .ref (G.1 24), .ref (G.1 27), .int (u.1 22), .int (u.1 23)])),
  (G.1 29, .inr (4, [.ref (G.1 3), .ref (G.1 11), .ref (G.1 14), .ref (G.1 24), .ref (G.1 27), .int (u.1 24)]))]
def adsC (G : Gx) : List Nat := [G.1 0, G.1 1, G.1 2, G.1 3, G.1 4, G.1 5, G.1 6, G.1 7, G.1 8, G.1 9, G.1 10, G.1 11, G.1 12, G.1 13, G.1 14, G.1 15, G.1 16, G.1 17, G.1 18, G.1 19, G.1 20, G.1 21, G.1 22, G.1 23, G.1 24, G.1 25, G.1 26, G.1 27, G.1 28, G.1 29]
theorem wC_as {G : Gx} : ∀ u : St, (wC G u).map Prod.fst = adsC G := fun _ => rfl
abbrev EC (X : Cx) (G : Gx) (cc : ByteArray) (own : String) (nL : Nat) (rm : Room) : Prop := En X vwCl ALL cc own nL (tyW G) (adsC G) rm (exW G)
abbrev SC (X : Cx) (G : Gx) {α : Type} (nL : Nat) (res : α) (mv : Option α) (u : St) (pc : Nat) (lv : List (Nat × Value)) (st : List Value) : Prop := Sm X vwCl (wC G) nL res mv u pc lv st
abbrev KC (l : Launch) (D : va_G) (G : Gx) (y : MethodName) (cd : Cond) (rm : Room) (av : List Value) (u : St) (Qk : Nat → Qt) : Prop := Ct l D vwCl ALL (wC G) (tyW G) (adsC G) (exW G) y cd rm av u Qk
section WC
variable {X : Cx} {G : Gx} {cc : ByteArray} {own : String} {nL : Nat} {rm : Room} {α : Type} {res : α} {mv : Option α} {u : St} {pc idx : Nat} {lv : List (Nat × Value)} {st : List Value}
theorem gfC_0_typed (E : EC X G cc own nL rm) (hl : Cond.fieldLink own idx R_SqlReader "typed" "LSqlReader$Text;" ∈ ALL) (hdg : decode cc pc = .ok (.getfield idx, 3)) (k : SC X G nL res mv u (pc + 3) lv (.ref (G.1 1) :: st)) : SC X G nL res mv u pc lv (.ref (G.1 0) :: st) :=
  Sm_get (q0 := 0) E in_SqlReader rfl rfl 0 (by decide) rfl rfl hl hdg k
theorem gfC_0_catalog (E : EC X G cc own nL rm) (hl : Cond.fieldLink own idx R_SqlReader "catalog" "LSqlReader$Catalog;" ∈ ALL) (hdg : decode cc pc = .ok (.getfield idx, 3)) (k : SC X G nL res mv u (pc + 3) lv (.ref (G.1 3) :: st)) : SC X G nL res mv u pc lv (.ref (G.1 0) :: st) :=
  Sm_get (q0 := 0) E in_SqlReader rfl rfl 1 (by decide) rfl rfl hl hdg k
theorem gfC_0_tokens (E : EC X G cc own nL rm) (hl : Cond.fieldLink own idx R_SqlReader "tokens" "LSqlReader$Tokens;" ∈ ALL) (hdg : decode cc pc = .ok (.getfield idx, 3)) (k : SC X G nL res mv u (pc + 3) lv (.ref (G.1 10) :: st)) : SC X G nL res mv u pc lv (.ref (G.1 0) :: st) :=
  Sm_get (q0 := 0) E in_SqlReader rfl rfl 2 (by decide) rfl rfl hl hdg k
theorem gfC_0_nodes (E : EC X G cc own nL rm) (hl : Cond.fieldLink own idx R_SqlReader "nodes" "LSqlReader$Nodes;" ∈ ALL) (hdg : decode cc pc = .ok (.getfield idx, 3)) (k : SC X G nL res mv u (pc + 3) lv (.ref (G.1 14) :: st)) : SC X G nL res mv u pc lv (.ref (G.1 0) :: st) :=
  Sm_get (q0 := 0) E in_SqlReader rfl rfl 3 (by decide) rfl rfl hl hdg k
theorem gfC_0_lists (E : EC X G cc own nL rm) (hl : Cond.fieldLink own idx R_SqlReader "lists" "LSqlReader$Lists;" ∈ ALL) (hdg : decode cc pc = .ok (.getfield idx, 3)) (k : SC X G nL res mv u (pc + 3) lv (.ref (G.1 24) :: st)) : SC X G nL res mv u pc lv (.ref (G.1 0) :: st) :=
  Sm_get (q0 := 0) E in_SqlReader rfl rfl 4 (by decide) rfl rfl hl hdg k
theorem gfC_0_statement (E : EC X G cc own nL rm) (hl : Cond.fieldLink own idx R_SqlReader "statement" "LSqlReader$Statement;" ∈ ALL) (hdg : decode cc pc = .ok (.getfield idx, 3)) (k : SC X G nL res mv u (pc + 3) lv (.ref (G.1 27) :: st)) : SC X G nL res mv u pc lv (.ref (G.1 0) :: st) :=
  Sm_get (q0 := 0) E in_SqlReader rfl rfl 5 (by decide) rfl rfl hl hdg k
theorem gfC_0_parser (E : EC X G cc own nL rm) (hl : Cond.fieldLink own idx R_SqlReader "parser" "LSqlReader$Parser;" ∈ ALL) (hdg : decode cc pc = .ok (.getfield idx, 3)) (k : SC X G nL res mv u (pc + 3) lv (.ref (G.1 28) :: st)) : SC X G nL res mv u pc lv (.ref (G.1 0) :: st) :=
  Sm_get (q0 := 0) E in_SqlReader rfl rfl 6 (by decide) rfl rfl hl hdg k
theorem gfC_0_meaning (E : EC X G cc own nL rm) (hl : Cond.fieldLink own idx R_SqlReader "meaning" "LSqlReader$Meaning;" ∈ ALL) (hdg : decode cc pc = .ok (.getfield idx, 3)) (k : SC X G nL res mv u (pc + 3) lv (.ref (G.1 29) :: st)) : SC X G nL res mv u pc lv (.ref (G.1 0) :: st) :=
  Sm_get (q0 := 0) E in_SqlReader rfl rfl 7 (by decide) rfl rfl hl hdg k
theorem gfC_1_bytes (E : EC X G cc own nL rm) (hl : Cond.fieldLink own idx R_Text "bytes" "[B" ∈ ALL) (hdg : decode cc pc = .ok (.getfield idx, 3)) (k : SC X G nL res mv u (pc + 3) lv (.ref (G.1 2) :: st)) : SC X G nL res mv u pc lv (.ref (G.1 1) :: st) :=
  Sm_get (q0 := 1) E in_Text rfl rfl 0 (by decide) rfl rfl hl hdg k
theorem gfC_1_size (E : EC X G cc own nL rm) (hl : Cond.fieldLink own idx R_Text "size" "I" ∈ ALL) (hdg : decode cc pc = .ok (.getfield idx, 3)) (k : SC X G nL res mv u (pc + 3) lv (.int (u.1 0) :: st)) : SC X G nL res mv u pc lv (.ref (G.1 1) :: st) :=
  Sm_get (q0 := 1) E in_Text rfl rfl 1 (by decide) rfl rfl hl hdg k
theorem pfC_1_size (E : EC X G cc own nL rm) (hl : Cond.fieldLink own idx R_Text "size" "I" ∈ ALL) (hdg : decode cc pc = .ok (.putfield idx, 3)) {v : Int32} {K : St → Option α} (k : ∀ u1 : St, u1 = ss u 0 v → SC X G nL res (K u1) u1 (pc + 3) lv st) : SC X G nL res (seq (ss u 0 v) K) u pc lv (.int v :: .ref (G.1 1) :: st) :=
  Sm_put (q0 := 1) E in_Text ty_Text tk_Text nk_Text rfl rfl 1 (by decide) rfl rfl rfl (Nat.le_of_ble_eq_true rfl) rfl rfl rfl hl hdg k
theorem ldC_2 (E : EC X G cc own nL rm) {i : Int32} (hin : vp_in i 2000) (hdg : decode cc pc = .ok (.baload, 1)) (k : SC X G nL res mv u (pc + 1) lv (.int (ga u 0 i) :: st)) : SC X G nL res mv u pc lv (.int i :: .ref (G.1 2) :: st) :=
  Sm_bald (q0 := 2) (t0 := 1) E rfl rfl hin hdg k
theorem stC_2 (E : EC X G cc own nL rm) {i x : Int32} (hin : vp_in i 2000) (hdg : decode cc pc = .ok (.bastore, 1)) {K : St → Option α} (k : ∀ u1 : St, u1 = sa u 0 i (i2b x) → SC X G nL res (K u1) u1 (pc + 1) lv st) : SC X G nL res (seq (sa u 0 i (i2b x)) K) u pc lv (.int x :: .int i :: .ref (G.1 2) :: st) :=
  Sm_bast (q0 := 2) (t0 := 1) E rfl rfl rfl hin hdg k
theorem anC_2 (E : EC X G cc own nL rm) (hdg : decode cc pc = .ok (.arraylength, 1)) (k : SC X G nL res mv u (pc + 1) lv (.int 2000 :: st)) : SC X G nL res mv u pc lv (.ref (G.1 2) :: st) :=
  Sm_alen (q0 := 2) (t0 := 1) E rfl rfl (show Int32.ofNat 2000 = 2000 by decide) hdg k
theorem gfC_3_names (E : EC X G cc own nL rm) (hl : Cond.fieldLink own idx R_Catalog "names" "LSqlReader$Text;" ∈ ALL) (hdg : decode cc pc = .ok (.getfield idx, 3)) (k : SC X G nL res mv u (pc + 3) lv (.ref (G.1 4) :: st)) : SC X G nL res mv u pc lv (.ref (G.1 3) :: st) :=
  Sm_get (q0 := 3) E in_Catalog rfl rfl 0 (by decide) rfl rfl hl hdg k
theorem gfC_3_tableNames (E : EC X G cc own nL rm) (hl : Cond.fieldLink own idx R_Catalog "tableNames" "[I" ∈ ALL) (hdg : decode cc pc = .ok (.getfield idx, 3)) (k : SC X G nL res mv u (pc + 3) lv (.ref (G.1 6) :: st)) : SC X G nL res mv u pc lv (.ref (G.1 3) :: st) :=
  Sm_get (q0 := 3) E in_Catalog rfl rfl 1 (by decide) rfl rfl hl hdg k
theorem gfC_3_columnCounts (E : EC X G cc own nL rm) (hl : Cond.fieldLink own idx R_Catalog "columnCounts" "[I" ∈ ALL) (hdg : decode cc pc = .ok (.getfield idx, 3)) (k : SC X G nL res mv u (pc + 3) lv (.ref (G.1 7) :: st)) : SC X G nL res mv u pc lv (.ref (G.1 3) :: st) :=
  Sm_get (q0 := 3) E in_Catalog rfl rfl 2 (by decide) rfl rfl hl hdg k
theorem gfC_3_columnNames (E : EC X G cc own nL rm) (hl : Cond.fieldLink own idx R_Catalog "columnNames" "[I" ∈ ALL) (hdg : decode cc pc = .ok (.getfield idx, 3)) (k : SC X G nL res mv u (pc + 3) lv (.ref (G.1 8) :: st)) : SC X G nL res mv u pc lv (.ref (G.1 3) :: st) :=
  Sm_get (q0 := 3) E in_Catalog rfl rfl 3 (by decide) rfl rfl hl hdg k
theorem gfC_3_columnTypes (E : EC X G cc own nL rm) (hl : Cond.fieldLink own idx R_Catalog "columnTypes" "[I" ∈ ALL) (hdg : decode cc pc = .ok (.getfield idx, 3)) (k : SC X G nL res mv u (pc + 3) lv (.ref (G.1 9) :: st)) : SC X G nL res mv u pc lv (.ref (G.1 3) :: st) :=
  Sm_get (q0 := 3) E in_Catalog rfl rfl 4 (by decide) rfl rfl hl hdg k
theorem gfC_3_tables (E : EC X G cc own nL rm) (hl : Cond.fieldLink own idx R_Catalog "tables" "I" ∈ ALL) (hdg : decode cc pc = .ok (.getfield idx, 3)) (k : SC X G nL res mv u (pc + 3) lv (.int (u.1 1) :: st)) : SC X G nL res mv u pc lv (.ref (G.1 3) :: st) :=
  Sm_get (q0 := 3) E in_Catalog rfl rfl 5 (by decide) rfl rfl hl hdg k
theorem pfC_3_tables (E : EC X G cc own nL rm) (hl : Cond.fieldLink own idx R_Catalog "tables" "I" ∈ ALL) (hdg : decode cc pc = .ok (.putfield idx, 3)) {v : Int32} {K : St → Option α} (k : ∀ u1 : St, u1 = ss u 1 v → SC X G nL res (K u1) u1 (pc + 3) lv st) : SC X G nL res (seq (ss u 1 v) K) u pc lv (.int v :: .ref (G.1 3) :: st) :=
  Sm_put (q0 := 3) E in_Catalog ty_Catalog tk_Catalog nk_Catalog rfl rfl 5 (by decide) rfl rfl rfl (Nat.le_of_ble_eq_true rfl) rfl rfl rfl hl hdg k
theorem gfC_4_bytes (E : EC X G cc own nL rm) (hl : Cond.fieldLink own idx R_Text "bytes" "[B" ∈ ALL) (hdg : decode cc pc = .ok (.getfield idx, 3)) (k : SC X G nL res mv u (pc + 3) lv (.ref (G.1 5) :: st)) : SC X G nL res mv u pc lv (.ref (G.1 4) :: st) :=
  Sm_get (q0 := 4) E in_Text rfl rfl 0 (by decide) rfl rfl hl hdg k
theorem gfC_4_size (E : EC X G cc own nL rm) (hl : Cond.fieldLink own idx R_Text "size" "I" ∈ ALL) (hdg : decode cc pc = .ok (.getfield idx, 3)) (k : SC X G nL res mv u (pc + 3) lv (.int (u.1 2) :: st)) : SC X G nL res mv u pc lv (.ref (G.1 4) :: st) :=
  Sm_get (q0 := 4) E in_Text rfl rfl 1 (by decide) rfl rfl hl hdg k
theorem pfC_4_size (E : EC X G cc own nL rm) (hl : Cond.fieldLink own idx R_Text "size" "I" ∈ ALL) (hdg : decode cc pc = .ok (.putfield idx, 3)) {v : Int32} {K : St → Option α} (k : ∀ u1 : St, u1 = ss u 2 v → SC X G nL res (K u1) u1 (pc + 3) lv st) : SC X G nL res (seq (ss u 2 v) K) u pc lv (.int v :: .ref (G.1 4) :: st) :=
  Sm_put (q0 := 4) E in_Text ty_Text tk_Text nk_Text rfl rfl 1 (by decide) rfl rfl rfl (Nat.le_of_ble_eq_true rfl) rfl rfl rfl hl hdg k
theorem ldC_5 (E : EC X G cc own nL rm) {i : Int32} (hin : vp_in i 2000) (hdg : decode cc pc = .ok (.baload, 1)) (k : SC X G nL res mv u (pc + 1) lv (.int (ga u 1 i) :: st)) : SC X G nL res mv u pc lv (.int i :: .ref (G.1 5) :: st) :=
  Sm_bald (q0 := 5) (t0 := 1) E rfl rfl hin hdg k
theorem stC_5 (E : EC X G cc own nL rm) {i x : Int32} (hin : vp_in i 2000) (hdg : decode cc pc = .ok (.bastore, 1)) {K : St → Option α} (k : ∀ u1 : St, u1 = sa u 1 i (i2b x) → SC X G nL res (K u1) u1 (pc + 1) lv st) : SC X G nL res (seq (sa u 1 i (i2b x)) K) u pc lv (.int x :: .int i :: .ref (G.1 5) :: st) :=
  Sm_bast (q0 := 5) (t0 := 1) E rfl rfl rfl hin hdg k
theorem anC_5 (E : EC X G cc own nL rm) (hdg : decode cc pc = .ok (.arraylength, 1)) (k : SC X G nL res mv u (pc + 1) lv (.int 2000 :: st)) : SC X G nL res mv u pc lv (.ref (G.1 5) :: st) :=
  Sm_alen (q0 := 5) (t0 := 1) E rfl rfl (show Int32.ofNat 2000 = 2000 by decide) hdg k
theorem ldC_6 (E : EC X G cc own nL rm) {i : Int32} (hin : vp_in i 8) (hdg : decode cc pc = .ok (.iaload, 1)) (k : SC X G nL res mv u (pc + 1) lv (.int (ga u 2 i) :: st)) : SC X G nL res mv u pc lv (.int i :: .ref (G.1 6) :: st) :=
  Sm_iald (q0 := 6) (t0 := 0) E rfl rfl hin hdg k
theorem stC_6 (E : EC X G cc own nL rm) {i x : Int32} (hin : vp_in i 8) (hdg : decode cc pc = .ok (.iastore, 1)) {K : St → Option α} (k : ∀ u1 : St, u1 = sa u 2 i x → SC X G nL res (K u1) u1 (pc + 1) lv st) : SC X G nL res (seq (sa u 2 i x) K) u pc lv (.int x :: .int i :: .ref (G.1 6) :: st) :=
  Sm_iast (q0 := 6) (t0 := 0) E rfl rfl rfl hin hdg k
theorem anC_6 (E : EC X G cc own nL rm) (hdg : decode cc pc = .ok (.arraylength, 1)) (k : SC X G nL res mv u (pc + 1) lv (.int 8 :: st)) : SC X G nL res mv u pc lv (.ref (G.1 6) :: st) :=
  Sm_alen (q0 := 6) (t0 := 0) E rfl rfl (show Int32.ofNat 8 = 8 by decide) hdg k
theorem ldC_7 (E : EC X G cc own nL rm) {i : Int32} (hin : vp_in i 8) (hdg : decode cc pc = .ok (.iaload, 1)) (k : SC X G nL res mv u (pc + 1) lv (.int (ga u 3 i) :: st)) : SC X G nL res mv u pc lv (.int i :: .ref (G.1 7) :: st) :=
  Sm_iald (q0 := 7) (t0 := 0) E rfl rfl hin hdg k
theorem stC_7 (E : EC X G cc own nL rm) {i x : Int32} (hin : vp_in i 8) (hdg : decode cc pc = .ok (.iastore, 1)) {K : St → Option α} (k : ∀ u1 : St, u1 = sa u 3 i x → SC X G nL res (K u1) u1 (pc + 1) lv st) : SC X G nL res (seq (sa u 3 i x) K) u pc lv (.int x :: .int i :: .ref (G.1 7) :: st) :=
  Sm_iast (q0 := 7) (t0 := 0) E rfl rfl rfl hin hdg k
theorem anC_7 (E : EC X G cc own nL rm) (hdg : decode cc pc = .ok (.arraylength, 1)) (k : SC X G nL res mv u (pc + 1) lv (.int 8 :: st)) : SC X G nL res mv u pc lv (.ref (G.1 7) :: st) :=
  Sm_alen (q0 := 7) (t0 := 0) E rfl rfl (show Int32.ofNat 8 = 8 by decide) hdg k
theorem ldC_8 (E : EC X G cc own nL rm) {i : Int32} (hin : vp_in i 64) (hdg : decode cc pc = .ok (.iaload, 1)) (k : SC X G nL res mv u (pc + 1) lv (.int (ga u 4 i) :: st)) : SC X G nL res mv u pc lv (.int i :: .ref (G.1 8) :: st) :=
  Sm_iald (q0 := 8) (t0 := 0) E rfl rfl hin hdg k
theorem stC_8 (E : EC X G cc own nL rm) {i x : Int32} (hin : vp_in i 64) (hdg : decode cc pc = .ok (.iastore, 1)) {K : St → Option α} (k : ∀ u1 : St, u1 = sa u 4 i x → SC X G nL res (K u1) u1 (pc + 1) lv st) : SC X G nL res (seq (sa u 4 i x) K) u pc lv (.int x :: .int i :: .ref (G.1 8) :: st) :=
  Sm_iast (q0 := 8) (t0 := 0) E rfl rfl rfl hin hdg k
theorem anC_8 (E : EC X G cc own nL rm) (hdg : decode cc pc = .ok (.arraylength, 1)) (k : SC X G nL res mv u (pc + 1) lv (.int 64 :: st)) : SC X G nL res mv u pc lv (.ref (G.1 8) :: st) :=
  Sm_alen (q0 := 8) (t0 := 0) E rfl rfl (show Int32.ofNat 64 = 64 by decide) hdg k
theorem ldC_9 (E : EC X G cc own nL rm) {i : Int32} (hin : vp_in i 64) (hdg : decode cc pc = .ok (.iaload, 1)) (k : SC X G nL res mv u (pc + 1) lv (.int (ga u 5 i) :: st)) : SC X G nL res mv u pc lv (.int i :: .ref (G.1 9) :: st) :=
  Sm_iald (q0 := 9) (t0 := 0) E rfl rfl hin hdg k
theorem stC_9 (E : EC X G cc own nL rm) {i x : Int32} (hin : vp_in i 64) (hdg : decode cc pc = .ok (.iastore, 1)) {K : St → Option α} (k : ∀ u1 : St, u1 = sa u 5 i x → SC X G nL res (K u1) u1 (pc + 1) lv st) : SC X G nL res (seq (sa u 5 i x) K) u pc lv (.int x :: .int i :: .ref (G.1 9) :: st) :=
  Sm_iast (q0 := 9) (t0 := 0) E rfl rfl rfl hin hdg k
theorem anC_9 (E : EC X G cc own nL rm) (hdg : decode cc pc = .ok (.arraylength, 1)) (k : SC X G nL res mv u (pc + 1) lv (.int 64 :: st)) : SC X G nL res mv u pc lv (.ref (G.1 9) :: st) :=
  Sm_alen (q0 := 9) (t0 := 0) E rfl rfl (show Int32.ofNat 64 = 64 by decide) hdg k
theorem gfC_10_text (E : EC X G cc own nL rm) (hl : Cond.fieldLink own idx R_Tokens "text" "LSqlReader$Text;" ∈ ALL) (hdg : decode cc pc = .ok (.getfield idx, 3)) (k : SC X G nL res mv u (pc + 3) lv (.ref (G.1 11) :: st)) : SC X G nL res mv u pc lv (.ref (G.1 10) :: st) :=
  Sm_get (q0 := 10) E in_Tokens rfl rfl 0 (by decide) rfl rfl hl hdg k
theorem gfC_10_entries (E : EC X G cc own nL rm) (hl : Cond.fieldLink own idx R_Tokens "entries" "[I" ∈ ALL) (hdg : decode cc pc = .ok (.getfield idx, 3)) (k : SC X G nL res mv u (pc + 3) lv (.ref (G.1 13) :: st)) : SC X G nL res mv u pc lv (.ref (G.1 10) :: st) :=
  Sm_get (q0 := 10) E in_Tokens rfl rfl 1 (by decide) rfl rfl hl hdg k
theorem gfC_10_size (E : EC X G cc own nL rm) (hl : Cond.fieldLink own idx R_Tokens "size" "I" ∈ ALL) (hdg : decode cc pc = .ok (.getfield idx, 3)) (k : SC X G nL res mv u (pc + 3) lv (.int (u.1 3) :: st)) : SC X G nL res mv u pc lv (.ref (G.1 10) :: st) :=
  Sm_get (q0 := 10) E in_Tokens rfl rfl 2 (by decide) rfl rfl hl hdg k
theorem pfC_10_size (E : EC X G cc own nL rm) (hl : Cond.fieldLink own idx R_Tokens "size" "I" ∈ ALL) (hdg : decode cc pc = .ok (.putfield idx, 3)) {v : Int32} {K : St → Option α} (k : ∀ u1 : St, u1 = ss u 3 v → SC X G nL res (K u1) u1 (pc + 3) lv st) : SC X G nL res (seq (ss u 3 v) K) u pc lv (.int v :: .ref (G.1 10) :: st) :=
  Sm_put (q0 := 10) E in_Tokens ty_Tokens tk_Tokens nk_Tokens rfl rfl 2 (by decide) rfl rfl rfl (Nat.le_of_ble_eq_true rfl) rfl rfl rfl hl hdg k
theorem gfC_10_next (E : EC X G cc own nL rm) (hl : Cond.fieldLink own idx R_Tokens "next" "I" ∈ ALL) (hdg : decode cc pc = .ok (.getfield idx, 3)) (k : SC X G nL res mv u (pc + 3) lv (.int (u.1 4) :: st)) : SC X G nL res mv u pc lv (.ref (G.1 10) :: st) :=
  Sm_get (q0 := 10) E in_Tokens rfl rfl 3 (by decide) rfl rfl hl hdg k
theorem pfC_10_next (E : EC X G cc own nL rm) (hl : Cond.fieldLink own idx R_Tokens "next" "I" ∈ ALL) (hdg : decode cc pc = .ok (.putfield idx, 3)) {v : Int32} {K : St → Option α} (k : ∀ u1 : St, u1 = ss u 4 v → SC X G nL res (K u1) u1 (pc + 3) lv st) : SC X G nL res (seq (ss u 4 v) K) u pc lv (.int v :: .ref (G.1 10) :: st) :=
  Sm_put (q0 := 10) E in_Tokens ty_Tokens tk_Tokens nk_Tokens rfl rfl 3 (by decide) rfl rfl rfl (Nat.le_of_ble_eq_true rfl) rfl rfl rfl hl hdg k
theorem gfC_11_bytes (E : EC X G cc own nL rm) (hl : Cond.fieldLink own idx R_Text "bytes" "[B" ∈ ALL) (hdg : decode cc pc = .ok (.getfield idx, 3)) (k : SC X G nL res mv u (pc + 3) lv (.ref (G.1 12) :: st)) : SC X G nL res mv u pc lv (.ref (G.1 11) :: st) :=
  Sm_get (q0 := 11) E in_Text rfl rfl 0 (by decide) rfl rfl hl hdg k
theorem gfC_11_size (E : EC X G cc own nL rm) (hl : Cond.fieldLink own idx R_Text "size" "I" ∈ ALL) (hdg : decode cc pc = .ok (.getfield idx, 3)) (k : SC X G nL res mv u (pc + 3) lv (.int (u.1 5) :: st)) : SC X G nL res mv u pc lv (.ref (G.1 11) :: st) :=
  Sm_get (q0 := 11) E in_Text rfl rfl 1 (by decide) rfl rfl hl hdg k
theorem pfC_11_size (E : EC X G cc own nL rm) (hl : Cond.fieldLink own idx R_Text "size" "I" ∈ ALL) (hdg : decode cc pc = .ok (.putfield idx, 3)) {v : Int32} {K : St → Option α} (k : ∀ u1 : St, u1 = ss u 5 v → SC X G nL res (K u1) u1 (pc + 3) lv st) : SC X G nL res (seq (ss u 5 v) K) u pc lv (.int v :: .ref (G.1 11) :: st) :=
  Sm_put (q0 := 11) E in_Text ty_Text tk_Text nk_Text rfl rfl 1 (by decide) rfl rfl rfl (Nat.le_of_ble_eq_true rfl) rfl rfl rfl hl hdg k
theorem ldC_12 (E : EC X G cc own nL rm) {i : Int32} (hin : vp_in i 2000) (hdg : decode cc pc = .ok (.baload, 1)) (k : SC X G nL res mv u (pc + 1) lv (.int (ga u 6 i) :: st)) : SC X G nL res mv u pc lv (.int i :: .ref (G.1 12) :: st) :=
  Sm_bald (q0 := 12) (t0 := 1) E rfl rfl hin hdg k
theorem stC_12 (E : EC X G cc own nL rm) {i x : Int32} (hin : vp_in i 2000) (hdg : decode cc pc = .ok (.bastore, 1)) {K : St → Option α} (k : ∀ u1 : St, u1 = sa u 6 i (i2b x) → SC X G nL res (K u1) u1 (pc + 1) lv st) : SC X G nL res (seq (sa u 6 i (i2b x)) K) u pc lv (.int x :: .int i :: .ref (G.1 12) :: st) :=
  Sm_bast (q0 := 12) (t0 := 1) E rfl rfl rfl hin hdg k
theorem anC_12 (E : EC X G cc own nL rm) (hdg : decode cc pc = .ok (.arraylength, 1)) (k : SC X G nL res mv u (pc + 1) lv (.int 2000 :: st)) : SC X G nL res mv u pc lv (.ref (G.1 12) :: st) :=
  Sm_alen (q0 := 12) (t0 := 1) E rfl rfl (show Int32.ofNat 2000 = 2000 by decide) hdg k
theorem ldC_13 (E : EC X G cc own nL rm) {i : Int32} (hin : vp_in i 2000) (hdg : decode cc pc = .ok (.iaload, 1)) (k : SC X G nL res mv u (pc + 1) lv (.int (ga u 7 i) :: st)) : SC X G nL res mv u pc lv (.int i :: .ref (G.1 13) :: st) :=
  Sm_iald (q0 := 13) (t0 := 0) E rfl rfl hin hdg k
theorem stC_13 (E : EC X G cc own nL rm) {i x : Int32} (hin : vp_in i 2000) (hdg : decode cc pc = .ok (.iastore, 1)) {K : St → Option α} (k : ∀ u1 : St, u1 = sa u 7 i x → SC X G nL res (K u1) u1 (pc + 1) lv st) : SC X G nL res (seq (sa u 7 i x) K) u pc lv (.int x :: .int i :: .ref (G.1 13) :: st) :=
  Sm_iast (q0 := 13) (t0 := 0) E rfl rfl rfl hin hdg k
theorem anC_13 (E : EC X G cc own nL rm) (hdg : decode cc pc = .ok (.arraylength, 1)) (k : SC X G nL res mv u (pc + 1) lv (.int 2000 :: st)) : SC X G nL res mv u pc lv (.ref (G.1 13) :: st) :=
  Sm_alen (q0 := 13) (t0 := 0) E rfl rfl (show Int32.ofNat 2000 = 2000 by decide) hdg k
theorem gfC_14_kinds (E : EC X G cc own nL rm) (hl : Cond.fieldLink own idx R_Nodes "kinds" "[I" ∈ ALL) (hdg : decode cc pc = .ok (.getfield idx, 3)) (k : SC X G nL res mv u (pc + 3) lv (.ref (G.1 15) :: st)) : SC X G nL res mv u pc lv (.ref (G.1 14) :: st) :=
  Sm_get (q0 := 14) E in_Nodes rfl rfl 0 (by decide) rfl rfl hl hdg k
theorem gfC_14_firsts (E : EC X G cc own nL rm) (hl : Cond.fieldLink own idx R_Nodes "firsts" "[I" ∈ ALL) (hdg : decode cc pc = .ok (.getfield idx, 3)) (k : SC X G nL res mv u (pc + 3) lv (.ref (G.1 16) :: st)) : SC X G nL res mv u pc lv (.ref (G.1 14) :: st) :=
  Sm_get (q0 := 14) E in_Nodes rfl rfl 1 (by decide) rfl rfl hl hdg k
theorem gfC_14_seconds (E : EC X G cc own nL rm) (hl : Cond.fieldLink own idx R_Nodes "seconds" "[I" ∈ ALL) (hdg : decode cc pc = .ok (.getfield idx, 3)) (k : SC X G nL res mv u (pc + 3) lv (.ref (G.1 17) :: st)) : SC X G nL res mv u pc lv (.ref (G.1 14) :: st) :=
  Sm_get (q0 := 14) E in_Nodes rfl rfl 2 (by decide) rfl rfl hl hdg k
theorem gfC_14_types (E : EC X G cc own nL rm) (hl : Cond.fieldLink own idx R_Nodes "types" "[I" ∈ ALL) (hdg : decode cc pc = .ok (.getfield idx, 3)) (k : SC X G nL res mv u (pc + 3) lv (.ref (G.1 18) :: st)) : SC X G nL res mv u pc lv (.ref (G.1 14) :: st) :=
  Sm_get (q0 := 14) E in_Nodes rfl rfl 3 (by decide) rfl rfl hl hdg k
theorem gfC_14_parents (E : EC X G cc own nL rm) (hl : Cond.fieldLink own idx R_Nodes "parents" "[I" ∈ ALL) (hdg : decode cc pc = .ok (.getfield idx, 3)) (k : SC X G nL res mv u (pc + 3) lv (.ref (G.1 19) :: st)) : SC X G nL res mv u pc lv (.ref (G.1 14) :: st) :=
  Sm_get (q0 := 14) E in_Nodes rfl rfl 4 (by decide) rfl rfl hl hdg k
theorem gfC_14_needs (E : EC X G cc own nL rm) (hl : Cond.fieldLink own idx R_Nodes "needs" "[I" ∈ ALL) (hdg : decode cc pc = .ok (.getfield idx, 3)) (k : SC X G nL res mv u (pc + 3) lv (.ref (G.1 20) :: st)) : SC X G nL res mv u pc lv (.ref (G.1 14) :: st) :=
  Sm_get (q0 := 14) E in_Nodes rfl rfl 5 (by decide) rfl rfl hl hdg k
theorem gfC_14_faults (E : EC X G cc own nL rm) (hl : Cond.fieldLink own idx R_Nodes "faults" "[I" ∈ ALL) (hdg : decode cc pc = .ok (.getfield idx, 3)) (k : SC X G nL res mv u (pc + 3) lv (.ref (G.1 21) :: st)) : SC X G nL res mv u pc lv (.ref (G.1 14) :: st) :=
  Sm_get (q0 := 14) E in_Nodes rfl rfl 6 (by decide) rfl rfl hl hdg k
theorem gfC_14_spans (E : EC X G cc own nL rm) (hl : Cond.fieldLink own idx R_Nodes "spans" "[I" ∈ ALL) (hdg : decode cc pc = .ok (.getfield idx, 3)) (k : SC X G nL res mv u (pc + 3) lv (.ref (G.1 22) :: st)) : SC X G nL res mv u pc lv (.ref (G.1 14) :: st) :=
  Sm_get (q0 := 14) E in_Nodes rfl rfl 7 (by decide) rfl rfl hl hdg k
theorem gfC_14_qualifiers (E : EC X G cc own nL rm) (hl : Cond.fieldLink own idx R_Nodes "qualifiers" "[I" ∈ ALL) (hdg : decode cc pc = .ok (.getfield idx, 3)) (k : SC X G nL res mv u (pc + 3) lv (.ref (G.1 23) :: st)) : SC X G nL res mv u pc lv (.ref (G.1 14) :: st) :=
  Sm_get (q0 := 14) E in_Nodes rfl rfl 8 (by decide) rfl rfl hl hdg k
theorem gfC_14_size (E : EC X G cc own nL rm) (hl : Cond.fieldLink own idx R_Nodes "size" "I" ∈ ALL) (hdg : decode cc pc = .ok (.getfield idx, 3)) (k : SC X G nL res mv u (pc + 3) lv (.int (u.1 6) :: st)) : SC X G nL res mv u pc lv (.ref (G.1 14) :: st) :=
  Sm_get (q0 := 14) E in_Nodes rfl rfl 9 (by decide) rfl rfl hl hdg k
theorem pfC_14_size (E : EC X G cc own nL rm) (hl : Cond.fieldLink own idx R_Nodes "size" "I" ∈ ALL) (hdg : decode cc pc = .ok (.putfield idx, 3)) {v : Int32} {K : St → Option α} (k : ∀ u1 : St, u1 = ss u 6 v → SC X G nL res (K u1) u1 (pc + 3) lv st) : SC X G nL res (seq (ss u 6 v) K) u pc lv (.int v :: .ref (G.1 14) :: st) :=
  Sm_put (q0 := 14) E in_Nodes ty_Nodes tk_Nodes nk_Nodes rfl rfl 9 (by decide) rfl rfl rfl (Nat.le_of_ble_eq_true rfl) rfl rfl rfl hl hdg k
theorem gfC_14_over (E : EC X G cc own nL rm) (hl : Cond.fieldLink own idx R_Nodes "over" "Z" ∈ ALL) (hdg : decode cc pc = .ok (.getfield idx, 3)) (k : SC X G nL res mv u (pc + 3) lv (.int (u.1 7) :: st)) : SC X G nL res mv u pc lv (.ref (G.1 14) :: st) :=
  Sm_get (q0 := 14) E in_Nodes rfl rfl 10 (by decide) rfl rfl hl hdg k
theorem pfC_14_over (E : EC X G cc own nL rm) (hl : Cond.fieldLink own idx R_Nodes "over" "Z" ∈ ALL) (hdg : decode cc pc = .ok (.putfield idx, 3)) {v : Int32} (hn : narrow .boolean (.int v) = .int v) (hf : fits .boolean (.int v) = true) {K : St → Option α} (k : ∀ u1 : St, u1 = ss u 7 v → SC X G nL res (K u1) u1 (pc + 3) lv st) : SC X G nL res (seq (ss u 7 v) K) u pc lv (.int v :: .ref (G.1 14) :: st) :=
  Sm_put (q0 := 14) E in_Nodes ty_Nodes tk_Nodes nk_Nodes rfl rfl 10 (by decide) rfl rfl rfl (Nat.le_of_ble_eq_true rfl) rfl hn hf hl hdg k
theorem ldC_15 (E : EC X G cc own nL rm) {i : Int32} (hin : vp_in i 200) (hdg : decode cc pc = .ok (.iaload, 1)) (k : SC X G nL res mv u (pc + 1) lv (.int (ga u 8 i) :: st)) : SC X G nL res mv u pc lv (.int i :: .ref (G.1 15) :: st) :=
  Sm_iald (q0 := 15) (t0 := 0) E rfl rfl hin hdg k
theorem stC_15 (E : EC X G cc own nL rm) {i x : Int32} (hin : vp_in i 200) (hdg : decode cc pc = .ok (.iastore, 1)) {K : St → Option α} (k : ∀ u1 : St, u1 = sa u 8 i x → SC X G nL res (K u1) u1 (pc + 1) lv st) : SC X G nL res (seq (sa u 8 i x) K) u pc lv (.int x :: .int i :: .ref (G.1 15) :: st) :=
  Sm_iast (q0 := 15) (t0 := 0) E rfl rfl rfl hin hdg k
theorem anC_15 (E : EC X G cc own nL rm) (hdg : decode cc pc = .ok (.arraylength, 1)) (k : SC X G nL res mv u (pc + 1) lv (.int 200 :: st)) : SC X G nL res mv u pc lv (.ref (G.1 15) :: st) :=
  Sm_alen (q0 := 15) (t0 := 0) E rfl rfl (show Int32.ofNat 200 = 200 by decide) hdg k
theorem ldC_16 (E : EC X G cc own nL rm) {i : Int32} (hin : vp_in i 200) (hdg : decode cc pc = .ok (.iaload, 1)) (k : SC X G nL res mv u (pc + 1) lv (.int (ga u 9 i) :: st)) : SC X G nL res mv u pc lv (.int i :: .ref (G.1 16) :: st) :=
  Sm_iald (q0 := 16) (t0 := 0) E rfl rfl hin hdg k
theorem stC_16 (E : EC X G cc own nL rm) {i x : Int32} (hin : vp_in i 200) (hdg : decode cc pc = .ok (.iastore, 1)) {K : St → Option α} (k : ∀ u1 : St, u1 = sa u 9 i x → SC X G nL res (K u1) u1 (pc + 1) lv st) : SC X G nL res (seq (sa u 9 i x) K) u pc lv (.int x :: .int i :: .ref (G.1 16) :: st) :=
  Sm_iast (q0 := 16) (t0 := 0) E rfl rfl rfl hin hdg k
theorem anC_16 (E : EC X G cc own nL rm) (hdg : decode cc pc = .ok (.arraylength, 1)) (k : SC X G nL res mv u (pc + 1) lv (.int 200 :: st)) : SC X G nL res mv u pc lv (.ref (G.1 16) :: st) :=
  Sm_alen (q0 := 16) (t0 := 0) E rfl rfl (show Int32.ofNat 200 = 200 by decide) hdg k
theorem ldC_17 (E : EC X G cc own nL rm) {i : Int32} (hin : vp_in i 200) (hdg : decode cc pc = .ok (.iaload, 1)) (k : SC X G nL res mv u (pc + 1) lv (.int (ga u 10 i) :: st)) : SC X G nL res mv u pc lv (.int i :: .ref (G.1 17) :: st) :=
  Sm_iald (q0 := 17) (t0 := 0) E rfl rfl hin hdg k
theorem stC_17 (E : EC X G cc own nL rm) {i x : Int32} (hin : vp_in i 200) (hdg : decode cc pc = .ok (.iastore, 1)) {K : St → Option α} (k : ∀ u1 : St, u1 = sa u 10 i x → SC X G nL res (K u1) u1 (pc + 1) lv st) : SC X G nL res (seq (sa u 10 i x) K) u pc lv (.int x :: .int i :: .ref (G.1 17) :: st) :=
  Sm_iast (q0 := 17) (t0 := 0) E rfl rfl rfl hin hdg k
theorem anC_17 (E : EC X G cc own nL rm) (hdg : decode cc pc = .ok (.arraylength, 1)) (k : SC X G nL res mv u (pc + 1) lv (.int 200 :: st)) : SC X G nL res mv u pc lv (.ref (G.1 17) :: st) :=
  Sm_alen (q0 := 17) (t0 := 0) E rfl rfl (show Int32.ofNat 200 = 200 by decide) hdg k
theorem ldC_18 (E : EC X G cc own nL rm) {i : Int32} (hin : vp_in i 200) (hdg : decode cc pc = .ok (.iaload, 1)) (k : SC X G nL res mv u (pc + 1) lv (.int (ga u 11 i) :: st)) : SC X G nL res mv u pc lv (.int i :: .ref (G.1 18) :: st) :=
  Sm_iald (q0 := 18) (t0 := 0) E rfl rfl hin hdg k
theorem stC_18 (E : EC X G cc own nL rm) {i x : Int32} (hin : vp_in i 200) (hdg : decode cc pc = .ok (.iastore, 1)) {K : St → Option α} (k : ∀ u1 : St, u1 = sa u 11 i x → SC X G nL res (K u1) u1 (pc + 1) lv st) : SC X G nL res (seq (sa u 11 i x) K) u pc lv (.int x :: .int i :: .ref (G.1 18) :: st) :=
  Sm_iast (q0 := 18) (t0 := 0) E rfl rfl rfl hin hdg k
theorem anC_18 (E : EC X G cc own nL rm) (hdg : decode cc pc = .ok (.arraylength, 1)) (k : SC X G nL res mv u (pc + 1) lv (.int 200 :: st)) : SC X G nL res mv u pc lv (.ref (G.1 18) :: st) :=
  Sm_alen (q0 := 18) (t0 := 0) E rfl rfl (show Int32.ofNat 200 = 200 by decide) hdg k
theorem ldC_19 (E : EC X G cc own nL rm) {i : Int32} (hin : vp_in i 200) (hdg : decode cc pc = .ok (.iaload, 1)) (k : SC X G nL res mv u (pc + 1) lv (.int (ga u 12 i) :: st)) : SC X G nL res mv u pc lv (.int i :: .ref (G.1 19) :: st) :=
  Sm_iald (q0 := 19) (t0 := 0) E rfl rfl hin hdg k
theorem stC_19 (E : EC X G cc own nL rm) {i x : Int32} (hin : vp_in i 200) (hdg : decode cc pc = .ok (.iastore, 1)) {K : St → Option α} (k : ∀ u1 : St, u1 = sa u 12 i x → SC X G nL res (K u1) u1 (pc + 1) lv st) : SC X G nL res (seq (sa u 12 i x) K) u pc lv (.int x :: .int i :: .ref (G.1 19) :: st) :=
  Sm_iast (q0 := 19) (t0 := 0) E rfl rfl rfl hin hdg k
theorem anC_19 (E : EC X G cc own nL rm) (hdg : decode cc pc = .ok (.arraylength, 1)) (k : SC X G nL res mv u (pc + 1) lv (.int 200 :: st)) : SC X G nL res mv u pc lv (.ref (G.1 19) :: st) :=
  Sm_alen (q0 := 19) (t0 := 0) E rfl rfl (show Int32.ofNat 200 = 200 by decide) hdg k
theorem ldC_20 (E : EC X G cc own nL rm) {i : Int32} (hin : vp_in i 200) (hdg : decode cc pc = .ok (.iaload, 1)) (k : SC X G nL res mv u (pc + 1) lv (.int (ga u 13 i) :: st)) : SC X G nL res mv u pc lv (.int i :: .ref (G.1 20) :: st) :=
  Sm_iald (q0 := 20) (t0 := 0) E rfl rfl hin hdg k
theorem stC_20 (E : EC X G cc own nL rm) {i x : Int32} (hin : vp_in i 200) (hdg : decode cc pc = .ok (.iastore, 1)) {K : St → Option α} (k : ∀ u1 : St, u1 = sa u 13 i x → SC X G nL res (K u1) u1 (pc + 1) lv st) : SC X G nL res (seq (sa u 13 i x) K) u pc lv (.int x :: .int i :: .ref (G.1 20) :: st) :=
  Sm_iast (q0 := 20) (t0 := 0) E rfl rfl rfl hin hdg k
theorem anC_20 (E : EC X G cc own nL rm) (hdg : decode cc pc = .ok (.arraylength, 1)) (k : SC X G nL res mv u (pc + 1) lv (.int 200 :: st)) : SC X G nL res mv u pc lv (.ref (G.1 20) :: st) :=
  Sm_alen (q0 := 20) (t0 := 0) E rfl rfl (show Int32.ofNat 200 = 200 by decide) hdg k
theorem ldC_21 (E : EC X G cc own nL rm) {i : Int32} (hin : vp_in i 200) (hdg : decode cc pc = .ok (.iaload, 1)) (k : SC X G nL res mv u (pc + 1) lv (.int (ga u 14 i) :: st)) : SC X G nL res mv u pc lv (.int i :: .ref (G.1 21) :: st) :=
  Sm_iald (q0 := 21) (t0 := 0) E rfl rfl hin hdg k
theorem stC_21 (E : EC X G cc own nL rm) {i x : Int32} (hin : vp_in i 200) (hdg : decode cc pc = .ok (.iastore, 1)) {K : St → Option α} (k : ∀ u1 : St, u1 = sa u 14 i x → SC X G nL res (K u1) u1 (pc + 1) lv st) : SC X G nL res (seq (sa u 14 i x) K) u pc lv (.int x :: .int i :: .ref (G.1 21) :: st) :=
  Sm_iast (q0 := 21) (t0 := 0) E rfl rfl rfl hin hdg k
theorem anC_21 (E : EC X G cc own nL rm) (hdg : decode cc pc = .ok (.arraylength, 1)) (k : SC X G nL res mv u (pc + 1) lv (.int 200 :: st)) : SC X G nL res mv u pc lv (.ref (G.1 21) :: st) :=
  Sm_alen (q0 := 21) (t0 := 0) E rfl rfl (show Int32.ofNat 200 = 200 by decide) hdg k
theorem ldC_22 (E : EC X G cc own nL rm) {i : Int32} (hin : vp_in i 200) (hdg : decode cc pc = .ok (.iaload, 1)) (k : SC X G nL res mv u (pc + 1) lv (.int (ga u 15 i) :: st)) : SC X G nL res mv u pc lv (.int i :: .ref (G.1 22) :: st) :=
  Sm_iald (q0 := 22) (t0 := 0) E rfl rfl hin hdg k
theorem stC_22 (E : EC X G cc own nL rm) {i x : Int32} (hin : vp_in i 200) (hdg : decode cc pc = .ok (.iastore, 1)) {K : St → Option α} (k : ∀ u1 : St, u1 = sa u 15 i x → SC X G nL res (K u1) u1 (pc + 1) lv st) : SC X G nL res (seq (sa u 15 i x) K) u pc lv (.int x :: .int i :: .ref (G.1 22) :: st) :=
  Sm_iast (q0 := 22) (t0 := 0) E rfl rfl rfl hin hdg k
theorem anC_22 (E : EC X G cc own nL rm) (hdg : decode cc pc = .ok (.arraylength, 1)) (k : SC X G nL res mv u (pc + 1) lv (.int 200 :: st)) : SC X G nL res mv u pc lv (.ref (G.1 22) :: st) :=
  Sm_alen (q0 := 22) (t0 := 0) E rfl rfl (show Int32.ofNat 200 = 200 by decide) hdg k
theorem ldC_23 (E : EC X G cc own nL rm) {i : Int32} (hin : vp_in i 200) (hdg : decode cc pc = .ok (.iaload, 1)) (k : SC X G nL res mv u (pc + 1) lv (.int (ga u 16 i) :: st)) : SC X G nL res mv u pc lv (.int i :: .ref (G.1 23) :: st) :=
  Sm_iald (q0 := 23) (t0 := 0) E rfl rfl hin hdg k
theorem stC_23 (E : EC X G cc own nL rm) {i x : Int32} (hin : vp_in i 200) (hdg : decode cc pc = .ok (.iastore, 1)) {K : St → Option α} (k : ∀ u1 : St, u1 = sa u 16 i x → SC X G nL res (K u1) u1 (pc + 1) lv st) : SC X G nL res (seq (sa u 16 i x) K) u pc lv (.int x :: .int i :: .ref (G.1 23) :: st) :=
  Sm_iast (q0 := 23) (t0 := 0) E rfl rfl rfl hin hdg k
theorem anC_23 (E : EC X G cc own nL rm) (hdg : decode cc pc = .ok (.arraylength, 1)) (k : SC X G nL res mv u (pc + 1) lv (.int 200 :: st)) : SC X G nL res mv u pc lv (.ref (G.1 23) :: st) :=
  Sm_alen (q0 := 23) (t0 := 0) E rfl rfl (show Int32.ofNat 200 = 200 by decide) hdg k
theorem gfC_24_sizes (E : EC X G cc own nL rm) (hl : Cond.fieldLink own idx R_Lists "sizes" "[I" ∈ ALL) (hdg : decode cc pc = .ok (.getfield idx, 3)) (k : SC X G nL res mv u (pc + 3) lv (.ref (G.1 25) :: st)) : SC X G nL res mv u pc lv (.ref (G.1 24) :: st) :=
  Sm_get (q0 := 24) E in_Lists rfl rfl 0 (by decide) rfl rfl hl hdg k
theorem gfC_24_entries (E : EC X G cc own nL rm) (hl : Cond.fieldLink own idx R_Lists "entries" "[I" ∈ ALL) (hdg : decode cc pc = .ok (.getfield idx, 3)) (k : SC X G nL res mv u (pc + 3) lv (.ref (G.1 26) :: st)) : SC X G nL res mv u pc lv (.ref (G.1 24) :: st) :=
  Sm_get (q0 := 24) E in_Lists rfl rfl 1 (by decide) rfl rfl hl hdg k
theorem gfC_24_over (E : EC X G cc own nL rm) (hl : Cond.fieldLink own idx R_Lists "over" "Z" ∈ ALL) (hdg : decode cc pc = .ok (.getfield idx, 3)) (k : SC X G nL res mv u (pc + 3) lv (.int (u.1 8) :: st)) : SC X G nL res mv u pc lv (.ref (G.1 24) :: st) :=
  Sm_get (q0 := 24) E in_Lists rfl rfl 2 (by decide) rfl rfl hl hdg k
theorem pfC_24_over (E : EC X G cc own nL rm) (hl : Cond.fieldLink own idx R_Lists "over" "Z" ∈ ALL) (hdg : decode cc pc = .ok (.putfield idx, 3)) {v : Int32} (hn : narrow .boolean (.int v) = .int v) (hf : fits .boolean (.int v) = true) {K : St → Option α} (k : ∀ u1 : St, u1 = ss u 8 v → SC X G nL res (K u1) u1 (pc + 3) lv st) : SC X G nL res (seq (ss u 8 v) K) u pc lv (.int v :: .ref (G.1 24) :: st) :=
  Sm_put (q0 := 24) E in_Lists ty_Lists tk_Lists nk_Lists rfl rfl 2 (by decide) rfl rfl rfl (Nat.le_of_ble_eq_true rfl) rfl hn hf hl hdg k
theorem ldC_25 (E : EC X G cc own nL rm) {i : Int32} (hin : vp_in i 14) (hdg : decode cc pc = .ok (.iaload, 1)) (k : SC X G nL res mv u (pc + 1) lv (.int (ga u 17 i) :: st)) : SC X G nL res mv u pc lv (.int i :: .ref (G.1 25) :: st) :=
  Sm_iald (q0 := 25) (t0 := 0) E rfl rfl hin hdg k
theorem stC_25 (E : EC X G cc own nL rm) {i x : Int32} (hin : vp_in i 14) (hdg : decode cc pc = .ok (.iastore, 1)) {K : St → Option α} (k : ∀ u1 : St, u1 = sa u 17 i x → SC X G nL res (K u1) u1 (pc + 1) lv st) : SC X G nL res (seq (sa u 17 i x) K) u pc lv (.int x :: .int i :: .ref (G.1 25) :: st) :=
  Sm_iast (q0 := 25) (t0 := 0) E rfl rfl rfl hin hdg k
theorem anC_25 (E : EC X G cc own nL rm) (hdg : decode cc pc = .ok (.arraylength, 1)) (k : SC X G nL res mv u (pc + 1) lv (.int 14 :: st)) : SC X G nL res mv u pc lv (.ref (G.1 25) :: st) :=
  Sm_alen (q0 := 25) (t0 := 0) E rfl rfl (show Int32.ofNat 14 = 14 by decide) hdg k
theorem ldC_26 (E : EC X G cc own nL rm) {i : Int32} (hin : vp_in i 666) (hdg : decode cc pc = .ok (.iaload, 1)) (k : SC X G nL res mv u (pc + 1) lv (.int (ga u 18 i) :: st)) : SC X G nL res mv u pc lv (.int i :: .ref (G.1 26) :: st) :=
  Sm_iald (q0 := 26) (t0 := 0) E rfl rfl hin hdg k
theorem stC_26 (E : EC X G cc own nL rm) {i x : Int32} (hin : vp_in i 666) (hdg : decode cc pc = .ok (.iastore, 1)) {K : St → Option α} (k : ∀ u1 : St, u1 = sa u 18 i x → SC X G nL res (K u1) u1 (pc + 1) lv st) : SC X G nL res (seq (sa u 18 i x) K) u pc lv (.int x :: .int i :: .ref (G.1 26) :: st) :=
  Sm_iast (q0 := 26) (t0 := 0) E rfl rfl rfl hin hdg k
theorem anC_26 (E : EC X G cc own nL rm) (hdg : decode cc pc = .ok (.arraylength, 1)) (k : SC X G nL res mv u (pc + 1) lv (.int 666 :: st)) : SC X G nL res mv u pc lv (.ref (G.1 26) :: st) :=
  Sm_alen (q0 := 26) (t0 := 0) E rfl rfl (show Int32.ofNat 666 = 666 by decide) hdg k
theorem gfC_27_kind (E : EC X G cc own nL rm) (hl : Cond.fieldLink own idx R_Statement "kind" "I" ∈ ALL) (hdg : decode cc pc = .ok (.getfield idx, 3)) (k : SC X G nL res mv u (pc + 3) lv (.int (u.1 9) :: st)) : SC X G nL res mv u pc lv (.ref (G.1 27) :: st) :=
  Sm_get (q0 := 27) E in_Statement rfl rfl 0 (by decide) rfl rfl hl hdg k
theorem pfC_27_kind (E : EC X G cc own nL rm) (hl : Cond.fieldLink own idx R_Statement "kind" "I" ∈ ALL) (hdg : decode cc pc = .ok (.putfield idx, 3)) {v : Int32} {K : St → Option α} (k : ∀ u1 : St, u1 = ss u 9 v → SC X G nL res (K u1) u1 (pc + 3) lv st) : SC X G nL res (seq (ss u 9 v) K) u pc lv (.int v :: .ref (G.1 27) :: st) :=
  Sm_put (q0 := 27) E in_Statement ty_Statement tk_Statement nk_Statement rfl rfl 0 (by decide) rfl rfl rfl (Nat.le_of_ble_eq_true rfl) rfl rfl rfl hl hdg k
theorem gfC_27_deed (E : EC X G cc own nL rm) (hl : Cond.fieldLink own idx R_Statement "deed" "I" ∈ ALL) (hdg : decode cc pc = .ok (.getfield idx, 3)) (k : SC X G nL res mv u (pc + 3) lv (.int (u.1 10) :: st)) : SC X G nL res mv u pc lv (.ref (G.1 27) :: st) :=
  Sm_get (q0 := 27) E in_Statement rfl rfl 1 (by decide) rfl rfl hl hdg k
theorem pfC_27_deed (E : EC X G cc own nL rm) (hl : Cond.fieldLink own idx R_Statement "deed" "I" ∈ ALL) (hdg : decode cc pc = .ok (.putfield idx, 3)) {v : Int32} {K : St → Option α} (k : ∀ u1 : St, u1 = ss u 10 v → SC X G nL res (K u1) u1 (pc + 3) lv st) : SC X G nL res (seq (ss u 10 v) K) u pc lv (.int v :: .ref (G.1 27) :: st) :=
  Sm_put (q0 := 27) E in_Statement ty_Statement tk_Statement nk_Statement rfl rfl 1 (by decide) rfl rfl rfl (Nat.le_of_ble_eq_true rfl) rfl rfl rfl hl hdg k
theorem gfC_27_title (E : EC X G cc own nL rm) (hl : Cond.fieldLink own idx R_Statement "title" "I" ∈ ALL) (hdg : decode cc pc = .ok (.getfield idx, 3)) (k : SC X G nL res mv u (pc + 3) lv (.int (u.1 11) :: st)) : SC X G nL res mv u pc lv (.ref (G.1 27) :: st) :=
  Sm_get (q0 := 27) E in_Statement rfl rfl 2 (by decide) rfl rfl hl hdg k
theorem pfC_27_title (E : EC X G cc own nL rm) (hl : Cond.fieldLink own idx R_Statement "title" "I" ∈ ALL) (hdg : decode cc pc = .ok (.putfield idx, 3)) {v : Int32} {K : St → Option α} (k : ∀ u1 : St, u1 = ss u 11 v → SC X G nL res (K u1) u1 (pc + 3) lv st) : SC X G nL res (seq (ss u 11 v) K) u pc lv (.int v :: .ref (G.1 27) :: st) :=
  Sm_put (q0 := 27) E in_Statement ty_Statement tk_Statement nk_Statement rfl rfl 2 (by decide) rfl rfl rfl (Nat.le_of_ble_eq_true rfl) rfl rfl rfl hl hdg k
theorem gfC_27_tableName (E : EC X G cc own nL rm) (hl : Cond.fieldLink own idx R_Statement "tableName" "I" ∈ ALL) (hdg : decode cc pc = .ok (.getfield idx, 3)) (k : SC X G nL res mv u (pc + 3) lv (.int (u.1 12) :: st)) : SC X G nL res mv u pc lv (.ref (G.1 27) :: st) :=
  Sm_get (q0 := 27) E in_Statement rfl rfl 3 (by decide) rfl rfl hl hdg k
theorem pfC_27_tableName (E : EC X G cc own nL rm) (hl : Cond.fieldLink own idx R_Statement "tableName" "I" ∈ ALL) (hdg : decode cc pc = .ok (.putfield idx, 3)) {v : Int32} {K : St → Option α} (k : ∀ u1 : St, u1 = ss u 12 v → SC X G nL res (K u1) u1 (pc + 3) lv st) : SC X G nL res (seq (ss u 12 v) K) u pc lv (.int v :: .ref (G.1 27) :: st) :=
  Sm_put (q0 := 27) E in_Statement ty_Statement tk_Statement nk_Statement rfl rfl 3 (by decide) rfl rfl rfl (Nat.le_of_ble_eq_true rfl) rfl rfl rfl hl hdg k
theorem gfC_27_table (E : EC X G cc own nL rm) (hl : Cond.fieldLink own idx R_Statement "table" "I" ∈ ALL) (hdg : decode cc pc = .ok (.getfield idx, 3)) (k : SC X G nL res mv u (pc + 3) lv (.int (u.1 13) :: st)) : SC X G nL res mv u pc lv (.ref (G.1 27) :: st) :=
  Sm_get (q0 := 27) E in_Statement rfl rfl 4 (by decide) rfl rfl hl hdg k
theorem pfC_27_table (E : EC X G cc own nL rm) (hl : Cond.fieldLink own idx R_Statement "table" "I" ∈ ALL) (hdg : decode cc pc = .ok (.putfield idx, 3)) {v : Int32} {K : St → Option α} (k : ∀ u1 : St, u1 = ss u 13 v → SC X G nL res (K u1) u1 (pc + 3) lv st) : SC X G nL res (seq (ss u 13 v) K) u pc lv (.int v :: .ref (G.1 27) :: st) :=
  Sm_put (q0 := 27) E in_Statement ty_Statement tk_Statement nk_Statement rfl rfl 4 (by decide) rfl rfl rfl (Nat.le_of_ble_eq_true rfl) rfl rfl rfl hl hdg k
theorem gfC_27_columnName (E : EC X G cc own nL rm) (hl : Cond.fieldLink own idx R_Statement "columnName" "I" ∈ ALL) (hdg : decode cc pc = .ok (.getfield idx, 3)) (k : SC X G nL res mv u (pc + 3) lv (.int (u.1 14) :: st)) : SC X G nL res mv u pc lv (.ref (G.1 27) :: st) :=
  Sm_get (q0 := 27) E in_Statement rfl rfl 5 (by decide) rfl rfl hl hdg k
theorem pfC_27_columnName (E : EC X G cc own nL rm) (hl : Cond.fieldLink own idx R_Statement "columnName" "I" ∈ ALL) (hdg : decode cc pc = .ok (.putfield idx, 3)) {v : Int32} {K : St → Option α} (k : ∀ u1 : St, u1 = ss u 14 v → SC X G nL res (K u1) u1 (pc + 3) lv st) : SC X G nL res (seq (ss u 14 v) K) u pc lv (.int v :: .ref (G.1 27) :: st) :=
  Sm_put (q0 := 27) E in_Statement ty_Statement tk_Statement nk_Statement rfl rfl 5 (by decide) rfl rfl rfl (Nat.le_of_ble_eq_true rfl) rfl rfl rfl hl hdg k
theorem gfC_27_column (E : EC X G cc own nL rm) (hl : Cond.fieldLink own idx R_Statement "column" "I" ∈ ALL) (hdg : decode cc pc = .ok (.getfield idx, 3)) (k : SC X G nL res mv u (pc + 3) lv (.int (u.1 15) :: st)) : SC X G nL res mv u pc lv (.ref (G.1 27) :: st) :=
  Sm_get (q0 := 27) E in_Statement rfl rfl 6 (by decide) rfl rfl hl hdg k
theorem pfC_27_column (E : EC X G cc own nL rm) (hl : Cond.fieldLink own idx R_Statement "column" "I" ∈ ALL) (hdg : decode cc pc = .ok (.putfield idx, 3)) {v : Int32} {K : St → Option α} (k : ∀ u1 : St, u1 = ss u 15 v → SC X G nL res (K u1) u1 (pc + 3) lv st) : SC X G nL res (seq (ss u 15 v) K) u pc lv (.int v :: .ref (G.1 27) :: st) :=
  Sm_put (q0 := 27) E in_Statement ty_Statement tk_Statement nk_Statement rfl rfl 6 (by decide) rfl rfl rfl (Nat.le_of_ble_eq_true rfl) rfl rfl rfl hl hdg k
theorem gfC_27_mode (E : EC X G cc own nL rm) (hl : Cond.fieldLink own idx R_Statement "mode" "I" ∈ ALL) (hdg : decode cc pc = .ok (.getfield idx, 3)) (k : SC X G nL res mv u (pc + 3) lv (.int (u.1 16) :: st)) : SC X G nL res mv u pc lv (.ref (G.1 27) :: st) :=
  Sm_get (q0 := 27) E in_Statement rfl rfl 7 (by decide) rfl rfl hl hdg k
theorem pfC_27_mode (E : EC X G cc own nL rm) (hl : Cond.fieldLink own idx R_Statement "mode" "I" ∈ ALL) (hdg : decode cc pc = .ok (.putfield idx, 3)) {v : Int32} {K : St → Option α} (k : ∀ u1 : St, u1 = ss u 16 v → SC X G nL res (K u1) u1 (pc + 3) lv st) : SC X G nL res (seq (ss u 16 v) K) u pc lv (.int v :: .ref (G.1 27) :: st) :=
  Sm_put (q0 := 27) E in_Statement ty_Statement tk_Statement nk_Statement rfl rfl 7 (by decide) rfl rfl rfl (Nat.le_of_ble_eq_true rfl) rfl rfl rfl hl hdg k
theorem gfC_27_limit (E : EC X G cc own nL rm) (hl : Cond.fieldLink own idx R_Statement "limit" "I" ∈ ALL) (hdg : decode cc pc = .ok (.getfield idx, 3)) (k : SC X G nL res mv u (pc + 3) lv (.int (u.1 17) :: st)) : SC X G nL res mv u pc lv (.ref (G.1 27) :: st) :=
  Sm_get (q0 := 27) E in_Statement rfl rfl 8 (by decide) rfl rfl hl hdg k
theorem pfC_27_limit (E : EC X G cc own nL rm) (hl : Cond.fieldLink own idx R_Statement "limit" "I" ∈ ALL) (hdg : decode cc pc = .ok (.putfield idx, 3)) {v : Int32} {K : St → Option α} (k : ∀ u1 : St, u1 = ss u 17 v → SC X G nL res (K u1) u1 (pc + 3) lv st) : SC X G nL res (seq (ss u 17 v) K) u pc lv (.int v :: .ref (G.1 27) :: st) :=
  Sm_put (q0 := 27) E in_Statement ty_Statement tk_Statement nk_Statement rfl rfl 8 (by decide) rfl rfl rfl (Nat.le_of_ble_eq_true rfl) rfl rfl rfl hl hdg k
theorem gfC_27_where (E : EC X G cc own nL rm) (hl : Cond.fieldLink own idx R_Statement "where" "I" ∈ ALL) (hdg : decode cc pc = .ok (.getfield idx, 3)) (k : SC X G nL res mv u (pc + 3) lv (.int (u.1 18) :: st)) : SC X G nL res mv u pc lv (.ref (G.1 27) :: st) :=
  Sm_get (q0 := 27) E in_Statement rfl rfl 9 (by decide) rfl rfl hl hdg k
theorem pfC_27_where (E : EC X G cc own nL rm) (hl : Cond.fieldLink own idx R_Statement "where" "I" ∈ ALL) (hdg : decode cc pc = .ok (.putfield idx, 3)) {v : Int32} {K : St → Option α} (k : ∀ u1 : St, u1 = ss u 18 v → SC X G nL res (K u1) u1 (pc + 3) lv st) : SC X G nL res (seq (ss u 18 v) K) u pc lv (.int v :: .ref (G.1 27) :: st) :=
  Sm_put (q0 := 27) E in_Statement ty_Statement tk_Statement nk_Statement rfl rfl 9 (by decide) rfl rfl rfl (Nat.le_of_ble_eq_true rfl) rfl rfl rfl hl hdg k
theorem gfC_27_unique (E : EC X G cc own nL rm) (hl : Cond.fieldLink own idx R_Statement "unique" "Z" ∈ ALL) (hdg : decode cc pc = .ok (.getfield idx, 3)) (k : SC X G nL res mv u (pc + 3) lv (.int (u.1 19) :: st)) : SC X G nL res mv u pc lv (.ref (G.1 27) :: st) :=
  Sm_get (q0 := 27) E in_Statement rfl rfl 10 (by decide) rfl rfl hl hdg k
theorem pfC_27_unique (E : EC X G cc own nL rm) (hl : Cond.fieldLink own idx R_Statement "unique" "Z" ∈ ALL) (hdg : decode cc pc = .ok (.putfield idx, 3)) {v : Int32} (hn : narrow .boolean (.int v) = .int v) (hf : fits .boolean (.int v) = true) {K : St → Option α} (k : ∀ u1 : St, u1 = ss u 19 v → SC X G nL res (K u1) u1 (pc + 3) lv st) : SC X G nL res (seq (ss u 19 v) K) u pc lv (.int v :: .ref (G.1 27) :: st) :=
  Sm_put (q0 := 27) E in_Statement ty_Statement tk_Statement nk_Statement rfl rfl 10 (by decide) rfl rfl rfl (Nat.le_of_ble_eq_true rfl) rfl hn hf hl hdg k
theorem gfC_27_distinct (E : EC X G cc own nL rm) (hl : Cond.fieldLink own idx R_Statement "distinct" "Z" ∈ ALL) (hdg : decode cc pc = .ok (.getfield idx, 3)) (k : SC X G nL res mv u (pc + 3) lv (.int (u.1 20) :: st)) : SC X G nL res mv u pc lv (.ref (G.1 27) :: st) :=
  Sm_get (q0 := 27) E in_Statement rfl rfl 11 (by decide) rfl rfl hl hdg k
theorem pfC_27_distinct (E : EC X G cc own nL rm) (hl : Cond.fieldLink own idx R_Statement "distinct" "Z" ∈ ALL) (hdg : decode cc pc = .ok (.putfield idx, 3)) {v : Int32} (hn : narrow .boolean (.int v) = .int v) (hf : fits .boolean (.int v) = true) {K : St → Option α} (k : ∀ u1 : St, u1 = ss u 20 v → SC X G nL res (K u1) u1 (pc + 3) lv st) : SC X G nL res (seq (ss u 20 v) K) u pc lv (.int v :: .ref (G.1 27) :: st) :=
  Sm_put (q0 := 27) E in_Statement ty_Statement tk_Statement nk_Statement rfl rfl 11 (by decide) rfl rfl rfl (Nat.le_of_ble_eq_true rfl) rfl hn hf hl hdg k
theorem gfC_27_star (E : EC X G cc own nL rm) (hl : Cond.fieldLink own idx R_Statement "star" "Z" ∈ ALL) (hdg : decode cc pc = .ok (.getfield idx, 3)) (k : SC X G nL res mv u (pc + 3) lv (.int (u.1 21) :: st)) : SC X G nL res mv u pc lv (.ref (G.1 27) :: st) :=
  Sm_get (q0 := 27) E in_Statement rfl rfl 12 (by decide) rfl rfl hl hdg k
theorem pfC_27_star (E : EC X G cc own nL rm) (hl : Cond.fieldLink own idx R_Statement "star" "Z" ∈ ALL) (hdg : decode cc pc = .ok (.putfield idx, 3)) {v : Int32} (hn : narrow .boolean (.int v) = .int v) (hf : fits .boolean (.int v) = true) {K : St → Option α} (k : ∀ u1 : St, u1 = ss u 21 v → SC X G nL res (K u1) u1 (pc + 3) lv st) : SC X G nL res (seq (ss u 21 v) K) u pc lv (.int v :: .ref (G.1 27) :: st) :=
  Sm_put (q0 := 27) E in_Statement ty_Statement tk_Statement nk_Statement rfl rfl 12 (by decide) rfl rfl rfl (Nat.le_of_ble_eq_true rfl) rfl hn hf hl hdg k
theorem gfC_28_tokens (E : EC X G cc own nL rm) (hl : Cond.fieldLink own idx R_Parser "tokens" "LSqlReader$Tokens;" ∈ ALL) (hdg : decode cc pc = .ok (.getfield idx, 3)) (k : SC X G nL res mv u (pc + 3) lv (.ref (G.1 10) :: st)) : SC X G nL res mv u pc lv (.ref (G.1 28) :: st) :=
  Sm_get (q0 := 28) E in_Parser rfl rfl 0 (by decide) rfl rfl hl hdg k
theorem gfC_28_nodes (E : EC X G cc own nL rm) (hl : Cond.fieldLink own idx R_Parser "nodes" "LSqlReader$Nodes;" ∈ ALL) (hdg : decode cc pc = .ok (.getfield idx, 3)) (k : SC X G nL res mv u (pc + 3) lv (.ref (G.1 14) :: st)) : SC X G nL res mv u pc lv (.ref (G.1 28) :: st) :=
  Sm_get (q0 := 28) E in_Parser rfl rfl 1 (by decide) rfl rfl hl hdg k
theorem gfC_28_lists (E : EC X G cc own nL rm) (hl : Cond.fieldLink own idx R_Parser "lists" "LSqlReader$Lists;" ∈ ALL) (hdg : decode cc pc = .ok (.getfield idx, 3)) (k : SC X G nL res mv u (pc + 3) lv (.ref (G.1 24) :: st)) : SC X G nL res mv u pc lv (.ref (G.1 28) :: st) :=
  Sm_get (q0 := 28) E in_Parser rfl rfl 2 (by decide) rfl rfl hl hdg k
theorem gfC_28_statement (E : EC X G cc own nL rm) (hl : Cond.fieldLink own idx R_Parser "statement" "LSqlReader$Statement;" ∈ ALL) (hdg : decode cc pc = .ok (.getfield idx, 3)) (k : SC X G nL res mv u (pc + 3) lv (.ref (G.1 27) :: st)) : SC X G nL res mv u pc lv (.ref (G.1 28) :: st) :=
  Sm_get (q0 := 28) E in_Parser rfl rfl 3 (by decide) rfl rfl hl hdg k
theorem gfC_28_prepared (E : EC X G cc own nL rm) (hl : Cond.fieldLink own idx R_Parser "prepared" "Z" ∈ ALL) (hdg : decode cc pc = .ok (.getfield idx, 3)) (k : SC X G nL res mv u (pc + 3) lv (.int (u.1 22) :: st)) : SC X G nL res mv u pc lv (.ref (G.1 28) :: st) :=
  Sm_get (q0 := 28) E in_Parser rfl rfl 4 (by decide) rfl rfl hl hdg k
theorem pfC_28_prepared (E : EC X G cc own nL rm) (hl : Cond.fieldLink own idx R_Parser "prepared" "Z" ∈ ALL) (hdg : decode cc pc = .ok (.putfield idx, 3)) {v : Int32} (hn : narrow .boolean (.int v) = .int v) (hf : fits .boolean (.int v) = true) {K : St → Option α} (k : ∀ u1 : St, u1 = ss u 22 v → SC X G nL res (K u1) u1 (pc + 3) lv st) : SC X G nL res (seq (ss u 22 v) K) u pc lv (.int v :: .ref (G.1 28) :: st) :=
  Sm_put (q0 := 28) E in_Parser ty_Parser tk_Parser nk_Parser rfl rfl 4 (by decide) rfl rfl rfl (Nat.le_of_ble_eq_true rfl) rfl hn hf hl hdg k
theorem gfC_28_inItems (E : EC X G cc own nL rm) (hl : Cond.fieldLink own idx R_Parser "inItems" "Z" ∈ ALL) (hdg : decode cc pc = .ok (.getfield idx, 3)) (k : SC X G nL res mv u (pc + 3) lv (.int (u.1 23) :: st)) : SC X G nL res mv u pc lv (.ref (G.1 28) :: st) :=
  Sm_get (q0 := 28) E in_Parser rfl rfl 5 (by decide) rfl rfl hl hdg k
theorem pfC_28_inItems (E : EC X G cc own nL rm) (hl : Cond.fieldLink own idx R_Parser "inItems" "Z" ∈ ALL) (hdg : decode cc pc = .ok (.putfield idx, 3)) {v : Int32} (hn : narrow .boolean (.int v) = .int v) (hf : fits .boolean (.int v) = true) {K : St → Option α} (k : ∀ u1 : St, u1 = ss u 23 v → SC X G nL res (K u1) u1 (pc + 3) lv st) : SC X G nL res (seq (ss u 23 v) K) u pc lv (.int v :: .ref (G.1 28) :: st) :=
  Sm_put (q0 := 28) E in_Parser ty_Parser tk_Parser nk_Parser rfl rfl 5 (by decide) rfl rfl rfl (Nat.le_of_ble_eq_true rfl) rfl hn hf hl hdg k
theorem gfC_29_catalog (E : EC X G cc own nL rm) (hl : Cond.fieldLink own idx R_Meaning "catalog" "LSqlReader$Catalog;" ∈ ALL) (hdg : decode cc pc = .ok (.getfield idx, 3)) (k : SC X G nL res mv u (pc + 3) lv (.ref (G.1 3) :: st)) : SC X G nL res mv u pc lv (.ref (G.1 29) :: st) :=
  Sm_get (q0 := 29) E in_Meaning rfl rfl 0 (by decide) rfl rfl hl hdg k
theorem gfC_29_text (E : EC X G cc own nL rm) (hl : Cond.fieldLink own idx R_Meaning "text" "LSqlReader$Text;" ∈ ALL) (hdg : decode cc pc = .ok (.getfield idx, 3)) (k : SC X G nL res mv u (pc + 3) lv (.ref (G.1 11) :: st)) : SC X G nL res mv u pc lv (.ref (G.1 29) :: st) :=
  Sm_get (q0 := 29) E in_Meaning rfl rfl 1 (by decide) rfl rfl hl hdg k
theorem gfC_29_nodes (E : EC X G cc own nL rm) (hl : Cond.fieldLink own idx R_Meaning "nodes" "LSqlReader$Nodes;" ∈ ALL) (hdg : decode cc pc = .ok (.getfield idx, 3)) (k : SC X G nL res mv u (pc + 3) lv (.ref (G.1 14) :: st)) : SC X G nL res mv u pc lv (.ref (G.1 29) :: st) :=
  Sm_get (q0 := 29) E in_Meaning rfl rfl 2 (by decide) rfl rfl hl hdg k
theorem gfC_29_lists (E : EC X G cc own nL rm) (hl : Cond.fieldLink own idx R_Meaning "lists" "LSqlReader$Lists;" ∈ ALL) (hdg : decode cc pc = .ok (.getfield idx, 3)) (k : SC X G nL res mv u (pc + 3) lv (.ref (G.1 24) :: st)) : SC X G nL res mv u pc lv (.ref (G.1 29) :: st) :=
  Sm_get (q0 := 29) E in_Meaning rfl rfl 3 (by decide) rfl rfl hl hdg k
theorem gfC_29_statement (E : EC X G cc own nL rm) (hl : Cond.fieldLink own idx R_Meaning "statement" "LSqlReader$Statement;" ∈ ALL) (hdg : decode cc pc = .ok (.getfield idx, 3)) (k : SC X G nL res mv u (pc + 3) lv (.ref (G.1 27) :: st)) : SC X G nL res mv u pc lv (.ref (G.1 29) :: st) :=
  Sm_get (q0 := 29) E in_Meaning rfl rfl 4 (by decide) rfl rfl hl hdg k
theorem gfC_29_judged (E : EC X G cc own nL rm) (hl : Cond.fieldLink own idx R_Meaning "judged" "I" ∈ ALL) (hdg : decode cc pc = .ok (.getfield idx, 3)) (k : SC X G nL res mv u (pc + 3) lv (.int (u.1 24) :: st)) : SC X G nL res mv u pc lv (.ref (G.1 29) :: st) :=
  Sm_get (q0 := 29) E in_Meaning rfl rfl 5 (by decide) rfl rfl hl hdg k
theorem pfC_29_judged (E : EC X G cc own nL rm) (hl : Cond.fieldLink own idx R_Meaning "judged" "I" ∈ ALL) (hdg : decode cc pc = .ok (.putfield idx, 3)) {v : Int32} {K : St → Option α} (k : ∀ u1 : St, u1 = ss u 24 v → SC X G nL res (K u1) u1 (pc + 3) lv st) : SC X G nL res (seq (ss u 24 v) K) u pc lv (.int v :: .ref (G.1 29) :: st) :=
  Sm_put (q0 := 29) E in_Meaning ty_Meaning tk_Meaning nk_Meaning rfl rfl 5 (by decide) rfl rfl rfl (Nat.le_of_ble_eq_true rfl) rfl rfl rfl hl hdg k
end WC
