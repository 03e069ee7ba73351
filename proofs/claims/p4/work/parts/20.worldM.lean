def wM (G : Gx) (u : St) : va_W := [
  (G.1 100, .inr (1, [.int (u.1 0), .ref (G.1 101), .int (u.1 1), .ref (G.1 102), .ref (G.1 103), .ref (G.1 104), .int (u.1 2), .int (u.1 3), .ref (G.1 105), .ref (G.1 106), .ref (G.1 107), .ref (G.1 108), .ref (G.1 109), .ref (G.1 110), .int (u.1 4), .ref (G.1 111), .ref (G.1 112), .ref (G.1 113), .ref (G.1 114), .ref (G.1 115), .ref (G.1 116), .ref (G.1 117), .ref (G.1 118), .ref (G.1 119), .int (u.1 5), .ref (G.1 120), .ref (G.1 121), .ref (G.1 122), .int (u.1 6), .int (u.1 7), .int (u.1 8), .int (u.1 9), .int (u.1 10), .int (u.1 11), .int (u.1 12), .int (u.1 13), .int (u.1 14), .long (u.2.2.1 0), .int (u.1 15), .int (u.1 16), .ref (G.1 123), .int (u.1 17), .ref (G.1 124), .int (u.1 18), .ref (G.1 125), .ref (G.1 126), .int (u.1 19), .ref (G.1 127), .ref (G.1 128), .ref (G.1 129), .int (u.1 20), .ref (G.1 130), .ref (G.1 131), .ref (G.1 132), .int (u.1 21), .int (u.1 22), .int (u.1 23), .ref (G.1 133), .int (u.1 24), .ref (G.1 134), .ref (G.1 135), .int (u.1 25), .int (u.1 26), .int (u.1 27), .int (u.1 28), .ref (G.1 136), .int (u.1 29), .int (u.1 30), .ref (G.1 137), .ref (G.1 138), .ref (G.1 139)])),
  (G.1 101, .inl (G.2.1 1, 2000, .inl (u.2.1 0))),
  (G.1 102, .inl (G.2.1 0, 2001, .inl (u.2.1 1))),
  (G.1 103, .inl (G.2.1 0, 2001, .inl (u.2.1 2))),
  (G.1 104, .inl (G.2.1 0, 2001, .inl (u.2.1 3))),
  (G.1 105, .inl (G.2.1 1, 128, .inl (u.2.1 4))),
  (G.1 106, .inl (G.2.1 0, 8, .inl (u.2.1 5))),
  (G.1 107, .inl (G.2.1 0, 8, .inl (u.2.1 6))),
  (G.1 108, .inl (G.2.1 1, 1024, .inl (u.2.1 7))),
  (G.1 109, .inl (G.2.1 0, 64, .inl (u.2.1 8))),
  (G.1 110, .inl (G.2.1 0, 64, .inl (u.2.1 9))),
  (G.1 111, .inl (G.2.1 0, 200, .inl (u.2.1 10))),
  (G.1 112, .inl (G.2.1 0, 200, .inl (u.2.1 11))),
  (G.1 113, .inl (G.2.1 0, 200, .inl (u.2.1 12))),
  (G.1 114, .inl (G.2.1 0, 200, .inl (u.2.1 13))),
  (G.1 115, .inl (G.2.1 0, 200, .inl (u.2.1 14))),
  (G.1 116, .inl (G.2.1 0, 200, .inl (u.2.1 15))),
  (G.1 117, .inl (G.2.1 2, 200, .inr (.inl (u.2.2.2 0)))),
  (G.1 118, .inl (G.2.1 1, 6200, .inl (u.2.1 16))),
  (G.1 119, .inl (G.2.1 0, 200, .inl (u.2.1 17))),
  (G.1 120, .inl (G.2.1 0, 1200, .inl (u.2.1 18))),
  (G.1 121, .inl (G.2.1 0, 1200, .inl (u.2.1 19))),
  (G.1 122, .inl (G.2.1 0, 1200, .inl (u.2.1 20))),
  (G.1 123, .inl (G.2.1 0, 200, .inl (u.2.1 21))),
  (G.1 124, .inl (G.2.1 0, 200, .inl (u.2.1 22))),
  (G.1 125, .inl (G.2.1 2, 1000, .inr (.inl (u.2.2.2 1)))),
  (G.1 126, .inl (G.2.1 3, 1000, .inl (u.2.1 23))),
  (G.1 127, .inl (G.2.1 0, 1000, .inl (u.2.1 24))),
  (G.1 128, .inl (G.2.1 0, 1000, .inl (u.2.1 25))),
  (G.1 129, .inl (G.2.1 0, 1000, .inl (u.2.1 26))),
  (G.1 130, .inl (G.2.1 0, 1000, .inl (u.2.1 27))),
  (G.1 131, .inl (G.2.1 0, 1000, .inl (u.2.1 28))),
  (G.1 132, .inl (G.2.1 0, 1000, .inl (u.2.1 29))),
  (G.1 133, .inl (G.2.1 0, 1000, .inl (u.2.1 30))),
  (G.1 134, .inl (G.2.1 0, 1000, .inl (u.2.1 31))),
  (G.1 135, .inl (G.2.1 0, 1000, .inl (u.2.1 32))),
  (G.1 136, .inl (G.2.1 0, 10, .inl (u.2.1 33))),
  (G.1 137, .inl (G.2.1 3, 201, .inl (u.2.1 34))),
  (G.1 138, .inl (G.2.1 1, 144, .inl (u.2.1 35))),
  (G.1 139, .inl (G.2.1 0, 9, .inl (u.2.1 36)))]
def adsM (G : Gx) : List Nat := [G.1 100, G.1 101, G.1 102, G.1 103, G.1 104, G.1 105, G.1 106, G.1 107, G.1 108, G.1 109, G.1 110, G.1 111, G.1 112, G.1 113, G.1 114, G.1 115, G.1 116, G.1 117, G.1 118, G.1 119, G.1 120, G.1 121, G.1 122, G.1 123, G.1 124, G.1 125, G.1 126, G.1 127, G.1 128, G.1 129, G.1 130, G.1 131, G.1 132, G.1 133, G.1 134, G.1 135, G.1 136, G.1 137, G.1 138, G.1 139]
theorem wM_as {G : Gx} : ∀ u : St, (wM G u).map Prod.fst = adsM G := fun _ => rfl
abbrev EM (X : Cx) (G : Gx) (cc : ByteArray) (own : String) (nL : Nat) (rm : Room) : Prop := En X vwCl ALL cc own nL (tyW G) (adsM G) rm (exW G)
abbrev SM (X : Cx) (G : Gx) {α : Type} (nL : Nat) (res : α) (mv : Option α) (u : St) (pc : Nat) (lv : List (Nat × Value)) (st : List Value) : Prop := Sm X vwCl (wM G) nL res mv u pc lv st
abbrev KM (l : Launch) (D : va_G) (G : Gx) (y : MethodName) (cd : Cond) (rm : Room) (av : List Value) (u : St) (Qk : Nat → Qt) : Prop := Ct l D vwCl ALL (wM G) (tyW G) (adsM G) (exW G) y cd rm av u Qk
section WM
variable {X : Cx} {G : Gx} {cc : ByteArray} {own : String} {nL : Nat} {rm : Room} {α : Type} {res : α} {mv : Option α} {u : St} {pc idx : Nat} {lv : List (Nat × Value)} {st : List Value}
theorem gfM_0_size (E : EM X G cc own nL rm) (hl : Cond.fieldLink own idx R_SqlReaderModel "size" "I" ∈ ALL) (hdg : decode cc pc = .ok (.getfield idx, 3)) (k : SM X G nL res mv u (pc + 3) lv (.int (u.1 0) :: st)) : SM X G nL res mv u pc lv (.ref (G.1 100) :: st) :=
  Sm_get (q0 := 0) E in_SqlReaderModel rfl rfl 0 (by decide) rfl rfl hl hdg k
theorem pfM_0_size (E : EM X G cc own nL rm) (hl : Cond.fieldLink own idx R_SqlReaderModel "size" "I" ∈ ALL) (hdg : decode cc pc = .ok (.putfield idx, 3)) {v : Int32} {K : St → Option α} (k : ∀ u1 : St, u1 = ss u 0 v → SM X G nL res (K u1) u1 (pc + 3) lv st) : SM X G nL res (seq (ss u 0 v) K) u pc lv (.int v :: .ref (G.1 100) :: st) :=
  Sm_put (q0 := 0) E in_SqlReaderModel ty_SqlReaderModel tk_SqlReaderModel nk_SqlReaderModel rfl rfl 0 (by decide) rfl rfl rfl (Nat.le_of_ble_eq_true rfl) rfl rfl rfl hl hdg k
theorem gfM_0_text (E : EM X G cc own nL rm) (hl : Cond.fieldLink own idx R_SqlReaderModel "text" "[B" ∈ ALL) (hdg : decode cc pc = .ok (.getfield idx, 3)) (k : SM X G nL res mv u (pc + 3) lv (.ref (G.1 101) :: st)) : SM X G nL res mv u pc lv (.ref (G.1 100) :: st) :=
  Sm_get (q0 := 0) E in_SqlReaderModel rfl rfl 1 (by decide) rfl rfl hl hdg k
theorem gfM_0_tokens (E : EM X G cc own nL rm) (hl : Cond.fieldLink own idx R_SqlReaderModel "tokens" "I" ∈ ALL) (hdg : decode cc pc = .ok (.getfield idx, 3)) (k : SM X G nL res mv u (pc + 3) lv (.int (u.1 1) :: st)) : SM X G nL res mv u pc lv (.ref (G.1 100) :: st) :=
  Sm_get (q0 := 0) E in_SqlReaderModel rfl rfl 2 (by decide) rfl rfl hl hdg k
theorem pfM_0_tokens (E : EM X G cc own nL rm) (hl : Cond.fieldLink own idx R_SqlReaderModel "tokens" "I" ∈ ALL) (hdg : decode cc pc = .ok (.putfield idx, 3)) {v : Int32} {K : St → Option α} (k : ∀ u1 : St, u1 = ss u 1 v → SM X G nL res (K u1) u1 (pc + 3) lv st) : SM X G nL res (seq (ss u 1 v) K) u pc lv (.int v :: .ref (G.1 100) :: st) :=
  Sm_put (q0 := 0) E in_SqlReaderModel ty_SqlReaderModel tk_SqlReaderModel nk_SqlReaderModel rfl rfl 2 (by decide) rfl rfl rfl (Nat.le_of_ble_eq_true rfl) rfl rfl rfl hl hdg k
theorem gfM_0_tokenKind (E : EM X G cc own nL rm) (hl : Cond.fieldLink own idx R_SqlReaderModel "tokenKind" "[I" ∈ ALL) (hdg : decode cc pc = .ok (.getfield idx, 3)) (k : SM X G nL res mv u (pc + 3) lv (.ref (G.1 102) :: st)) : SM X G nL res mv u pc lv (.ref (G.1 100) :: st) :=
  Sm_get (q0 := 0) E in_SqlReaderModel rfl rfl 3 (by decide) rfl rfl hl hdg k
theorem gfM_0_from (E : EM X G cc own nL rm) (hl : Cond.fieldLink own idx R_SqlReaderModel "from" "[I" ∈ ALL) (hdg : decode cc pc = .ok (.getfield idx, 3)) (k : SM X G nL res mv u (pc + 3) lv (.ref (G.1 103) :: st)) : SM X G nL res mv u pc lv (.ref (G.1 100) :: st) :=
  Sm_get (q0 := 0) E in_SqlReaderModel rfl rfl 4 (by decide) rfl rfl hl hdg k
theorem gfM_0_to (E : EM X G cc own nL rm) (hl : Cond.fieldLink own idx R_SqlReaderModel "to" "[I" ∈ ALL) (hdg : decode cc pc = .ok (.getfield idx, 3)) (k : SM X G nL res mv u (pc + 3) lv (.ref (G.1 104) :: st)) : SM X G nL res mv u pc lv (.ref (G.1 100) :: st) :=
  Sm_get (q0 := 0) E in_SqlReaderModel rfl rfl 5 (by decide) rfl rfl hl hdg k
theorem gfM_0_bad (E : EM X G cc own nL rm) (hl : Cond.fieldLink own idx R_SqlReaderModel "bad" "Z" ∈ ALL) (hdg : decode cc pc = .ok (.getfield idx, 3)) (k : SM X G nL res mv u (pc + 3) lv (.int (u.1 2) :: st)) : SM X G nL res mv u pc lv (.ref (G.1 100) :: st) :=
  Sm_get (q0 := 0) E in_SqlReaderModel rfl rfl 6 (by decide) rfl rfl hl hdg k
theorem pfM_0_bad (E : EM X G cc own nL rm) (hl : Cond.fieldLink own idx R_SqlReaderModel "bad" "Z" ∈ ALL) (hdg : decode cc pc = .ok (.putfield idx, 3)) {v : Int32} (hn : narrow .boolean (.int v) = .int v) (hf : fits .boolean (.int v) = true) {K : St → Option α} (k : ∀ u1 : St, u1 = ss u 2 v → SM X G nL res (K u1) u1 (pc + 3) lv st) : SM X G nL res (seq (ss u 2 v) K) u pc lv (.int v :: .ref (G.1 100) :: st) :=
  Sm_put (q0 := 0) E in_SqlReaderModel ty_SqlReaderModel tk_SqlReaderModel nk_SqlReaderModel rfl rfl 6 (by decide) rfl rfl rfl (Nat.le_of_ble_eq_true rfl) rfl hn hf hl hdg k
theorem gfM_0_tables (E : EM X G cc own nL rm) (hl : Cond.fieldLink own idx R_SqlReaderModel "tables" "I" ∈ ALL) (hdg : decode cc pc = .ok (.getfield idx, 3)) (k : SM X G nL res mv u (pc + 3) lv (.int (u.1 3) :: st)) : SM X G nL res mv u pc lv (.ref (G.1 100) :: st) :=
  Sm_get (q0 := 0) E in_SqlReaderModel rfl rfl 7 (by decide) rfl rfl hl hdg k
theorem pfM_0_tables (E : EM X G cc own nL rm) (hl : Cond.fieldLink own idx R_SqlReaderModel "tables" "I" ∈ ALL) (hdg : decode cc pc = .ok (.putfield idx, 3)) {v : Int32} {K : St → Option α} (k : ∀ u1 : St, u1 = ss u 3 v → SM X G nL res (K u1) u1 (pc + 3) lv st) : SM X G nL res (seq (ss u 3 v) K) u pc lv (.int v :: .ref (G.1 100) :: st) :=
  Sm_put (q0 := 0) E in_SqlReaderModel ty_SqlReaderModel tk_SqlReaderModel nk_SqlReaderModel rfl rfl 7 (by decide) rfl rfl rfl (Nat.le_of_ble_eq_true rfl) rfl rfl rfl hl hdg k
theorem gfM_0_tableNames (E : EM X G cc own nL rm) (hl : Cond.fieldLink own idx R_SqlReaderModel "tableNames" "[B" ∈ ALL) (hdg : decode cc pc = .ok (.getfield idx, 3)) (k : SM X G nL res mv u (pc + 3) lv (.ref (G.1 105) :: st)) : SM X G nL res mv u pc lv (.ref (G.1 100) :: st) :=
  Sm_get (q0 := 0) E in_SqlReaderModel rfl rfl 8 (by decide) rfl rfl hl hdg k
theorem gfM_0_tableSize (E : EM X G cc own nL rm) (hl : Cond.fieldLink own idx R_SqlReaderModel "tableSize" "[I" ∈ ALL) (hdg : decode cc pc = .ok (.getfield idx, 3)) (k : SM X G nL res mv u (pc + 3) lv (.ref (G.1 106) :: st)) : SM X G nL res mv u pc lv (.ref (G.1 100) :: st) :=
  Sm_get (q0 := 0) E in_SqlReaderModel rfl rfl 9 (by decide) rfl rfl hl hdg k
theorem gfM_0_width (E : EM X G cc own nL rm) (hl : Cond.fieldLink own idx R_SqlReaderModel "width" "[I" ∈ ALL) (hdg : decode cc pc = .ok (.getfield idx, 3)) (k : SM X G nL res mv u (pc + 3) lv (.ref (G.1 107) :: st)) : SM X G nL res mv u pc lv (.ref (G.1 100) :: st) :=
  Sm_get (q0 := 0) E in_SqlReaderModel rfl rfl 10 (by decide) rfl rfl hl hdg k
theorem gfM_0_columnNames (E : EM X G cc own nL rm) (hl : Cond.fieldLink own idx R_SqlReaderModel "columnNames" "[B" ∈ ALL) (hdg : decode cc pc = .ok (.getfield idx, 3)) (k : SM X G nL res mv u (pc + 3) lv (.ref (G.1 108) :: st)) : SM X G nL res mv u pc lv (.ref (G.1 100) :: st) :=
  Sm_get (q0 := 0) E in_SqlReaderModel rfl rfl 11 (by decide) rfl rfl hl hdg k
theorem gfM_0_columnSize (E : EM X G cc own nL rm) (hl : Cond.fieldLink own idx R_SqlReaderModel "columnSize" "[I" ∈ ALL) (hdg : decode cc pc = .ok (.getfield idx, 3)) (k : SM X G nL res mv u (pc + 3) lv (.ref (G.1 109) :: st)) : SM X G nL res mv u pc lv (.ref (G.1 100) :: st) :=
  Sm_get (q0 := 0) E in_SqlReaderModel rfl rfl 12 (by decide) rfl rfl hl hdg k
theorem gfM_0_columnType (E : EM X G cc own nL rm) (hl : Cond.fieldLink own idx R_SqlReaderModel "columnType" "[I" ∈ ALL) (hdg : decode cc pc = .ok (.getfield idx, 3)) (k : SM X G nL res mv u (pc + 3) lv (.ref (G.1 110) :: st)) : SM X G nL res mv u pc lv (.ref (G.1 100) :: st) :=
  Sm_get (q0 := 0) E in_SqlReaderModel rfl rfl 13 (by decide) rfl rfl hl hdg k
theorem gfM_0_nodes (E : EM X G cc own nL rm) (hl : Cond.fieldLink own idx R_SqlReaderModel "nodes" "I" ∈ ALL) (hdg : decode cc pc = .ok (.getfield idx, 3)) (k : SM X G nL res mv u (pc + 3) lv (.int (u.1 4) :: st)) : SM X G nL res mv u pc lv (.ref (G.1 100) :: st) :=
  Sm_get (q0 := 0) E in_SqlReaderModel rfl rfl 14 (by decide) rfl rfl hl hdg k
theorem pfM_0_nodes (E : EM X G cc own nL rm) (hl : Cond.fieldLink own idx R_SqlReaderModel "nodes" "I" ∈ ALL) (hdg : decode cc pc = .ok (.putfield idx, 3)) {v : Int32} {K : St → Option α} (k : ∀ u1 : St, u1 = ss u 4 v → SM X G nL res (K u1) u1 (pc + 3) lv st) : SM X G nL res (seq (ss u 4 v) K) u pc lv (.int v :: .ref (G.1 100) :: st) :=
  Sm_put (q0 := 0) E in_SqlReaderModel ty_SqlReaderModel tk_SqlReaderModel nk_SqlReaderModel rfl rfl 14 (by decide) rfl rfl rfl (Nat.le_of_ble_eq_true rfl) rfl rfl rfl hl hdg k
theorem gfM_0_kind (E : EM X G cc own nL rm) (hl : Cond.fieldLink own idx R_SqlReaderModel "kind" "[I" ∈ ALL) (hdg : decode cc pc = .ok (.getfield idx, 3)) (k : SM X G nL res mv u (pc + 3) lv (.ref (G.1 111) :: st)) : SM X G nL res mv u pc lv (.ref (G.1 100) :: st) :=
  Sm_get (q0 := 0) E in_SqlReaderModel rfl rfl 15 (by decide) rfl rfl hl hdg k
theorem gfM_0_left (E : EM X G cc own nL rm) (hl : Cond.fieldLink own idx R_SqlReaderModel "left" "[I" ∈ ALL) (hdg : decode cc pc = .ok (.getfield idx, 3)) (k : SM X G nL res mv u (pc + 3) lv (.ref (G.1 112) :: st)) : SM X G nL res mv u pc lv (.ref (G.1 100) :: st) :=
  Sm_get (q0 := 0) E in_SqlReaderModel rfl rfl 16 (by decide) rfl rfl hl hdg k
theorem gfM_0_right (E : EM X G cc own nL rm) (hl : Cond.fieldLink own idx R_SqlReaderModel "right" "[I" ∈ ALL) (hdg : decode cc pc = .ok (.getfield idx, 3)) (k : SM X G nL res mv u (pc + 3) lv (.ref (G.1 113) :: st)) : SM X G nL res mv u pc lv (.ref (G.1 100) :: st) :=
  Sm_get (q0 := 0) E in_SqlReaderModel rfl rfl 17 (by decide) rfl rfl hl hdg k
theorem gfM_0_type (E : EM X G cc own nL rm) (hl : Cond.fieldLink own idx R_SqlReaderModel "type" "[I" ∈ ALL) (hdg : decode cc pc = .ok (.getfield idx, 3)) (k : SM X G nL res mv u (pc + 3) lv (.ref (G.1 114) :: st)) : SM X G nL res mv u pc lv (.ref (G.1 100) :: st) :=
  Sm_get (q0 := 0) E in_SqlReaderModel rfl rfl 18 (by decide) rfl rfl hl hdg k
theorem gfM_0_before (E : EM X G cc own nL rm) (hl : Cond.fieldLink own idx R_SqlReaderModel "before" "[I" ∈ ALL) (hdg : decode cc pc = .ok (.getfield idx, 3)) (k : SM X G nL res mv u (pc + 3) lv (.ref (G.1 115) :: st)) : SM X G nL res mv u pc lv (.ref (G.1 100) :: st) :=
  Sm_get (q0 := 0) E in_SqlReaderModel rfl rfl 19 (by decide) rfl rfl hl hdg k
theorem gfM_0_named (E : EM X G cc own nL rm) (hl : Cond.fieldLink own idx R_SqlReaderModel "named" "[I" ∈ ALL) (hdg : decode cc pc = .ok (.getfield idx, 3)) (k : SM X G nL res mv u (pc + 3) lv (.ref (G.1 116) :: st)) : SM X G nL res mv u pc lv (.ref (G.1 100) :: st) :=
  Sm_get (q0 := 0) E in_SqlReaderModel rfl rfl 20 (by decide) rfl rfl hl hdg k
theorem gfM_0_number (E : EM X G cc own nL rm) (hl : Cond.fieldLink own idx R_SqlReaderModel "number" "[J" ∈ ALL) (hdg : decode cc pc = .ok (.getfield idx, 3)) (k : SM X G nL res mv u (pc + 3) lv (.ref (G.1 117) :: st)) : SM X G nL res mv u pc lv (.ref (G.1 100) :: st) :=
  Sm_get (q0 := 0) E in_SqlReaderModel rfl rfl 21 (by decide) rfl rfl hl hdg k
theorem gfM_0_letters (E : EM X G cc own nL rm) (hl : Cond.fieldLink own idx R_SqlReaderModel "letters" "[B" ∈ ALL) (hdg : decode cc pc = .ok (.getfield idx, 3)) (k : SM X G nL res mv u (pc + 3) lv (.ref (G.1 118) :: st)) : SM X G nL res mv u pc lv (.ref (G.1 100) :: st) :=
  Sm_get (q0 := 0) E in_SqlReaderModel rfl rfl 22 (by decide) rfl rfl hl hdg k
theorem gfM_0_length (E : EM X G cc own nL rm) (hl : Cond.fieldLink own idx R_SqlReaderModel "length" "[I" ∈ ALL) (hdg : decode cc pc = .ok (.getfield idx, 3)) (k : SM X G nL res mv u (pc + 3) lv (.ref (G.1 119) :: st)) : SM X G nL res mv u pc lv (.ref (G.1 100) :: st) :=
  Sm_get (q0 := 0) E in_SqlReaderModel rfl rfl 23 (by decide) rfl rfl hl hdg k
theorem gfM_0_checks (E : EM X G cc own nL rm) (hl : Cond.fieldLink own idx R_SqlReaderModel "checks" "I" ∈ ALL) (hdg : decode cc pc = .ok (.getfield idx, 3)) (k : SM X G nL res mv u (pc + 3) lv (.int (u.1 5) :: st)) : SM X G nL res mv u pc lv (.ref (G.1 100) :: st) :=
  Sm_get (q0 := 0) E in_SqlReaderModel rfl rfl 24 (by decide) rfl rfl hl hdg k
theorem pfM_0_checks (E : EM X G cc own nL rm) (hl : Cond.fieldLink own idx R_SqlReaderModel "checks" "I" ∈ ALL) (hdg : decode cc pc = .ok (.putfield idx, 3)) {v : Int32} {K : St → Option α} (k : ∀ u1 : St, u1 = ss u 5 v → SM X G nL res (K u1) u1 (pc + 3) lv st) : SM X G nL res (seq (ss u 5 v) K) u pc lv (.int v :: .ref (G.1 100) :: st) :=
  Sm_put (q0 := 0) E in_SqlReaderModel ty_SqlReaderModel tk_SqlReaderModel nk_SqlReaderModel rfl rfl 24 (by decide) rfl rfl rfl (Nat.le_of_ble_eq_true rfl) rfl rfl rfl hl hdg k
theorem gfM_0_check (E : EM X G cc own nL rm) (hl : Cond.fieldLink own idx R_SqlReaderModel "check" "[I" ∈ ALL) (hdg : decode cc pc = .ok (.getfield idx, 3)) (k : SM X G nL res mv u (pc + 3) lv (.ref (G.1 120) :: st)) : SM X G nL res mv u pc lv (.ref (G.1 100) :: st) :=
  Sm_get (q0 := 0) E in_SqlReaderModel rfl rfl 25 (by decide) rfl rfl hl hdg k
theorem gfM_0_first (E : EM X G cc own nL rm) (hl : Cond.fieldLink own idx R_SqlReaderModel "first" "[I" ∈ ALL) (hdg : decode cc pc = .ok (.getfield idx, 3)) (k : SM X G nL res mv u (pc + 3) lv (.ref (G.1 121) :: st)) : SM X G nL res mv u pc lv (.ref (G.1 100) :: st) :=
  Sm_get (q0 := 0) E in_SqlReaderModel rfl rfl 26 (by decide) rfl rfl hl hdg k
theorem gfM_0_second (E : EM X G cc own nL rm) (hl : Cond.fieldLink own idx R_SqlReaderModel "second" "[I" ∈ ALL) (hdg : decode cc pc = .ok (.getfield idx, 3)) (k : SM X G nL res mv u (pc + 3) lv (.ref (G.1 122) :: st)) : SM X G nL res mv u pc lv (.ref (G.1 100) :: st) :=
  Sm_get (q0 := 0) E in_SqlReaderModel rfl rfl 27 (by decide) rfl rfl hl hdg k
theorem gfM_0_error (E : EM X G cc own nL rm) (hl : Cond.fieldLink own idx R_SqlReaderModel "error" "I" ∈ ALL) (hdg : decode cc pc = .ok (.getfield idx, 3)) (k : SM X G nL res mv u (pc + 3) lv (.int (u.1 6) :: st)) : SM X G nL res mv u pc lv (.ref (G.1 100) :: st) :=
  Sm_get (q0 := 0) E in_SqlReaderModel rfl rfl 28 (by decide) rfl rfl hl hdg k
theorem pfM_0_error (E : EM X G cc own nL rm) (hl : Cond.fieldLink own idx R_SqlReaderModel "error" "I" ∈ ALL) (hdg : decode cc pc = .ok (.putfield idx, 3)) {v : Int32} {K : St → Option α} (k : ∀ u1 : St, u1 = ss u 6 v → SM X G nL res (K u1) u1 (pc + 3) lv st) : SM X G nL res (seq (ss u 6 v) K) u pc lv (.int v :: .ref (G.1 100) :: st) :=
  Sm_put (q0 := 0) E in_SqlReaderModel ty_SqlReaderModel tk_SqlReaderModel nk_SqlReaderModel rfl rfl 28 (by decide) rfl rfl rfl (Nat.le_of_ble_eq_true rfl) rfl rfl rfl hl hdg k
theorem gfM_0_what (E : EM X G cc own nL rm) (hl : Cond.fieldLink own idx R_SqlReaderModel "what" "I" ∈ ALL) (hdg : decode cc pc = .ok (.getfield idx, 3)) (k : SM X G nL res mv u (pc + 3) lv (.int (u.1 7) :: st)) : SM X G nL res mv u pc lv (.ref (G.1 100) :: st) :=
  Sm_get (q0 := 0) E in_SqlReaderModel rfl rfl 29 (by decide) rfl rfl hl hdg k
theorem pfM_0_what (E : EM X G cc own nL rm) (hl : Cond.fieldLink own idx R_SqlReaderModel "what" "I" ∈ ALL) (hdg : decode cc pc = .ok (.putfield idx, 3)) {v : Int32} {K : St → Option α} (k : ∀ u1 : St, u1 = ss u 7 v → SM X G nL res (K u1) u1 (pc + 3) lv st) : SM X G nL res (seq (ss u 7 v) K) u pc lv (.int v :: .ref (G.1 100) :: st) :=
  Sm_put (q0 := 0) E in_SqlReaderModel ty_SqlReaderModel tk_SqlReaderModel nk_SqlReaderModel rfl rfl 29 (by decide) rfl rfl rfl (Nat.le_of_ble_eq_true rfl) rfl rfl rfl hl hdg k
theorem gfM_0_inner (E : EM X G cc own nL rm) (hl : Cond.fieldLink own idx R_SqlReaderModel "inner" "I" ∈ ALL) (hdg : decode cc pc = .ok (.getfield idx, 3)) (k : SM X G nL res mv u (pc + 3) lv (.int (u.1 8) :: st)) : SM X G nL res mv u pc lv (.ref (G.1 100) :: st) :=
  Sm_get (q0 := 0) E in_SqlReaderModel rfl rfl 30 (by decide) rfl rfl hl hdg k
theorem pfM_0_inner (E : EM X G cc own nL rm) (hl : Cond.fieldLink own idx R_SqlReaderModel "inner" "I" ∈ ALL) (hdg : decode cc pc = .ok (.putfield idx, 3)) {v : Int32} {K : St → Option α} (k : ∀ u1 : St, u1 = ss u 8 v → SM X G nL res (K u1) u1 (pc + 3) lv st) : SM X G nL res (seq (ss u 8 v) K) u pc lv (.int v :: .ref (G.1 100) :: st) :=
  Sm_put (q0 := 0) E in_SqlReaderModel ty_SqlReaderModel tk_SqlReaderModel nk_SqlReaderModel rfl rfl 30 (by decide) rfl rfl rfl (Nat.le_of_ble_eq_true rfl) rfl rfl rfl hl hdg k
theorem gfM_0_target (E : EM X G cc own nL rm) (hl : Cond.fieldLink own idx R_SqlReaderModel "target" "I" ∈ ALL) (hdg : decode cc pc = .ok (.getfield idx, 3)) (k : SM X G nL res mv u (pc + 3) lv (.int (u.1 9) :: st)) : SM X G nL res mv u pc lv (.ref (G.1 100) :: st) :=
  Sm_get (q0 := 0) E in_SqlReaderModel rfl rfl 31 (by decide) rfl rfl hl hdg k
theorem pfM_0_target (E : EM X G cc own nL rm) (hl : Cond.fieldLink own idx R_SqlReaderModel "target" "I" ∈ ALL) (hdg : decode cc pc = .ok (.putfield idx, 3)) {v : Int32} {K : St → Option α} (k : ∀ u1 : St, u1 = ss u 9 v → SM X G nL res (K u1) u1 (pc + 3) lv st) : SM X G nL res (seq (ss u 9 v) K) u pc lv (.int v :: .ref (G.1 100) :: st) :=
  Sm_put (q0 := 0) E in_SqlReaderModel ty_SqlReaderModel tk_SqlReaderModel nk_SqlReaderModel rfl rfl 31 (by decide) rfl rfl rfl (Nat.le_of_ble_eq_true rfl) rfl rfl rfl hl hdg k
theorem gfM_0_targetToken (E : EM X G cc own nL rm) (hl : Cond.fieldLink own idx R_SqlReaderModel "targetToken" "I" ∈ ALL) (hdg : decode cc pc = .ok (.getfield idx, 3)) (k : SM X G nL res mv u (pc + 3) lv (.int (u.1 10) :: st)) : SM X G nL res mv u pc lv (.ref (G.1 100) :: st) :=
  Sm_get (q0 := 0) E in_SqlReaderModel rfl rfl 32 (by decide) rfl rfl hl hdg k
theorem pfM_0_targetToken (E : EM X G cc own nL rm) (hl : Cond.fieldLink own idx R_SqlReaderModel "targetToken" "I" ∈ ALL) (hdg : decode cc pc = .ok (.putfield idx, 3)) {v : Int32} {K : St → Option α} (k : ∀ u1 : St, u1 = ss u 10 v → SM X G nL res (K u1) u1 (pc + 3) lv st) : SM X G nL res (seq (ss u 10 v) K) u pc lv (.int v :: .ref (G.1 100) :: st) :=
  Sm_put (q0 := 0) E in_SqlReaderModel ty_SqlReaderModel tk_SqlReaderModel nk_SqlReaderModel rfl rfl 32 (by decide) rfl rfl rfl (Nat.le_of_ble_eq_true rfl) rfl rfl rfl hl hdg k
theorem gfM_0_mode (E : EM X G cc own nL rm) (hl : Cond.fieldLink own idx R_SqlReaderModel "mode" "I" ∈ ALL) (hdg : decode cc pc = .ok (.getfield idx, 3)) (k : SM X G nL res mv u (pc + 3) lv (.int (u.1 11) :: st)) : SM X G nL res mv u pc lv (.ref (G.1 100) :: st) :=
  Sm_get (q0 := 0) E in_SqlReaderModel rfl rfl 33 (by decide) rfl rfl hl hdg k
theorem pfM_0_mode (E : EM X G cc own nL rm) (hl : Cond.fieldLink own idx R_SqlReaderModel "mode" "I" ∈ ALL) (hdg : decode cc pc = .ok (.putfield idx, 3)) {v : Int32} {K : St → Option α} (k : ∀ u1 : St, u1 = ss u 11 v → SM X G nL res (K u1) u1 (pc + 3) lv st) : SM X G nL res (seq (ss u 11 v) K) u pc lv (.int v :: .ref (G.1 100) :: st) :=
  Sm_put (q0 := 0) E in_SqlReaderModel ty_SqlReaderModel tk_SqlReaderModel nk_SqlReaderModel rfl rfl 33 (by decide) rfl rfl rfl (Nat.le_of_ble_eq_true rfl) rfl rfl rfl hl hdg k
theorem gfM_0_named0 (E : EM X G cc own nL rm) (hl : Cond.fieldLink own idx R_SqlReaderModel "named0" "I" ∈ ALL) (hdg : decode cc pc = .ok (.getfield idx, 3)) (k : SM X G nL res mv u (pc + 3) lv (.int (u.1 12) :: st)) : SM X G nL res mv u pc lv (.ref (G.1 100) :: st) :=
  Sm_get (q0 := 0) E in_SqlReaderModel rfl rfl 34 (by decide) rfl rfl hl hdg k
theorem pfM_0_named0 (E : EM X G cc own nL rm) (hl : Cond.fieldLink own idx R_SqlReaderModel "named0" "I" ∈ ALL) (hdg : decode cc pc = .ok (.putfield idx, 3)) {v : Int32} {K : St → Option α} (k : ∀ u1 : St, u1 = ss u 12 v → SM X G nL res (K u1) u1 (pc + 3) lv st) : SM X G nL res (seq (ss u 12 v) K) u pc lv (.int v :: .ref (G.1 100) :: st) :=
  Sm_put (q0 := 0) E in_SqlReaderModel ty_SqlReaderModel tk_SqlReaderModel nk_SqlReaderModel rfl rfl 34 (by decide) rfl rfl rfl (Nat.le_of_ble_eq_true rfl) rfl rfl rfl hl hdg k
theorem gfM_0_star (E : EM X G cc own nL rm) (hl : Cond.fieldLink own idx R_SqlReaderModel "star" "Z" ∈ ALL) (hdg : decode cc pc = .ok (.getfield idx, 3)) (k : SM X G nL res mv u (pc + 3) lv (.int (u.1 13) :: st)) : SM X G nL res mv u pc lv (.ref (G.1 100) :: st) :=
  Sm_get (q0 := 0) E in_SqlReaderModel rfl rfl 35 (by decide) rfl rfl hl hdg k
theorem pfM_0_star (E : EM X G cc own nL rm) (hl : Cond.fieldLink own idx R_SqlReaderModel "star" "Z" ∈ ALL) (hdg : decode cc pc = .ok (.putfield idx, 3)) {v : Int32} (hn : narrow .boolean (.int v) = .int v) (hf : fits .boolean (.int v) = true) {K : St → Option α} (k : ∀ u1 : St, u1 = ss u 13 v → SM X G nL res (K u1) u1 (pc + 3) lv st) : SM X G nL res (seq (ss u 13 v) K) u pc lv (.int v :: .ref (G.1 100) :: st) :=
  Sm_put (q0 := 0) E in_SqlReaderModel ty_SqlReaderModel tk_SqlReaderModel nk_SqlReaderModel rfl rfl 35 (by decide) rfl rfl rfl (Nat.le_of_ble_eq_true rfl) rfl hn hf hl hdg k
theorem gfM_0_distinct (E : EM X G cc own nL rm) (hl : Cond.fieldLink own idx R_SqlReaderModel "distinct" "Z" ∈ ALL) (hdg : decode cc pc = .ok (.getfield idx, 3)) (k : SM X G nL res mv u (pc + 3) lv (.int (u.1 14) :: st)) : SM X G nL res mv u pc lv (.ref (G.1 100) :: st) :=
  Sm_get (q0 := 0) E in_SqlReaderModel rfl rfl 36 (by decide) rfl rfl hl hdg k
theorem pfM_0_distinct (E : EM X G cc own nL rm) (hl : Cond.fieldLink own idx R_SqlReaderModel "distinct" "Z" ∈ ALL) (hdg : decode cc pc = .ok (.putfield idx, 3)) {v : Int32} (hn : narrow .boolean (.int v) = .int v) (hf : fits .boolean (.int v) = true) {K : St → Option α} (k : ∀ u1 : St, u1 = ss u 14 v → SM X G nL res (K u1) u1 (pc + 3) lv st) : SM X G nL res (seq (ss u 14 v) K) u pc lv (.int v :: .ref (G.1 100) :: st) :=
  Sm_put (q0 := 0) E in_SqlReaderModel ty_SqlReaderModel tk_SqlReaderModel nk_SqlReaderModel rfl rfl 36 (by decide) rfl rfl rfl (Nat.le_of_ble_eq_true rfl) rfl hn hf hl hdg k
theorem gfM_0_limit (E : EM X G cc own nL rm) (hl : Cond.fieldLink own idx R_SqlReaderModel "limit" "J" ∈ ALL) (hdg : decode cc pc = .ok (.getfield idx, 3)) (k : SM X G nL res mv u (pc + 3) lv (.long (u.2.2.1 0) :: st)) : SM X G nL res mv u pc lv (.ref (G.1 100) :: st) :=
  Sm_get (q0 := 0) E in_SqlReaderModel rfl rfl 37 (by decide) rfl rfl hl hdg k
theorem pfM_0_limit (E : EM X G cc own nL rm) (hl : Cond.fieldLink own idx R_SqlReaderModel "limit" "J" ∈ ALL) (hdg : decode cc pc = .ok (.putfield idx, 3)) {v : Int64} {K : St → Option α} (k : ∀ u1 : St, u1 = sL u 0 v → SM X G nL res (K u1) u1 (pc + 3) lv st) : SM X G nL res (seq (sL u 0 v) K) u pc lv (.long v :: .ref (G.1 100) :: st) :=
  Sm_put (q0 := 0) E in_SqlReaderModel ty_SqlReaderModel tk_SqlReaderModel nk_SqlReaderModel rfl rfl 37 (by decide) rfl rfl rfl (Nat.le_of_ble_eq_true rfl) rfl rfl rfl hl hdg k
theorem gfM_0_where (E : EM X G cc own nL rm) (hl : Cond.fieldLink own idx R_SqlReaderModel "where" "I" ∈ ALL) (hdg : decode cc pc = .ok (.getfield idx, 3)) (k : SM X G nL res mv u (pc + 3) lv (.int (u.1 15) :: st)) : SM X G nL res mv u pc lv (.ref (G.1 100) :: st) :=
  Sm_get (q0 := 0) E in_SqlReaderModel rfl rfl 38 (by decide) rfl rfl hl hdg k
theorem pfM_0_where (E : EM X G cc own nL rm) (hl : Cond.fieldLink own idx R_SqlReaderModel "where" "I" ∈ ALL) (hdg : decode cc pc = .ok (.putfield idx, 3)) {v : Int32} {K : St → Option α} (k : ∀ u1 : St, u1 = ss u 15 v → SM X G nL res (K u1) u1 (pc + 3) lv st) : SM X G nL res (seq (ss u 15 v) K) u pc lv (.int v :: .ref (G.1 100) :: st) :=
  Sm_put (q0 := 0) E in_SqlReaderModel ty_SqlReaderModel tk_SqlReaderModel nk_SqlReaderModel rfl rfl 38 (by decide) rfl rfl rfl (Nat.le_of_ble_eq_true rfl) rfl rfl rfl hl hdg k
theorem gfM_0_items (E : EM X G cc own nL rm) (hl : Cond.fieldLink own idx R_SqlReaderModel "items" "I" ∈ ALL) (hdg : decode cc pc = .ok (.getfield idx, 3)) (k : SM X G nL res mv u (pc + 3) lv (.int (u.1 16) :: st)) : SM X G nL res mv u pc lv (.ref (G.1 100) :: st) :=
  Sm_get (q0 := 0) E in_SqlReaderModel rfl rfl 39 (by decide) rfl rfl hl hdg k
theorem pfM_0_items (E : EM X G cc own nL rm) (hl : Cond.fieldLink own idx R_SqlReaderModel "items" "I" ∈ ALL) (hdg : decode cc pc = .ok (.putfield idx, 3)) {v : Int32} {K : St → Option α} (k : ∀ u1 : St, u1 = ss u 16 v → SM X G nL res (K u1) u1 (pc + 3) lv st) : SM X G nL res (seq (ss u 16 v) K) u pc lv (.int v :: .ref (G.1 100) :: st) :=
  Sm_put (q0 := 0) E in_SqlReaderModel ty_SqlReaderModel tk_SqlReaderModel nk_SqlReaderModel rfl rfl 39 (by decide) rfl rfl rfl (Nat.le_of_ble_eq_true rfl) rfl rfl rfl hl hdg k
theorem gfM_0_item (E : EM X G cc own nL rm) (hl : Cond.fieldLink own idx R_SqlReaderModel "item" "[I" ∈ ALL) (hdg : decode cc pc = .ok (.getfield idx, 3)) (k : SM X G nL res mv u (pc + 3) lv (.ref (G.1 123) :: st)) : SM X G nL res mv u pc lv (.ref (G.1 100) :: st) :=
  Sm_get (q0 := 0) E in_SqlReaderModel rfl rfl 40 (by decide) rfl rfl hl hdg k
theorem gfM_0_groups (E : EM X G cc own nL rm) (hl : Cond.fieldLink own idx R_SqlReaderModel "groups" "I" ∈ ALL) (hdg : decode cc pc = .ok (.getfield idx, 3)) (k : SM X G nL res mv u (pc + 3) lv (.int (u.1 17) :: st)) : SM X G nL res mv u pc lv (.ref (G.1 100) :: st) :=
  Sm_get (q0 := 0) E in_SqlReaderModel rfl rfl 41 (by decide) rfl rfl hl hdg k
theorem pfM_0_groups (E : EM X G cc own nL rm) (hl : Cond.fieldLink own idx R_SqlReaderModel "groups" "I" ∈ ALL) (hdg : decode cc pc = .ok (.putfield idx, 3)) {v : Int32} {K : St → Option α} (k : ∀ u1 : St, u1 = ss u 17 v → SM X G nL res (K u1) u1 (pc + 3) lv st) : SM X G nL res (seq (ss u 17 v) K) u pc lv (.int v :: .ref (G.1 100) :: st) :=
  Sm_put (q0 := 0) E in_SqlReaderModel ty_SqlReaderModel tk_SqlReaderModel nk_SqlReaderModel rfl rfl 41 (by decide) rfl rfl rfl (Nat.le_of_ble_eq_true rfl) rfl rfl rfl hl hdg k
theorem gfM_0_group (E : EM X G cc own nL rm) (hl : Cond.fieldLink own idx R_SqlReaderModel "group" "[I" ∈ ALL) (hdg : decode cc pc = .ok (.getfield idx, 3)) (k : SM X G nL res mv u (pc + 3) lv (.ref (G.1 124) :: st)) : SM X G nL res mv u pc lv (.ref (G.1 100) :: st) :=
  Sm_get (q0 := 0) E in_SqlReaderModel rfl rfl 42 (by decide) rfl rfl hl hdg k
theorem gfM_0_orders (E : EM X G cc own nL rm) (hl : Cond.fieldLink own idx R_SqlReaderModel "orders" "I" ∈ ALL) (hdg : decode cc pc = .ok (.getfield idx, 3)) (k : SM X G nL res mv u (pc + 3) lv (.int (u.1 18) :: st)) : SM X G nL res mv u pc lv (.ref (G.1 100) :: st) :=
  Sm_get (q0 := 0) E in_SqlReaderModel rfl rfl 43 (by decide) rfl rfl hl hdg k
theorem pfM_0_orders (E : EM X G cc own nL rm) (hl : Cond.fieldLink own idx R_SqlReaderModel "orders" "I" ∈ ALL) (hdg : decode cc pc = .ok (.putfield idx, 3)) {v : Int32} {K : St → Option α} (k : ∀ u1 : St, u1 = ss u 18 v → SM X G nL res (K u1) u1 (pc + 3) lv st) : SM X G nL res (seq (ss u 18 v) K) u pc lv (.int v :: .ref (G.1 100) :: st) :=
  Sm_put (q0 := 0) E in_SqlReaderModel ty_SqlReaderModel tk_SqlReaderModel nk_SqlReaderModel rfl rfl 43 (by decide) rfl rfl rfl (Nat.le_of_ble_eq_true rfl) rfl rfl rfl hl hdg k
theorem gfM_0_order (E : EM X G cc own nL rm) (hl : Cond.fieldLink own idx R_SqlReaderModel "order" "[J" ∈ ALL) (hdg : decode cc pc = .ok (.getfield idx, 3)) (k : SM X G nL res mv u (pc + 3) lv (.ref (G.1 125) :: st)) : SM X G nL res mv u pc lv (.ref (G.1 100) :: st) :=
  Sm_get (q0 := 0) E in_SqlReaderModel rfl rfl 44 (by decide) rfl rfl hl hdg k
theorem gfM_0_falls (E : EM X G cc own nL rm) (hl : Cond.fieldLink own idx R_SqlReaderModel "falls" "[Z" ∈ ALL) (hdg : decode cc pc = .ok (.getfield idx, 3)) (k : SM X G nL res mv u (pc + 3) lv (.ref (G.1 126) :: st)) : SM X G nL res mv u pc lv (.ref (G.1 100) :: st) :=
  Sm_get (q0 := 0) E in_SqlReaderModel rfl rfl 45 (by decide) rfl rfl hl hdg k
theorem gfM_0_froms (E : EM X G cc own nL rm) (hl : Cond.fieldLink own idx R_SqlReaderModel "froms" "I" ∈ ALL) (hdg : decode cc pc = .ok (.getfield idx, 3)) (k : SM X G nL res mv u (pc + 3) lv (.int (u.1 19) :: st)) : SM X G nL res mv u pc lv (.ref (G.1 100) :: st) :=
  Sm_get (q0 := 0) E in_SqlReaderModel rfl rfl 46 (by decide) rfl rfl hl hdg k
theorem pfM_0_froms (E : EM X G cc own nL rm) (hl : Cond.fieldLink own idx R_SqlReaderModel "froms" "I" ∈ ALL) (hdg : decode cc pc = .ok (.putfield idx, 3)) {v : Int32} {K : St → Option α} (k : ∀ u1 : St, u1 = ss u 19 v → SM X G nL res (K u1) u1 (pc + 3) lv st) : SM X G nL res (seq (ss u 19 v) K) u pc lv (.int v :: .ref (G.1 100) :: st) :=
  Sm_put (q0 := 0) E in_SqlReaderModel ty_SqlReaderModel tk_SqlReaderModel nk_SqlReaderModel rfl rfl 46 (by decide) rfl rfl rfl (Nat.le_of_ble_eq_true rfl) rfl rfl rfl hl hdg k
theorem gfM_0_fromTable (E : EM X G cc own nL rm) (hl : Cond.fieldLink own idx R_SqlReaderModel "fromTable" "[I" ∈ ALL) (hdg : decode cc pc = .ok (.getfield idx, 3)) (k : SM X G nL res mv u (pc + 3) lv (.ref (G.1 127) :: st)) : SM X G nL res mv u pc lv (.ref (G.1 100) :: st) :=
  Sm_get (q0 := 0) E in_SqlReaderModel rfl rfl 47 (by decide) rfl rfl hl hdg k
theorem gfM_0_fromToken (E : EM X G cc own nL rm) (hl : Cond.fieldLink own idx R_SqlReaderModel "fromToken" "[I" ∈ ALL) (hdg : decode cc pc = .ok (.getfield idx, 3)) (k : SM X G nL res mv u (pc + 3) lv (.ref (G.1 128) :: st)) : SM X G nL res mv u pc lv (.ref (G.1 100) :: st) :=
  Sm_get (q0 := 0) E in_SqlReaderModel rfl rfl 48 (by decide) rfl rfl hl hdg k
theorem gfM_0_alias (E : EM X G cc own nL rm) (hl : Cond.fieldLink own idx R_SqlReaderModel "alias" "[I" ∈ ALL) (hdg : decode cc pc = .ok (.getfield idx, 3)) (k : SM X G nL res mv u (pc + 3) lv (.ref (G.1 129) :: st)) : SM X G nL res mv u pc lv (.ref (G.1 100) :: st) :=
  Sm_get (q0 := 0) E in_SqlReaderModel rfl rfl 49 (by decide) rfl rfl hl hdg k
theorem gfM_0_sets (E : EM X G cc own nL rm) (hl : Cond.fieldLink own idx R_SqlReaderModel "sets" "I" ∈ ALL) (hdg : decode cc pc = .ok (.getfield idx, 3)) (k : SM X G nL res mv u (pc + 3) lv (.int (u.1 20) :: st)) : SM X G nL res mv u pc lv (.ref (G.1 100) :: st) :=
  Sm_get (q0 := 0) E in_SqlReaderModel rfl rfl 50 (by decide) rfl rfl hl hdg k
theorem pfM_0_sets (E : EM X G cc own nL rm) (hl : Cond.fieldLink own idx R_SqlReaderModel "sets" "I" ∈ ALL) (hdg : decode cc pc = .ok (.putfield idx, 3)) {v : Int32} {K : St → Option α} (k : ∀ u1 : St, u1 = ss u 20 v → SM X G nL res (K u1) u1 (pc + 3) lv st) : SM X G nL res (seq (ss u 20 v) K) u pc lv (.int v :: .ref (G.1 100) :: st) :=
  Sm_put (q0 := 0) E in_SqlReaderModel ty_SqlReaderModel tk_SqlReaderModel nk_SqlReaderModel rfl rfl 50 (by decide) rfl rfl rfl (Nat.le_of_ble_eq_true rfl) rfl rfl rfl hl hdg k
theorem gfM_0_setToken (E : EM X G cc own nL rm) (hl : Cond.fieldLink own idx R_SqlReaderModel "setToken" "[I" ∈ ALL) (hdg : decode cc pc = .ok (.getfield idx, 3)) (k : SM X G nL res mv u (pc + 3) lv (.ref (G.1 130) :: st)) : SM X G nL res mv u pc lv (.ref (G.1 100) :: st) :=
  Sm_get (q0 := 0) E in_SqlReaderModel rfl rfl 51 (by decide) rfl rfl hl hdg k
theorem gfM_0_setColumn (E : EM X G cc own nL rm) (hl : Cond.fieldLink own idx R_SqlReaderModel "setColumn" "[I" ∈ ALL) (hdg : decode cc pc = .ok (.getfield idx, 3)) (k : SM X G nL res mv u (pc + 3) lv (.ref (G.1 131) :: st)) : SM X G nL res mv u pc lv (.ref (G.1 100) :: st) :=
  Sm_get (q0 := 0) E in_SqlReaderModel rfl rfl 52 (by decide) rfl rfl hl hdg k
theorem gfM_0_setNode (E : EM X G cc own nL rm) (hl : Cond.fieldLink own idx R_SqlReaderModel "setNode" "[I" ∈ ALL) (hdg : decode cc pc = .ok (.getfield idx, 3)) (k : SM X G nL res mv u (pc + 3) lv (.ref (G.1 132) :: st)) : SM X G nL res mv u pc lv (.ref (G.1 100) :: st) :=
  Sm_get (q0 := 0) E in_SqlReaderModel rfl rfl 53 (by decide) rfl rfl hl hdg k
theorem gfM_0_rows (E : EM X G cc own nL rm) (hl : Cond.fieldLink own idx R_SqlReaderModel "rows" "I" ∈ ALL) (hdg : decode cc pc = .ok (.getfield idx, 3)) (k : SM X G nL res mv u (pc + 3) lv (.int (u.1 21) :: st)) : SM X G nL res mv u pc lv (.ref (G.1 100) :: st) :=
  Sm_get (q0 := 0) E in_SqlReaderModel rfl rfl 54 (by decide) rfl rfl hl hdg k
theorem pfM_0_rows (E : EM X G cc own nL rm) (hl : Cond.fieldLink own idx R_SqlReaderModel "rows" "I" ∈ ALL) (hdg : decode cc pc = .ok (.putfield idx, 3)) {v : Int32} {K : St → Option α} (k : ∀ u1 : St, u1 = ss u 21 v → SM X G nL res (K u1) u1 (pc + 3) lv st) : SM X G nL res (seq (ss u 21 v) K) u pc lv (.int v :: .ref (G.1 100) :: st) :=
  Sm_put (q0 := 0) E in_SqlReaderModel ty_SqlReaderModel tk_SqlReaderModel nk_SqlReaderModel rfl rfl 54 (by decide) rfl rfl rfl (Nat.le_of_ble_eq_true rfl) rfl rfl rfl hl hdg k
theorem gfM_0_uneven (E : EM X G cc own nL rm) (hl : Cond.fieldLink own idx R_SqlReaderModel "uneven" "Z" ∈ ALL) (hdg : decode cc pc = .ok (.getfield idx, 3)) (k : SM X G nL res mv u (pc + 3) lv (.int (u.1 22) :: st)) : SM X G nL res mv u pc lv (.ref (G.1 100) :: st) :=
  Sm_get (q0 := 0) E in_SqlReaderModel rfl rfl 55 (by decide) rfl rfl hl hdg k
theorem pfM_0_uneven (E : EM X G cc own nL rm) (hl : Cond.fieldLink own idx R_SqlReaderModel "uneven" "Z" ∈ ALL) (hdg : decode cc pc = .ok (.putfield idx, 3)) {v : Int32} (hn : narrow .boolean (.int v) = .int v) (hf : fits .boolean (.int v) = true) {K : St → Option α} (k : ∀ u1 : St, u1 = ss u 22 v → SM X G nL res (K u1) u1 (pc + 3) lv st) : SM X G nL res (seq (ss u 22 v) K) u pc lv (.int v :: .ref (G.1 100) :: st) :=
  Sm_put (q0 := 0) E in_SqlReaderModel ty_SqlReaderModel tk_SqlReaderModel nk_SqlReaderModel rfl rfl 55 (by decide) rfl rfl rfl (Nat.le_of_ble_eq_true rfl) rfl hn hf hl hdg k
theorem gfM_0_values (E : EM X G cc own nL rm) (hl : Cond.fieldLink own idx R_SqlReaderModel "values" "I" ∈ ALL) (hdg : decode cc pc = .ok (.getfield idx, 3)) (k : SM X G nL res mv u (pc + 3) lv (.int (u.1 23) :: st)) : SM X G nL res mv u pc lv (.ref (G.1 100) :: st) :=
  Sm_get (q0 := 0) E in_SqlReaderModel rfl rfl 56 (by decide) rfl rfl hl hdg k
theorem pfM_0_values (E : EM X G cc own nL rm) (hl : Cond.fieldLink own idx R_SqlReaderModel "values" "I" ∈ ALL) (hdg : decode cc pc = .ok (.putfield idx, 3)) {v : Int32} {K : St → Option α} (k : ∀ u1 : St, u1 = ss u 23 v → SM X G nL res (K u1) u1 (pc + 3) lv st) : SM X G nL res (seq (ss u 23 v) K) u pc lv (.int v :: .ref (G.1 100) :: st) :=
  Sm_put (q0 := 0) E in_SqlReaderModel ty_SqlReaderModel tk_SqlReaderModel nk_SqlReaderModel rfl rfl 56 (by decide) rfl rfl rfl (Nat.le_of_ble_eq_true rfl) rfl rfl rfl hl hdg k
theorem gfM_0_value (E : EM X G cc own nL rm) (hl : Cond.fieldLink own idx R_SqlReaderModel "value" "[I" ∈ ALL) (hdg : decode cc pc = .ok (.getfield idx, 3)) (k : SM X G nL res mv u (pc + 3) lv (.ref (G.1 133) :: st)) : SM X G nL res mv u pc lv (.ref (G.1 100) :: st) :=
  Sm_get (q0 := 0) E in_SqlReaderModel rfl rfl 57 (by decide) rfl rfl hl hdg k
theorem gfM_0_columns (E : EM X G cc own nL rm) (hl : Cond.fieldLink own idx R_SqlReaderModel "columns" "I" ∈ ALL) (hdg : decode cc pc = .ok (.getfield idx, 3)) (k : SM X G nL res mv u (pc + 3) lv (.int (u.1 24) :: st)) : SM X G nL res mv u pc lv (.ref (G.1 100) :: st) :=
  Sm_get (q0 := 0) E in_SqlReaderModel rfl rfl 58 (by decide) rfl rfl hl hdg k
theorem pfM_0_columns (E : EM X G cc own nL rm) (hl : Cond.fieldLink own idx R_SqlReaderModel "columns" "I" ∈ ALL) (hdg : decode cc pc = .ok (.putfield idx, 3)) {v : Int32} {K : St → Option α} (k : ∀ u1 : St, u1 = ss u 24 v → SM X G nL res (K u1) u1 (pc + 3) lv st) : SM X G nL res (seq (ss u 24 v) K) u pc lv (.int v :: .ref (G.1 100) :: st) :=
  Sm_put (q0 := 0) E in_SqlReaderModel ty_SqlReaderModel tk_SqlReaderModel nk_SqlReaderModel rfl rfl 58 (by decide) rfl rfl rfl (Nat.le_of_ble_eq_true rfl) rfl rfl rfl hl hdg k
theorem gfM_0_newToken (E : EM X G cc own nL rm) (hl : Cond.fieldLink own idx R_SqlReaderModel "newToken" "[I" ∈ ALL) (hdg : decode cc pc = .ok (.getfield idx, 3)) (k : SM X G nL res mv u (pc + 3) lv (.ref (G.1 134) :: st)) : SM X G nL res mv u pc lv (.ref (G.1 100) :: st) :=
  Sm_get (q0 := 0) E in_SqlReaderModel rfl rfl 59 (by decide) rfl rfl hl hdg k
theorem gfM_0_newType (E : EM X G cc own nL rm) (hl : Cond.fieldLink own idx R_SqlReaderModel "newType" "[I" ∈ ALL) (hdg : decode cc pc = .ok (.getfield idx, 3)) (k : SM X G nL res mv u (pc + 3) lv (.ref (G.1 135) :: st)) : SM X G nL res mv u pc lv (.ref (G.1 100) :: st) :=
  Sm_get (q0 := 0) E in_SqlReaderModel rfl rfl 60 (by decide) rfl rfl hl hdg k
theorem gfM_0_indexed (E : EM X G cc own nL rm) (hl : Cond.fieldLink own idx R_SqlReaderModel "indexed" "I" ∈ ALL) (hdg : decode cc pc = .ok (.getfield idx, 3)) (k : SM X G nL res mv u (pc + 3) lv (.int (u.1 25) :: st)) : SM X G nL res mv u pc lv (.ref (G.1 100) :: st) :=
  Sm_get (q0 := 0) E in_SqlReaderModel rfl rfl 61 (by decide) rfl rfl hl hdg k
theorem pfM_0_indexed (E : EM X G cc own nL rm) (hl : Cond.fieldLink own idx R_SqlReaderModel "indexed" "I" ∈ ALL) (hdg : decode cc pc = .ok (.putfield idx, 3)) {v : Int32} {K : St → Option α} (k : ∀ u1 : St, u1 = ss u 25 v → SM X G nL res (K u1) u1 (pc + 3) lv st) : SM X G nL res (seq (ss u 25 v) K) u pc lv (.int v :: .ref (G.1 100) :: st) :=
  Sm_put (q0 := 0) E in_SqlReaderModel ty_SqlReaderModel tk_SqlReaderModel nk_SqlReaderModel rfl rfl 61 (by decide) rfl rfl rfl (Nat.le_of_ble_eq_true rfl) rfl rfl rfl hl hdg k
theorem gfM_0_indexedToken (E : EM X G cc own nL rm) (hl : Cond.fieldLink own idx R_SqlReaderModel "indexedToken" "I" ∈ ALL) (hdg : decode cc pc = .ok (.getfield idx, 3)) (k : SM X G nL res mv u (pc + 3) lv (.int (u.1 26) :: st)) : SM X G nL res mv u pc lv (.ref (G.1 100) :: st) :=
  Sm_get (q0 := 0) E in_SqlReaderModel rfl rfl 62 (by decide) rfl rfl hl hdg k
theorem pfM_0_indexedToken (E : EM X G cc own nL rm) (hl : Cond.fieldLink own idx R_SqlReaderModel "indexedToken" "I" ∈ ALL) (hdg : decode cc pc = .ok (.putfield idx, 3)) {v : Int32} {K : St → Option α} (k : ∀ u1 : St, u1 = ss u 26 v → SM X G nL res (K u1) u1 (pc + 3) lv st) : SM X G nL res (seq (ss u 26 v) K) u pc lv (.int v :: .ref (G.1 100) :: st) :=
  Sm_put (q0 := 0) E in_SqlReaderModel ty_SqlReaderModel tk_SqlReaderModel nk_SqlReaderModel rfl rfl 62 (by decide) rfl rfl rfl (Nat.le_of_ble_eq_true rfl) rfl rfl rfl hl hdg k
theorem gfM_0_unique (E : EM X G cc own nL rm) (hl : Cond.fieldLink own idx R_SqlReaderModel "unique" "Z" ∈ ALL) (hdg : decode cc pc = .ok (.getfield idx, 3)) (k : SM X G nL res mv u (pc + 3) lv (.int (u.1 27) :: st)) : SM X G nL res mv u pc lv (.ref (G.1 100) :: st) :=
  Sm_get (q0 := 0) E in_SqlReaderModel rfl rfl 63 (by decide) rfl rfl hl hdg k
theorem pfM_0_unique (E : EM X G cc own nL rm) (hl : Cond.fieldLink own idx R_SqlReaderModel "unique" "Z" ∈ ALL) (hdg : decode cc pc = .ok (.putfield idx, 3)) {v : Int32} (hn : narrow .boolean (.int v) = .int v) (hf : fits .boolean (.int v) = true) {K : St → Option α} (k : ∀ u1 : St, u1 = ss u 27 v → SM X G nL res (K u1) u1 (pc + 3) lv st) : SM X G nL res (seq (ss u 27 v) K) u pc lv (.int v :: .ref (G.1 100) :: st) :=
  Sm_put (q0 := 0) E in_SqlReaderModel ty_SqlReaderModel tk_SqlReaderModel nk_SqlReaderModel rfl rfl 63 (by decide) rfl rfl rfl (Nat.le_of_ble_eq_true rfl) rfl hn hf hl hdg k
theorem gfM_0_highest (E : EM X G cc own nL rm) (hl : Cond.fieldLink own idx R_SqlReaderModel "highest" "I" ∈ ALL) (hdg : decode cc pc = .ok (.getfield idx, 3)) (k : SM X G nL res mv u (pc + 3) lv (.int (u.1 28) :: st)) : SM X G nL res mv u pc lv (.ref (G.1 100) :: st) :=
  Sm_get (q0 := 0) E in_SqlReaderModel rfl rfl 64 (by decide) rfl rfl hl hdg k
theorem pfM_0_highest (E : EM X G cc own nL rm) (hl : Cond.fieldLink own idx R_SqlReaderModel "highest" "I" ∈ ALL) (hdg : decode cc pc = .ok (.putfield idx, 3)) {v : Int32} {K : St → Option α} (k : ∀ u1 : St, u1 = ss u 28 v → SM X G nL res (K u1) u1 (pc + 3) lv st) : SM X G nL res (seq (ss u 28 v) K) u pc lv (.int v :: .ref (G.1 100) :: st) :=
  Sm_put (q0 := 0) E in_SqlReaderModel ty_SqlReaderModel tk_SqlReaderModel nk_SqlReaderModel rfl rfl 64 (by decide) rfl rfl rfl (Nat.le_of_ble_eq_true rfl) rfl rfl rfl hl hdg k
theorem gfM_0_needed (E : EM X G cc own nL rm) (hl : Cond.fieldLink own idx R_SqlReaderModel "needed" "[I" ∈ ALL) (hdg : decode cc pc = .ok (.getfield idx, 3)) (k : SM X G nL res mv u (pc + 3) lv (.ref (G.1 136) :: st)) : SM X G nL res mv u pc lv (.ref (G.1 100) :: st) :=
  Sm_get (q0 := 0) E in_SqlReaderModel rfl rfl 65 (by decide) rfl rfl hl hdg k
theorem gfM_0_inItems (E : EM X G cc own nL rm) (hl : Cond.fieldLink own idx R_SqlReaderModel "inItems" "Z" ∈ ALL) (hdg : decode cc pc = .ok (.getfield idx, 3)) (k : SM X G nL res mv u (pc + 3) lv (.int (u.1 29) :: st)) : SM X G nL res mv u pc lv (.ref (G.1 100) :: st) :=
  Sm_get (q0 := 0) E in_SqlReaderModel rfl rfl 66 (by decide) rfl rfl hl hdg k
theorem pfM_0_inItems (E : EM X G cc own nL rm) (hl : Cond.fieldLink own idx R_SqlReaderModel "inItems" "Z" ∈ ALL) (hdg : decode cc pc = .ok (.putfield idx, 3)) {v : Int32} (hn : narrow .boolean (.int v) = .int v) (hf : fits .boolean (.int v) = true) {K : St → Option α} (k : ∀ u1 : St, u1 = ss u 29 v → SM X G nL res (K u1) u1 (pc + 3) lv st) : SM X G nL res (seq (ss u 29 v) K) u pc lv (.int v :: .ref (G.1 100) :: st) :=
  Sm_put (q0 := 0) E in_SqlReaderModel ty_SqlReaderModel tk_SqlReaderModel nk_SqlReaderModel rfl rfl 66 (by decide) rfl rfl rfl (Nat.le_of_ble_eq_true rfl) rfl hn hf hl hdg k
theorem gfM_0_place (E : EM X G cc own nL rm) (hl : Cond.fieldLink own idx R_SqlReaderModel "place" "I" ∈ ALL) (hdg : decode cc pc = .ok (.getfield idx, 3)) (k : SM X G nL res mv u (pc + 3) lv (.int (u.1 30) :: st)) : SM X G nL res mv u pc lv (.ref (G.1 100) :: st) :=
  Sm_get (q0 := 0) E in_SqlReaderModel rfl rfl 67 (by decide) rfl rfl hl hdg k
theorem pfM_0_place (E : EM X G cc own nL rm) (hl : Cond.fieldLink own idx R_SqlReaderModel "place" "I" ∈ ALL) (hdg : decode cc pc = .ok (.putfield idx, 3)) {v : Int32} {K : St → Option α} (k : ∀ u1 : St, u1 = ss u 30 v → SM X G nL res (K u1) u1 (pc + 3) lv st) : SM X G nL res (seq (ss u 30 v) K) u pc lv (.int v :: .ref (G.1 100) :: st) :=
  Sm_put (q0 := 0) E in_SqlReaderModel ty_SqlReaderModel tk_SqlReaderModel nk_SqlReaderModel rfl rfl 67 (by decide) rfl rfl rfl (Nat.le_of_ble_eq_true rfl) rfl rfl rfl hl hdg k
theorem gfM_0_in (E : EM X G cc own nL rm) (hl : Cond.fieldLink own idx R_SqlReaderModel "in" "[Z" ∈ ALL) (hdg : decode cc pc = .ok (.getfield idx, 3)) (k : SM X G nL res mv u (pc + 3) lv (.ref (G.1 137) :: st)) : SM X G nL res mv u pc lv (.ref (G.1 100) :: st) :=
  Sm_get (q0 := 0) E in_SqlReaderModel rfl rfl 68 (by decide) rfl rfl hl hdg k
theorem gfM_0_kept (E : EM X G cc own nL rm) (hl : Cond.fieldLink own idx R_SqlReaderModel "kept" "[B" ∈ ALL) (hdg : decode cc pc = .ok (.getfield idx, 3)) (k : SM X G nL res mv u (pc + 3) lv (.ref (G.1 138) :: st)) : SM X G nL res mv u pc lv (.ref (G.1 100) :: st) :=
  Sm_get (q0 := 0) E in_SqlReaderModel rfl rfl 69 (by decide) rfl rfl hl hdg k
theorem gfM_0_keptSize (E : EM X G cc own nL rm) (hl : Cond.fieldLink own idx R_SqlReaderModel "keptSize" "[I" ∈ ALL) (hdg : decode cc pc = .ok (.getfield idx, 3)) (k : SM X G nL res mv u (pc + 3) lv (.ref (G.1 139) :: st)) : SM X G nL res mv u pc lv (.ref (G.1 100) :: st) :=
  Sm_get (q0 := 0) E in_SqlReaderModel rfl rfl 70 (by decide) rfl rfl hl hdg k
theorem ldM_1 (E : EM X G cc own nL rm) {i : Int32} (hin : vp_in i 2000) (hdg : decode cc pc = .ok (.baload, 1)) (k : SM X G nL res mv u (pc + 1) lv (.int (ga u 0 i) :: st)) : SM X G nL res mv u pc lv (.int i :: .ref (G.1 101) :: st) :=
  Sm_bald (q0 := 1) (t0 := 1) E rfl rfl hin hdg k
theorem stM_1 (E : EM X G cc own nL rm) {i x : Int32} (hin : vp_in i 2000) (hdg : decode cc pc = .ok (.bastore, 1)) {K : St → Option α} (k : ∀ u1 : St, u1 = sa u 0 i (i2b x) → SM X G nL res (K u1) u1 (pc + 1) lv st) : SM X G nL res (seq (sa u 0 i (i2b x)) K) u pc lv (.int x :: .int i :: .ref (G.1 101) :: st) :=
  Sm_bast (q0 := 1) (t0 := 1) E rfl rfl rfl hin hdg k
theorem anM_1 (E : EM X G cc own nL rm) (hdg : decode cc pc = .ok (.arraylength, 1)) (k : SM X G nL res mv u (pc + 1) lv (.int 2000 :: st)) : SM X G nL res mv u pc lv (.ref (G.1 101) :: st) :=
  Sm_alen (q0 := 1) (t0 := 1) E rfl rfl (show Int32.ofNat 2000 = 2000 by decide) hdg k
theorem ldM_2 (E : EM X G cc own nL rm) {i : Int32} (hin : vp_in i 2001) (hdg : decode cc pc = .ok (.iaload, 1)) (k : SM X G nL res mv u (pc + 1) lv (.int (ga u 1 i) :: st)) : SM X G nL res mv u pc lv (.int i :: .ref (G.1 102) :: st) :=
  Sm_iald (q0 := 2) (t0 := 0) E rfl rfl hin hdg k
theorem stM_2 (E : EM X G cc own nL rm) {i x : Int32} (hin : vp_in i 2001) (hdg : decode cc pc = .ok (.iastore, 1)) {K : St → Option α} (k : ∀ u1 : St, u1 = sa u 1 i x → SM X G nL res (K u1) u1 (pc + 1) lv st) : SM X G nL res (seq (sa u 1 i x) K) u pc lv (.int x :: .int i :: .ref (G.1 102) :: st) :=
  Sm_iast (q0 := 2) (t0 := 0) E rfl rfl rfl hin hdg k
theorem anM_2 (E : EM X G cc own nL rm) (hdg : decode cc pc = .ok (.arraylength, 1)) (k : SM X G nL res mv u (pc + 1) lv (.int 2001 :: st)) : SM X G nL res mv u pc lv (.ref (G.1 102) :: st) :=
  Sm_alen (q0 := 2) (t0 := 0) E rfl rfl (show Int32.ofNat 2001 = 2001 by decide) hdg k
theorem ldM_3 (E : EM X G cc own nL rm) {i : Int32} (hin : vp_in i 2001) (hdg : decode cc pc = .ok (.iaload, 1)) (k : SM X G nL res mv u (pc + 1) lv (.int (ga u 2 i) :: st)) : SM X G nL res mv u pc lv (.int i :: .ref (G.1 103) :: st) :=
  Sm_iald (q0 := 3) (t0 := 0) E rfl rfl hin hdg k
theorem stM_3 (E : EM X G cc own nL rm) {i x : Int32} (hin : vp_in i 2001) (hdg : decode cc pc = .ok (.iastore, 1)) {K : St → Option α} (k : ∀ u1 : St, u1 = sa u 2 i x → SM X G nL res (K u1) u1 (pc + 1) lv st) : SM X G nL res (seq (sa u 2 i x) K) u pc lv (.int x :: .int i :: .ref (G.1 103) :: st) :=
  Sm_iast (q0 := 3) (t0 := 0) E rfl rfl rfl hin hdg k
theorem anM_3 (E : EM X G cc own nL rm) (hdg : decode cc pc = .ok (.arraylength, 1)) (k : SM X G nL res mv u (pc + 1) lv (.int 2001 :: st)) : SM X G nL res mv u pc lv (.ref (G.1 103) :: st) :=
  Sm_alen (q0 := 3) (t0 := 0) E rfl rfl (show Int32.ofNat 2001 = 2001 by decide) hdg k
theorem ldM_4 (E : EM X G cc own nL rm) {i : Int32} (hin : vp_in i 2001) (hdg : decode cc pc = .ok (.iaload, 1)) (k : SM X G nL res mv u (pc + 1) lv (.int (ga u 3 i) :: st)) : SM X G nL res mv u pc lv (.int i :: .ref (G.1 104) :: st) :=
  Sm_iald (q0 := 4) (t0 := 0) E rfl rfl hin hdg k
theorem stM_4 (E : EM X G cc own nL rm) {i x : Int32} (hin : vp_in i 2001) (hdg : decode cc pc = .ok (.iastore, 1)) {K : St → Option α} (k : ∀ u1 : St, u1 = sa u 3 i x → SM X G nL res (K u1) u1 (pc + 1) lv st) : SM X G nL res (seq (sa u 3 i x) K) u pc lv (.int x :: .int i :: .ref (G.1 104) :: st) :=
  Sm_iast (q0 := 4) (t0 := 0) E rfl rfl rfl hin hdg k
theorem anM_4 (E : EM X G cc own nL rm) (hdg : decode cc pc = .ok (.arraylength, 1)) (k : SM X G nL res mv u (pc + 1) lv (.int 2001 :: st)) : SM X G nL res mv u pc lv (.ref (G.1 104) :: st) :=
  Sm_alen (q0 := 4) (t0 := 0) E rfl rfl (show Int32.ofNat 2001 = 2001 by decide) hdg k
theorem ldM_5 (E : EM X G cc own nL rm) {i : Int32} (hin : vp_in i 128) (hdg : decode cc pc = .ok (.baload, 1)) (k : SM X G nL res mv u (pc + 1) lv (.int (ga u 4 i) :: st)) : SM X G nL res mv u pc lv (.int i :: .ref (G.1 105) :: st) :=
  Sm_bald (q0 := 5) (t0 := 1) E rfl rfl hin hdg k
theorem stM_5 (E : EM X G cc own nL rm) {i x : Int32} (hin : vp_in i 128) (hdg : decode cc pc = .ok (.bastore, 1)) {K : St → Option α} (k : ∀ u1 : St, u1 = sa u 4 i (i2b x) → SM X G nL res (K u1) u1 (pc + 1) lv st) : SM X G nL res (seq (sa u 4 i (i2b x)) K) u pc lv (.int x :: .int i :: .ref (G.1 105) :: st) :=
  Sm_bast (q0 := 5) (t0 := 1) E rfl rfl rfl hin hdg k
theorem anM_5 (E : EM X G cc own nL rm) (hdg : decode cc pc = .ok (.arraylength, 1)) (k : SM X G nL res mv u (pc + 1) lv (.int 128 :: st)) : SM X G nL res mv u pc lv (.ref (G.1 105) :: st) :=
  Sm_alen (q0 := 5) (t0 := 1) E rfl rfl (show Int32.ofNat 128 = 128 by decide) hdg k
theorem ldM_6 (E : EM X G cc own nL rm) {i : Int32} (hin : vp_in i 8) (hdg : decode cc pc = .ok (.iaload, 1)) (k : SM X G nL res mv u (pc + 1) lv (.int (ga u 5 i) :: st)) : SM X G nL res mv u pc lv (.int i :: .ref (G.1 106) :: st) :=
  Sm_iald (q0 := 6) (t0 := 0) E rfl rfl hin hdg k
theorem stM_6 (E : EM X G cc own nL rm) {i x : Int32} (hin : vp_in i 8) (hdg : decode cc pc = .ok (.iastore, 1)) {K : St → Option α} (k : ∀ u1 : St, u1 = sa u 5 i x → SM X G nL res (K u1) u1 (pc + 1) lv st) : SM X G nL res (seq (sa u 5 i x) K) u pc lv (.int x :: .int i :: .ref (G.1 106) :: st) :=
  Sm_iast (q0 := 6) (t0 := 0) E rfl rfl rfl hin hdg k
theorem anM_6 (E : EM X G cc own nL rm) (hdg : decode cc pc = .ok (.arraylength, 1)) (k : SM X G nL res mv u (pc + 1) lv (.int 8 :: st)) : SM X G nL res mv u pc lv (.ref (G.1 106) :: st) :=
  Sm_alen (q0 := 6) (t0 := 0) E rfl rfl (show Int32.ofNat 8 = 8 by decide) hdg k
theorem ldM_7 (E : EM X G cc own nL rm) {i : Int32} (hin : vp_in i 8) (hdg : decode cc pc = .ok (.iaload, 1)) (k : SM X G nL res mv u (pc + 1) lv (.int (ga u 6 i) :: st)) : SM X G nL res mv u pc lv (.int i :: .ref (G.1 107) :: st) :=
  Sm_iald (q0 := 7) (t0 := 0) E rfl rfl hin hdg k
theorem stM_7 (E : EM X G cc own nL rm) {i x : Int32} (hin : vp_in i 8) (hdg : decode cc pc = .ok (.iastore, 1)) {K : St → Option α} (k : ∀ u1 : St, u1 = sa u 6 i x → SM X G nL res (K u1) u1 (pc + 1) lv st) : SM X G nL res (seq (sa u 6 i x) K) u pc lv (.int x :: .int i :: .ref (G.1 107) :: st) :=
  Sm_iast (q0 := 7) (t0 := 0) E rfl rfl rfl hin hdg k
theorem anM_7 (E : EM X G cc own nL rm) (hdg : decode cc pc = .ok (.arraylength, 1)) (k : SM X G nL res mv u (pc + 1) lv (.int 8 :: st)) : SM X G nL res mv u pc lv (.ref (G.1 107) :: st) :=
  Sm_alen (q0 := 7) (t0 := 0) E rfl rfl (show Int32.ofNat 8 = 8 by decide) hdg k
theorem ldM_8 (E : EM X G cc own nL rm) {i : Int32} (hin : vp_in i 1024) (hdg : decode cc pc = .ok (.baload, 1)) (k : SM X G nL res mv u (pc + 1) lv (.int (ga u 7 i) :: st)) : SM X G nL res mv u pc lv (.int i :: .ref (G.1 108) :: st) :=
  Sm_bald (q0 := 8) (t0 := 1) E rfl rfl hin hdg k
theorem stM_8 (E : EM X G cc own nL rm) {i x : Int32} (hin : vp_in i 1024) (hdg : decode cc pc = .ok (.bastore, 1)) {K : St → Option α} (k : ∀ u1 : St, u1 = sa u 7 i (i2b x) → SM X G nL res (K u1) u1 (pc + 1) lv st) : SM X G nL res (seq (sa u 7 i (i2b x)) K) u pc lv (.int x :: .int i :: .ref (G.1 108) :: st) :=
  Sm_bast (q0 := 8) (t0 := 1) E rfl rfl rfl hin hdg k
theorem anM_8 (E : EM X G cc own nL rm) (hdg : decode cc pc = .ok (.arraylength, 1)) (k : SM X G nL res mv u (pc + 1) lv (.int 1024 :: st)) : SM X G nL res mv u pc lv (.ref (G.1 108) :: st) :=
  Sm_alen (q0 := 8) (t0 := 1) E rfl rfl (show Int32.ofNat 1024 = 1024 by decide) hdg k
theorem ldM_9 (E : EM X G cc own nL rm) {i : Int32} (hin : vp_in i 64) (hdg : decode cc pc = .ok (.iaload, 1)) (k : SM X G nL res mv u (pc + 1) lv (.int (ga u 8 i) :: st)) : SM X G nL res mv u pc lv (.int i :: .ref (G.1 109) :: st) :=
  Sm_iald (q0 := 9) (t0 := 0) E rfl rfl hin hdg k
theorem stM_9 (E : EM X G cc own nL rm) {i x : Int32} (hin : vp_in i 64) (hdg : decode cc pc = .ok (.iastore, 1)) {K : St → Option α} (k : ∀ u1 : St, u1 = sa u 8 i x → SM X G nL res (K u1) u1 (pc + 1) lv st) : SM X G nL res (seq (sa u 8 i x) K) u pc lv (.int x :: .int i :: .ref (G.1 109) :: st) :=
  Sm_iast (q0 := 9) (t0 := 0) E rfl rfl rfl hin hdg k
theorem anM_9 (E : EM X G cc own nL rm) (hdg : decode cc pc = .ok (.arraylength, 1)) (k : SM X G nL res mv u (pc + 1) lv (.int 64 :: st)) : SM X G nL res mv u pc lv (.ref (G.1 109) :: st) :=
  Sm_alen (q0 := 9) (t0 := 0) E rfl rfl (show Int32.ofNat 64 = 64 by decide) hdg k
theorem ldM_10 (E : EM X G cc own nL rm) {i : Int32} (hin : vp_in i 64) (hdg : decode cc pc = .ok (.iaload, 1)) (k : SM X G nL res mv u (pc + 1) lv (.int (ga u 9 i) :: st)) : SM X G nL res mv u pc lv (.int i :: .ref (G.1 110) :: st) :=
  Sm_iald (q0 := 10) (t0 := 0) E rfl rfl hin hdg k
theorem stM_10 (E : EM X G cc own nL rm) {i x : Int32} (hin : vp_in i 64) (hdg : decode cc pc = .ok (.iastore, 1)) {K : St → Option α} (k : ∀ u1 : St, u1 = sa u 9 i x → SM X G nL res (K u1) u1 (pc + 1) lv st) : SM X G nL res (seq (sa u 9 i x) K) u pc lv (.int x :: .int i :: .ref (G.1 110) :: st) :=
  Sm_iast (q0 := 10) (t0 := 0) E rfl rfl rfl hin hdg k
theorem anM_10 (E : EM X G cc own nL rm) (hdg : decode cc pc = .ok (.arraylength, 1)) (k : SM X G nL res mv u (pc + 1) lv (.int 64 :: st)) : SM X G nL res mv u pc lv (.ref (G.1 110) :: st) :=
  Sm_alen (q0 := 10) (t0 := 0) E rfl rfl (show Int32.ofNat 64 = 64 by decide) hdg k
theorem ldM_11 (E : EM X G cc own nL rm) {i : Int32} (hin : vp_in i 200) (hdg : decode cc pc = .ok (.iaload, 1)) (k : SM X G nL res mv u (pc + 1) lv (.int (ga u 10 i) :: st)) : SM X G nL res mv u pc lv (.int i :: .ref (G.1 111) :: st) :=
  Sm_iald (q0 := 11) (t0 := 0) E rfl rfl hin hdg k
theorem stM_11 (E : EM X G cc own nL rm) {i x : Int32} (hin : vp_in i 200) (hdg : decode cc pc = .ok (.iastore, 1)) {K : St → Option α} (k : ∀ u1 : St, u1 = sa u 10 i x → SM X G nL res (K u1) u1 (pc + 1) lv st) : SM X G nL res (seq (sa u 10 i x) K) u pc lv (.int x :: .int i :: .ref (G.1 111) :: st) :=
  Sm_iast (q0 := 11) (t0 := 0) E rfl rfl rfl hin hdg k
theorem anM_11 (E : EM X G cc own nL rm) (hdg : decode cc pc = .ok (.arraylength, 1)) (k : SM X G nL res mv u (pc + 1) lv (.int 200 :: st)) : SM X G nL res mv u pc lv (.ref (G.1 111) :: st) :=
  Sm_alen (q0 := 11) (t0 := 0) E rfl rfl (show Int32.ofNat 200 = 200 by decide) hdg k
theorem ldM_12 (E : EM X G cc own nL rm) {i : Int32} (hin : vp_in i 200) (hdg : decode cc pc = .ok (.iaload, 1)) (k : SM X G nL res mv u (pc + 1) lv (.int (ga u 11 i) :: st)) : SM X G nL res mv u pc lv (.int i :: .ref (G.1 112) :: st) :=
  Sm_iald (q0 := 12) (t0 := 0) E rfl rfl hin hdg k
theorem stM_12 (E : EM X G cc own nL rm) {i x : Int32} (hin : vp_in i 200) (hdg : decode cc pc = .ok (.iastore, 1)) {K : St → Option α} (k : ∀ u1 : St, u1 = sa u 11 i x → SM X G nL res (K u1) u1 (pc + 1) lv st) : SM X G nL res (seq (sa u 11 i x) K) u pc lv (.int x :: .int i :: .ref (G.1 112) :: st) :=
  Sm_iast (q0 := 12) (t0 := 0) E rfl rfl rfl hin hdg k
theorem anM_12 (E : EM X G cc own nL rm) (hdg : decode cc pc = .ok (.arraylength, 1)) (k : SM X G nL res mv u (pc + 1) lv (.int 200 :: st)) : SM X G nL res mv u pc lv (.ref (G.1 112) :: st) :=
  Sm_alen (q0 := 12) (t0 := 0) E rfl rfl (show Int32.ofNat 200 = 200 by decide) hdg k
theorem ldM_13 (E : EM X G cc own nL rm) {i : Int32} (hin : vp_in i 200) (hdg : decode cc pc = .ok (.iaload, 1)) (k : SM X G nL res mv u (pc + 1) lv (.int (ga u 12 i) :: st)) : SM X G nL res mv u pc lv (.int i :: .ref (G.1 113) :: st) :=
  Sm_iald (q0 := 13) (t0 := 0) E rfl rfl hin hdg k
theorem stM_13 (E : EM X G cc own nL rm) {i x : Int32} (hin : vp_in i 200) (hdg : decode cc pc = .ok (.iastore, 1)) {K : St → Option α} (k : ∀ u1 : St, u1 = sa u 12 i x → SM X G nL res (K u1) u1 (pc + 1) lv st) : SM X G nL res (seq (sa u 12 i x) K) u pc lv (.int x :: .int i :: .ref (G.1 113) :: st) :=
  Sm_iast (q0 := 13) (t0 := 0) E rfl rfl rfl hin hdg k
theorem anM_13 (E : EM X G cc own nL rm) (hdg : decode cc pc = .ok (.arraylength, 1)) (k : SM X G nL res mv u (pc + 1) lv (.int 200 :: st)) : SM X G nL res mv u pc lv (.ref (G.1 113) :: st) :=
  Sm_alen (q0 := 13) (t0 := 0) E rfl rfl (show Int32.ofNat 200 = 200 by decide) hdg k
theorem ldM_14 (E : EM X G cc own nL rm) {i : Int32} (hin : vp_in i 200) (hdg : decode cc pc = .ok (.iaload, 1)) (k : SM X G nL res mv u (pc + 1) lv (.int (ga u 13 i) :: st)) : SM X G nL res mv u pc lv (.int i :: .ref (G.1 114) :: st) :=
  Sm_iald (q0 := 14) (t0 := 0) E rfl rfl hin hdg k
theorem stM_14 (E : EM X G cc own nL rm) {i x : Int32} (hin : vp_in i 200) (hdg : decode cc pc = .ok (.iastore, 1)) {K : St → Option α} (k : ∀ u1 : St, u1 = sa u 13 i x → SM X G nL res (K u1) u1 (pc + 1) lv st) : SM X G nL res (seq (sa u 13 i x) K) u pc lv (.int x :: .int i :: .ref (G.1 114) :: st) :=
  Sm_iast (q0 := 14) (t0 := 0) E rfl rfl rfl hin hdg k
theorem anM_14 (E : EM X G cc own nL rm) (hdg : decode cc pc = .ok (.arraylength, 1)) (k : SM X G nL res mv u (pc + 1) lv (.int 200 :: st)) : SM X G nL res mv u pc lv (.ref (G.1 114) :: st) :=
  Sm_alen (q0 := 14) (t0 := 0) E rfl rfl (show Int32.ofNat 200 = 200 by decide) hdg k
theorem ldM_15 (E : EM X G cc own nL rm) {i : Int32} (hin : vp_in i 200) (hdg : decode cc pc = .ok (.iaload, 1)) (k : SM X G nL res mv u (pc + 1) lv (.int (ga u 14 i) :: st)) : SM X G nL res mv u pc lv (.int i :: .ref (G.1 115) :: st) :=
  Sm_iald (q0 := 15) (t0 := 0) E rfl rfl hin hdg k
theorem stM_15 (E : EM X G cc own nL rm) {i x : Int32} (hin : vp_in i 200) (hdg : decode cc pc = .ok (.iastore, 1)) {K : St → Option α} (k : ∀ u1 : St, u1 = sa u 14 i x → SM X G nL res (K u1) u1 (pc + 1) lv st) : SM X G nL res (seq (sa u 14 i x) K) u pc lv (.int x :: .int i :: .ref (G.1 115) :: st) :=
  Sm_iast (q0 := 15) (t0 := 0) E rfl rfl rfl hin hdg k
theorem anM_15 (E : EM X G cc own nL rm) (hdg : decode cc pc = .ok (.arraylength, 1)) (k : SM X G nL res mv u (pc + 1) lv (.int 200 :: st)) : SM X G nL res mv u pc lv (.ref (G.1 115) :: st) :=
  Sm_alen (q0 := 15) (t0 := 0) E rfl rfl (show Int32.ofNat 200 = 200 by decide) hdg k
theorem ldM_16 (E : EM X G cc own nL rm) {i : Int32} (hin : vp_in i 200) (hdg : decode cc pc = .ok (.iaload, 1)) (k : SM X G nL res mv u (pc + 1) lv (.int (ga u 15 i) :: st)) : SM X G nL res mv u pc lv (.int i :: .ref (G.1 116) :: st) :=
  Sm_iald (q0 := 16) (t0 := 0) E rfl rfl hin hdg k
theorem stM_16 (E : EM X G cc own nL rm) {i x : Int32} (hin : vp_in i 200) (hdg : decode cc pc = .ok (.iastore, 1)) {K : St → Option α} (k : ∀ u1 : St, u1 = sa u 15 i x → SM X G nL res (K u1) u1 (pc + 1) lv st) : SM X G nL res (seq (sa u 15 i x) K) u pc lv (.int x :: .int i :: .ref (G.1 116) :: st) :=
  Sm_iast (q0 := 16) (t0 := 0) E rfl rfl rfl hin hdg k
theorem anM_16 (E : EM X G cc own nL rm) (hdg : decode cc pc = .ok (.arraylength, 1)) (k : SM X G nL res mv u (pc + 1) lv (.int 200 :: st)) : SM X G nL res mv u pc lv (.ref (G.1 116) :: st) :=
  Sm_alen (q0 := 16) (t0 := 0) E rfl rfl (show Int32.ofNat 200 = 200 by decide) hdg k
theorem ldM_17 (E : EM X G cc own nL rm) {i : Int32} (hin : vp_in i 200) (hdg : decode cc pc = .ok (.laload, 1)) (k : SM X G nL res mv u (pc + 1) lv (.long (gl u 0 i) :: st)) : SM X G nL res mv u pc lv (.int i :: .ref (G.1 117) :: st) :=
  Sm_lald (q0 := 17) (t0 := 2) E rfl rfl hin hdg k
theorem stM_17 (E : EM X G cc own nL rm) {i : Int32} {x : Int64} (hin : vp_in i 200) (hdg : decode cc pc = .ok (.lastore, 1)) {K : St → Option α} (k : ∀ u1 : St, u1 = sl u 0 i x → SM X G nL res (K u1) u1 (pc + 1) lv st) : SM X G nL res (seq (sl u 0 i x) K) u pc lv (.long x :: .int i :: .ref (G.1 117) :: st) :=
  Sm_last (q0 := 17) (t0 := 2) E rfl rfl rfl hin hdg k
theorem anM_17 (E : EM X G cc own nL rm) (hdg : decode cc pc = .ok (.arraylength, 1)) (k : SM X G nL res mv u (pc + 1) lv (.int 200 :: st)) : SM X G nL res mv u pc lv (.ref (G.1 117) :: st) :=
  Sm_alen (q0 := 17) (t0 := 2) E rfl rfl (show Int32.ofNat 200 = 200 by decide) hdg k
theorem ldM_18 (E : EM X G cc own nL rm) {i : Int32} (hin : vp_in i 6200) (hdg : decode cc pc = .ok (.baload, 1)) (k : SM X G nL res mv u (pc + 1) lv (.int (ga u 16 i) :: st)) : SM X G nL res mv u pc lv (.int i :: .ref (G.1 118) :: st) :=
  Sm_bald (q0 := 18) (t0 := 1) E rfl rfl hin hdg k
theorem stM_18 (E : EM X G cc own nL rm) {i x : Int32} (hin : vp_in i 6200) (hdg : decode cc pc = .ok (.bastore, 1)) {K : St → Option α} (k : ∀ u1 : St, u1 = sa u 16 i (i2b x) → SM X G nL res (K u1) u1 (pc + 1) lv st) : SM X G nL res (seq (sa u 16 i (i2b x)) K) u pc lv (.int x :: .int i :: .ref (G.1 118) :: st) :=
  Sm_bast (q0 := 18) (t0 := 1) E rfl rfl rfl hin hdg k
theorem anM_18 (E : EM X G cc own nL rm) (hdg : decode cc pc = .ok (.arraylength, 1)) (k : SM X G nL res mv u (pc + 1) lv (.int 6200 :: st)) : SM X G nL res mv u pc lv (.ref (G.1 118) :: st) :=
  Sm_alen (q0 := 18) (t0 := 1) E rfl rfl (show Int32.ofNat 6200 = 6200 by decide) hdg k
theorem ldM_19 (E : EM X G cc own nL rm) {i : Int32} (hin : vp_in i 200) (hdg : decode cc pc = .ok (.iaload, 1)) (k : SM X G nL res mv u (pc + 1) lv (.int (ga u 17 i) :: st)) : SM X G nL res mv u pc lv (.int i :: .ref (G.1 119) :: st) :=
  Sm_iald (q0 := 19) (t0 := 0) E rfl rfl hin hdg k
theorem stM_19 (E : EM X G cc own nL rm) {i x : Int32} (hin : vp_in i 200) (hdg : decode cc pc = .ok (.iastore, 1)) {K : St → Option α} (k : ∀ u1 : St, u1 = sa u 17 i x → SM X G nL res (K u1) u1 (pc + 1) lv st) : SM X G nL res (seq (sa u 17 i x) K) u pc lv (.int x :: .int i :: .ref (G.1 119) :: st) :=
  Sm_iast (q0 := 19) (t0 := 0) E rfl rfl rfl hin hdg k
theorem anM_19 (E : EM X G cc own nL rm) (hdg : decode cc pc = .ok (.arraylength, 1)) (k : SM X G nL res mv u (pc + 1) lv (.int 200 :: st)) : SM X G nL res mv u pc lv (.ref (G.1 119) :: st) :=
  Sm_alen (q0 := 19) (t0 := 0) E rfl rfl (show Int32.ofNat 200 = 200 by decide) hdg k
theorem ldM_20 (E : EM X G cc own nL rm) {i : Int32} (hin : vp_in i 1200) (hdg : decode cc pc = .ok (.iaload, 1)) (k : SM X G nL res mv u (pc + 1) lv (.int (ga u 18 i) :: st)) : SM X G nL res mv u pc lv (.int i :: .ref (G.1 120) :: st) :=
  Sm_iald (q0 := 20) (t0 := 0) E rfl rfl hin hdg k
theorem stM_20 (E : EM X G cc own nL rm) {i x : Int32} (hin : vp_in i 1200) (hdg : decode cc pc = .ok (.iastore, 1)) {K : St → Option α} (k : ∀ u1 : St, u1 = sa u 18 i x → SM X G nL res (K u1) u1 (pc + 1) lv st) : SM X G nL res (seq (sa u 18 i x) K) u pc lv (.int x :: .int i :: .ref (G.1 120) :: st) :=
  Sm_iast (q0 := 20) (t0 := 0) E rfl rfl rfl hin hdg k
theorem anM_20 (E : EM X G cc own nL rm) (hdg : decode cc pc = .ok (.arraylength, 1)) (k : SM X G nL res mv u (pc + 1) lv (.int 1200 :: st)) : SM X G nL res mv u pc lv (.ref (G.1 120) :: st) :=
  Sm_alen (q0 := 20) (t0 := 0) E rfl rfl (show Int32.ofNat 1200 = 1200 by decide) hdg k
theorem ldM_21 (E : EM X G cc own nL rm) {i : Int32} (hin : vp_in i 1200) (hdg : decode cc pc = .ok (.iaload, 1)) (k : SM X G nL res mv u (pc + 1) lv (.int (ga u 19 i) :: st)) : SM X G nL res mv u pc lv (.int i :: .ref (G.1 121) :: st) :=
  Sm_iald (q0 := 21) (t0 := 0) E rfl rfl hin hdg k
theorem stM_21 (E : EM X G cc own nL rm) {i x : Int32} (hin : vp_in i 1200) (hdg : decode cc pc = .ok (.iastore, 1)) {K : St → Option α} (k : ∀ u1 : St, u1 = sa u 19 i x → SM X G nL res (K u1) u1 (pc + 1) lv st) : SM X G nL res (seq (sa u 19 i x) K) u pc lv (.int x :: .int i :: .ref (G.1 121) :: st) :=
  Sm_iast (q0 := 21) (t0 := 0) E rfl rfl rfl hin hdg k
theorem anM_21 (E : EM X G cc own nL rm) (hdg : decode cc pc = .ok (.arraylength, 1)) (k : SM X G nL res mv u (pc + 1) lv (.int 1200 :: st)) : SM X G nL res mv u pc lv (.ref (G.1 121) :: st) :=
  Sm_alen (q0 := 21) (t0 := 0) E rfl rfl (show Int32.ofNat 1200 = 1200 by decide) hdg k
theorem ldM_22 (E : EM X G cc own nL rm) {i : Int32} (hin : vp_in i 1200) (hdg : decode cc pc = .ok (.iaload, 1)) (k : SM X G nL res mv u (pc + 1) lv (.int (ga u 20 i) :: st)) : SM X G nL res mv u pc lv (.int i :: .ref (G.1 122) :: st) :=
  Sm_iald (q0 := 22) (t0 := 0) E rfl rfl hin hdg k
theorem stM_22 (E : EM X G cc own nL rm) {i x : Int32} (hin : vp_in i 1200) (hdg : decode cc pc = .ok (.iastore, 1)) {K : St → Option α} (k : ∀ u1 : St, u1 = sa u 20 i x → SM X G nL res (K u1) u1 (pc + 1) lv st) : SM X G nL res (seq (sa u 20 i x) K) u pc lv (.int x :: .int i :: .ref (G.1 122) :: st) :=
  Sm_iast (q0 := 22) (t0 := 0) E rfl rfl rfl hin hdg k
theorem anM_22 (E : EM X G cc own nL rm) (hdg : decode cc pc = .ok (.arraylength, 1)) (k : SM X G nL res mv u (pc + 1) lv (.int 1200 :: st)) : SM X G nL res mv u pc lv (.ref (G.1 122) :: st) :=
  Sm_alen (q0 := 22) (t0 := 0) E rfl rfl (show Int32.ofNat 1200 = 1200 by decide) hdg k
theorem ldM_23 (E : EM X G cc own nL rm) {i : Int32} (hin : vp_in i 200) (hdg : decode cc pc = .ok (.iaload, 1)) (k : SM X G nL res mv u (pc + 1) lv (.int (ga u 21 i) :: st)) : SM X G nL res mv u pc lv (.int i :: .ref (G.1 123) :: st) :=
  Sm_iald (q0 := 23) (t0 := 0) E rfl rfl hin hdg k
theorem stM_23 (E : EM X G cc own nL rm) {i x : Int32} (hin : vp_in i 200) (hdg : decode cc pc = .ok (.iastore, 1)) {K : St → Option α} (k : ∀ u1 : St, u1 = sa u 21 i x → SM X G nL res (K u1) u1 (pc + 1) lv st) : SM X G nL res (seq (sa u 21 i x) K) u pc lv (.int x :: .int i :: .ref (G.1 123) :: st) :=
  Sm_iast (q0 := 23) (t0 := 0) E rfl rfl rfl hin hdg k
theorem anM_23 (E : EM X G cc own nL rm) (hdg : decode cc pc = .ok (.arraylength, 1)) (k : SM X G nL res mv u (pc + 1) lv (.int 200 :: st)) : SM X G nL res mv u pc lv (.ref (G.1 123) :: st) :=
  Sm_alen (q0 := 23) (t0 := 0) E rfl rfl (show Int32.ofNat 200 = 200 by decide) hdg k
theorem ldM_24 (E : EM X G cc own nL rm) {i : Int32} (hin : vp_in i 200) (hdg : decode cc pc = .ok (.iaload, 1)) (k : SM X G nL res mv u (pc + 1) lv (.int (ga u 22 i) :: st)) : SM X G nL res mv u pc lv (.int i :: .ref (G.1 124) :: st) :=
  Sm_iald (q0 := 24) (t0 := 0) E rfl rfl hin hdg k
theorem stM_24 (E : EM X G cc own nL rm) {i x : Int32} (hin : vp_in i 200) (hdg : decode cc pc = .ok (.iastore, 1)) {K : St → Option α} (k : ∀ u1 : St, u1 = sa u 22 i x → SM X G nL res (K u1) u1 (pc + 1) lv st) : SM X G nL res (seq (sa u 22 i x) K) u pc lv (.int x :: .int i :: .ref (G.1 124) :: st) :=
  Sm_iast (q0 := 24) (t0 := 0) E rfl rfl rfl hin hdg k
theorem anM_24 (E : EM X G cc own nL rm) (hdg : decode cc pc = .ok (.arraylength, 1)) (k : SM X G nL res mv u (pc + 1) lv (.int 200 :: st)) : SM X G nL res mv u pc lv (.ref (G.1 124) :: st) :=
  Sm_alen (q0 := 24) (t0 := 0) E rfl rfl (show Int32.ofNat 200 = 200 by decide) hdg k
theorem ldM_25 (E : EM X G cc own nL rm) {i : Int32} (hin : vp_in i 1000) (hdg : decode cc pc = .ok (.laload, 1)) (k : SM X G nL res mv u (pc + 1) lv (.long (gl u 1 i) :: st)) : SM X G nL res mv u pc lv (.int i :: .ref (G.1 125) :: st) :=
  Sm_lald (q0 := 25) (t0 := 2) E rfl rfl hin hdg k
theorem stM_25 (E : EM X G cc own nL rm) {i : Int32} {x : Int64} (hin : vp_in i 1000) (hdg : decode cc pc = .ok (.lastore, 1)) {K : St → Option α} (k : ∀ u1 : St, u1 = sl u 1 i x → SM X G nL res (K u1) u1 (pc + 1) lv st) : SM X G nL res (seq (sl u 1 i x) K) u pc lv (.long x :: .int i :: .ref (G.1 125) :: st) :=
  Sm_last (q0 := 25) (t0 := 2) E rfl rfl rfl hin hdg k
theorem anM_25 (E : EM X G cc own nL rm) (hdg : decode cc pc = .ok (.arraylength, 1)) (k : SM X G nL res mv u (pc + 1) lv (.int 1000 :: st)) : SM X G nL res mv u pc lv (.ref (G.1 125) :: st) :=
  Sm_alen (q0 := 25) (t0 := 2) E rfl rfl (show Int32.ofNat 1000 = 1000 by decide) hdg k
theorem ldM_26 (E : EM X G cc own nL rm) {i : Int32} (hin : vp_in i 1000) (hdg : decode cc pc = .ok (.baload, 1)) (k : SM X G nL res mv u (pc + 1) lv (.int (ga u 23 i) :: st)) : SM X G nL res mv u pc lv (.int i :: .ref (G.1 126) :: st) :=
  Sm_zald (q0 := 26) (t0 := 3) E rfl rfl hin hdg k
theorem stM_26 (E : EM X G cc own nL rm) {i x : Int32} (hin : vp_in i 1000) (hdg : decode cc pc = .ok (.bastore, 1)) {K : St → Option α} (k : ∀ u1 : St, u1 = sa u 23 i (zn x) → SM X G nL res (K u1) u1 (pc + 1) lv st) : SM X G nL res (seq (sa u 23 i (zn x)) K) u pc lv (.int x :: .int i :: .ref (G.1 126) :: st) :=
  Sm_zast (q0 := 26) (t0 := 3) E rfl rfl rfl hin hdg k
theorem anM_26 (E : EM X G cc own nL rm) (hdg : decode cc pc = .ok (.arraylength, 1)) (k : SM X G nL res mv u (pc + 1) lv (.int 1000 :: st)) : SM X G nL res mv u pc lv (.ref (G.1 126) :: st) :=
  Sm_alen (q0 := 26) (t0 := 3) E rfl rfl (show Int32.ofNat 1000 = 1000 by decide) hdg k
theorem ldM_27 (E : EM X G cc own nL rm) {i : Int32} (hin : vp_in i 1000) (hdg : decode cc pc = .ok (.iaload, 1)) (k : SM X G nL res mv u (pc + 1) lv (.int (ga u 24 i) :: st)) : SM X G nL res mv u pc lv (.int i :: .ref (G.1 127) :: st) :=
  Sm_iald (q0 := 27) (t0 := 0) E rfl rfl hin hdg k
theorem stM_27 (E : EM X G cc own nL rm) {i x : Int32} (hin : vp_in i 1000) (hdg : decode cc pc = .ok (.iastore, 1)) {K : St → Option α} (k : ∀ u1 : St, u1 = sa u 24 i x → SM X G nL res (K u1) u1 (pc + 1) lv st) : SM X G nL res (seq (sa u 24 i x) K) u pc lv (.int x :: .int i :: .ref (G.1 127) :: st) :=
  Sm_iast (q0 := 27) (t0 := 0) E rfl rfl rfl hin hdg k
theorem anM_27 (E : EM X G cc own nL rm) (hdg : decode cc pc = .ok (.arraylength, 1)) (k : SM X G nL res mv u (pc + 1) lv (.int 1000 :: st)) : SM X G nL res mv u pc lv (.ref (G.1 127) :: st) :=
  Sm_alen (q0 := 27) (t0 := 0) E rfl rfl (show Int32.ofNat 1000 = 1000 by decide) hdg k
theorem ldM_28 (E : EM X G cc own nL rm) {i : Int32} (hin : vp_in i 1000) (hdg : decode cc pc = .ok (.iaload, 1)) (k : SM X G nL res mv u (pc + 1) lv (.int (ga u 25 i) :: st)) : SM X G nL res mv u pc lv (.int i :: .ref (G.1 128) :: st) :=
  Sm_iald (q0 := 28) (t0 := 0) E rfl rfl hin hdg k
theorem stM_28 (E : EM X G cc own nL rm) {i x : Int32} (hin : vp_in i 1000) (hdg : decode cc pc = .ok (.iastore, 1)) {K : St → Option α} (k : ∀ u1 : St, u1 = sa u 25 i x → SM X G nL res (K u1) u1 (pc + 1) lv st) : SM X G nL res (seq (sa u 25 i x) K) u pc lv (.int x :: .int i :: .ref (G.1 128) :: st) :=
  Sm_iast (q0 := 28) (t0 := 0) E rfl rfl rfl hin hdg k
theorem anM_28 (E : EM X G cc own nL rm) (hdg : decode cc pc = .ok (.arraylength, 1)) (k : SM X G nL res mv u (pc + 1) lv (.int 1000 :: st)) : SM X G nL res mv u pc lv (.ref (G.1 128) :: st) :=
  Sm_alen (q0 := 28) (t0 := 0) E rfl rfl (show Int32.ofNat 1000 = 1000 by decide) hdg k
theorem ldM_29 (E : EM X G cc own nL rm) {i : Int32} (hin : vp_in i 1000) (hdg : decode cc pc = .ok (.iaload, 1)) (k : SM X G nL res mv u (pc + 1) lv (.int (ga u 26 i) :: st)) : SM X G nL res mv u pc lv (.int i :: .ref (G.1 129) :: st) :=
  Sm_iald (q0 := 29) (t0 := 0) E rfl rfl hin hdg k
theorem stM_29 (E : EM X G cc own nL rm) {i x : Int32} (hin : vp_in i 1000) (hdg : decode cc pc = .ok (.iastore, 1)) {K : St → Option α} (k : ∀ u1 : St, u1 = sa u 26 i x → SM X G nL res (K u1) u1 (pc + 1) lv st) : SM X G nL res (seq (sa u 26 i x) K) u pc lv (.int x :: .int i :: .ref (G.1 129) :: st) :=
  Sm_iast (q0 := 29) (t0 := 0) E rfl rfl rfl hin hdg k
theorem anM_29 (E : EM X G cc own nL rm) (hdg : decode cc pc = .ok (.arraylength, 1)) (k : SM X G nL res mv u (pc + 1) lv (.int 1000 :: st)) : SM X G nL res mv u pc lv (.ref (G.1 129) :: st) :=
  Sm_alen (q0 := 29) (t0 := 0) E rfl rfl (show Int32.ofNat 1000 = 1000 by decide) hdg k
theorem ldM_30 (E : EM X G cc own nL rm) {i : Int32} (hin : vp_in i 1000) (hdg : decode cc pc = .ok (.iaload, 1)) (k : SM X G nL res mv u (pc + 1) lv (.int (ga u 27 i) :: st)) : SM X G nL res mv u pc lv (.int i :: .ref (G.1 130) :: st) :=
  Sm_iald (q0 := 30) (t0 := 0) E rfl rfl hin hdg k
theorem stM_30 (E : EM X G cc own nL rm) {i x : Int32} (hin : vp_in i 1000) (hdg : decode cc pc = .ok (.iastore, 1)) {K : St → Option α} (k : ∀ u1 : St, u1 = sa u 27 i x → SM X G nL res (K u1) u1 (pc + 1) lv st) : SM X G nL res (seq (sa u 27 i x) K) u pc lv (.int x :: .int i :: .ref (G.1 130) :: st) :=
  Sm_iast (q0 := 30) (t0 := 0) E rfl rfl rfl hin hdg k
theorem anM_30 (E : EM X G cc own nL rm) (hdg : decode cc pc = .ok (.arraylength, 1)) (k : SM X G nL res mv u (pc + 1) lv (.int 1000 :: st)) : SM X G nL res mv u pc lv (.ref (G.1 130) :: st) :=
  Sm_alen (q0 := 30) (t0 := 0) E rfl rfl (show Int32.ofNat 1000 = 1000 by decide) hdg k
theorem ldM_31 (E : EM X G cc own nL rm) {i : Int32} (hin : vp_in i 1000) (hdg : decode cc pc = .ok (.iaload, 1)) (k : SM X G nL res mv u (pc + 1) lv (.int (ga u 28 i) :: st)) : SM X G nL res mv u pc lv (.int i :: .ref (G.1 131) :: st) :=
  Sm_iald (q0 := 31) (t0 := 0) E rfl rfl hin hdg k
theorem stM_31 (E : EM X G cc own nL rm) {i x : Int32} (hin : vp_in i 1000) (hdg : decode cc pc = .ok (.iastore, 1)) {K : St → Option α} (k : ∀ u1 : St, u1 = sa u 28 i x → SM X G nL res (K u1) u1 (pc + 1) lv st) : SM X G nL res (seq (sa u 28 i x) K) u pc lv (.int x :: .int i :: .ref (G.1 131) :: st) :=
  Sm_iast (q0 := 31) (t0 := 0) E rfl rfl rfl hin hdg k
theorem anM_31 (E : EM X G cc own nL rm) (hdg : decode cc pc = .ok (.arraylength, 1)) (k : SM X G nL res mv u (pc + 1) lv (.int 1000 :: st)) : SM X G nL res mv u pc lv (.ref (G.1 131) :: st) :=
  Sm_alen (q0 := 31) (t0 := 0) E rfl rfl (show Int32.ofNat 1000 = 1000 by decide) hdg k
theorem ldM_32 (E : EM X G cc own nL rm) {i : Int32} (hin : vp_in i 1000) (hdg : decode cc pc = .ok (.iaload, 1)) (k : SM X G nL res mv u (pc + 1) lv (.int (ga u 29 i) :: st)) : SM X G nL res mv u pc lv (.int i :: .ref (G.1 132) :: st) :=
  Sm_iald (q0 := 32) (t0 := 0) E rfl rfl hin hdg k
theorem stM_32 (E : EM X G cc own nL rm) {i x : Int32} (hin : vp_in i 1000) (hdg : decode cc pc = .ok (.iastore, 1)) {K : St → Option α} (k : ∀ u1 : St, u1 = sa u 29 i x → SM X G nL res (K u1) u1 (pc + 1) lv st) : SM X G nL res (seq (sa u 29 i x) K) u pc lv (.int x :: .int i :: .ref (G.1 132) :: st) :=
  Sm_iast (q0 := 32) (t0 := 0) E rfl rfl rfl hin hdg k
theorem anM_32 (E : EM X G cc own nL rm) (hdg : decode cc pc = .ok (.arraylength, 1)) (k : SM X G nL res mv u (pc + 1) lv (.int 1000 :: st)) : SM X G nL res mv u pc lv (.ref (G.1 132) :: st) :=
  Sm_alen (q0 := 32) (t0 := 0) E rfl rfl (show Int32.ofNat 1000 = 1000 by decide) hdg k
theorem ldM_33 (E : EM X G cc own nL rm) {i : Int32} (hin : vp_in i 1000) (hdg : decode cc pc = .ok (.iaload, 1)) (k : SM X G nL res mv u (pc + 1) lv (.int (ga u 30 i) :: st)) : SM X G nL res mv u pc lv (.int i :: .ref (G.1 133) :: st) :=
  Sm_iald (q0 := 33) (t0 := 0) E rfl rfl hin hdg k
theorem stM_33 (E : EM X G cc own nL rm) {i x : Int32} (hin : vp_in i 1000) (hdg : decode cc pc = .ok (.iastore, 1)) {K : St → Option α} (k : ∀ u1 : St, u1 = sa u 30 i x → SM X G nL res (K u1) u1 (pc + 1) lv st) : SM X G nL res (seq (sa u 30 i x) K) u pc lv (.int x :: .int i :: .ref (G.1 133) :: st) :=
  Sm_iast (q0 := 33) (t0 := 0) E rfl rfl rfl hin hdg k
theorem anM_33 (E : EM X G cc own nL rm) (hdg : decode cc pc = .ok (.arraylength, 1)) (k : SM X G nL res mv u (pc + 1) lv (.int 1000 :: st)) : SM X G nL res mv u pc lv (.ref (G.1 133) :: st) :=
  Sm_alen (q0 := 33) (t0 := 0) E rfl rfl (show Int32.ofNat 1000 = 1000 by decide) hdg k
theorem ldM_34 (E : EM X G cc own nL rm) {i : Int32} (hin : vp_in i 1000) (hdg : decode cc pc = .ok (.iaload, 1)) (k : SM X G nL res mv u (pc + 1) lv (.int (ga u 31 i) :: st)) : SM X G nL res mv u pc lv (.int i :: .ref (G.1 134) :: st) :=
  Sm_iald (q0 := 34) (t0 := 0) E rfl rfl hin hdg k
theorem stM_34 (E : EM X G cc own nL rm) {i x : Int32} (hin : vp_in i 1000) (hdg : decode cc pc = .ok (.iastore, 1)) {K : St → Option α} (k : ∀ u1 : St, u1 = sa u 31 i x → SM X G nL res (K u1) u1 (pc + 1) lv st) : SM X G nL res (seq (sa u 31 i x) K) u pc lv (.int x :: .int i :: .ref (G.1 134) :: st) :=
  Sm_iast (q0 := 34) (t0 := 0) E rfl rfl rfl hin hdg k
theorem anM_34 (E : EM X G cc own nL rm) (hdg : decode cc pc = .ok (.arraylength, 1)) (k : SM X G nL res mv u (pc + 1) lv (.int 1000 :: st)) : SM X G nL res mv u pc lv (.ref (G.1 134) :: st) :=
  Sm_alen (q0 := 34) (t0 := 0) E rfl rfl (show Int32.ofNat 1000 = 1000 by decide) hdg k
theorem ldM_35 (E : EM X G cc own nL rm) {i : Int32} (hin : vp_in i 1000) (hdg : decode cc pc = .ok (.iaload, 1)) (k : SM X G nL res mv u (pc + 1) lv (.int (ga u 32 i) :: st)) : SM X G nL res mv u pc lv (.int i :: .ref (G.1 135) :: st) :=
  Sm_iald (q0 := 35) (t0 := 0) E rfl rfl hin hdg k
theorem stM_35 (E : EM X G cc own nL rm) {i x : Int32} (hin : vp_in i 1000) (hdg : decode cc pc = .ok (.iastore, 1)) {K : St → Option α} (k : ∀ u1 : St, u1 = sa u 32 i x → SM X G nL res (K u1) u1 (pc + 1) lv st) : SM X G nL res (seq (sa u 32 i x) K) u pc lv (.int x :: .int i :: .ref (G.1 135) :: st) :=
  Sm_iast (q0 := 35) (t0 := 0) E rfl rfl rfl hin hdg k
theorem anM_35 (E : EM X G cc own nL rm) (hdg : decode cc pc = .ok (.arraylength, 1)) (k : SM X G nL res mv u (pc + 1) lv (.int 1000 :: st)) : SM X G nL res mv u pc lv (.ref (G.1 135) :: st) :=
  Sm_alen (q0 := 35) (t0 := 0) E rfl rfl (show Int32.ofNat 1000 = 1000 by decide) hdg k
theorem ldM_36 (E : EM X G cc own nL rm) {i : Int32} (hin : vp_in i 10) (hdg : decode cc pc = .ok (.iaload, 1)) (k : SM X G nL res mv u (pc + 1) lv (.int (ga u 33 i) :: st)) : SM X G nL res mv u pc lv (.int i :: .ref (G.1 136) :: st) :=
  Sm_iald (q0 := 36) (t0 := 0) E rfl rfl hin hdg k
theorem stM_36 (E : EM X G cc own nL rm) {i x : Int32} (hin : vp_in i 10) (hdg : decode cc pc = .ok (.iastore, 1)) {K : St → Option α} (k : ∀ u1 : St, u1 = sa u 33 i x → SM X G nL res (K u1) u1 (pc + 1) lv st) : SM X G nL res (seq (sa u 33 i x) K) u pc lv (.int x :: .int i :: .ref (G.1 136) :: st) :=
  Sm_iast (q0 := 36) (t0 := 0) E rfl rfl rfl hin hdg k
theorem anM_36 (E : EM X G cc own nL rm) (hdg : decode cc pc = .ok (.arraylength, 1)) (k : SM X G nL res mv u (pc + 1) lv (.int 10 :: st)) : SM X G nL res mv u pc lv (.ref (G.1 136) :: st) :=
  Sm_alen (q0 := 36) (t0 := 0) E rfl rfl (show Int32.ofNat 10 = 10 by decide) hdg k
theorem ldM_37 (E : EM X G cc own nL rm) {i : Int32} (hin : vp_in i 201) (hdg : decode cc pc = .ok (.baload, 1)) (k : SM X G nL res mv u (pc + 1) lv (.int (ga u 34 i) :: st)) : SM X G nL res mv u pc lv (.int i :: .ref (G.1 137) :: st) :=
  Sm_zald (q0 := 37) (t0 := 3) E rfl rfl hin hdg k
theorem stM_37 (E : EM X G cc own nL rm) {i x : Int32} (hin : vp_in i 201) (hdg : decode cc pc = .ok (.bastore, 1)) {K : St → Option α} (k : ∀ u1 : St, u1 = sa u 34 i (zn x) → SM X G nL res (K u1) u1 (pc + 1) lv st) : SM X G nL res (seq (sa u 34 i (zn x)) K) u pc lv (.int x :: .int i :: .ref (G.1 137) :: st) :=
  Sm_zast (q0 := 37) (t0 := 3) E rfl rfl rfl hin hdg k
theorem anM_37 (E : EM X G cc own nL rm) (hdg : decode cc pc = .ok (.arraylength, 1)) (k : SM X G nL res mv u (pc + 1) lv (.int 201 :: st)) : SM X G nL res mv u pc lv (.ref (G.1 137) :: st) :=
  Sm_alen (q0 := 37) (t0 := 3) E rfl rfl (show Int32.ofNat 201 = 201 by decide) hdg k
theorem ldM_38 (E : EM X G cc own nL rm) {i : Int32} (hin : vp_in i 144) (hdg : decode cc pc = .ok (.baload, 1)) (k : SM X G nL res mv u (pc + 1) lv (.int (ga u 35 i) :: st)) : SM X G nL res mv u pc lv (.int i :: .ref (G.1 138) :: st) :=
  Sm_bald (q0 := 38) (t0 := 1) E rfl rfl hin hdg k
theorem stM_38 (E : EM X G cc own nL rm) {i x : Int32} (hin : vp_in i 144) (hdg : decode cc pc = .ok (.bastore, 1)) {K : St → Option α} (k : ∀ u1 : St, u1 = sa u 35 i (i2b x) → SM X G nL res (K u1) u1 (pc + 1) lv st) : SM X G nL res (seq (sa u 35 i (i2b x)) K) u pc lv (.int x :: .int i :: .ref (G.1 138) :: st) :=
  Sm_bast (q0 := 38) (t0 := 1) E rfl rfl rfl hin hdg k
theorem anM_38 (E : EM X G cc own nL rm) (hdg : decode cc pc = .ok (.arraylength, 1)) (k : SM X G nL res mv u (pc + 1) lv (.int 144 :: st)) : SM X G nL res mv u pc lv (.ref (G.1 138) :: st) :=
  Sm_alen (q0 := 38) (t0 := 1) E rfl rfl (show Int32.ofNat 144 = 144 by decide) hdg k
theorem ldM_39 (E : EM X G cc own nL rm) {i : Int32} (hin : vp_in i 9) (hdg : decode cc pc = .ok (.iaload, 1)) (k : SM X G nL res mv u (pc + 1) lv (.int (ga u 36 i) :: st)) : SM X G nL res mv u pc lv (.int i :: .ref (G.1 139) :: st) :=
  Sm_iald (q0 := 39) (t0 := 0) E rfl rfl hin hdg k
theorem stM_39 (E : EM X G cc own nL rm) {i x : Int32} (hin : vp_in i 9) (hdg : decode cc pc = .ok (.iastore, 1)) {K : St → Option α} (k : ∀ u1 : St, u1 = sa u 36 i x → SM X G nL res (K u1) u1 (pc + 1) lv st) : SM X G nL res (seq (sa u 36 i x) K) u pc lv (.int x :: .int i :: .ref (G.1 139) :: st) :=
  Sm_iast (q0 := 39) (t0 := 0) E rfl rfl rfl hin hdg k
theorem anM_39 (E : EM X G cc own nL rm) (hdg : decode cc pc = .ok (.arraylength, 1)) (k : SM X G nL res mv u (pc + 1) lv (.int 9 :: st)) : SM X G nL res mv u pc lv (.ref (G.1 139) :: st) :=
  Sm_alen (q0 := 39) (t0 := 0) E rfl rfl (show Int32.ofNat 9 = 9 by decide) hdg k
end WM
