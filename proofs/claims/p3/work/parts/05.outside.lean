/-! what lies outside: the texts of the class files, static arrays, two statics of the JDK. G: addresses of the cells, class ids of arrays (int, byte, long, boolean), the texts, their bytes, the static arrays, a static -/
abbrev Gx : Type := (Nat → Nat) × (Nat → ClassId) × (Nat → Nat) × (Nat → Nat) × (Nat → Nat) × Option Nat
def tyW (G : Gx) : List (ClassId × FieldType) := [(G.2.1 0, .int), (G.2.1 1, .byte), (G.2.1 2, .long), (G.2.1 3, .boolean)]
def strTab : List (String × Nat × String × Nat) := [("SqlReader$Tokens", 96, "(),.;*=<>+-/%", 0), ("SqlReader$Parser", 27, "PREPARE", 1), ("SqlReader$Parser", 43, "AS", 2), ("SqlReader$Parser", 45, "SELECT", 3), ("SqlReader$Parser", 211, "DISTINCT", 4), ("SqlReader$Parser", 216, "*", 5), ("SqlReader$Parser", 168, "NOT", 6), ("SqlReader$Parser", 354, "-", 7), ("SqlReader$Parser", 150, "(", 8), ("SqlReader$Parser", 155, ")", 9), ("SqlReader$Parser", 367, "COUNT", 10), ("SqlReader$Parser", 369, "SUM", 11), ("SqlReader$Parser", 371, "MIN", 12), ("SqlReader$Parser", 373, "MAX", 13), ("SqlReader$Parser", 170, "NULL", 14), ("SqlReader$Parser", 375, "TRUE", 15), ("SqlReader$Parser", 377, "FALSE", 16), ("SqlReader$Parser", 379, ".", 17), ("SqlReader$Parser", 381, "OR", 18), ("SqlReader$Parser", 349, "AND", 19), ("SqlReader$Parser", 383, "IS", 20), ("SqlReader$Parser", 339, "BETWEEN", 21), ("SqlReader$Parser", 344, "IN", 22), ("SqlReader$Parser", 207, "=", 23), ("SqlReader$Parser", 385, "<>", 24), ("SqlReader$Parser", 387, "<", 25), ("SqlReader$Parser", 389, "<=", 26), ("SqlReader$Parser", 391, ">", 27), ("SqlReader$Parser", 393, ">=", 28), ("SqlReader$Parser", 395, "+", 29), ("SqlReader$Parser", 397, "/", 30), ("SqlReader$Parser", 399, "%", 31), ("SqlReader$Parser", 401, "||", 32), ("SqlReader$Parser", 162, ",", 33), ("SqlReader$Parser", 209, "FROM", 34), ("SqlReader$Parser", 242, "WHERE", 35), ("SqlReader$Parser", 246, "GROUP", 36), ("SqlReader$Parser", 248, "BY", 37), ("SqlReader$Parser", 256, "ORDER", 38), ("SqlReader$Parser", 267, "DESC", 39), ("SqlReader$Parser", 269, "LIMIT", 40), ("SqlReader$Parser", 281, "FOR", 41), ("SqlReader$Parser", 283, "SHARE", 42), ("SqlReader$Parser", 61, "UPDATE", 43), ("SqlReader$Parser", 51, "INSERT", 44), ("SqlReader$Parser", 53, "INTO", 45), ("SqlReader$Parser", 184, "VALUES", 46), ("SqlReader$Parser", 196, "SET", 47), ("SqlReader$Parser", 66, "DELETE", 48), ("SqlReader$Parser", 71, "EXECUTE", 49), ("SqlReader$Parser", 76, "CREATE", 50), ("SqlReader$Parser", 100, "TABLE", 51), ("SqlReader$Parser", 178, "INT", 52), ("SqlReader$Parser", 180, "TEXT", 53), ("SqlReader$Parser", 182, "BOOL", 54), ("SqlReader$Parser", 141, "UNIQUE", 55), ("SqlReader$Parser", 146, "INDEX", 56), ("SqlReader$Parser", 148, "ON", 57), ("SqlReader$Parser", 98, "DROP", 58), ("SqlReader$Parser", 105, "BEGIN", 59), ("SqlReader$Parser", 288, "READ", 60), ("SqlReader$Parser", 290, "COMMITTED", 61), ("SqlReader$Parser", 292, "REPEATABLE", 62), ("SqlReader$Parser", 294, "SERIALIZABLE", 63), ("SqlReader$Parser", 110, "COMMIT", 64), ("SqlReader$Parser", 112, "ROLLBACK", 65), ("SqlReader$Parser", 114, "TO", 66), ("SqlReader$Parser", 116, "SAVEPOINT", 67), ("SqlReader$Parser", 118, "RELEASE", 68), ("SqlReader$Parser", 120, "LOCK", 69), ("SqlReader$Parser", 296, "ACCESS", 70), ("SqlReader$Parser", 298, "EXCLUSIVE", 71), ("SqlReader$Parser", 300, "ROW", 72), ("SqlReader$Parser", 125, "VACUUM", 73), ("SqlReader$Parser", 127, "CHECKPOINT", 74), ("SqlReader$Parser", 84, ";", 75), ("SqlReaderModel", 525, "INSERT", 76), ("SqlReaderModel", 466, "INTO", 77), ("SqlReaderModel", 468, "VALUES", 78), ("SqlReaderModel", 291, "(", 79), ("SqlReaderModel", 387, ",", 80), ("SqlReaderModel", 425, ";", 81), ("SqlReaderModel", 427, "FROM", 82), ("SqlReaderModel", 429, "WHERE", 83), ("SqlReaderModel", 431, "GROUP", 84), ("SqlReaderModel", 433, "ORDER", 85), ("SqlReaderModel", 435, "LIMIT", 86), ("SqlReaderModel", 437, "FOR", 87), ("SqlReaderModel", 297, ")", 88), ("SqlReaderModel", 350, "NOT", 89), ("SqlReaderModel", 313, "-", 90), ("SqlReaderModel", 352, "=", 91), ("SqlReaderModel", 354, "<>", 92), ("SqlReaderModel", 356, "<", 93), ("SqlReaderModel", 358, "<=", 94), ("SqlReaderModel", 360, ">", 95), ("SqlReaderModel", 362, ">=", 96), ("SqlReaderModel", 367, "IS", 97), ("SqlReaderModel", 328, "BETWEEN", 98), ("SqlReaderModel", 369, "IN", 99), ("SqlReaderModel", 303, "NULL", 100), ("SqlReaderModel", 307, "AND", 101), ("SqlReaderModel", 389, "COUNT", 102), ("SqlReaderModel", 391, "SUM", 103), ("SqlReaderModel", 393, "MIN", 104), ("SqlReaderModel", 395, "MAX", 105), ("SqlReaderModel", 315, "*", 106), ("SqlReaderModel", 407, ".", 107), ("SqlReaderModel", 299, "TRUE", 108), ("SqlReaderModel", 301, "FALSE", 109), ("SqlReaderModel", 305, "OR", 110), ("SqlReaderModel", 309, "||", 111), ("SqlReaderModel", 311, "+", 112), ("SqlReaderModel", 317, "/", 113), ("SqlReaderModel", 319, "%", 114), ("SqlReaderModel", 473, "SELECT", 115), ("SqlReaderModel", 494, "DISTINCT", 116), ("SqlReaderModel", 486, "BY", 117), ("SqlReaderModel", 492, "DESC", 118), ("SqlReaderModel", 507, "UPDATE", 119), ("SqlReaderModel", 509, "SHARE", 120), ("SqlReaderModel", 481, "SET", 121), ("SqlReaderModel", 533, "DELETE", 122), ("SqlReaderModel", 539, "CREATE", 123), ("SqlReaderModel", 445, "TABLE", 124), ("SqlReaderModel", 454, "INT", 125), ("SqlReaderModel", 456, "TEXT", 126), ("SqlReaderModel", 458, "BOOL", 127), ("SqlReaderModel", 460, "UNIQUE", 128), ("SqlReaderModel", 462, "INDEX", 129), ("SqlReaderModel", 464, "ON", 130), ("SqlReaderModel", 544, "DROP", 131), ("SqlReaderModel", 546, "BEGIN", 132), ("SqlReaderModel", 517, "READ", 133), ("SqlReaderModel", 519, "COMMITTED", 134), ("SqlReaderModel", 521, "REPEATABLE", 135), ("SqlReaderModel", 523, "SERIALIZABLE", 136), ("SqlReaderModel", 551, "COMMIT", 137), ("SqlReaderModel", 553, "ROLLBACK", 138), ("SqlReaderModel", 555, "TO", 139), ("SqlReaderModel", 557, "SAVEPOINT", 140), ("SqlReaderModel", 559, "RELEASE", 141), ("SqlReaderModel", 561, "LOCK", 142), ("SqlReaderModel", 511, "ACCESS", 143), ("SqlReaderModel", 513, "ROW", 144), ("SqlReaderModel", 515, "EXCLUSIVE", 145), ("SqlReaderModel", 566, "PREPARE", 146), ("SqlReaderModel", 568, "AS", 147), ("SqlReaderModel", 573, "EXECUTE", 148), ("SqlReaderModel", 578, "VACUUM", 149), ("SqlReaderModel", 580, "CHECKPOINT", 150)]
def nS : Nat := 151
def bytS : List (List Int32) := [[40, 41, 44, 46, 59, 42, 61, 60, 62, 43, 45, 47, 37], [80, 82, 69, 80, 65, 82, 69], [65, 83], [83, 69, 76, 69, 67, 84], [68, 73, 83, 84, 73, 78, 67, 84], [42], [78, 79, 84], [45], [40], [41], [67, 79, 85, 78, 84], [83, 85, 77], [77, 73, 78], [77, 65, 88], [78, 85, 76, 76], [84, 82, 85, 69], [70, 65, 76, 83, 69], [46], [79, 82], [65, 78, 68], [73, 83], [66, 69, 84, 87, 69, 69, 78], [73, 78], [61], [60, 62], [60], [60, 61], [62], [62, 61], [43], [47], [37], [124, 124], [44], [70, 82, 79, 77], [87, 72, 69, 82, 69], [71, 82, 79, 85, 80], [66, 89], [79, 82, 68, 69, 82], [68, 69, 83, 67], [76, 73, 77, 73, 84], [70, 79, 82], [83, 72, 65, 82, 69], [85, 80, 68, 65, 84, 69], [73, 78, 83, 69, 82, 84], [73, 78, 84, 79], [86, 65, 76, 85, 69, 83], [83, 69, 84], [68, 69, 76, 69, 84, 69], [69, 88, 69, 67, 85, 84, 69], [67, 82, 69, 65, 84, 69], [84, 65, 66, 76, 69], [73, 78, 84], [84, 69, 88, 84], [66, 79, 79, 76], [85, 78, 73, 81, 85, 69], [73, 78, 68, 69, 88], [79, 78], [68, 82, 79, 80], [66, 69, 71, 73, 78], [82, 69, 65, 68], [67, 79, 77, 77, 73, 84, 84, 69, 68], [82, 69, 80, 69, 65, 84, 65, 66, 76, 69], [83, 69, 82, 73, 65, 76, 73, 90, 65, 66, 76, 69], [67, 79, 77, 77, 73, 84], [82, 79, 76, 76, 66, 65, 67, 75], [84, 79], [83, 65, 86, 69, 80, 79, 73, 78, 84], [82, 69, 76, 69, 65, 83, 69], [76, 79, 67, 75], [65, 67, 67, 69, 83, 83], [69, 88, 67, 76, 85, 83, 73, 86, 69], [82, 79, 87], [86, 65, 67, 85, 85, 77], [67, 72, 69, 67, 75, 80, 79, 73, 78, 84], [59], [73, 78, 83, 69, 82, 84], [73, 78, 84, 79], [86, 65, 76, 85, 69, 83], [40], [44], [59], [70, 82, 79, 77], [87, 72, 69, 82, 69], [71, 82, 79, 85, 80], [79, 82, 68, 69, 82], [76, 73, 77, 73, 84], [70, 79, 82], [41], [78, 79, 84], [45], [61], [60, 62], [60], [60, 61], [62], [62, 61], [73, 83], [66, 69, 84, 87, 69, 69, 78], [73, 78], [78, 85, 76, 76], [65, 78, 68], [67, 79, 85, 78, 84], [83, 85, 77], [77, 73, 78], [77, 65, 88], [42], [46], [84, 82, 85, 69], [70, 65, 76, 83, 69], [79, 82], [124, 124], [43], [47], [37], [83, 69, 76, 69, 67, 84], [68, 73, 83, 84, 73, 78, 67, 84], [66, 89], [68, 69, 83, 67], [85, 80, 68, 65, 84, 69], [83, 72, 65, 82, 69], [83, 69, 84], [68, 69, 76, 69, 84, 69], [67, 82, 69, 65, 84, 69], [84, 65, 66, 76, 69], [73, 78, 84], [84, 69, 88, 84], [66, 79, 79, 76], [85, 78, 73, 81, 85, 69], [73, 78, 68, 69, 88], [79, 78], [68, 82, 79, 80], [66, 69, 71, 73, 78], [82, 69, 65, 68], [67, 79, 77, 77, 73, 84, 84, 69, 68], [82, 69, 80, 69, 65, 84, 65, 66, 76, 69], [83, 69, 82, 73, 65, 76, 73, 90, 65, 66, 76, 69], [67, 79, 77, 77, 73, 84], [82, 79, 76, 76, 66, 65, 67, 75], [84, 79], [83, 65, 86, 69, 80, 79, 73, 78, 84], [82, 69, 76, 69, 65, 83, 69], [76, 79, 67, 75], [65, 67, 67, 69, 83, 83], [82, 79, 87], [69, 88, 67, 76, 85, 83, 73, 86, 69], [80, 82, 69, 80, 65, 82, 69], [65, 83], [69, 88, 69, 67, 85, 84, 69], [86, 65, 67, 85, 85, 77], [67, 72, 69, 67, 75, 80, 79, 73, 78, 84]]
def lnK (k : Nat) : Nat := (bytS.getD k []).length
def byK (k : Nat) (i : Int32) : Int32 := (bytS.getD k []).getD i.toNatClampNeg 0
def stok (k : Nat) : Bool := decide (k < nS)
def nT : Nat := 4
def stTab : List (String × String × List Int32) := [("SqlReader$Lists", "MOST", [8, 4, 4, 3, 8, 8, 200, 8, 9, 200, 3, 3, 200, 8]), ("SqlReader$Lists", "STARTS", [0, 8, 12, 16, 19, 27, 35, 235, 243, 252, 452, 455, 458, 658]), ("SqlReader$Meaning", "NEEDS", [0, 0, 0, 0, 0, 0, 0, 1, 0, 0, 1, 1, 1, 1, 1, 1, 2, 0, 0, 0, 0, 0, 0, 0, 0, 3, 3, 3, 0]), ("SqlReader$Meaning", "TYPES", [0, 1, 2, 3, 0, 1, 1, 1, 0, 0, 1, 1, 1, 1, 1, 1, 2, 3, 3, 3, 3, 3, 3, 3, 3, 3, 3, 3, 0])]
def lnT (j : Nat) : Nat := (stTab.getD j ("", "", [])).2.2.length
def gst (j : Nat) (i : Int32) : Int32 := (stTab.getD j ("", "", [])).2.2.getD i.toNatClampNeg 0
def exW (G : Gx) (A : Nat → Prop) (U : State) (H : Heap) : Prop :=
  (∀ q ∈ strTab, vk_R q.1 q.2.1 q.2.2.1 (G.2.2.1 q.2.2.2) U) ∧
  (∀ k : Nat, k < nS → va_O "java/lang/String" (G.2.2.1 k) A U H ∧ va_OF "java/lang/String" "coder" "B" (.int 0) (G.2.2.1 k) A U H ∧ va_OF "java/lang/String" "value" "[B" (.ref (G.2.2.2.1 k)) (G.2.2.1 k) A U H ∧ va_T .byte (G.2.2.2.1 k) (lnK k) (fun j => .int ((bytS.getD k []).getD j 0)) A U H) ∧
  (∀ j : Nat, j < nT → va_Z (stTab.getD j ("", "", [])).1 (stTab.getD j ("", "", [])).2.1 "[I" (.ref (G.2.2.2.2.1 j)) A U H ∧ va_T .int (G.2.2.2.2.1 j) (lnT j) (fun i => .int ((stTab.getD j ("", "", [])).2.2.getD i 0)) A U H) ∧
  va_Z "java/lang/String" "COMPACT_STRINGS" "Z" (.int 1) A U H ∧
  va_Z "jdk/internal/util/Preconditions" "SIOOBE_FORMATTER" "Ljava/util/function/BiFunction;" (va_rf G.2.2.2.2.2) A U H
theorem exOk {G : Gx} : ExtOk (exW G) := by
  refine ⟨fun A U V H hv h => ?_, fun A B s U H hW hAB hk h => ?_⟩
  · obtain ⟨h1, h2, h3, h4, h5⟩ := h
    have ha : U.vm.Alike V.vm := by rw [hv]; exact Vm.Alike.refl U.vm
    exact ⟨fun q hq => vk_R.same hv (h1 q hq), fun k hk => ⟨va_O.moved ha (h2 k hk).1, va_OF.moved ha (h2 k hk).2.1, va_OF.moved ha (h2 k hk).2.2.1, va_T.moved ha (h2 k hk).2.2.2⟩, fun j hj => ⟨va_Z.moved ha (h3 j hj).1, va_T.moved ha (h3 j hj).2⟩, va_Z.moved ha h4, va_Z.moved ha h5⟩
  · obtain ⟨h1, h2, h3, h4, h5⟩ := h
    have ha : s.vm.Alike U.vm := hW.alike
    exact ⟨fun q hq => vk_R.warm hW (h1 q hq), fun k hk0 => ⟨((va_O.moved ha (h2 k hk0).1).kept hk).narrow hAB, ((va_OF.moved ha (h2 k hk0).2.1).kept hk).narrow hAB, ((va_OF.moved ha (h2 k hk0).2.2.1).kept hk).narrow hAB, ((va_T.moved ha (h2 k hk0).2.2.2).kept hk).narrow hAB⟩, fun j hj => ⟨((va_Z.moved ha (h3 j hj).1).kept hk).narrow hAB, ((va_T.moved ha (h3 j hj).2).kept hk).narrow hAB⟩, ((va_Z.moved ha h4).kept hk).narrow hAB, ((va_Z.moved ha h5).kept hk).narrow hAB⟩
section Ext
variable {X : Cx} {G : Gx} {cc : ByteArray} {own : String} {nL : Nat} {as : List Nat} {rm : Room} {σ α : Type} {w : σ → va_W} {res : α} {mv : Option α} {u : σ} {pc idx : Nat} {lv : List (Nat × Value)} {st : List Value}
theorem ex_of {tys : List (ClassId × FieldType)} (E : En X vwCl ALL cc own nL tys as rm (exW G)) : exW G (xA X) (xs X) (xs X).heap := E.2.2.2.2.2.2.2.2.2
theorem stok_lt {k : Nat} (h : stok k = true) : k < nS := of_decide_eq_true h
theorem Sm_strV (E : En X vwCl ALL cc own nL (tyW G) as rm (exW G)) {k : Nat} (hk : stok k = true) (hl : Cond.fieldLink own idx "java/lang/String" "value" "[B" ∈ ALL) (hdg : decode cc pc = .ok (.getfield idx, 3)) (kk : Sm X vwCl w nL res mv u (pc + 3) lv (.ref (G.2.2.2.1 k) :: st)) : Sm X vwCl w nL res mv u pc lv (.ref (G.2.2.1 k) :: st) :=
  fun hm H locs ls hP hD hS hlv => vk_getf E.1 E.2.1 ((ex_of E).2.1 k (stok_lt hk)).2.2.1 hS E.2.2.2.1 (E.2.2.1 _ hl) (fun _ h => h) hdg (kk hm H locs ls hP hD hS hlv)
theorem Sm_strC (E : En X vwCl ALL cc own nL (tyW G) as rm (exW G)) {k : Nat} (hk : stok k = true) (hl : Cond.fieldLink own idx "java/lang/String" "coder" "B" ∈ ALL) (hdg : decode cc pc = .ok (.getfield idx, 3)) (kk : Sm X vwCl w nL res mv u (pc + 3) lv (.int 0 :: st)) : Sm X vwCl w nL res mv u pc lv (.ref (G.2.2.1 k) :: st) :=
  fun hm H locs ls hP hD hS hlv => vk_getf E.1 E.2.1 ((ex_of E).2.1 k (stok_lt hk)).2.1 hS E.2.2.2.1 (E.2.2.1 _ hl) (fun _ h => h) hdg (kk hm H locs ls hP hD hS hlv)
theorem Sm_strb (E : En X vwCl ALL cc own nL (tyW G) as rm (exW G)) {k : Nat} (hk : stok k = true) {i : Int32} (hi : vp_in i (lnK k)) (hdg : decode cc pc = .ok (.baload, 1)) (kk : Sm X vwCl w nL res mv u (pc + 1) lv (.int (byK k i) :: st)) : Sm X vwCl w nL res mv u pc lv (.int i :: .ref (G.2.2.2.1 k) :: st) :=
  fun hm H locs ls hP hD hS hlv => va_tb E.1 E.2.1 ((ex_of E).2.1 k (stok_lt hk)).2.2.2 hS hi rfl hdg (kk hm H locs ls hP hD hS hlv)
theorem Sm_strn (E : En X vwCl ALL cc own nL (tyW G) as rm (exW G)) {k : Nat} (hk : stok k = true) (hdg : decode cc pc = .ok (.arraylength, 1)) (kk : Sm X vwCl w nL res mv u (pc + 1) lv (.int (nI (lnK k)) :: st)) : Sm X vwCl w nL res mv u pc lv (.ref (G.2.2.2.1 k) :: st) :=
  fun hm H locs ls hP hD hS hlv => va_tlen E.1 E.2.1 ((ex_of E).2.1 k (stok_lt hk)).2.2.2 hS rfl hdg (kk hm H locs ls hP hD hS hlv)
theorem Sm_stl (E : En X vwCl ALL cc own nL (tyW G) as rm (exW G)) {j : Nat} (hj : j < nT) {i : Int32} (hi : vp_in i (lnT j)) (hdg : decode cc pc = .ok (.iaload, 1)) (kk : Sm X vwCl w nL res mv u (pc + 1) lv (.int (gst j i) :: st)) : Sm X vwCl w nL res mv u pc lv (.int i :: .ref (G.2.2.2.2.1 j) :: st) :=
  fun hm H locs ls hP hD hS hlv => va_ti E.1 E.2.1 ((ex_of E).2.2.1 j hj).2 hS hi rfl hdg (kk hm H locs ls hP hD hS hlv)
theorem Sm_stn (E : En X vwCl ALL cc own nL (tyW G) as rm (exW G)) {j : Nat} {v : Int32} (hj : j < nT) (hv : Int32.ofNat (lnT j) = v) (hdg : decode cc pc = .ok (.arraylength, 1)) (kk : Sm X vwCl w nL res mv u (pc + 1) lv (.int v :: st)) : Sm X vwCl w nL res mv u pc lv (.ref (G.2.2.2.2.1 j) :: st) :=
  fun hm H locs ls hP hD hS hlv => va_tlen E.1 E.2.1 ((ex_of E).2.2.1 j hj).2 hS hv hdg (kk hm H locs ls hP hD hS hlv)
theorem Sm_gsA (E : En X vwCl ALL cc own nL (tyW G) as rm (exW G)) {j : Nat} (hj : j < nT) (hl : Cond.fieldLink own idx (stTab.getD j ("", "", [])).1 (stTab.getD j ("", "", [])).2.1 "[I" ∈ ALL) (hdg : decode cc pc = .ok (.getstatic idx, 3)) (kk : Sm X vwCl w nL res mv u (pc + 3) lv (.ref (G.2.2.2.2.1 j) :: st)) : Sm X vwCl w nL res mv u pc lv st :=
  fun hm H locs ls hP hD hS hlv => va_gets E.1 E.2.1 ((ex_of E).2.2.1 j hj).1 hS E.2.2.2.1 (E.2.2.1 _ hl) (fun _ h => h) hdg (kk hm H locs ls hP hD hS hlv)
theorem Sm_gsC (E : En X vwCl ALL cc own nL (tyW G) as rm (exW G)) (hl : Cond.fieldLink own idx "java/lang/String" "COMPACT_STRINGS" "Z" ∈ ALL) (hdg : decode cc pc = .ok (.getstatic idx, 3)) (kk : Sm X vwCl w nL res mv u (pc + 3) lv (.int 1 :: st)) : Sm X vwCl w nL res mv u pc lv st :=
  fun hm H locs ls hP hD hS hlv => va_gets E.1 E.2.1 (ex_of E).2.2.2.1 hS E.2.2.2.1 (E.2.2.1 _ hl) (fun _ h => h) hdg (kk hm H locs ls hP hD hS hlv)
theorem Sm_gsX (E : En X vwCl ALL cc own nL (tyW G) as rm (exW G)) (hl : Cond.fieldLink own idx "jdk/internal/util/Preconditions" "SIOOBE_FORMATTER" "Ljava/util/function/BiFunction;" ∈ ALL) (hdg : decode cc pc = .ok (.getstatic idx, 3)) (kk : Sm X vwCl w nL res mv u (pc + 3) lv (va_rf G.2.2.2.2.2 :: st)) : Sm X vwCl w nL res mv u pc lv st :=
  fun hm H locs ls hP hD hS hlv => va_gets E.1 E.2.1 (ex_of E).2.2.2.2 hS E.2.2.2.1 (E.2.2.1 _ hl) (fun _ h => h) hdg (kk hm H locs ls hP hD hS hlv)
theorem Sm_ldcS (E : En X vwCl ALL cc own nL (tyW G) as rm (exW G)) {tx : String} {k : Nat} (hq : (own, idx, tx, k) ∈ strTab) (hdg : decode cc pc = .ok (.ldc idx, 2)) (kk : Sm X vwCl w nL res mv u (pc + 2) lv (.ref (G.2.2.1 k) :: st)) : Sm X vwCl w nL res mv u pc lv st :=
  fun hm H locs ls hP hD hS hlv => va_ldcS E.1 E.2.1 E.2.2.2.1 ((ex_of E).1 _ hq) hdg (kk hm H locs ls hP hD hS hlv)
theorem rvS (E : En X vwCl ALL cc own nL (tyW G) as rm (exW G)) {k : Nat} (hk : stok k = true) {y : MethodName} (hy : y.cls = "java/lang/String") : ∀ (H : Heap) (locs : List Loc), va_P (xD X) vwCl (w u) H → va_S (xA X) (xs X).heap H locs → ∃ cell : Cell, H[G.2.2.1 k]? = some cell ∧ cell.vm.isStatics = false ∧ (xs X).vm.findClass y.cls = some cell.cls := by
  intro H locs _ hS
  obtain ⟨cell, h1, h2, h3, -⟩ := ((ex_of E).2.1 k (stok_lt hk)).1.kept hS.2.1
  exact ⟨cell, h1, h2, by rw [hy]; exact h3⟩
theorem mw0 : Cond.initialized "java/lang/Math" ∈ ALL := tw 15 rfl rfl
set_option maxRecDepth 100000 in
theorem mw1_mmax : Cond.static Lib.Math.max.name ∈ ALL := tw 491 rfl rfl
set_option maxRecDepth 100000 in
theorem mw2_mmax : Cond.code Lib.Math.max.name Lib.Math.max.code 2 (some .int) ∈ ALL := tw 492 rfl rfl
theorem Sm_mmax (E : En X vwCl ALL cc own nL (tyW G) as rm (exW G)) {x y : Int32} (hl : Cond.methodLink own idx Lib.Math.max.name ∈ ALL) (hr : 1 ≤ rm.frames ∧ 40 ≤ rm.locals) (h8 : (st.map fun v => v.category).sum ≤ 8) (hdg : decode cc pc = .ok (.invokestatic idx, 3)) (kk : Sm X vwCl w nL res mv u (pc + 3) lv (.int (if x < y then y else x) :: st)) : Sm X vwCl w nL res mv u pc lv (.int y :: .int x :: st) :=
  fun hm H locs ls hP hD hS hlv => va_mmax E.1 E.2.1 (E.2.2.2.2.2.1.trans hlv.1.symm) E.2.2.2.1 (E.2.2.1 _ hl) (E.2.2.1 _ mw1_mmax) (E.2.2.1 _ mw0) (E.2.2.1 _ mw2_mmax) (by rw [E.2.2.2.2.2.2.2.1]; exact hr.1) (by rw [E.2.2.2.2.2.2.2.1]; have := hr.2; omega) (by rw [E.2.2.2.2.2.2.2.1]; exact E.2.2.2.2.2.2.2.2.1.1) (by rw [E.2.2.2.2.2.2.2.1]; exact E.2.2.2.2.2.2.2.2.1.2) hdg (kk hm H locs ls hP hD hS hlv)
set_option maxRecDepth 100000 in
theorem mw1_mmin : Cond.static Lib.Math.min.name ∈ ALL := tw 494 rfl rfl
set_option maxRecDepth 100000 in
theorem mw2_mmin : Cond.code Lib.Math.min.name Lib.Math.min.code 2 (some .int) ∈ ALL := tw 495 rfl rfl
theorem Sm_mmin (E : En X vwCl ALL cc own nL (tyW G) as rm (exW G)) {x y : Int32} (hl : Cond.methodLink own idx Lib.Math.min.name ∈ ALL) (hr : 1 ≤ rm.frames ∧ 40 ≤ rm.locals) (h8 : (st.map fun v => v.category).sum ≤ 8) (hdg : decode cc pc = .ok (.invokestatic idx, 3)) (kk : Sm X vwCl w nL res mv u (pc + 3) lv (.int (if y < x then y else x) :: st)) : Sm X vwCl w nL res mv u pc lv (.int y :: .int x :: st) :=
  fun hm H locs ls hP hD hS hlv => va_mmin E.1 E.2.1 (E.2.2.2.2.2.1.trans hlv.1.symm) E.2.2.2.1 (E.2.2.1 _ hl) (E.2.2.1 _ mw1_mmin) (E.2.2.1 _ mw0) (E.2.2.1 _ mw2_mmin) (by rw [E.2.2.2.2.2.2.2.1]; exact hr.1) (by rw [E.2.2.2.2.2.2.2.1]; have := hr.2; omega) (by rw [E.2.2.2.2.2.2.2.1]; exact E.2.2.2.2.2.2.2.2.1.1) (by rw [E.2.2.2.2.2.2.2.1]; exact E.2.2.2.2.2.2.2.2.1.2) hdg (kk hm H locs ls hP hD hS hlv)
set_option maxRecDepth 100000 in
theorem mw1_mminL : Cond.static Lib.MathLoose.min_long.x ∈ ALL := tw 774 rfl rfl
set_option maxRecDepth 100000 in
theorem mw2_mminL : Cond.code Lib.MathLoose.min_long.x Lib.MathLoose.min_long.code 4 (some .long) ∈ ALL := tw 775 rfl rfl
theorem Sm_mminL (E : En X vwCl ALL cc own nL (tyW G) as rm (exW G)) {x y : Int64} (hl : Cond.methodLink own idx Lib.MathLoose.min_long.x ∈ ALL) (hr : 1 ≤ rm.frames ∧ 40 ≤ rm.locals) (h8 : (st.map fun v => v.category).sum ≤ 8) (hdg : decode cc pc = .ok (.invokestatic idx, 3)) (kk : Sm X vwCl w nL res mv u (pc + 3) lv (.long (if y < x then y else x) :: st)) : Sm X vwCl w nL res mv u pc lv (.long y :: .long x :: st) :=
  fun hm H locs ls hP hD hS hlv => va_mmin_long E.1 E.2.1 (E.2.2.2.2.2.1.trans hlv.1.symm) E.2.2.2.1 (E.2.2.1 _ hl) (E.2.2.1 _ mw1_mminL) (E.2.2.1 _ mw0) (E.2.2.1 _ mw2_mminL) (by rw [E.2.2.2.2.2.2.2.1]; exact hr.1) (by rw [E.2.2.2.2.2.2.2.1]; have := hr.2; omega) (by rw [E.2.2.2.2.2.2.2.1]; exact E.2.2.2.2.2.2.2.2.1.1) (by rw [E.2.2.2.2.2.2.2.1]; exact E.2.2.2.2.2.2.2.2.1.2) hdg (kk hm H locs ls hP hD hS hlv)
set_option maxRecDepth 100000 in
theorem aw1 : Cond.static arraycopyName ∈ ALL := tw 418 rfl rfl
set_option maxRecDepth 100000 in
theorem aw2 : Cond.native arraycopyName ∈ ALL := tw 419 rfl rfl
theorem aw3 : Cond.initialized "java/lang/System" ∈ ALL := tw 12 rfl rfl
def cpf (f : Nat → Int32) (sp n : Int32) : Bool := (List.range n.toNatClampNeg).all (fun i => fits .byte (.int (f (sp.toNatClampNeg + i))))
theorem nn_of {z : Int32} (h : 0 ≤ z.toInt) : ¬ z < 0 ∧ (z.toNatClampNeg : Int) = z.toInt := by
  refine ⟨fun q => ?_, ?_⟩
  · have := Int32.lt_iff_toInt_lt.mp q
    simp at this
    omega
  · show ((z.toInt.toNat : Nat) : Int) = z.toInt
    omega
theorem Sm_copyB (E : En X vwCl ALL cc own nL (tyW G) as rm (exW G)) {sp dp n : Int32} {n0 n1 : Nat} {f g : Nat → Int32} (hc : cpok sp dp n n0 n1 = true) (hf : cpf f sp n = true) {a a0 q0 q1 : Nat} {u' : σ} (hl : Cond.methodLink own idx arraycopyName ∈ ALL) (ha0 : (w u)[q0]? = some (a0, .inl (G.2.1 1, n0, .inl f))) (ha1 : (w u)[q1]? = some (a, .inl (G.2.1 1, n1, .inl g))) (ht : (tyW G)[1]? = some (G.2.1 1, .byte)) (hs : (w u).set q1 (a, .inl (G.2.1 1, n1, .inl (va_cpy f g sp.toNatClampNeg dp.toNatClampNeg n.toNatClampNeg))) = w u') (hk : refKind .byte = false) (hr : 1 ≤ rm.frames ∧ 40 ≤ rm.locals) (h8 : (st.map fun v => v.category).sum ≤ 8) (hdg : decode cc pc = .ok (.invokestatic idx, 3)) {K : σ → Option α} (kk : ∀ u1 : σ, u1 = u' → Sm X vwCl w nL res (K u1) u1 (pc + 3) lv st) : Sm X vwCl w nL res (seq u' K) u pc lv (.int n :: .int dp :: .ref a :: .int sp :: .ref a0 :: st) := by
  obtain ⟨h1, h2, h3, h4, h5⟩ := of_decide_eq_true hc
  obtain ⟨e1, e1'⟩ := nn_of h1
  obtain ⟨e2, e2'⟩ := nn_of h2
  obtain ⟨e3, e3'⟩ := nn_of h3
  refine fun hm H locs ls hP hD hS hlv => va_copyi E.1 E.2.1 (E.2.2.2.2.2.1.trans hlv.1.symm) E.2.2.2.1 (E.2.2.1 _ hl) (E.2.2.1 _ aw2) (E.2.2.1 _ aw1) (E.2.2.1 _ aw3) E.2.2.2.2.1 hP hD hS q0 q1 1 1 ha0 ha1 ht ht hk e1 e2 e3 (by omega) (by omega) (fun i hi => List.all_eq_true.mp hf i (List.mem_range.mpr hi)) (by rw [E.2.2.2.2.2.2.2.1]; exact hr.1) (by rw [E.2.2.2.2.2.2.2.1]; have := hr.2; show _ + (5 + 2 + 11) ≤ _; omega) hdg (fun H1 locs1 hP1 hD1 hS1 => ?_)
  rw [hs] at hP1 hD1
  exact kk u' rfl hm H1 locs1 ls hP1 hD1 hS1 hlv
end Ext
def FU : Nat := 100000
def DP : Nat := 400
set_option maxRecDepth 100000 in
theorem sr_Tokens_96 : ("SqlReader$Tokens", 96, "(),.;*=<>+-/%", 0) ∈ strTab := List.mem_of_getElem? (i := 0) rfl
set_option maxRecDepth 100000 in
theorem sr_Parser_27 : ("SqlReader$Parser", 27, "PREPARE", 1) ∈ strTab := List.mem_of_getElem? (i := 1) rfl
set_option maxRecDepth 100000 in
theorem sr_Parser_43 : ("SqlReader$Parser", 43, "AS", 2) ∈ strTab := List.mem_of_getElem? (i := 2) rfl
set_option maxRecDepth 100000 in
theorem sr_Parser_45 : ("SqlReader$Parser", 45, "SELECT", 3) ∈ strTab := List.mem_of_getElem? (i := 3) rfl
set_option maxRecDepth 100000 in
theorem sr_Parser_211 : ("SqlReader$Parser", 211, "DISTINCT", 4) ∈ strTab := List.mem_of_getElem? (i := 4) rfl
set_option maxRecDepth 100000 in
theorem sr_Parser_216 : ("SqlReader$Parser", 216, "*", 5) ∈ strTab := List.mem_of_getElem? (i := 5) rfl
set_option maxRecDepth 100000 in
theorem sr_Parser_168 : ("SqlReader$Parser", 168, "NOT", 6) ∈ strTab := List.mem_of_getElem? (i := 6) rfl
set_option maxRecDepth 100000 in
theorem sr_Parser_354 : ("SqlReader$Parser", 354, "-", 7) ∈ strTab := List.mem_of_getElem? (i := 7) rfl
set_option maxRecDepth 100000 in
theorem sr_Parser_150 : ("SqlReader$Parser", 150, "(", 8) ∈ strTab := List.mem_of_getElem? (i := 8) rfl
set_option maxRecDepth 100000 in
theorem sr_Parser_155 : ("SqlReader$Parser", 155, ")", 9) ∈ strTab := List.mem_of_getElem? (i := 9) rfl
set_option maxRecDepth 100000 in
theorem sr_Parser_367 : ("SqlReader$Parser", 367, "COUNT", 10) ∈ strTab := List.mem_of_getElem? (i := 10) rfl
set_option maxRecDepth 100000 in
theorem sr_Parser_369 : ("SqlReader$Parser", 369, "SUM", 11) ∈ strTab := List.mem_of_getElem? (i := 11) rfl
set_option maxRecDepth 100000 in
theorem sr_Parser_371 : ("SqlReader$Parser", 371, "MIN", 12) ∈ strTab := List.mem_of_getElem? (i := 12) rfl
set_option maxRecDepth 100000 in
theorem sr_Parser_373 : ("SqlReader$Parser", 373, "MAX", 13) ∈ strTab := List.mem_of_getElem? (i := 13) rfl
set_option maxRecDepth 100000 in
theorem sr_Parser_170 : ("SqlReader$Parser", 170, "NULL", 14) ∈ strTab := List.mem_of_getElem? (i := 14) rfl
set_option maxRecDepth 100000 in
theorem sr_Parser_375 : ("SqlReader$Parser", 375, "TRUE", 15) ∈ strTab := List.mem_of_getElem? (i := 15) rfl
set_option maxRecDepth 100000 in
theorem sr_Parser_377 : ("SqlReader$Parser", 377, "FALSE", 16) ∈ strTab := List.mem_of_getElem? (i := 16) rfl
set_option maxRecDepth 100000 in
theorem sr_Parser_379 : ("SqlReader$Parser", 379, ".", 17) ∈ strTab := List.mem_of_getElem? (i := 17) rfl
set_option maxRecDepth 100000 in
theorem sr_Parser_381 : ("SqlReader$Parser", 381, "OR", 18) ∈ strTab := List.mem_of_getElem? (i := 18) rfl
set_option maxRecDepth 100000 in
theorem sr_Parser_349 : ("SqlReader$Parser", 349, "AND", 19) ∈ strTab := List.mem_of_getElem? (i := 19) rfl
set_option maxRecDepth 100000 in
theorem sr_Parser_383 : ("SqlReader$Parser", 383, "IS", 20) ∈ strTab := List.mem_of_getElem? (i := 20) rfl
set_option maxRecDepth 100000 in
theorem sr_Parser_339 : ("SqlReader$Parser", 339, "BETWEEN", 21) ∈ strTab := List.mem_of_getElem? (i := 21) rfl
set_option maxRecDepth 100000 in
theorem sr_Parser_344 : ("SqlReader$Parser", 344, "IN", 22) ∈ strTab := List.mem_of_getElem? (i := 22) rfl
set_option maxRecDepth 100000 in
theorem sr_Parser_207 : ("SqlReader$Parser", 207, "=", 23) ∈ strTab := List.mem_of_getElem? (i := 23) rfl
set_option maxRecDepth 100000 in
theorem sr_Parser_385 : ("SqlReader$Parser", 385, "<>", 24) ∈ strTab := List.mem_of_getElem? (i := 24) rfl
set_option maxRecDepth 100000 in
theorem sr_Parser_387 : ("SqlReader$Parser", 387, "<", 25) ∈ strTab := List.mem_of_getElem? (i := 25) rfl
set_option maxRecDepth 100000 in
theorem sr_Parser_389 : ("SqlReader$Parser", 389, "<=", 26) ∈ strTab := List.mem_of_getElem? (i := 26) rfl
set_option maxRecDepth 100000 in
theorem sr_Parser_391 : ("SqlReader$Parser", 391, ">", 27) ∈ strTab := List.mem_of_getElem? (i := 27) rfl
set_option maxRecDepth 100000 in
theorem sr_Parser_393 : ("SqlReader$Parser", 393, ">=", 28) ∈ strTab := List.mem_of_getElem? (i := 28) rfl
set_option maxRecDepth 100000 in
theorem sr_Parser_395 : ("SqlReader$Parser", 395, "+", 29) ∈ strTab := List.mem_of_getElem? (i := 29) rfl
set_option maxRecDepth 100000 in
theorem sr_Parser_397 : ("SqlReader$Parser", 397, "/", 30) ∈ strTab := List.mem_of_getElem? (i := 30) rfl
set_option maxRecDepth 100000 in
theorem sr_Parser_399 : ("SqlReader$Parser", 399, "%", 31) ∈ strTab := List.mem_of_getElem? (i := 31) rfl
set_option maxRecDepth 100000 in
theorem sr_Parser_401 : ("SqlReader$Parser", 401, "||", 32) ∈ strTab := List.mem_of_getElem? (i := 32) rfl
set_option maxRecDepth 100000 in
theorem sr_Parser_162 : ("SqlReader$Parser", 162, ",", 33) ∈ strTab := List.mem_of_getElem? (i := 33) rfl
set_option maxRecDepth 100000 in
theorem sr_Parser_209 : ("SqlReader$Parser", 209, "FROM", 34) ∈ strTab := List.mem_of_getElem? (i := 34) rfl
set_option maxRecDepth 100000 in
theorem sr_Parser_242 : ("SqlReader$Parser", 242, "WHERE", 35) ∈ strTab := List.mem_of_getElem? (i := 35) rfl
set_option maxRecDepth 100000 in
theorem sr_Parser_246 : ("SqlReader$Parser", 246, "GROUP", 36) ∈ strTab := List.mem_of_getElem? (i := 36) rfl
set_option maxRecDepth 100000 in
theorem sr_Parser_248 : ("SqlReader$Parser", 248, "BY", 37) ∈ strTab := List.mem_of_getElem? (i := 37) rfl
set_option maxRecDepth 100000 in
theorem sr_Parser_256 : ("SqlReader$Parser", 256, "ORDER", 38) ∈ strTab := List.mem_of_getElem? (i := 38) rfl
set_option maxRecDepth 100000 in
theorem sr_Parser_267 : ("SqlReader$Parser", 267, "DESC", 39) ∈ strTab := List.mem_of_getElem? (i := 39) rfl
set_option maxRecDepth 100000 in
theorem sr_Parser_269 : ("SqlReader$Parser", 269, "LIMIT", 40) ∈ strTab := List.mem_of_getElem? (i := 40) rfl
set_option maxRecDepth 100000 in
theorem sr_Parser_281 : ("SqlReader$Parser", 281, "FOR", 41) ∈ strTab := List.mem_of_getElem? (i := 41) rfl
set_option maxRecDepth 100000 in
theorem sr_Parser_283 : ("SqlReader$Parser", 283, "SHARE", 42) ∈ strTab := List.mem_of_getElem? (i := 42) rfl
set_option maxRecDepth 100000 in
theorem sr_Parser_61 : ("SqlReader$Parser", 61, "UPDATE", 43) ∈ strTab := List.mem_of_getElem? (i := 43) rfl
set_option maxRecDepth 100000 in
theorem sr_Parser_51 : ("SqlReader$Parser", 51, "INSERT", 44) ∈ strTab := List.mem_of_getElem? (i := 44) rfl
set_option maxRecDepth 100000 in
theorem sr_Parser_53 : ("SqlReader$Parser", 53, "INTO", 45) ∈ strTab := List.mem_of_getElem? (i := 45) rfl
set_option maxRecDepth 100000 in
theorem sr_Parser_184 : ("SqlReader$Parser", 184, "VALUES", 46) ∈ strTab := List.mem_of_getElem? (i := 46) rfl
set_option maxRecDepth 100000 in
theorem sr_Parser_196 : ("SqlReader$Parser", 196, "SET", 47) ∈ strTab := List.mem_of_getElem? (i := 47) rfl
set_option maxRecDepth 100000 in
theorem sr_Parser_66 : ("SqlReader$Parser", 66, "DELETE", 48) ∈ strTab := List.mem_of_getElem? (i := 48) rfl
set_option maxRecDepth 100000 in
theorem sr_Parser_71 : ("SqlReader$Parser", 71, "EXECUTE", 49) ∈ strTab := List.mem_of_getElem? (i := 49) rfl
set_option maxRecDepth 100000 in
theorem sr_Parser_76 : ("SqlReader$Parser", 76, "CREATE", 50) ∈ strTab := List.mem_of_getElem? (i := 50) rfl
set_option maxRecDepth 100000 in
theorem sr_Parser_100 : ("SqlReader$Parser", 100, "TABLE", 51) ∈ strTab := List.mem_of_getElem? (i := 51) rfl
set_option maxRecDepth 100000 in
theorem sr_Parser_178 : ("SqlReader$Parser", 178, "INT", 52) ∈ strTab := List.mem_of_getElem? (i := 52) rfl
set_option maxRecDepth 100000 in
theorem sr_Parser_180 : ("SqlReader$Parser", 180, "TEXT", 53) ∈ strTab := List.mem_of_getElem? (i := 53) rfl
set_option maxRecDepth 100000 in
theorem sr_Parser_182 : ("SqlReader$Parser", 182, "BOOL", 54) ∈ strTab := List.mem_of_getElem? (i := 54) rfl
set_option maxRecDepth 100000 in
theorem sr_Parser_141 : ("SqlReader$Parser", 141, "UNIQUE", 55) ∈ strTab := List.mem_of_getElem? (i := 55) rfl
set_option maxRecDepth 100000 in
theorem sr_Parser_146 : ("SqlReader$Parser", 146, "INDEX", 56) ∈ strTab := List.mem_of_getElem? (i := 56) rfl
set_option maxRecDepth 100000 in
theorem sr_Parser_148 : ("SqlReader$Parser", 148, "ON", 57) ∈ strTab := List.mem_of_getElem? (i := 57) rfl
set_option maxRecDepth 100000 in
theorem sr_Parser_98 : ("SqlReader$Parser", 98, "DROP", 58) ∈ strTab := List.mem_of_getElem? (i := 58) rfl
set_option maxRecDepth 100000 in
theorem sr_Parser_105 : ("SqlReader$Parser", 105, "BEGIN", 59) ∈ strTab := List.mem_of_getElem? (i := 59) rfl
set_option maxRecDepth 100000 in
theorem sr_Parser_288 : ("SqlReader$Parser", 288, "READ", 60) ∈ strTab := List.mem_of_getElem? (i := 60) rfl
set_option maxRecDepth 100000 in
theorem sr_Parser_290 : ("SqlReader$Parser", 290, "COMMITTED", 61) ∈ strTab := List.mem_of_getElem? (i := 61) rfl
set_option maxRecDepth 100000 in
theorem sr_Parser_292 : ("SqlReader$Parser", 292, "REPEATABLE", 62) ∈ strTab := List.mem_of_getElem? (i := 62) rfl
set_option maxRecDepth 100000 in
theorem sr_Parser_294 : ("SqlReader$Parser", 294, "SERIALIZABLE", 63) ∈ strTab := List.mem_of_getElem? (i := 63) rfl
set_option maxRecDepth 100000 in
theorem sr_Parser_110 : ("SqlReader$Parser", 110, "COMMIT", 64) ∈ strTab := List.mem_of_getElem? (i := 64) rfl
set_option maxRecDepth 100000 in
theorem sr_Parser_112 : ("SqlReader$Parser", 112, "ROLLBACK", 65) ∈ strTab := List.mem_of_getElem? (i := 65) rfl
set_option maxRecDepth 100000 in
theorem sr_Parser_114 : ("SqlReader$Parser", 114, "TO", 66) ∈ strTab := List.mem_of_getElem? (i := 66) rfl
set_option maxRecDepth 100000 in
theorem sr_Parser_116 : ("SqlReader$Parser", 116, "SAVEPOINT", 67) ∈ strTab := List.mem_of_getElem? (i := 67) rfl
set_option maxRecDepth 100000 in
theorem sr_Parser_118 : ("SqlReader$Parser", 118, "RELEASE", 68) ∈ strTab := List.mem_of_getElem? (i := 68) rfl
set_option maxRecDepth 100000 in
theorem sr_Parser_120 : ("SqlReader$Parser", 120, "LOCK", 69) ∈ strTab := List.mem_of_getElem? (i := 69) rfl
set_option maxRecDepth 100000 in
theorem sr_Parser_296 : ("SqlReader$Parser", 296, "ACCESS", 70) ∈ strTab := List.mem_of_getElem? (i := 70) rfl
set_option maxRecDepth 100000 in
theorem sr_Parser_298 : ("SqlReader$Parser", 298, "EXCLUSIVE", 71) ∈ strTab := List.mem_of_getElem? (i := 71) rfl
set_option maxRecDepth 100000 in
theorem sr_Parser_300 : ("SqlReader$Parser", 300, "ROW", 72) ∈ strTab := List.mem_of_getElem? (i := 72) rfl
set_option maxRecDepth 100000 in
theorem sr_Parser_125 : ("SqlReader$Parser", 125, "VACUUM", 73) ∈ strTab := List.mem_of_getElem? (i := 73) rfl
set_option maxRecDepth 100000 in
theorem sr_Parser_127 : ("SqlReader$Parser", 127, "CHECKPOINT", 74) ∈ strTab := List.mem_of_getElem? (i := 74) rfl
set_option maxRecDepth 100000 in
theorem sr_Parser_84 : ("SqlReader$Parser", 84, ";", 75) ∈ strTab := List.mem_of_getElem? (i := 75) rfl
set_option maxRecDepth 100000 in
theorem sr_SqlReaderModel_525 : ("SqlReaderModel", 525, "INSERT", 76) ∈ strTab := List.mem_of_getElem? (i := 76) rfl
set_option maxRecDepth 100000 in
theorem sr_SqlReaderModel_466 : ("SqlReaderModel", 466, "INTO", 77) ∈ strTab := List.mem_of_getElem? (i := 77) rfl
set_option maxRecDepth 100000 in
theorem sr_SqlReaderModel_468 : ("SqlReaderModel", 468, "VALUES", 78) ∈ strTab := List.mem_of_getElem? (i := 78) rfl
set_option maxRecDepth 100000 in
theorem sr_SqlReaderModel_291 : ("SqlReaderModel", 291, "(", 79) ∈ strTab := List.mem_of_getElem? (i := 79) rfl
set_option maxRecDepth 100000 in
theorem sr_SqlReaderModel_387 : ("SqlReaderModel", 387, ",", 80) ∈ strTab := List.mem_of_getElem? (i := 80) rfl
set_option maxRecDepth 100000 in
theorem sr_SqlReaderModel_425 : ("SqlReaderModel", 425, ";", 81) ∈ strTab := List.mem_of_getElem? (i := 81) rfl
set_option maxRecDepth 100000 in
theorem sr_SqlReaderModel_427 : ("SqlReaderModel", 427, "FROM", 82) ∈ strTab := List.mem_of_getElem? (i := 82) rfl
set_option maxRecDepth 100000 in
theorem sr_SqlReaderModel_429 : ("SqlReaderModel", 429, "WHERE", 83) ∈ strTab := List.mem_of_getElem? (i := 83) rfl
set_option maxRecDepth 100000 in
theorem sr_SqlReaderModel_431 : ("SqlReaderModel", 431, "GROUP", 84) ∈ strTab := List.mem_of_getElem? (i := 84) rfl
set_option maxRecDepth 100000 in
theorem sr_SqlReaderModel_433 : ("SqlReaderModel", 433, "ORDER", 85) ∈ strTab := List.mem_of_getElem? (i := 85) rfl
set_option maxRecDepth 100000 in
theorem sr_SqlReaderModel_435 : ("SqlReaderModel", 435, "LIMIT", 86) ∈ strTab := List.mem_of_getElem? (i := 86) rfl
set_option maxRecDepth 100000 in
theorem sr_SqlReaderModel_437 : ("SqlReaderModel", 437, "FOR", 87) ∈ strTab := List.mem_of_getElem? (i := 87) rfl
set_option maxRecDepth 100000 in
theorem sr_SqlReaderModel_297 : ("SqlReaderModel", 297, ")", 88) ∈ strTab := List.mem_of_getElem? (i := 88) rfl
set_option maxRecDepth 100000 in
theorem sr_SqlReaderModel_350 : ("SqlReaderModel", 350, "NOT", 89) ∈ strTab := List.mem_of_getElem? (i := 89) rfl
set_option maxRecDepth 100000 in
theorem sr_SqlReaderModel_313 : ("SqlReaderModel", 313, "-", 90) ∈ strTab := List.mem_of_getElem? (i := 90) rfl
set_option maxRecDepth 100000 in
theorem sr_SqlReaderModel_352 : ("SqlReaderModel", 352, "=", 91) ∈ strTab := List.mem_of_getElem? (i := 91) rfl
set_option maxRecDepth 100000 in
theorem sr_SqlReaderModel_354 : ("SqlReaderModel", 354, "<>", 92) ∈ strTab := List.mem_of_getElem? (i := 92) rfl
set_option maxRecDepth 100000 in
theorem sr_SqlReaderModel_356 : ("SqlReaderModel", 356, "<", 93) ∈ strTab := List.mem_of_getElem? (i := 93) rfl
set_option maxRecDepth 100000 in
theorem sr_SqlReaderModel_358 : ("SqlReaderModel", 358, "<=", 94) ∈ strTab := List.mem_of_getElem? (i := 94) rfl
set_option maxRecDepth 100000 in
theorem sr_SqlReaderModel_360 : ("SqlReaderModel", 360, ">", 95) ∈ strTab := List.mem_of_getElem? (i := 95) rfl
set_option maxRecDepth 100000 in
theorem sr_SqlReaderModel_362 : ("SqlReaderModel", 362, ">=", 96) ∈ strTab := List.mem_of_getElem? (i := 96) rfl
set_option maxRecDepth 100000 in
theorem sr_SqlReaderModel_367 : ("SqlReaderModel", 367, "IS", 97) ∈ strTab := List.mem_of_getElem? (i := 97) rfl
set_option maxRecDepth 100000 in
theorem sr_SqlReaderModel_328 : ("SqlReaderModel", 328, "BETWEEN", 98) ∈ strTab := List.mem_of_getElem? (i := 98) rfl
set_option maxRecDepth 100000 in
theorem sr_SqlReaderModel_369 : ("SqlReaderModel", 369, "IN", 99) ∈ strTab := List.mem_of_getElem? (i := 99) rfl
set_option maxRecDepth 100000 in
theorem sr_SqlReaderModel_303 : ("SqlReaderModel", 303, "NULL", 100) ∈ strTab := List.mem_of_getElem? (i := 100) rfl
set_option maxRecDepth 100000 in
theorem sr_SqlReaderModel_307 : ("SqlReaderModel", 307, "AND", 101) ∈ strTab := List.mem_of_getElem? (i := 101) rfl
set_option maxRecDepth 100000 in
theorem sr_SqlReaderModel_389 : ("SqlReaderModel", 389, "COUNT", 102) ∈ strTab := List.mem_of_getElem? (i := 102) rfl
set_option maxRecDepth 100000 in
theorem sr_SqlReaderModel_391 : ("SqlReaderModel", 391, "SUM", 103) ∈ strTab := List.mem_of_getElem? (i := 103) rfl
set_option maxRecDepth 100000 in
theorem sr_SqlReaderModel_393 : ("SqlReaderModel", 393, "MIN", 104) ∈ strTab := List.mem_of_getElem? (i := 104) rfl
set_option maxRecDepth 100000 in
theorem sr_SqlReaderModel_395 : ("SqlReaderModel", 395, "MAX", 105) ∈ strTab := List.mem_of_getElem? (i := 105) rfl
set_option maxRecDepth 100000 in
theorem sr_SqlReaderModel_315 : ("SqlReaderModel", 315, "*", 106) ∈ strTab := List.mem_of_getElem? (i := 106) rfl
set_option maxRecDepth 100000 in
theorem sr_SqlReaderModel_407 : ("SqlReaderModel", 407, ".", 107) ∈ strTab := List.mem_of_getElem? (i := 107) rfl
set_option maxRecDepth 100000 in
theorem sr_SqlReaderModel_299 : ("SqlReaderModel", 299, "TRUE", 108) ∈ strTab := List.mem_of_getElem? (i := 108) rfl
set_option maxRecDepth 100000 in
theorem sr_SqlReaderModel_301 : ("SqlReaderModel", 301, "FALSE", 109) ∈ strTab := List.mem_of_getElem? (i := 109) rfl
set_option maxRecDepth 100000 in
theorem sr_SqlReaderModel_305 : ("SqlReaderModel", 305, "OR", 110) ∈ strTab := List.mem_of_getElem? (i := 110) rfl
set_option maxRecDepth 100000 in
theorem sr_SqlReaderModel_309 : ("SqlReaderModel", 309, "||", 111) ∈ strTab := List.mem_of_getElem? (i := 111) rfl
set_option maxRecDepth 100000 in
theorem sr_SqlReaderModel_311 : ("SqlReaderModel", 311, "+", 112) ∈ strTab := List.mem_of_getElem? (i := 112) rfl
set_option maxRecDepth 100000 in
theorem sr_SqlReaderModel_317 : ("SqlReaderModel", 317, "/", 113) ∈ strTab := List.mem_of_getElem? (i := 113) rfl
set_option maxRecDepth 100000 in
theorem sr_SqlReaderModel_319 : ("SqlReaderModel", 319, "%", 114) ∈ strTab := List.mem_of_getElem? (i := 114) rfl
set_option maxRecDepth 100000 in
theorem sr_SqlReaderModel_473 : ("SqlReaderModel", 473, "SELECT", 115) ∈ strTab := List.mem_of_getElem? (i := 115) rfl
set_option maxRecDepth 100000 in
theorem sr_SqlReaderModel_494 : ("SqlReaderModel", 494, "DISTINCT", 116) ∈ strTab := List.mem_of_getElem? (i := 116) rfl
set_option maxRecDepth 100000 in
theorem sr_SqlReaderModel_486 : ("SqlReaderModel", 486, "BY", 117) ∈ strTab := List.mem_of_getElem? (i := 117) rfl
set_option maxRecDepth 100000 in
theorem sr_SqlReaderModel_492 : ("SqlReaderModel", 492, "DESC", 118) ∈ strTab := List.mem_of_getElem? (i := 118) rfl
set_option maxRecDepth 100000 in
theorem sr_SqlReaderModel_507 : ("SqlReaderModel", 507, "UPDATE", 119) ∈ strTab := List.mem_of_getElem? (i := 119) rfl
set_option maxRecDepth 100000 in
theorem sr_SqlReaderModel_509 : ("SqlReaderModel", 509, "SHARE", 120) ∈ strTab := List.mem_of_getElem? (i := 120) rfl
set_option maxRecDepth 100000 in
theorem sr_SqlReaderModel_481 : ("SqlReaderModel", 481, "SET", 121) ∈ strTab := List.mem_of_getElem? (i := 121) rfl
set_option maxRecDepth 100000 in
theorem sr_SqlReaderModel_533 : ("SqlReaderModel", 533, "DELETE", 122) ∈ strTab := List.mem_of_getElem? (i := 122) rfl
set_option maxRecDepth 100000 in
theorem sr_SqlReaderModel_539 : ("SqlReaderModel", 539, "CREATE", 123) ∈ strTab := List.mem_of_getElem? (i := 123) rfl
set_option maxRecDepth 100000 in
theorem sr_SqlReaderModel_445 : ("SqlReaderModel", 445, "TABLE", 124) ∈ strTab := List.mem_of_getElem? (i := 124) rfl
set_option maxRecDepth 100000 in
theorem sr_SqlReaderModel_454 : ("SqlReaderModel", 454, "INT", 125) ∈ strTab := List.mem_of_getElem? (i := 125) rfl
set_option maxRecDepth 100000 in
theorem sr_SqlReaderModel_456 : ("SqlReaderModel", 456, "TEXT", 126) ∈ strTab := List.mem_of_getElem? (i := 126) rfl
set_option maxRecDepth 100000 in
theorem sr_SqlReaderModel_458 : ("SqlReaderModel", 458, "BOOL", 127) ∈ strTab := List.mem_of_getElem? (i := 127) rfl
set_option maxRecDepth 100000 in
theorem sr_SqlReaderModel_460 : ("SqlReaderModel", 460, "UNIQUE", 128) ∈ strTab := List.mem_of_getElem? (i := 128) rfl
set_option maxRecDepth 100000 in
theorem sr_SqlReaderModel_462 : ("SqlReaderModel", 462, "INDEX", 129) ∈ strTab := List.mem_of_getElem? (i := 129) rfl
set_option maxRecDepth 100000 in
theorem sr_SqlReaderModel_464 : ("SqlReaderModel", 464, "ON", 130) ∈ strTab := List.mem_of_getElem? (i := 130) rfl
set_option maxRecDepth 100000 in
theorem sr_SqlReaderModel_544 : ("SqlReaderModel", 544, "DROP", 131) ∈ strTab := List.mem_of_getElem? (i := 131) rfl
set_option maxRecDepth 100000 in
theorem sr_SqlReaderModel_546 : ("SqlReaderModel", 546, "BEGIN", 132) ∈ strTab := List.mem_of_getElem? (i := 132) rfl
set_option maxRecDepth 100000 in
theorem sr_SqlReaderModel_517 : ("SqlReaderModel", 517, "READ", 133) ∈ strTab := List.mem_of_getElem? (i := 133) rfl
set_option maxRecDepth 100000 in
theorem sr_SqlReaderModel_519 : ("SqlReaderModel", 519, "COMMITTED", 134) ∈ strTab := List.mem_of_getElem? (i := 134) rfl
set_option maxRecDepth 100000 in
theorem sr_SqlReaderModel_521 : ("SqlReaderModel", 521, "REPEATABLE", 135) ∈ strTab := List.mem_of_getElem? (i := 135) rfl
set_option maxRecDepth 100000 in
theorem sr_SqlReaderModel_523 : ("SqlReaderModel", 523, "SERIALIZABLE", 136) ∈ strTab := List.mem_of_getElem? (i := 136) rfl
set_option maxRecDepth 100000 in
theorem sr_SqlReaderModel_551 : ("SqlReaderModel", 551, "COMMIT", 137) ∈ strTab := List.mem_of_getElem? (i := 137) rfl
set_option maxRecDepth 100000 in
theorem sr_SqlReaderModel_553 : ("SqlReaderModel", 553, "ROLLBACK", 138) ∈ strTab := List.mem_of_getElem? (i := 138) rfl
set_option maxRecDepth 100000 in
theorem sr_SqlReaderModel_555 : ("SqlReaderModel", 555, "TO", 139) ∈ strTab := List.mem_of_getElem? (i := 139) rfl
set_option maxRecDepth 100000 in
theorem sr_SqlReaderModel_557 : ("SqlReaderModel", 557, "SAVEPOINT", 140) ∈ strTab := List.mem_of_getElem? (i := 140) rfl
set_option maxRecDepth 100000 in
theorem sr_SqlReaderModel_559 : ("SqlReaderModel", 559, "RELEASE", 141) ∈ strTab := List.mem_of_getElem? (i := 141) rfl
set_option maxRecDepth 100000 in
theorem sr_SqlReaderModel_561 : ("SqlReaderModel", 561, "LOCK", 142) ∈ strTab := List.mem_of_getElem? (i := 142) rfl
set_option maxRecDepth 100000 in
theorem sr_SqlReaderModel_511 : ("SqlReaderModel", 511, "ACCESS", 143) ∈ strTab := List.mem_of_getElem? (i := 143) rfl
set_option maxRecDepth 100000 in
theorem sr_SqlReaderModel_513 : ("SqlReaderModel", 513, "ROW", 144) ∈ strTab := List.mem_of_getElem? (i := 144) rfl
set_option maxRecDepth 100000 in
theorem sr_SqlReaderModel_515 : ("SqlReaderModel", 515, "EXCLUSIVE", 145) ∈ strTab := List.mem_of_getElem? (i := 145) rfl
set_option maxRecDepth 100000 in
theorem sr_SqlReaderModel_566 : ("SqlReaderModel", 566, "PREPARE", 146) ∈ strTab := List.mem_of_getElem? (i := 146) rfl
set_option maxRecDepth 100000 in
theorem sr_SqlReaderModel_568 : ("SqlReaderModel", 568, "AS", 147) ∈ strTab := List.mem_of_getElem? (i := 147) rfl
set_option maxRecDepth 100000 in
theorem sr_SqlReaderModel_573 : ("SqlReaderModel", 573, "EXECUTE", 148) ∈ strTab := List.mem_of_getElem? (i := 148) rfl
set_option maxRecDepth 100000 in
theorem sr_SqlReaderModel_578 : ("SqlReaderModel", 578, "VACUUM", 149) ∈ strTab := List.mem_of_getElem? (i := 149) rfl
set_option maxRecDepth 100000 in
theorem sr_SqlReaderModel_580 : ("SqlReaderModel", 580, "CHECKPOINT", 150) ∈ strTab := List.mem_of_getElem? (i := 150) rfl
