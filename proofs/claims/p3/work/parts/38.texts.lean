/-! THE CLAIM OUT OF ONE WALK OF THE LAW'S BODY. Your part is whole_start (and what it stands on); all else here is the same for every law, but numbers. -/
def R_law : String := "SqlReaderLaw"
def lw_P (b : Addr) (xs : List Int32) (args : Array Value) (s : State) : Prop := args = #[.ref b] ∧ s.IntsAt b xs ∧ xs.length ≤ 2048 ∧ (Jvm.Cond.and given_1 narrow_1).before args s = true
def lw_Q (_ : Array Value) (s : State) (o : Outcome) (t : State) : Prop := o = .returned (some (.int 1)) ∧ Framed s o t [] 600000 7302250
def lw_Z (below : List Frame) (a : Array Value) (s : State) : State → Prop := fun t => ∃ o, t.status = .running ∧ Ended t below o ∧ lw_Q a s o t
/-- the law's own end, with 1 on the stack, nothing written that was there before, its room as the claim has it -/
theorem lw_ret {p : Program} {l : Launch} {e : Env} {s : State} {m : MethodId} {below : List Frame} {meth : Method} {c : Code} {b : Nat} (hx : p.tables.exec = Jvm.exec) (hb : c.code = code) (hr : meth.sig.returnType = ret) (hlocks : meth.locks = false) {pc : Nat} {H : Heap} {ls : Array Slot} (hdg : decode code pc = .ok (.ireturn, 1)) : W p l e room_1 s m #[Value.ref b] below meth c H [] 600000 7302250 (lw_Z below #[Value.ref b] s) (F0 m pc ls [.int 1]) := by
  intro T hT X
  obtain ⟨fs, hret, hrun, hended, hW, hframe⟩ := X.leave (v := some (.int 1)) (hlocks := hlocks) (fun h => by rw [hr] at h; cases h)
  have hmeth' : T.vm.method? m = some meth := X.method'
  refine ⟨T.setFrames fs, ?_, .returned (some (.int 1)), hrun, hended, rfl, ⟨_, rfl⟩, hW, hframe⟩
  jvm_step X.here [X.here.top, hx, hb, hdg, hmeth', hr, ret, narrow_b1]
  (try refine ⟨rfl, ?_⟩); (try refine ⟨rfl, ?_⟩)
  first | (intro acts; rw [hret _ acts rfl rfl rfl]) | rw [hret _ _ rfl rfl rfl]
  exact Steps.refl _
/-- what holds at the law's entry: the machine, the code, the tables' words (any of lw_tbl by 'hts w (by decide +kernel)'), the script of L ints xs at the cell b, what the Statement gives of the start (any of its parts by flat_of_before) -/
def lw_At (p : Program) (s : State) (m : MethodId) (meth : Method) (c : Code) (b L : Nat) (xs : Nat → Int32) : Prop :=
  p.tables.exec = Jvm.exec ∧ c.code = code ∧ meth.sig.returnType = ret ∧ c.maxLocals = 4 ∧ s.vm.findClass R_law = some m.cls ∧ (∀ w ∈ lw_tbl, w.before #[Value.ref b] s = true) ∧ va_X b L xs s s.heap ∧ b < s.heap.size ∧ meth.locks = false ∧ (Jvm.Cond.and given_1 narrow_1).before #[Value.ref b] s = true
def PR : List Cond := flatC (Jvm.Cond.and given_1 narrow_1)
theorem pr {w : Cond} (i : Nat) (h : PR[i]? = some w) : w ∈ PR := List.mem_of_getElem? h
theorem lt_ {w : Cond} (i : Nat) (h : tables_1[i]? = some w) : w ∈ lw_tbl := List.mem_append_right _ (List.mem_of_getElem? h)
/-- what the premises say of a text of the class files -/
def SX (own : String) (k : Nat) (tx : String) (byt : List Int32) (A : Nat → Prop) (s : State) (q : Nat × Nat) : Prop := vk_R own k tx q.1 s ∧ va_O "java/lang/String" q.1 A s s.heap ∧ va_OF "java/lang/String" "coder" "B" (.int 0) q.1 A s s.heap ∧ va_OF "java/lang/String" "value" "[B" (.ref q.2) q.1 A s s.heap ∧ va_T .byte q.2 byt.length (fun j => .int (byt.getD j 0)) A s s.heap
theorem SX_of {args : Array Value} {s : State} {own tx : String} {k : Nat} {byt : List Int32} {A : Nat → Prop} (h0 : (Cond.stringRef own k tx).before args s = true) (hex : (Cond.exactly (.string own k) "java/lang/String").before args s = true) (hco : (Cond.eq (.field (.string own k) "java/lang/String" "coder" "B") (.int 0)).before args s = true) (har : (Cond.arrayOf (.field (.string own k) "java/lang/String" "value" "[B") .byte).before args s = true) (hle : (Cond.eq (.length (.field (.string own k) "java/lang/String" "value" "[B")) (.int (Int32.ofNat byt.length))).before args s = true) (hel : ∀ j : Nat, j < byt.length → (Cond.eq (.elem (.field (.string own k) "java/lang/String" "value" "[B") (.int (Int32.ofNat j))) (.int (byt.getD j 0))).before args s = true) (hN : byt.length < 2 ^ 31) (hA : ∀ a : Nat, a < s.heap.size → ¬ A a) : ∃ q, SX own k tx byt A s q := by
  obtain ⟨a, c, cA, kA, q1, q2, q3, q4, q5, q6, -⟩ := Cond.exactly_spec (args := args) (first := s) (o := none) (s := s) (idx := []) (t := .string own k) (cls := "java/lang/String") hex
  obtain ⟨t, ht, hT⟩ := va_Tof (f := fun j => .int (byt.getD j 0)) (A := A) hN har (va_eqt hle) (fun j hj => va_eqt (hel j hj)) hA
  exact ⟨(a, t), vk_R.of h0 q1, ⟨cA, q3, q5, by rw [q6]; exact q2, hA a (Array.getElem?_eq_some_iff.mp q3).1⟩, vk_OFof q1 (va_eqt hco) hA, vk_OFof q1 ht hA, hT⟩
section Start
variable {args : Array Value} {s : State} {A : Nat → Prop}
def ixS : List (Nat × Nat) := [(461, 107), (552, 124), (589, 135), (594, 141), (599, 151), (600, 163), (613, 168), (630, 175), (631, 180), (632, 185), (637, 190), (638, 199), (639, 206), (640, 213), (655, 220), (656, 228), (657, 236), (662, 245), (671, 250), (672, 256), (673, 263), (674, 269), (675, 280), (680, 286), (681, 291), (682, 297), (683, 302), (684, 308), (685, 313), (686, 319), (687, 324), (688, 329), (689, 334), (723, 340), (736, 345), (745, 353), (750, 362), (751, 371), (760, 377), (766, 386), (771, 394), (780, 403), (781, 410), (782, 419), (787, 429), (788, 439), (797, 447), (806, 457), (815, 464), (820, 474), (825, 485), (830, 495), (843, 504), (844, 511), (845, 519), (846, 527), (847, 537), (848, 546), (853, 552), (854, 560), (859, 569), (860, 577), (861, 590), (862, 604), (863, 620), (864, 630), (865, 642), (866, 648), (867, 661), (868, 672), (873, 680), (874, 690), (875, 703), (880, 710), (881, 720), (886, 734), (1451, 739), (1466, 750), (1479, 759), (1484, 770), (1493, 776), (1494, 782), (1495, 788), (1496, 797), (1497, 807), (1498, 817), (1499, 827), (1500, 837), (1501, 845), (1512, 851), (1513, 859), (1533, 865), (1534, 871), (1535, 878), (1536, 884), (1537, 891), (1538, 897), (1539, 904), (1540, 911), (1541, 923), (1542, 930), (1543, 939), (1567, 947), (1568, 957), (1569, 965), (1570, 973), (1571, 981), (1572, 987), (1581, 993), (1582, 1002), (1600, 1012), (1601, 1019), (1602, 1026), (1603, 1032), (1604, 1038), (1605, 1044), (1610, 1055), (1627, 1068), (1636, 1075), (1638, 1084), (1639, 1095), (1644, 1105), (1645, 1113), (1650, 1124), (1655, 1135), (1656, 1145), (1657, 1153), (1658, 1162), (1659, 1171), (1660, 1182), (1661, 1192), (1662, 1199), (1663, 1208), (1668, 1218), (1669, 1227), (1670, 1241), (1671, 1256), (1672, 1273), (1673, 1284), (1674, 1297), (1679, 1304), (1680, 1318), (1681, 1330), (1686, 1339), (1687, 1350), (1688, 1358), (1689, 1372), (1690, 1384), (1691, 1391), (1696, 1403), (1697, 1414)]
def sxL (own : String) (k : Nat) (byt : List Int32) : List Cond := Cond.exactly (.string own k) "java/lang/String" :: Cond.eq (.field (.string own k) "java/lang/String" "coder" "B") (.int 0) :: Cond.arrayOf (.field (.string own k) "java/lang/String" "value" "[B") .byte :: Cond.eq (.length (.field (.string own k) "java/lang/String" "value" "[B")) (.int (Int32.ofNat byt.length)) :: (List.range byt.length).map (fun z => Cond.eq (.elem (.field (.string own k) "java/lang/String" "value" "[B") (.int (Int32.ofNat z))) (.int (byt.getD z 0)))
theorem mem_zipL {α β : Type} : ∀ {l : List α} {r : List β}, l.length ≤ r.length → ∀ {a : α}, a ∈ l → ∃ b, (a, b) ∈ l.zip r
  | [], _, _, _, h => absurd h List.not_mem_nil
  | _ :: _, [], hl, _, _ => absurd hl (by simp)
  | x :: l, y :: r, hl, a, h => by
    rcases List.mem_cons.mp h with e | h'
    · exact ⟨y, by rw [e]; exact List.mem_cons_self⟩
    · obtain ⟨b, hb⟩ := mem_zipL (Nat.le_of_succ_le_succ hl) h'
      exact ⟨b, List.mem_cons_of_mem _ hb⟩
theorem sx_len : (strTab.zip bytS).length ≤ ixS.length := by decide +kernel
theorem sx_ck : ((strTab.zip bytS).zip ixS).all (fun p => decide (tables_1[p.2.1]? = some (Cond.stringRef p.1.1.1 p.1.1.2.1 p.1.1.2.2.1)) && (decide ((PR.drop p.2.2).take (4 + p.1.2.length) = sxL p.1.1.1 p.1.1.2.1 p.1.2) && decide (p.1.2.length < 1000))) = true := by decide +kernel
theorem sx_all (hP : ∀ w ∈ PR, w.before args s = true) (hT : ∀ w ∈ lw_tbl, w.before args s = true) (hA : ∀ a : Nat, a < s.heap.size → ¬ A a) : ∀ p ∈ strTab.zip bytS, ∃ q, SX p.1.1 p.1.2.1 p.1.2.2.1 p.2 A s q := by
  intro p hp
  obtain ⟨i, hi⟩ := mem_zipL sx_len hp
  have h := List.all_eq_true.mp sx_ck _ hi
  rw [Bool.and_eq_true, Bool.and_eq_true, decide_eq_true_eq, decide_eq_true_eq, decide_eq_true_eq] at h
  obtain ⟨h1, h2, h3⟩ := h
  have h4 : p.2.length < 1000 := h3
  have hm : ∀ w ∈ sxL p.1.1 p.1.2.1 p.2, w.before args s = true := fun w hw => hP w (List.mem_of_mem_drop (List.mem_of_mem_take (by rw [h2]; exact hw)))
  have c4 : ∀ z : Nat, z < p.2.length → Cond.eq (.elem (.field (.string p.1.1 p.1.2.1) "java/lang/String" "value" "[B") (.int (Int32.ofNat z))) (.int (p.2.getD z 0)) ∈ sxL p.1.1 p.1.2.1 p.2 := fun z hz => List.mem_cons_of_mem _ (List.mem_cons_of_mem _ (List.mem_cons_of_mem _ (List.mem_cons_of_mem _ (List.mem_map.mpr ⟨z, List.mem_range.mpr hz, rfl⟩))))
  exact SX_of (hT _ (lt_ i.1 h1)) (hm _ List.mem_cons_self) (hm _ (List.mem_cons_of_mem _ List.mem_cons_self)) (hm _ (List.mem_cons_of_mem _ (List.mem_cons_of_mem _ List.mem_cons_self))) (hm _ (List.mem_cons_of_mem _ (List.mem_cons_of_mem _ (List.mem_cons_of_mem _ List.mem_cons_self)))) (fun z hz => hm _ (c4 z hz)) (by omega) hA
theorem sx_ix : (List.range nS).all (fun k => decide ((strTab.getD k ("", 0, "", 0), bytS.getD k []) ∈ strTab.zip bytS)) = true := by decide +kernel
theorem st_ix : strTab.all (fun q => decide (q.2.2.2 < nS ∧ strTab.getD q.2.2.2 ("", 0, "", 0) = q)) = true := by decide +kernel
theorem sx_fun (hP : ∀ w ∈ PR, w.before args s = true) (hT : ∀ w ∈ lw_tbl, w.before args s = true) (hA : ∀ a : Nat, a < s.heap.size → ¬ A a) : ∃ ad : Nat → Nat × Nat, ∀ k, k < nS → SX (strTab.getD k ("", 0, "", 0)).1 (strTab.getD k ("", 0, "", 0)).2.1 (strTab.getD k ("", 0, "", 0)).2.2.1 (bytS.getD k []) A s (ad k) := by
  have h : ∀ k : Nat, ∃ q : Nat × Nat, k < nS → SX (strTab.getD k ("", 0, "", 0)).1 (strTab.getD k ("", 0, "", 0)).2.1 (strTab.getD k ("", 0, "", 0)).2.2.1 (bytS.getD k []) A s q := by
    intro k
    by_cases hk : k < nS
    · obtain ⟨q, hq⟩ := sx_all hP hT hA _ (of_decide_eq_true (List.all_eq_true.mp sx_ix k (List.mem_range.mpr hk)))
      exact ⟨q, fun _ => hq⟩
    · exact ⟨(0, 0), fun z => absurd z hk⟩
  exact Classical.axiomOfChoice h
end Start
