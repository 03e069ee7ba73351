def nestTab : List (String × Nat × MethodName × String) := [("SqlReader", 9, y_Text_init, "SqlReader"), ("SqlReader", 18, y_Catalog_init, "SqlReader"), ("SqlReader$Catalog", 11, y_Text_init, "SqlReader"), ("SqlReader", 25, y_Tokens_init, "SqlReader"), ("SqlReader$Tokens", 9, y_Text_init, "SqlReader"), ("SqlReader", 32, y_Nodes_init, "SqlReader"), ("SqlReader", 39, y_Lists_init, "SqlReader")]
theorem ns_SqlReader_9 : ("SqlReader", 9, y_Text_init, "SqlReader") ∈ nestTab := List.mem_of_getElem? (i := 0) rfl
theorem ns_SqlReader_18 : ("SqlReader", 18, y_Catalog_init, "SqlReader") ∈ nestTab := List.mem_of_getElem? (i := 1) rfl
theorem ns_Catalog_11 : ("SqlReader$Catalog", 11, y_Text_init, "SqlReader") ∈ nestTab := List.mem_of_getElem? (i := 2) rfl
theorem ns_SqlReader_25 : ("SqlReader", 25, y_Tokens_init, "SqlReader") ∈ nestTab := List.mem_of_getElem? (i := 3) rfl
theorem ns_Tokens_9 : ("SqlReader$Tokens", 9, y_Text_init, "SqlReader") ∈ nestTab := List.mem_of_getElem? (i := 4) rfl
theorem ns_SqlReader_32 : ("SqlReader", 32, y_Nodes_init, "SqlReader") ∈ nestTab := List.mem_of_getElem? (i := 5) rfl
theorem ns_SqlReader_39 : ("SqlReader", 39, y_Lists_init, "SqlReader") ∈ nestTab := List.mem_of_getElem? (i := 6) rfl
def exN (G : Gx) (A : Nat → Prop) (U : State) (H : Heap) : Prop := exW G A U H ∧ ∀ q ∈ nestTab, va_Nw (.methodLinkNest q.1 q.2.1 q.2.2.1 q.2.2.2) U
theorem exNOk {G : Gx} : ExtOk (exN G) := ⟨fun A U V H hv h => ⟨exOk.1 A U V H hv h.1, fun q hq => va_Nw.same rfl hv.symm (h.2 q hq)⟩, fun A B s U H hW hAB hk h => ⟨exOk.2 A B s U H hW hAB hk h.1, fun q hq => va_Nw.warmM hW (h.2 q hq)⟩⟩
theorem Aw_eq {wc : va_W} {sz : Nat} : Aw (wc.map Prod.fst) sz = va_A wc sz := by
  funext q
  apply propext
  constructor
  · rintro (h | h)
    · obtain ⟨p, hp, e⟩ := List.mem_map.mp h
      obtain ⟨i, hi⟩ := List.getElem?_of_mem hp
      exact Or.inl ⟨i, p.2, by rw [hi, ← e]⟩
    · exact Or.inr h
  · rintro (⟨k, e, h⟩ | h)
    · exact Or.inl (List.mem_map.mpr ⟨(q, e), List.mem_of_getElem? h, rfl⟩)
    · exact Or.inr h
section NmC
variable {X : Cx} {cc : ByteArray} {own : String} {nL : Nat} {tys : List (ClassId × FieldType)} {as : List Nat} {rm : Room} {ext : (Nat → Prop) → State → Heap → Prop} {α : Type} {res : α} {mv : Option α} {ws : va_W} {pc idx : Nat} {lv : List (Nat × Value)} {st st0 As : List Value} {wc wr : va_W} {mc ms k n na maxL b : Nat} {post : va_W → Prop} {y : MethodName} {bytes : ByteArray} {rm' : Room}
theorem goodC {cd : Cond} (h : cd ∈ ALL) : GoodIn ALL (cd :: ALL) := fun w hw => by
  rcases List.mem_cons.mp hw with rfl | h1
  · exact aw h
  · exact aw h1
theorem nc_blind {D : va_G} {av : List Value} {sz : Nat} (hE : ExtOk ext) : FrameBlind (va_Pc av (fun U => U.heap.size = sz ∧ va_P D vwCl wc U.heap ∧ va_K D vwCl tys U ∧ va_D (fun _ => True) wc ∧ ext (Aw (wc.map Prod.fst) sz) U U.heap)) := by
  intro a U g mk q
  obtain ⟨q0, q1, qP, qK, qD, qX⟩ := q
  exact ⟨q0, q1, qP, va_K.moved (u := U) (U := U.calling g mk a) (Vm.Alike.refl U.vm) qK, qD, hE.1 _ U (U.calling g mk a) _ rfl qX⟩
theorem nc_core {a0 b0 : Nat} (E : En (xu X a0 b0) vwCl ALL cc own nL tys as rm ext) (hE : ExtOk ext) (hC : CtN X.2.1 (xD X) vwCl ALL tys ext y (.code y bytes maxL none) rm' (.ref b :: As) wc mc ms post) (isC isR : List Nat) (hCs : isC.map (fun i => ws[i]?) = wc.map some) (hCf : isC.filterMap (fun i => ws[i]?) = wc) (hndC : va_nd isC = true) (hRs : isR.map (fun i => ws[i]?) = wr.map some) (hnd : va_nd isR = true) (hdis : ∀ i ∈ isR, i ∉ isC)
    (hrun : ∀ (H : Heap) (locs : List Loc) (ls : Array Slot), lv_has ls nL lv → PreS (xs X) H (va_Pc (.ref b :: As) (fun U => U.heap.size = H.size ∧ va_P (xD X) vwCl wc U.heap ∧ va_K (xD X) vwCl tys U ∧ va_D (fun _ => True) wc ∧ ext (Aw (wc.map Prod.fst) H.size) U U.heap)) (.ref b :: As) → va_Run X.1 X.2.1 X.2.2.1 (xR X) (xs X) (xm X) (xargs X) X.2.2.2.2.2.2.2.1 (xmeth X) (xc X) H locs a0 b0 mc ms (F0 (xm X) pc ls st0) st (va_Qv post (fun ws t => va_P (xD X) vwCl ws t.heap ∧ va_K (xD X) vwCl tys t ∧ va_D (Aw (wc.map Prod.fst) H.size) ws) (Aw (wc.map Prod.fst) H.size) (Value.ref b :: As).toArray) (Aw (wc.map Prod.fst) H.size))
    (ek : a0 + mc = k) (en : b0 + ms = n) (hk : k ≤ rm.cells) (hn : n ≤ rm.slots) (kk : ∀ w1 : va_W, post w1 → En (xu X k n) vwCl ALL cc own nL tys as rm ext → Sm (xu X k n) vwCl idW nL res mv (wr ++ w1) (pc + 3) lv st) : Sm (xu X a0 b0) vwCl idW nL res mv ws pc lv st0 := by
  subst ek; subst en
  intro hm H locs ls hP hD hS hl
  have hFc : ∀ q, Aw (wc.map Prod.fst) H.size q → xA X q := by
    rw [Aw_eq]
    exact va_free hD hS (En_A E) isC hCs
  have hPc : va_P (xD X) vwCl wc H := va_P.sub hP isC hCf
  have hDc : va_D (xA X) wc := va_D.sub hD isC hndC hCs
  refine va_callv (hrun H locs ls hl ⟨nc_blind hE, fun U hU hW => ⟨rfl, by rw [hU], by rw [hU]; exact hPc, va_K.moved hW.alike E.2.2.2.2.1, hDc.weaken (fun _ _ _ _ => trivial), ?_⟩⟩) hS (fun q _ h => hFc q h) hFc (fun w1 t H1 locs1 ht hvm hw1 hB hz1 hk1 hS1 => ?_)
  · rw [hU]
    exact hE.2 _ _ _ _ _ hW hFc hS.2.1 E.2.2.2.2.2.2.2.2.2
  · obtain ⟨hP1, hK1, hD1⟩ := hB
    rw [ht] at hP1
    rw [Aw_eq] at hD1 hk1 hFc
    obtain ⟨hP2, hD2⟩ := va_join hP hD isC isR hCs hRs hnd hdis hk1 hFc hP1 hD1
    exact kk w1 hw1 (En_up (X := xu X _ _) E hk hn) hm H1 locs1 ls hP2 hD2 hS1 hl
theorem Nm_callI {a0 b0 : Nat} (E : En (xu X a0 b0) vwCl ALL cc own nL tys as rm ext) (hE : ExtOk ext) (hC : CtN X.2.1 (xD X) vwCl ALL tys ext y (.code y bytes maxL none) rm' (.ref b :: As) wc mc ms post) (isC isR : List Nat) (hCs : isC.map (fun i => ws[i]?) = wc.map some) (hCf : isC.filterMap (fun i => ws[i]?) = wc) (hndC : va_nd isC = true) (hRs : isR.map (fun i => ws[i]?) = wr.map some) (hnd : va_nd isR = true) (hdis : ∀ i ∈ isR, i ∉ isC) (hcd : Cond.code y bytes maxL none ∈ ALL) (hini : Cond.initialized y.cls ∈ ALL) (hl : Cond.methodLink own idx y ∈ ALL) (hi : Cond.instanceMethod y ∈ ALL) (hy1 : y.name = "<init>") (hd : y.cls ≠ "java/lang/invoke/MethodHandle" ∧ y.cls ≠ "java/lang/invoke/VarHandle" ∧ (parseMethodDescriptor y.desc).map (fun d => d.parameters.length) = some na) (hna : As.length = na) (hrm : rm'.cells = mc ∧ rm'.slots = ms) (hR : rm'.frames + 1 ≤ rm.frames ∧ 8 + (maxL + 11) + rm'.locals ≤ rm.locals) (hst : st0 = As.reverse ++ .ref b :: st) (h8 : (st.map fun v => v.category).sum ≤ 8) (hdg : decode cc pc = .ok (.invokespecial idx, 3))
    (ek : a0 + mc = k) (en : b0 + ms = n) (hk : k ≤ rm.cells) (hn : n ≤ rm.slots) (kk : ∀ w1 : va_W, post w1 → En (xu X k n) vwCl ALL cc own nL tys as rm ext → Sm (xu X k n) vwCl idW nL res mv (wr ++ w1) (pc + 3) lv st) : Sm (xu X a0 b0) vwCl idW nL res mv ws pc lv st0 := by
  subst hst
  exact nc_core E hE hC isC isR hCs hCf hndC hRs hnd hdis (fun H locs ls hlv hp => va_runI (As := As) (rest := st) ⟨E.1, E.2.1, E.2.2.2.2.2.1, E.2.2.2.1, E.2.2.1⟩ (hC H.size) (cwI na E.2.2.1 (goodC hcd) rfl hrm.1 hrm.2 (E.2.2.1 _ hini) (E.2.2.1 _ hl) (E.2.2.1 _ hi) hy1 hd (by have h := E.2.2.2.2.2.2.2.1; change xR X = rm at h; rw [h]; exact hR)) hp rfl hna hlv.1 rfl (lv_room h8) hdg (by have h := E.2.2.2.2.2.2.2.1; change xR X = rm at h; rw [h, ek, en]; exact ⟨hk, hn⟩)) ek en hk hn kk
theorem Nm_callIN {host : String} {a0 b0 : Nat} (E : En (xu X a0 b0) vwCl ALL cc own nL tys as rm ext) (hE : ExtOk ext) (hC : CtN X.2.1 (xD X) vwCl ALL tys ext y (.code y bytes maxL none) rm' (.ref b :: As) wc mc ms post) (isC isR : List Nat) (hCs : isC.map (fun i => ws[i]?) = wc.map some) (hCf : isC.filterMap (fun i => ws[i]?) = wc) (hndC : va_nd isC = true) (hRs : isR.map (fun i => ws[i]?) = wr.map some) (hnd : va_nd isR = true) (hdis : ∀ i ∈ isR, i ∉ isC) (hcd : Cond.code y bytes maxL none ∈ ALL) (hini : Cond.initialized y.cls ∈ ALL) (hl : va_Nw (.methodLinkNest own idx y host) (xs X)) (hi : Cond.instanceMethod y ∈ ALL) (hy1 : y.name = "<init>") (hd : y.cls ≠ "java/lang/invoke/MethodHandle" ∧ y.cls ≠ "java/lang/invoke/VarHandle" ∧ (parseMethodDescriptor y.desc).map (fun d => d.parameters.length) = some na) (hna : As.length = na) (hrm : rm'.cells = mc ∧ rm'.slots = ms) (hR : rm'.frames + 1 ≤ rm.frames ∧ 8 + (maxL + 11) + rm'.locals ≤ rm.locals) (hst : st0 = As.reverse ++ .ref b :: st) (h8 : (st.map fun v => v.category).sum ≤ 8) (hdg : decode cc pc = .ok (.invokespecial idx, 3))
    (ek : a0 + mc = k) (en : b0 + ms = n) (hk : k ≤ rm.cells) (hn : n ≤ rm.slots) (kk : ∀ w1 : va_W, post w1 → En (xu X k n) vwCl ALL cc own nL tys as rm ext → Sm (xu X k n) vwCl idW nL res mv (wr ++ w1) (pc + 3) lv st) : Sm (xu X a0 b0) vwCl idW nL res mv ws pc lv st0 := by
  subst hst
  exact nc_core E hE hC isC isR hCs hCf hndC hRs hnd hdis (fun H locs ls hlv hp => va_runIN (As := As) (rest := st) ⟨E.1, E.2.1, E.2.2.2.2.2.1, E.2.2.2.1, E.2.2.1⟩ (hC H.size) ⟨va_cnB na E.2.2.1 (goodC hcd) rfl hrm.1 hrm.2 hl (E.2.2.1 _ hini) hd (by have h := E.2.2.2.2.2.2.2.1; change xR X = rm at h; rw [h]; exact hR), hy1, E.2.2.1 _ hi⟩ hp rfl hna hlv.1 rfl (lv_room h8) hdg (by have h := E.2.2.2.2.2.2.2.1; change xR X = rm at h; rw [h, ek, en]; exact ⟨hk, hn⟩)) ek en hk hn kk
end NmC
section NmW
variable {X : Cx} {cl : List vw_C} {Ts : List Cond} {cc : ByteArray} {own : String} {nL : Nat} {tys : List (ClassId × FieldType)} {as : List Nat} {rm : Room} {G : Gx} {σ α : Type} {w : σ → va_W} {u : σ} {res : α} {mv : Option α} {ws ws' : va_W} {pc idx : Nat} {lv : List (Nat × Value)} {st : List Value}
theorem Nm_ws (h : ws = ws') (k : Sm X cl idW nL res mv ws' pc lv st) : Sm X cl idW nL res mv ws pc lv st := h ▸ k
theorem Nm_toW (h : w u = ws) (k : Sm X cl w nL res mv u pc lv st) : Sm X cl idW nL res mv ws pc lv st := by subst h; exact k
theorem Nm_ofW (h : w u = ws) (k : Sm X cl idW nL res mv ws pc lv st) : Sm X cl w nL res mv u pc lv st := by subst h; exact k
theorem ex_ofN (E : En X cl Ts cc own nL tys as rm (exN G)) : exN G (xA X) (xs X) (xs X).heap := E.2.2.2.2.2.2.2.2.2
theorem En_exW (E : En X cl Ts cc own nL tys as rm (exN G)) : En X cl Ts cc own nL tys as rm (exW G) := ⟨E.1, E.2.1, E.2.2.1, E.2.2.2.1, E.2.2.2.2.1, E.2.2.2.2.2.1, E.2.2.2.2.2.2.1, E.2.2.2.2.2.2.2.1, E.2.2.2.2.2.2.2.2.1, (ex_ofN E).1⟩
end NmW
def zSt : St := (fun _ => 0, fun _ _ => 0, fun _ => 0, fun _ _ => 0)

set_option maxRecDepth 100000 in
theorem cl_SqlReaderLaw_7 : Cond.classLink "SqlReaderLaw" 7 "SqlReader" ∈ ALL := tw 19 rfl rfl
set_option maxRecDepth 100000 in
theorem it_SqlReader : Cond.instantiable "SqlReader" 8 ∈ ALL := tw 20 rfl rfl
set_option maxRecDepth 100000 in
theorem nl_SqlReaderLaw_9 : Cond.methodLink "SqlReaderLaw" 9 y_SqlReader_init ∈ ALL := tw 21 rfl rfl
set_option maxRecDepth 100000 in
theorem im_SqlReader_init : Cond.instanceMethod y_SqlReader_init ∈ ALL := tw 22 rfl rfl
set_option maxRecDepth 100000 in
theorem nl_SqlReader_1 : Cond.methodLink "SqlReader" 1 Lib.objectInit ∈ ALL := tw 24 rfl rfl
set_option maxRecDepth 100000 in
theorem im_Object_init : Cond.instanceMethod Lib.objectInit ∈ ALL := tw 25 rfl rfl
set_option maxRecDepth 100000 in
theorem cl_SqlReader_7 : Cond.classLink "SqlReader" 7 "SqlReader$Text" ∈ ALL := tw 27 rfl rfl
set_option maxRecDepth 100000 in
theorem it_Text : Cond.instantiable "SqlReader$Text" 2 ∈ ALL := tw 28 rfl rfl
set_option maxRecDepth 100000 in
theorem im_Text_init : Cond.instanceMethod y_Text_init ∈ ALL := tw 30 rfl rfl
set_option maxRecDepth 100000 in
theorem nl_Text_1 : Cond.methodLink "SqlReader$Text" 1 Lib.objectInit ∈ ALL := tw 32 rfl rfl
set_option maxRecDepth 100000 in
theorem ac_byte : Cond.arrayClass .byte ∈ ALL := tw 40 rfl rfl
set_option maxRecDepth 100000 in
theorem cl_SqlReader_16 : Cond.classLink "SqlReader" 16 "SqlReader$Catalog" ∈ ALL := tw 41 rfl rfl
set_option maxRecDepth 100000 in
theorem it_Catalog : Cond.instantiable "SqlReader$Catalog" 6 ∈ ALL := tw 42 rfl rfl
set_option maxRecDepth 100000 in
theorem im_Catalog_init : Cond.instanceMethod y_Catalog_init ∈ ALL := tw 44 rfl rfl
set_option maxRecDepth 100000 in
theorem nl_Catalog_3 : Cond.methodLink "SqlReader$Catalog" 3 Lib.objectInit ∈ ALL := tw 46 rfl rfl
set_option maxRecDepth 100000 in
theorem cl_Catalog_9 : Cond.classLink "SqlReader$Catalog" 9 "SqlReader$Text" ∈ ALL := tw 47 rfl rfl
set_option maxRecDepth 100000 in
theorem ac_int : Cond.arrayClass .int ∈ ALL := tw 68 rfl rfl
set_option maxRecDepth 100000 in
theorem cl_SqlReader_23 : Cond.classLink "SqlReader" 23 "SqlReader$Tokens" ∈ ALL := tw 69 rfl rfl
set_option maxRecDepth 100000 in
theorem it_Tokens : Cond.instantiable "SqlReader$Tokens" 4 ∈ ALL := tw 70 rfl rfl
set_option maxRecDepth 100000 in
theorem im_Tokens_init : Cond.instanceMethod y_Tokens_init ∈ ALL := tw 72 rfl rfl
set_option maxRecDepth 100000 in
theorem nl_Tokens_1 : Cond.methodLink "SqlReader$Tokens" 1 Lib.objectInit ∈ ALL := tw 74 rfl rfl
set_option maxRecDepth 100000 in
theorem cl_Tokens_7 : Cond.classLink "SqlReader$Tokens" 7 "SqlReader$Text" ∈ ALL := tw 75 rfl rfl
set_option maxRecDepth 100000 in
theorem cl_SqlReader_30 : Cond.classLink "SqlReader" 30 "SqlReader$Nodes" ∈ ALL := tw 90 rfl rfl
set_option maxRecDepth 100000 in
theorem it_Nodes : Cond.instantiable "SqlReader$Nodes" 11 ∈ ALL := tw 91 rfl rfl
set_option maxRecDepth 100000 in
theorem im_Nodes_init : Cond.instanceMethod y_Nodes_init ∈ ALL := tw 93 rfl rfl
set_option maxRecDepth 100000 in
theorem nl_Nodes_3 : Cond.methodLink "SqlReader$Nodes" 3 Lib.objectInit ∈ ALL := tw 95 rfl rfl
set_option maxRecDepth 100000 in
theorem cl_SqlReader_37 : Cond.classLink "SqlReader" 37 "SqlReader$Lists" ∈ ALL := tw 130 rfl rfl
set_option maxRecDepth 100000 in
theorem it_Lists : Cond.instantiable "SqlReader$Lists" 3 ∈ ALL := tw 131 rfl rfl
set_option maxRecDepth 100000 in
theorem im_Lists_init : Cond.instanceMethod y_Lists_init ∈ ALL := tw 133 rfl rfl
set_option maxRecDepth 100000 in
theorem nl_Lists_1 : Cond.methodLink "SqlReader$Lists" 1 Lib.objectInit ∈ ALL := tw 135 rfl rfl
set_option maxRecDepth 100000 in
theorem cl_SqlReader_44 : Cond.classLink "SqlReader" 44 "SqlReader$Statement" ∈ ALL := tw 146 rfl rfl
set_option maxRecDepth 100000 in
theorem it_Statement : Cond.instantiable "SqlReader$Statement" 13 ∈ ALL := tw 147 rfl rfl
set_option maxRecDepth 100000 in
theorem nl_SqlReader_46 : Cond.methodLink "SqlReader" 46 y_Statement_init ∈ ALL := tw 148 rfl rfl
set_option maxRecDepth 100000 in
theorem im_Statement_init : Cond.instanceMethod y_Statement_init ∈ ALL := tw 149 rfl rfl
set_option maxRecDepth 100000 in
theorem nl_Statement_1 : Cond.methodLink "SqlReader$Statement" 1 Lib.objectInit ∈ ALL := tw 151 rfl rfl
set_option maxRecDepth 100000 in
theorem cl_SqlReader_51 : Cond.classLink "SqlReader" 51 "SqlReader$Parser" ∈ ALL := tw 227 rfl rfl
set_option maxRecDepth 100000 in
theorem it_Parser : Cond.instantiable "SqlReader$Parser" 6 ∈ ALL := tw 228 rfl rfl
set_option maxRecDepth 100000 in
theorem nl_SqlReader_53 : Cond.methodLink "SqlReader" 53 y_Parser_init ∈ ALL := tw 229 rfl rfl
set_option maxRecDepth 100000 in
theorem im_Parser_init : Cond.instanceMethod y_Parser_init ∈ ALL := tw 230 rfl rfl
set_option maxRecDepth 100000 in
theorem nl_Parser_3 : Cond.methodLink "SqlReader$Parser" 3 Lib.objectInit ∈ ALL := tw 232 rfl rfl
set_option maxRecDepth 100000 in
theorem cl_SqlReader_60 : Cond.classLink "SqlReader" 60 "SqlReader$Meaning" ∈ ALL := tw 252 rfl rfl
set_option maxRecDepth 100000 in
theorem it_Meaning : Cond.instantiable "SqlReader$Meaning" 6 ∈ ALL := tw 253 rfl rfl
set_option maxRecDepth 100000 in
theorem nl_SqlReader_62 : Cond.methodLink "SqlReader" 62 y_Meaning_init ∈ ALL := tw 254 rfl rfl
set_option maxRecDepth 100000 in
theorem im_Meaning_init : Cond.instanceMethod y_Meaning_init ∈ ALL := tw 255 rfl rfl
set_option maxRecDepth 100000 in
theorem nl_Meaning_3 : Cond.methodLink "SqlReader$Meaning" 3 Lib.objectInit ∈ ALL := tw 257 rfl rfl
set_option maxRecDepth 100000 in
theorem cl_SqlReaderLaw_10 : Cond.classLink "SqlReaderLaw" 10 "SqlReaderModel" ∈ ALL := tw 1152 rfl rfl
set_option maxRecDepth 100000 in
theorem it_SqlReaderModel : Cond.instantiable "SqlReaderModel" 71 ∈ ALL := tw 1153 rfl rfl
set_option maxRecDepth 100000 in
theorem nl_SqlReaderLaw_12 : Cond.methodLink "SqlReaderLaw" 12 y_SqlReaderModel_init ∈ ALL := tw 1154 rfl rfl
set_option maxRecDepth 100000 in
theorem im_SqlReaderModel_init : Cond.instanceMethod y_SqlReaderModel_init ∈ ALL := tw 1155 rfl rfl
set_option maxRecDepth 100000 in
theorem nl_SqlReaderModel_1 : Cond.methodLink "SqlReaderModel" 1 Lib.objectInit ∈ ALL := tw 1157 rfl rfl
set_option maxRecDepth 100000 in
theorem ac_long : Cond.arrayClass .long ∈ ALL := tw 1377 rfl rfl
set_option maxRecDepth 100000 in
theorem ac_boolean : Cond.arrayClass .boolean ∈ ALL := tw 1378 rfl rfl
set_option maxRecDepth 100000 in
theorem oc_Object : Cond.code Lib.objectInit ⟨#[0xb1]⟩ 1 none ∈ ALL := tw 26 rfl rfl
