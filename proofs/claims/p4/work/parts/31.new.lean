/-! CONSTRUCTORS: the judgement Sm over a list of cells that grows (σ = va_W), the count of cells and slots in X -/
def idW : va_W → va_W := fun ws => ws
def xu (X : Cx) (k n : Nat) : Cx := (X.1, X.2.1, X.2.2.1, xR X, xs X, xm X, xargs X, X.2.2.2.2.2.2.2.1, xmeth X, xc X, xQ X, xD X, xA X, k, n)
theorem RA_inj {U : State} {a b : ClassId} {ty : FieldType} (h1 : va_RA U a ty) (h2 : va_RA U b ty) : a = b := by
  cases ty with
  | object C =>
    obtain ⟨_, _, -, -, -, h⟩ := h1
    obtain ⟨_, _, -, -, -, g⟩ := h2
    exact Option.some.inj (h.symm.trans g)
  | _ =>
    have h : U.vm.findClass _ = some a := h1
    have g : U.vm.findClass _ = some b := h2
    exact Option.some.inj (h.symm.trans g)
section Nm
variable {X : Cx} {cl : List vw_C} {Ts : List Cond} {cc : ByteArray} {own : String} {nL : Nat} {tys : List (ClassId × FieldType)} {as : List Nat} {rm : Room} {ext : (Nat → Prop) → State → Heap → Prop} {α : Type} {res : α} {mv : Option α} {ws : va_W} {pc idx : Nat} {lv : List (Nat × Value)} {st : List Value}
theorem En_up (E : En X cl Ts cc own nL tys as rm ext) {k n : Nat} (hk : k ≤ rm.cells) (hn : n ≤ rm.slots) : En (xu X k n) cl Ts cc own nL tys as rm ext := ⟨E.1, E.2.1, E.2.2.1, E.2.2.2.1, E.2.2.2.2.1, E.2.2.2.2.2.1, E.2.2.2.2.2.2.1, E.2.2.2.2.2.2.2.1, ⟨hk, hn⟩, E.2.2.2.2.2.2.2.2.2⟩
theorem En_A (E : En X cl Ts cc own nL tys as rm ext) : ∀ q, (xs X).heap.size ≤ q → xA X q := fun q h => by rw [E.2.2.2.2.2.2.1]; exact Or.inr h
theorem Nm_sub {ws' : va_W} (is : List Nat) (hn : va_nd is = true) (h1 : is.filterMap (fun i => ws[i]?) = ws') (h2 : is.map (fun i => ws[i]?) = ws'.map some) (k : Sm X cl idW nL res mv ws' pc lv st) : Sm X cl idW nL res mv ws pc lv st := fun hm H locs ls hP hD hS hl => k hm H locs ls (va_P.sub hP is h1) (va_D.sub hD is hn h2) hS hl
theorem Nm_new {a b : Nat} (E : En (xu X a b) cl Ts cc own nL tys as rm ext) {C : String} {T : u_T} {N ci : Nat} (hin : ∀ x ∈ u_ws C T N, x ∈ Ts) (ty : Nat → FieldType) (hty : ∀ k, k < N → parseFieldDescriptor (T k).2.2.1 = some (ty k)) (hcl : Cond.classLink own idx C ∈ Ts) (hinst : Cond.instantiable C N ∈ Ts) (hini : Cond.initialized C ∈ Ts) (hc : cl[ci]? = some (C, T, N)) {fs : List Value} (hfs : ∀ j, j < N → defaultValue (ty j) = vp_V fs j) {k n : Nat} (ek : a + 1 = k) (en : b + N = n) (hk : k ≤ rm.cells) (hn : n ≤ rm.slots) (hdg : decode cc pc = .ok (.new idx, 3)) (kk : ∀ q : Nat, En (xu X k n) cl Ts cc own nL tys as rm ext → Sm (xu X k n) cl idW nL res mv (ws ++ [(q, .inr (ci, fs))]) (pc + 3) lv (.ref q :: st)) : Sm (xu X a b) cl idW nL res mv ws pc lv st := by
  subst ek; subst en
  exact fun hm H locs ls hP hD hS hl => va_new E.1 E.2.1 E.2.2.1 hin ty hty E.2.2.2.1 (E.2.2.1 _ hcl) (E.2.2.1 _ hinst) (E.2.2.1 _ hini) E.2.2.2.2.1 hP hD hS (En_A E) hc hfs (by rw [E.2.2.2.2.2.2.2.1]; exact hk) (by rw [E.2.2.2.2.2.2.2.1]; exact hn) hdg (fun q H1 hP1 hD1 hS1 => kk q (En_up (X := xu X _ _) E hk hn) hm H1 locs ls hP1 hD1 hS1 hl)
theorem Nm_newa {a b : Nat} (E : En (xu X a b) cl Ts cc own nL tys as rm ext) {atype : ArrayType} {ty : FieldType} (harr : Cond.arrayClass ty ∈ Ts) (hty : newarray.typeOf atype = ty) (t0 : Nat) {cT : ClassId} (ht : tys[t0]? = some (cT, ty)) {z : Int32} {N : Nat} {a0 : vp_A} (ha : ∀ cA : ClassId, vp_cell cA a0 = arrV cA N (fun _ => defaultValue ty)) (hz : ¬ z < 0) (hN : z.toNatClampNeg = N) (hb : N * componentBytes ty ≤ 536870912) {k n : Nat} (ek : a + 1 = k) (en : b + N = n) (hk : k ≤ rm.cells) (hn : n ≤ rm.slots) (hdg : decode cc pc = .ok (.newarray atype, 2)) (kk : ∀ q : Nat, En (xu X k n) cl Ts cc own nL tys as rm ext → Sm (xu X k n) cl idW nL res mv (ws ++ [(q, .inl (cT, a0))]) (pc + 2) lv (.ref q :: st)) : Sm (xu X a b) cl idW nL res mv ws pc lv (.int z :: st) := by
  subst ek; subst en
  refine fun hm H locs ls hP hD hS hl => va_newa E.1 E.2.1 (by rw [hty]; exact E.2.2.1 _ harr) hty E.2.2.2.2.1 hP hD hS (En_A E) ha hz hN hb (by rw [E.2.2.2.2.2.2.2.1]; exact hk) (by rw [E.2.2.2.2.2.2.2.1]; exact hn) hdg (fun q cA H1 hK1 hP1 hD1 hS1 => ?_)
  have e : cA = cT := RA_inj (hK1.2 tys.length (cA, ty) (by simp)).2 (E.2.2.2.2.1.2 t0 _ ht).2
  subst e
  exact kk q (En_up (X := xu X _ _) E hk hn) hm H1 locs ls hP1 hD1 hS1 hl
theorem Nm_putF (E : En X cl Ts cc own nL tys as rm ext) {ref C : String} {T : u_T} {N ci : Nat} (hin : ∀ x ∈ u_ws C T N, x ∈ Ts) (ty0 : Nat → FieldType) (hty : ∀ k, k < N → parseFieldDescriptor (T k).2.2.1 = some (ty0 k)) (hnm : ∀ a, a < N → ∀ b, b < N → a ≠ b → (T a).2.1 ≠ (T b).2.1) (hc : cl[ci]? = some (C, T, N)) {a q0 : Nat} {fs : List Value} (he : ws[q0]? = some (a, .inr (ci, fs))) (k : Nat) (hk : k < N) (hd : (T k).1 = ref) (hfin : (T k).2.2.2 = true) (hi : (xmeth X).name = "<init>") (hdecl : (T k).1 = own) {ty : FieldType} (hpd : parseFieldDescriptor (T k).2.2.1 = some ty) (hl0 : k < fs.length) {v : Value} {ws' : va_W} (hs : ws.set q0 (a, .inr (ci, fs.set k v)) = ws') (hn : narrow ty v = v) (hf : fits ty v = true) (hlink : Cond.fieldLink own idx ref (T k).2.1 (T k).2.2.1 ∈ Ts) (hdg : decode cc pc = .ok (.putfield idx, 3)) (kk : Sm X cl idW nL res mv ws' (pc + 3) lv st) : Sm X cl idW nL res mv ws pc lv (v :: .ref a :: st) := by
  subst hd; subst hs
  exact fun hm H locs ls hP hD hS hl => va_putF E.1 E.2.1 E.2.2.1 hin ty0 hty hnm E.2.2.2.1 E.2.2.2.2.1 hP hD hS q0 he hc k hk (E.2.2.1 _ hlink) (fun _ h => h) hfin hi hdecl hpd hn hf hl0 hdg (fun H1 locs1 hP1 hD1 hS1 => kk hm H1 locs1 ls hP1 hD1 hS1 hl)
theorem Nm_objInit (E : En X cl Ts cc own nL tys as rm ext) {σ : Type} {w : σ → va_W} {u : σ} (hl : Cond.methodLink own idx Lib.objectInit ∈ Ts) (hi : Cond.instanceMethod Lib.objectInit ∈ Ts) (hc : Cond.code Lib.objectInit ⟨#[0xb1]⟩ 1 none ∈ Ts) (hr : 1 ≤ rm.frames ∧ 20 ≤ rm.locals) (h8 : (st.map fun v => v.category).sum ≤ 8) {a : Nat} (hdg : decode cc pc = .ok (.invokespecial idx, 3)) (kk : Sm X cl w nL res mv u (pc + 3) lv st) : Sm X cl w nL res mv u pc lv (.ref a :: st) :=
  fun hm H locs ls hP hD hS hlv => W.objInit E.1 E.2.1 E.2.2.2.1 (E.2.2.1 _ hl) (E.2.2.1 _ hi) (E.2.2.1 _ hc) rfl (hlv.1.trans E.2.2.2.2.2.1.symm) rfl hdg (by rw [E.2.2.2.2.2.2.2.1]; exact hr.1) (by rw [E.2.2.2.2.2.2.2.1]; have h := hr.2; have := lv_room (m := xm X) (pc := pc) (ls := ls) (rest := .ref a :: st) h8; omega) (kk hm H locs ls hP hD hS hlv)
/-- a constructor's contract: of the cells ws0 it makes cells with 'post' -/
def CtN (l : Launch) (D : va_G) (cl : List vw_C) (Ts : List Cond) (tys : List (ClassId × FieldType)) (ext : (Nat → Prop) → State → Heap → Prop) (y : MethodName) (cd : Cond) (rm : Room) (av : List Value) (ws0 : va_W) (mc ms : Nat) (post : va_W → Prop) : Prop :=
  ∀ sz : Nat, Met l y (cd :: Ts) rm (va_Pc av (fun U => U.heap.size = sz ∧ va_P D cl ws0 U.heap ∧ va_K D cl tys U ∧ va_D (fun _ => True) ws0 ∧ ext (Aw (ws0.map Prod.fst) sz) U U.heap)) (va_Qv post (fun ws t => va_P D cl ws t.heap ∧ va_K D cl tys t ∧ va_D (Aw (ws0.map Prod.fst) sz) ws) (Aw (ws0.map Prod.fst) sz)) mc ms (Aw (ws0.map Prod.fst) sz)
/-- its end: the cells as they are then, all made as counted -/
def RtN (X : Cx) (cl : List vw_C) (cc : ByteArray) (mc ms : Nat) (post : va_W → Prop) : Prop := ∀ (ws : va_W), post ws → ∀ (H : Heap) (locs : List Loc) (ls : Array Slot) (pc : Nat), va_P (xD X) cl ws H → va_D (xA X) ws → va_S (xA X) (xs X).heap H locs → decode cc pc = .ok (.return_, 1) → Wx (xu X mc ms) H locs (F0 (xm X) pc ls [])
theorem Sm_retN {mc ms : Nat} {post : va_W → Prop} (hR : RtN X cl cc mc ms post) {σ : Type} {w : σ → va_W} {u : σ} (hp : post (w u)) (hdg : decode cc pc = .ok (.return_, 1)) : Sm (xu X mc ms) cl w nL res mv u pc lv [] := by
  exact fun _ H locs ls hP hD hS _ => hR _ hp H locs ls pc hP hD hS hdg
theorem CtN_mk {l : Launch} {D : va_G} {y : MethodName} {av : List Value} {maxL mc ms : Nat} {post : va_W → Prop} (hy : plainName y.cls = true) (hnm : y.name = "<init>") {ws0 : va_W} (hav : (lg_sl av).length ≤ maxL) (body : ∀ X : Cx, (xmeth X).name = "<init>" → En (xu X 0 0) cl Ts cc y.cls maxL tys (ws0.map Prod.fst) rm ext → RtN X cl cc mc ms post → Sm (xu X 0 0) cl idW maxL () (some ()) ws0 0 (lv_args 0 av) []) : CtN l D cl Ts tys ext y (.code y cc maxL none) rm av ws0 mc ms post := by
  intro sz
  refine Met.ofW (cc := cc) (maxL := maxL) (ret := none) hy rfl ?_
  intro p e s m args below meth c s₁ B hml hv
  obtain ⟨rfl, hsz, hP, hK, hD0, hX⟩ := hv
  have hx := B.exec
  have hb := B.bytes
  have hr := B.returns
  have hts0 := atoms_spec (ws := Cond.code y cc maxL none :: Ts) B.pre
  have hown : s.vm.findClass y.cls = some m.cls := findClass_of_methodNamed B.named
  have hlocks := B.notSynchronized
  have hin : meth.name = "<init>" := by rw [(name_of_methodNamed B.named B.method).1]; exact hnm
  subst hsz
  have hD : va_D (Aw (ws0.map Prod.fst) s.heap.size) ws0 := Aw_D rfl hD0
  have hl := lv_entry av (n := maxL) hav
  rw [lg_entry_eq]
  generalize (lg_sl av ++ List.replicate (maxL - (lg_sl av).length) Slot.unset).toArray = ls at hl ⊢
  refine body (p, l, e, (headSpec (Cond.code y cc maxL none :: Ts) rm).room, s, m, av.toArray, below, meth, c, MQ below (va_Qv post (fun ws t => va_P D cl ws t.heap ∧ va_K D cl tys t ∧ va_D (Aw (ws0.map Prod.fst) s.heap.size) ws) (Aw (ws0.map Prod.fst) s.heap.size)) av.toArray s mc ms (Aw (ws0.map Prod.fst) s.heap.size), D, Aw (ws0.map Prod.fst) s.heap.size, 0, 0) hin ⟨hx, hb, fun w0 h0 => hts0 w0 (List.mem_cons_of_mem _ h0), hown, hK, hml, rfl, rfl, ⟨Nat.zero_le _, Nat.zero_le _⟩, hX⟩ ?_ rfl s.heap [] ls hP hD va_S.rf hl
  exact fun ws2 hp H locs ls pc hP hD hS hdg => W.vret hx hb hr (fun t ht hW => ⟨⟨ws2, rfl, hp, by rw [ht]; exact hP, va_K.moved hW.alike hK, hD⟩, hS.F ht⟩) hS.2.2 hdg hlocks
end Nm
