/-! THE JUDGEMENT Sm: 'if the model's value here is some res, then the machine, from this frame, with any heap that holds the world of u, comes to where X.Q says'.
One rule an instruction; the model's text goes along with the code. -/
abbrev Cx : Type := Program × Launch × Env × Room × State × MethodId × Array Value × List Frame × Method × Code × (State → Prop) × va_G × (Nat → Prop) × Nat × Nat
abbrev xs (X : Cx) : State := X.2.2.2.2.1
abbrev xm (X : Cx) : MethodId := X.2.2.2.2.2.1
abbrev xR (X : Cx) : Room := X.2.2.2.1
abbrev xargs (X : Cx) : Array Value := X.2.2.2.2.2.2.1
abbrev xmeth (X : Cx) : Method := X.2.2.2.2.2.2.2.2.1
abbrev xc (X : Cx) : Code := X.2.2.2.2.2.2.2.2.2.1
abbrev xQ (X : Cx) : State → Prop := X.2.2.2.2.2.2.2.2.2.2.1
abbrev xD (X : Cx) : va_G := X.2.2.2.2.2.2.2.2.2.2.2.1
abbrev xA (X : Cx) : Nat → Prop := X.2.2.2.2.2.2.2.2.2.2.2.2.1
abbrev xk (X : Cx) : Nat := X.2.2.2.2.2.2.2.2.2.2.2.2.2.1
abbrev xn (X : Cx) : Nat := X.2.2.2.2.2.2.2.2.2.2.2.2.2.2
abbrev Wx (X : Cx) (H : Heap) (locs : List Loc) (g : JFrame) : Prop := W X.1 X.2.1 X.2.2.1 (xR X) (xs X) (xm X) (xargs X) X.2.2.2.2.2.2.2.1 (xmeth X) (xc X) H locs (xk X) (xn X) (xQ X) g
/-- what the models are made of -/
def seq {α β : Type} (x : α) (k : α → Option β) : Option β := k x
def gd {β : Type} (b : Bool) (o : Option β) : Option β := match b with
  | true => o
  | false => none
def bP {α β : Type} (o : Option α) (k : α → Option β) : Option β := match o with
  | some x => k x
  | none => none
def bM {α σ β : Type} (o : Option (α × σ)) (k : α → σ → Option β) : Option β := match o with
  | some (x, v) => k x v
  | none => none
def inb (i : Int32) (n : Nat) : Bool := decide (0 ≤ i.toInt ∧ i.toInt < n)
theorem inb_in {i : Int32} {n : Nat} (h : inb i n = true) : vp_in i n := vp_in_iff.mpr (of_decide_eq_true h)
def zb (x : Int32) : Bool := decide (x = 0 ∨ x = 1)
theorem zb_n {x : Int32} (h : zb x = true) : narrow .boolean (.int x) = .int x := by
  rcases of_decide_eq_true h with rfl | rfl <;> decide
theorem zb_f {x : Int32} (h : zb x = true) : fits .boolean (.int x) = true := by
  rcases of_decide_eq_true h with rfl | rfl <;> decide
def i2b (x : Int32) : Int32 := x.toInt8.toInt32
def i2c (x : Int32) : Int32 := (x.toUInt32 % 65536).toInt32
def cb (x : Int32) : Bool := decide (i2c x = x)
theorem cb_n {x : Int32} (h : cb x = true) : narrow .char (.int x) = .int x := by
  have h1 : i2c x = x := of_decide_eq_true h
  have h2 : narrow .char (.int (i2c x)) = .int (i2c x) := pk_nc x
  rw [h1] at h2
  exact h2
def shrL (x : Int64) (y : Int32) : Int64 := x >>> (y.toInt64 &&& 63)
def shlL (x : Int64) (y : Int32) : Int64 := x <<< (y.toInt64 &&& 63)
def ushrL (x : Int64) (y : Int32) : Int64 := (x.toUInt64 >>> (y.toInt64.toUInt64 &&& Int64.toUInt64 63)).toInt64
abbrev St : Type := (Nat → Int32) × (Nat → Nat → Int32) × (Nat → Int64) × (Nat → Nat → Int64)
def us {α : Type} (f : Nat → α) (k : Nat) (x : α) : Nat → α := fun j => match Nat.beq j k with
  | true => x
  | false => f j
def ss (u : St) (k : Nat) (x : Int32) : St := (us u.1 k x, u.2)
def sL (u : St) (k : Nat) (x : Int64) : St := (u.1, u.2.1, us u.2.2.1 k x, u.2.2.2)
def ga (u : St) (k : Nat) (i : Int32) : Int32 := u.2.1 k i.toNatClampNeg
def gl (u : St) (k : Nat) (i : Int32) : Int64 := u.2.2.2 k i.toNatClampNeg
def sa (u : St) (k : Nat) (i x : Int32) : St := (u.1, us u.2.1 k (upd (u.2.1 k) i.toNatClampNeg x), u.2.2)
def sl (u : St) (k : Nat) (i : Int32) (x : Int64) : St := (u.1, u.2.1, u.2.2.1, us u.2.2.2 k (vp_updL (u.2.2.2 k) i.toNatClampNeg x))
def sA (u : St) (k : Nat) (f : Nat → Int32) : St := (u.1, us u.2.1 k f, u.2.2)
def zn (x : Int32) : Int32 := vp_nar .boolean x
def cpok (sp dp n : Int32) (a b : Nat) : Bool := decide (0 ≤ sp.toInt ∧ 0 ≤ dp.toInt ∧ 0 ≤ n.toInt ∧ sp.toInt + n.toInt ≤ a ∧ dp.toInt + n.toInt ≤ b)
def Sm (X : Cx) (cl : List vw_C) {σ α : Type} (w : σ → va_W) (nL : Nat) (res : α) (mv : Option α) (u : σ) (pc : Nat) (lv : List (Nat × Value)) (st : List Value) : Prop :=
  mv = some res → ∀ (H : Heap) (locs : List Loc) (ls : Array Slot), va_P (xD X) cl (w u) H → va_D (xA X) (w u) → va_S (xA X) (xs X).heap H locs → lv_has ls nL lv → Wx X H locs (F0 (xm X) pc ls st)
/-- what holds all along a method's body -/
def Aw (as : List Nat) (sz : Nat) : Nat → Prop := fun q => q ∈ as ∨ sz ≤ q
def En (X : Cx) (cl : List vw_C) (Ts : List Cond) (cc : ByteArray) (own : String) (nL : Nat) (tys : List (ClassId × FieldType)) (as : List Nat) (rm : Room) (ext : (Nat → Prop) → State → Heap → Prop) : Prop :=
  X.1.tables.exec = Jvm.exec ∧ (xc X).code = cc ∧ (∀ w ∈ Ts, w.before (xargs X) (xs X) = true) ∧ (xs X).vm.findClass own = some (xm X).cls ∧ va_K (xD X) cl tys (xs X) ∧ (xc X).maxLocals = nL ∧ xA X = Aw as (xs X).heap.size ∧ xR X = rm ∧ (xk X ≤ rm.cells ∧ xn X ≤ rm.slots) ∧ ext (xA X) (xs X) (xs X).heap
section Sm
variable {X : Cx} {cl : List vw_C} {Ts : List Cond} {cc : ByteArray} {own : String} {nL : Nat} {tys : List (ClassId × FieldType)} {as : List Nat} {rm : Room} {ext : (Nat → Prop) → State → Heap → Prop} {σ α : Type} {w : σ → va_W} {res : α} {mv : Option α} {u : σ} {pc : Nat} {lv : List (Nat × Value)} {st : List Value}
theorem Sm_none : Sm X cl w nL res none u pc lv st := fun h => by cases h
theorem Sm_eq {mv' : Option α} (h : mv = mv') (k : Sm X cl w nL res mv' u pc lv st) : Sm X cl w nL res mv u pc lv st := fun hm => k (h ▸ hm)
theorem Sm_sub {lv' : List (Nat × Value)} (ks : List Nat) (h : lv_pick lv ks = lv') (k : Sm X cl w nL res mv u pc lv' st) : Sm X cl w nL res mv u pc lv st := fun hm H locs ls hP hD hS hl => k hm H locs ls hP hD hS (lv_sub hl ks h)
theorem Sm_lvs {lv' : List (Nat × Value)} (h : lv = lv') (k : Sm X cl w nL res mv u pc lv' st) : Sm X cl w nL res mv u pc lv st := h ▸ k
theorem Sm_gd {b : Bool} (k : b = true → Sm X cl w nL res mv u pc lv st) : Sm X cl w nL res (gd b mv) u pc lv st := by
  cases b with
  | true => exact k rfl
  | false => exact Sm_none
theorem Sm_ite {q : Prop} {d : Decidable q} {mt mf : Option α} (kt : q → Sm X cl w nL res mt u pc lv st) (kf : ¬ q → Sm X cl w nL res mf u pc lv st) : Sm X cl w nL res (@ite _ q d mt mf) u pc lv st := by
  by_cases h : q
  · exact Sm_eq (if_pos h) (kt h)
  · exact Sm_eq (if_neg h) (kf h)
theorem Sm_leti {x : Int32} {k : Int32 → Option α} (h : ∀ y : Int32, y = x → Sm X cl w nL res (k y) u pc lv (.int y :: st)) : Sm X cl w nL res (seq x k) u pc lv (.int x :: st) := h x rfl
theorem Sm_letl {x : Int64} {k : Int64 → Option α} (h : ∀ y : Int64, y = x → Sm X cl w nL res (k y) u pc lv (.long y :: st)) : Sm X cl w nL res (seq x k) u pc lv (.long x :: st) := h x rfl
theorem Sm_iconst (E : En X cl Ts cc own nL tys as rm ext) {n : Int} {v : Int32} (hdg : decode cc pc = .ok (.iconst n, 1)) (hv : Int32.ofInt n = v) (k : Sm X cl w nL res mv u (pc + 1) lv (.int v :: st)) : Sm X cl w nL res mv u pc lv st :=
  fun hm H locs ls hP hD hS hl => lv_iconst E.1 E.2.1 hdg hv (k hm H locs ls hP hD hS hl)
theorem Sm_bipush (E : En X cl Ts cc own nL tys as rm ext) {n : Int} {v : Int32} (hdg : decode cc pc = .ok (.bipush n, 2)) (hv : (Int8.ofInt n).toInt32 = v) (k : Sm X cl w nL res mv u (pc + 2) lv (.int v :: st)) : Sm X cl w nL res mv u pc lv st :=
  fun hm H locs ls hP hD hS hl => lv_bipush E.1 E.2.1 hdg hv (k hm H locs ls hP hD hS hl)
theorem Sm_sipush (E : En X cl Ts cc own nL tys as rm ext) {n : Int} {v : Int32} (hdg : decode cc pc = .ok (.sipush n, 3)) (hv : (Int16.ofInt n).toInt32 = v) (k : Sm X cl w nL res mv u (pc + 3) lv (.int v :: st)) : Sm X cl w nL res mv u pc lv st :=
  fun hm H locs ls hP hD hS hl => lv_sipush E.1 E.2.1 hdg hv (k hm H locs ls hP hD hS hl)
theorem Sm_lconst (E : En X cl Ts cc own nL tys as rm ext) {n : Fin 2} {v : Int64} (hdg : decode cc pc = .ok (.lconst n, 1)) (hv : Int64.ofNat (n : Nat) = v) (k : Sm X cl w nL res mv u (pc + 1) lv (.long v :: st)) : Sm X cl w nL res mv u pc lv st :=
  fun hm H locs ls hP hD hS hl => lv_lconst E.1 E.2.1 hdg hv (k hm H locs ls hP hD hS hl)
theorem Sm_iload_n (E : En X cl Ts cc own nL tys as rm ext) {k0 : Fin 4} {i : Nat} {x : Int32} (hdg : decode cc pc = .ok (.iload_n k0, 1)) (hi : (k0 : Nat) = i) (q : Nat) (hq : lv[q]? = some (i, .int x)) (k : Sm X cl w nL res mv u (pc + 1) lv (.int x :: st)) : Sm X cl w nL res mv u pc lv st :=
  fun hm H locs ls hP hD hS hl => lv_iload_n E.1 E.2.1 hdg hi (lv_at hl q hq) (k hm H locs ls hP hD hS hl)
theorem Sm_iload (E : En X cl Ts cc own nL tys as rm ext) {i : Nat} {x : Int32} (hdg : decode cc pc = .ok (.iload i, 2)) (q : Nat) (hq : lv[q]? = some (i, .int x)) (k : Sm X cl w nL res mv u (pc + 2) lv (.int x :: st)) : Sm X cl w nL res mv u pc lv st :=
  fun hm H locs ls hP hD hS hl => lv_iload E.1 E.2.1 hdg (lv_at hl q hq) (k hm H locs ls hP hD hS hl)
theorem Sm_istore_n (E : En X cl Ts cc own nL tys as rm ext) {k0 : Fin 4} {i : Nat} {x : Int32} {lv' : List (Nat × Value)} (hdg : decode cc pc = .ok (.istore_n k0, 1)) (hi : (k0 : Nat) = i) (hn : i < nL) (hv : (i, Value.int x) :: lv.filter (fun q => !(q.1 == i) && !(q.1 + 1 == i && q.2.category == 2)) = lv') (k : Sm X cl w nL res mv u (pc + 1) lv' st) : Sm X cl w nL res mv u pc lv (.int x :: st) :=
  fun hm H locs ls hP hD hS hl => lv_istore_n E.1 E.2.1 hdg hi hl hn hv (fun ls' hl' => k hm H locs ls' hP hD hS hl')
theorem Sm_istore (E : En X cl Ts cc own nL tys as rm ext) {i : Nat} {x : Int32} {lv' : List (Nat × Value)} (hdg : decode cc pc = .ok (.istore i, 2)) (hn : i < nL) (hv : (i, Value.int x) :: lv.filter (fun q => !(q.1 == i) && !(q.1 + 1 == i && q.2.category == 2)) = lv') (k : Sm X cl w nL res mv u (pc + 2) lv' st) : Sm X cl w nL res mv u pc lv (.int x :: st) :=
  fun hm H locs ls hP hD hS hl => lv_istore E.1 E.2.1 hdg hl hn hv (fun ls' hl' => k hm H locs ls' hP hD hS hl')
theorem Sm_lload_n (E : En X cl Ts cc own nL tys as rm ext) {k0 : Fin 4} {i : Nat} {x : Int64} (hdg : decode cc pc = .ok (.lload_n k0, 1)) (hi : (k0 : Nat) = i) (q : Nat) (hq : lv[q]? = some (i, .long x)) (k : Sm X cl w nL res mv u (pc + 1) lv (.long x :: st)) : Sm X cl w nL res mv u pc lv st :=
  fun hm H locs ls hP hD hS hl => lv_lload_n E.1 E.2.1 hdg hi (lv_at hl q hq) (k hm H locs ls hP hD hS hl)
theorem Sm_lload (E : En X cl Ts cc own nL tys as rm ext) {i : Nat} {x : Int64} (hdg : decode cc pc = .ok (.lload i, 2)) (q : Nat) (hq : lv[q]? = some (i, .long x)) (k : Sm X cl w nL res mv u (pc + 2) lv (.long x :: st)) : Sm X cl w nL res mv u pc lv st :=
  fun hm H locs ls hP hD hS hl => lv_lload E.1 E.2.1 hdg (lv_at hl q hq) (k hm H locs ls hP hD hS hl)
theorem Sm_lstore_n (E : En X cl Ts cc own nL tys as rm ext) {k0 : Fin 4} {i : Nat} {x : Int64} {lv' : List (Nat × Value)} (hdg : decode cc pc = .ok (.lstore_n k0, 1)) (hi : (k0 : Nat) = i) (hn : i + 1 < nL) (hv : (i, Value.long x) :: lv.filter (fun q => !(q.1 == i) && (!(q.1 == i + 1) && !(q.1 + 1 == i && q.2.category == 2))) = lv') (k : Sm X cl w nL res mv u (pc + 1) lv' st) : Sm X cl w nL res mv u pc lv (.long x :: st) :=
  fun hm H locs ls hP hD hS hl => lv_lstore_n E.1 E.2.1 hdg hi hl hn hv (fun ls' hl' => k hm H locs ls' hP hD hS hl')
theorem Sm_lstore (E : En X cl Ts cc own nL tys as rm ext) {i : Nat} {x : Int64} {lv' : List (Nat × Value)} (hdg : decode cc pc = .ok (.lstore i, 2)) (hn : i + 1 < nL) (hv : (i, Value.long x) :: lv.filter (fun q => !(q.1 == i) && (!(q.1 == i + 1) && !(q.1 + 1 == i && q.2.category == 2))) = lv') (k : Sm X cl w nL res mv u (pc + 2) lv' st) : Sm X cl w nL res mv u pc lv (.long x :: st) :=
  fun hm H locs ls hP hD hS hl => lv_lstore E.1 E.2.1 hdg hl hn hv (fun ls' hl' => k hm H locs ls' hP hD hS hl')
theorem Sm_aload_n (E : En X cl Ts cc own nL tys as rm ext) {k0 : Fin 4} {i : Nat} {x : Nat} (hdg : decode cc pc = .ok (.aload_n k0, 1)) (hi : (k0 : Nat) = i) (q : Nat) (hq : lv[q]? = some (i, .ref x)) (k : Sm X cl w nL res mv u (pc + 1) lv (.ref x :: st)) : Sm X cl w nL res mv u pc lv st :=
  fun hm H locs ls hP hD hS hl => lv_aload_n E.1 E.2.1 hdg hi (lv_at hl q hq) (k hm H locs ls hP hD hS hl)
theorem Sm_aload (E : En X cl Ts cc own nL tys as rm ext) {i : Nat} {x : Nat} (hdg : decode cc pc = .ok (.aload i, 2)) (q : Nat) (hq : lv[q]? = some (i, .ref x)) (k : Sm X cl w nL res mv u (pc + 2) lv (.ref x :: st)) : Sm X cl w nL res mv u pc lv st :=
  fun hm H locs ls hP hD hS hl => lv_aload E.1 E.2.1 hdg (lv_at hl q hq) (k hm H locs ls hP hD hS hl)
theorem Sm_astore_n (E : En X cl Ts cc own nL tys as rm ext) {k0 : Fin 4} {i : Nat} {x : Nat} {lv' : List (Nat × Value)} (hdg : decode cc pc = .ok (.astore_n k0, 1)) (hi : (k0 : Nat) = i) (hn : i < nL) (hv : (i, Value.ref x) :: lv.filter (fun q => !(q.1 == i) && !(q.1 + 1 == i && q.2.category == 2)) = lv') (k : Sm X cl w nL res mv u (pc + 1) lv' st) : Sm X cl w nL res mv u pc lv (.ref x :: st) :=
  fun hm H locs ls hP hD hS hl => lv_astore_n E.1 E.2.1 hdg hi hl hn hv (fun ls' hl' => k hm H locs ls' hP hD hS hl')
theorem Sm_astore (E : En X cl Ts cc own nL tys as rm ext) {i : Nat} {x : Nat} {lv' : List (Nat × Value)} (hdg : decode cc pc = .ok (.astore i, 2)) (hn : i < nL) (hv : (i, Value.ref x) :: lv.filter (fun q => !(q.1 == i) && !(q.1 + 1 == i && q.2.category == 2)) = lv') (k : Sm X cl w nL res mv u (pc + 2) lv' st) : Sm X cl w nL res mv u pc lv (.ref x :: st) :=
  fun hm H locs ls hP hD hS hl => lv_astore E.1 E.2.1 hdg hl hn hv (fun ls' hl' => k hm H locs ls' hP hD hS hl')
theorem Sm_iinc (E : En X cl Ts cc own nL tys as rm ext) {i : Nat} {k : Nat} {n : Int} {x d : Int32} {K : Int32 → Option α} (hdg : decode cc pc = .ok (.iinc i n, 3)) (hk : lv[k]? = some (i, .int x)) (hv : Int32.ofInt n = d) (hn : i < nL) (kk : ∀ y : Int32, y = x + d → Sm X cl w nL res (K y) u (pc + 3) ((i, Value.int y) :: lv.filter (fun q => !(q.1 == i) && !(q.1 + 1 == i && q.2.category == 2))) st) : Sm X cl w nL res (seq (x + d) K) u pc lv st :=
  fun hm H locs ls hP hD hS hl => lv_iinc E.1 E.2.1 hdg hl hk (by rw [hv]) hn rfl (fun ls' hl' => kk _ rfl hm H locs ls' hP hD hS hl')
theorem Sm_iadd (E : En X cl Ts cc own nL tys as rm ext) {x y : Int32} (hdg : decode cc pc = .ok (.iadd, 1)) (k : Sm X cl w nL res mv u (pc + 1) lv (.int (x + y) :: st)) : Sm X cl w nL res mv u pc lv (.int y :: .int x :: st) :=
  fun hm H locs ls hP hD hS hl => lv_iadd E.1 E.2.1 hdg (k hm H locs ls hP hD hS hl)
theorem Sm_isub (E : En X cl Ts cc own nL tys as rm ext) {x y : Int32} (hdg : decode cc pc = .ok (.isub, 1)) (k : Sm X cl w nL res mv u (pc + 1) lv (.int (x - y) :: st)) : Sm X cl w nL res mv u pc lv (.int y :: .int x :: st) :=
  fun hm H locs ls hP hD hS hl => lv_isub E.1 E.2.1 hdg (k hm H locs ls hP hD hS hl)
theorem Sm_imul (E : En X cl Ts cc own nL tys as rm ext) {x y : Int32} (hdg : decode cc pc = .ok (.imul, 1)) (k : Sm X cl w nL res mv u (pc + 1) lv (.int (x * y) :: st)) : Sm X cl w nL res mv u pc lv (.int y :: .int x :: st) :=
  fun hm H locs ls hP hD hS hl => lv_imul E.1 E.2.1 hdg (k hm H locs ls hP hD hS hl)
theorem Sm_iand (E : En X cl Ts cc own nL tys as rm ext) {x y : Int32} (hdg : decode cc pc = .ok (.iand, 1)) (k : Sm X cl w nL res mv u (pc + 1) lv (.int (x &&& y) :: st)) : Sm X cl w nL res mv u pc lv (.int y :: .int x :: st) :=
  fun hm H locs ls hP hD hS hl => lv_iand E.1 E.2.1 hdg (k hm H locs ls hP hD hS hl)
theorem Sm_ior (E : En X cl Ts cc own nL tys as rm ext) {x y : Int32} (hdg : decode cc pc = .ok (.ior, 1)) (k : Sm X cl w nL res mv u (pc + 1) lv (.int (x ||| y) :: st)) : Sm X cl w nL res mv u pc lv (.int y :: .int x :: st) :=
  fun hm H locs ls hP hD hS hl => lv_ior E.1 E.2.1 hdg (k hm H locs ls hP hD hS hl)
theorem Sm_ixor (E : En X cl Ts cc own nL tys as rm ext) {x y : Int32} (hdg : decode cc pc = .ok (.ixor, 1)) (k : Sm X cl w nL res mv u (pc + 1) lv (.int (x ^^^ y) :: st)) : Sm X cl w nL res mv u pc lv (.int y :: .int x :: st) :=
  fun hm H locs ls hP hD hS hl => lv_ixor E.1 E.2.1 hdg (k hm H locs ls hP hD hS hl)
theorem Sm_ishl (E : En X cl Ts cc own nL tys as rm ext) {x y : Int32} (hdg : decode cc pc = .ok (.ishl, 1)) (k : Sm X cl w nL res mv u (pc + 1) lv (.int (x <<< (y &&& 31)) :: st)) : Sm X cl w nL res mv u pc lv (.int y :: .int x :: st) :=
  fun hm H locs ls hP hD hS hl => lv_ishl E.1 E.2.1 hdg (k hm H locs ls hP hD hS hl)
theorem Sm_ishr (E : En X cl Ts cc own nL tys as rm ext) {x y : Int32} (hdg : decode cc pc = .ok (.ishr, 1)) (k : Sm X cl w nL res mv u (pc + 1) lv (.int (x >>> (y &&& 31)) :: st)) : Sm X cl w nL res mv u pc lv (.int y :: .int x :: st) :=
  fun hm H locs ls hP hD hS hl => lv_ishr E.1 E.2.1 hdg (k hm H locs ls hP hD hS hl)
theorem Sm_ladd (E : En X cl Ts cc own nL tys as rm ext) {x y : Int64} (hdg : decode cc pc = .ok (.ladd, 1)) (k : Sm X cl w nL res mv u (pc + 1) lv (.long (x + y) :: st)) : Sm X cl w nL res mv u pc lv (.long y :: .long x :: st) :=
  fun hm H locs ls hP hD hS hl => lv_ladd E.1 E.2.1 hdg (k hm H locs ls hP hD hS hl)
theorem Sm_lsub (E : En X cl Ts cc own nL tys as rm ext) {x y : Int64} (hdg : decode cc pc = .ok (.lsub, 1)) (k : Sm X cl w nL res mv u (pc + 1) lv (.long (x - y) :: st)) : Sm X cl w nL res mv u pc lv (.long y :: .long x :: st) :=
  fun hm H locs ls hP hD hS hl => lv_lsub E.1 E.2.1 hdg (k hm H locs ls hP hD hS hl)
theorem Sm_lmul (E : En X cl Ts cc own nL tys as rm ext) {x y : Int64} (hdg : decode cc pc = .ok (.lmul, 1)) (k : Sm X cl w nL res mv u (pc + 1) lv (.long (x * y) :: st)) : Sm X cl w nL res mv u pc lv (.long y :: .long x :: st) :=
  fun hm H locs ls hP hD hS hl => lv_lmul E.1 E.2.1 hdg (k hm H locs ls hP hD hS hl)
theorem Sm_land (E : En X cl Ts cc own nL tys as rm ext) {x y : Int64} (hdg : decode cc pc = .ok (.land, 1)) (k : Sm X cl w nL res mv u (pc + 1) lv (.long (x &&& y) :: st)) : Sm X cl w nL res mv u pc lv (.long y :: .long x :: st) :=
  fun hm H locs ls hP hD hS hl => lv_land E.1 E.2.1 hdg (k hm H locs ls hP hD hS hl)
theorem Sm_lor (E : En X cl Ts cc own nL tys as rm ext) {x y : Int64} (hdg : decode cc pc = .ok (.lor, 1)) (k : Sm X cl w nL res mv u (pc + 1) lv (.long (x ||| y) :: st)) : Sm X cl w nL res mv u pc lv (.long y :: .long x :: st) :=
  fun hm H locs ls hP hD hS hl => lv_lor E.1 E.2.1 hdg (k hm H locs ls hP hD hS hl)
theorem Sm_lxor (E : En X cl Ts cc own nL tys as rm ext) {x y : Int64} (hdg : decode cc pc = .ok (.lxor, 1)) (k : Sm X cl w nL res mv u (pc + 1) lv (.long (x ^^^ y) :: st)) : Sm X cl w nL res mv u pc lv (.long y :: .long x :: st) :=
  fun hm H locs ls hP hD hS hl => lv_lxor E.1 E.2.1 hdg (k hm H locs ls hP hD hS hl)
theorem Sm_lushr (E : En X cl Ts cc own nL tys as rm ext) {x : Int64} {y : Int32} (hdg : decode cc pc = .ok (.lushr, 1)) (k : Sm X cl w nL res mv u (pc + 1) lv (.long (ushrL x y) :: st)) : Sm X cl w nL res mv u pc lv (.int y :: .long x :: st) :=
  fun hm H locs ls hP hD hS hl => lv_lushr E.1 E.2.1 hdg rfl (k hm H locs ls hP hD hS hl)
theorem Sm_lshr (E : En X cl Ts cc own nL tys as rm ext) {x : Int64} {y : Int32} (hdg : decode cc pc = .ok (.lshr, 1)) (k : Sm X cl w nL res mv u (pc + 1) lv (.long (shrL x y) :: st)) : Sm X cl w nL res mv u pc lv (.int y :: .long x :: st) :=
  fun hm H locs ls hP hD hS hl => lv_lshr E.1 E.2.1 hdg rfl (k hm H locs ls hP hD hS hl)
theorem Sm_lshl (E : En X cl Ts cc own nL tys as rm ext) {x : Int64} {y : Int32} (hdg : decode cc pc = .ok (.lshl, 1)) (k : Sm X cl w nL res mv u (pc + 1) lv (.long (shlL x y) :: st)) : Sm X cl w nL res mv u pc lv (.int y :: .long x :: st) :=
  fun hm H locs ls hP hD hS hl => lv_lshl E.1 E.2.1 hdg rfl (k hm H locs ls hP hD hS hl)
theorem Sm_lcmp (E : En X cl Ts cc own nL tys as rm ext) {x y : Int64} (hdg : decode cc pc = .ok (.lcmp, 1)) (k : Sm X cl w nL res mv u (pc + 1) lv (.int (lg_cmp x y) :: st)) : Sm X cl w nL res mv u pc lv (.long y :: .long x :: st) :=
  fun hm H locs ls hP hD hS hl => W.lcmp E.1 E.2.1 hdg (k hm H locs ls hP hD hS hl)
theorem Sm_ldc (E : En X cl Ts cc own nL tys as rm ext) {idx : Nat} {v : Int32} (hc : Cond.constant own idx v ∈ Ts) (hdg : decode cc pc = .ok (.ldc idx, 2)) (k : Sm X cl w nL res mv u (pc + 2) lv (.int v :: st)) : Sm X cl w nL res mv u pc lv st :=
  fun hm H locs ls hP hD hS hl => lv_ldc E.1 E.2.1 E.2.2.2.1 (E.2.2.1 _ hc) hdg (k hm H locs ls hP hD hS hl)
theorem Sm_ldc_w (E : En X cl Ts cc own nL tys as rm ext) {idx : Nat} {v : Int32} (hc : Cond.constant own idx v ∈ Ts) (hdg : decode cc pc = .ok (.ldc_w idx, 3)) (k : Sm X cl w nL res mv u (pc + 3) lv (.int v :: st)) : Sm X cl w nL res mv u pc lv st :=
  fun hm H locs ls hP hD hS hl => lv_ldcw E.1 E.2.1 E.2.2.2.1 (E.2.2.1 _ hc) hdg (k hm H locs ls hP hD hS hl)
theorem Sm_ldc2 (E : En X cl Ts cc own nL tys as rm ext) {idx : Nat} {v : Int64} (hc : Cond.constantLong own idx v ∈ Ts) (hdg : decode cc pc = .ok (.ldc2_w idx, 3)) (k : Sm X cl w nL res mv u (pc + 3) lv (.long v :: st)) : Sm X cl w nL res mv u pc lv st :=
  fun hm H locs ls hP hD hS hl => lv_ldc2 E.1 E.2.1 E.2.2.2.1 (E.2.2.1 _ hc) hdg (k hm H locs ls hP hD hS hl)
theorem Sm_ineg (E : En X cl Ts cc own nL tys as rm ext) {x : Int32} (hdg : decode cc pc = .ok (.ineg, 1)) (k : Sm X cl w nL res mv u (pc + 1) lv (.int (-x) :: st)) : Sm X cl w nL res mv u pc lv (.int x :: st) :=
  fun hm H locs ls hP hD hS hl => lv_ineg E.1 E.2.1 hdg (k hm H locs ls hP hD hS hl)
theorem Sm_lneg (E : En X cl Ts cc own nL tys as rm ext) {x : Int64} (hdg : decode cc pc = .ok (.lneg, 1)) (k : Sm X cl w nL res mv u (pc + 1) lv (.long (-x) :: st)) : Sm X cl w nL res mv u pc lv (.long x :: st) :=
  fun hm H locs ls hP hD hS hl => lv_lneg E.1 E.2.1 hdg (k hm H locs ls hP hD hS hl)
theorem Sm_i2b (E : En X cl Ts cc own nL tys as rm ext) {x : Int32} (hdg : decode cc pc = .ok (.i2b, 1)) (k : Sm X cl w nL res mv u (pc + 1) lv (.int (i2b x) :: st)) : Sm X cl w nL res mv u pc lv (.int x :: st) :=
  fun hm H locs ls hP hD hS hl => lv_i2b E.1 E.2.1 hdg rfl (k hm H locs ls hP hD hS hl)
theorem Sm_i2c (E : En X cl Ts cc own nL tys as rm ext) {x : Int32} (hdg : decode cc pc = .ok (.i2c, 1)) (k : Sm X cl w nL res mv u (pc + 1) lv (.int (i2c x) :: st)) : Sm X cl w nL res mv u pc lv (.int x :: st) :=
  fun hm H locs ls hP hD hS hl => lv_i2c E.1 E.2.1 hdg rfl (k hm H locs ls hP hD hS hl)
theorem Sm_i2l (E : En X cl Ts cc own nL tys as rm ext) {x : Int32} (hdg : decode cc pc = .ok (.i2l, 1)) (k : Sm X cl w nL res mv u (pc + 1) lv (.long x.toInt64 :: st)) : Sm X cl w nL res mv u pc lv (.int x :: st) :=
  fun hm H locs ls hP hD hS hl => lv_i2l E.1 E.2.1 hdg rfl (k hm H locs ls hP hD hS hl)
theorem Sm_l2i (E : En X cl Ts cc own nL tys as rm ext) {x : Int64} (hdg : decode cc pc = .ok (.l2i, 1)) (k : Sm X cl w nL res mv u (pc + 1) lv (.int x.toInt32 :: st)) : Sm X cl w nL res mv u pc lv (.long x :: st) :=
  fun hm H locs ls hP hD hS hl => lv_l2i E.1 E.2.1 hdg rfl (k hm H locs ls hP hD hS hl)
theorem Sm_dup (E : En X cl Ts cc own nL tys as rm ext) {v : Value} (hdg : decode cc pc = .ok (.dup, 1)) (hv : v.category = 1) (k : Sm X cl w nL res mv u (pc + 1) lv (v :: v :: st)) : Sm X cl w nL res mv u pc lv (v :: st) :=
  fun hm H locs ls hP hD hS hl => lv_dup E.1 E.2.1 hdg hv (k hm H locs ls hP hD hS hl)
theorem Sm_pop (E : En X cl Ts cc own nL tys as rm ext) {v : Value} (hdg : decode cc pc = .ok (.pop, 1)) (hv : v.category = 1) (k : Sm X cl w nL res mv u (pc + 1) lv st) : Sm X cl w nL res mv u pc lv (v :: st) :=
  fun hm H locs ls hP hD hS hl => lv_pop E.1 E.2.1 hdg hv (k hm H locs ls hP hD hS hl)
theorem Sm_dup2 (E : En X cl Ts cc own nL tys as rm ext) {v v2 : Value} (hdg : decode cc pc = .ok (.dup2, 1)) (hv : v.category = 1) (hv2 : v2.category = 1) (k : Sm X cl w nL res mv u (pc + 1) lv (v :: v2 :: v :: v2 :: st)) : Sm X cl w nL res mv u pc lv (v :: v2 :: st) :=
  fun hm H locs ls hP hD hS hl => lv_dup2_11 E.1 E.2.1 hdg hv hv2 (k hm H locs ls hP hD hS hl)
theorem Sm_dup_x1 (E : En X cl Ts cc own nL tys as rm ext) {v v2 : Value} (hdg : decode cc pc = .ok (.dup_x1, 1)) (hv : v.category = 1) (hv2 : v2.category = 1) (k : Sm X cl w nL res mv u (pc + 1) lv (v :: v2 :: v :: st)) : Sm X cl w nL res mv u pc lv (v :: v2 :: st) :=
  fun hm H locs ls hP hD hS hl => lv_dup_x1 E.1 E.2.1 hdg hv hv2 (k hm H locs ls hP hD hS hl)
theorem Sm_if_eq (E : En X cl Ts cc own nL tys as rm ext) {x : Int32} {off : Int} {tgt : Nat} {d : Decidable (x = 0)} {mt mf : Option α} (hdg : decode cc pc = .ok (.ifCond .eq off, 3)) (ht : (pc : Int) + off = (tgt : Int)) (kt : x = 0 → Sm X cl w nL res mt u tgt lv st) (kf : ¬ x = 0 → Sm X cl w nL res mf u (pc + 3) lv st) : Sm X cl w nL res (@ite _ (x = 0) d mt mf) u pc lv (.int x :: st) :=
  fun hm H locs ls hP hD hS hl => lv_if_eq E.1 E.2.1 hdg ht (fun h => kt h (by rw [if_pos h] at hm; exact hm) H locs ls hP hD hS hl) (fun h => kf h (by rw [if_neg h] at hm; exact hm) H locs ls hP hD hS hl)
theorem Sm_if_eq_t (E : En X cl Ts cc own nL tys as rm ext) {x : Int32} {off : Int} {tgt : Nat} (hdg : decode cc pc = .ok (.ifCond .eq off, 3)) (ht : (pc : Int) + off = (tgt : Int)) (hc : x = 0) (k : Sm X cl w nL res mv u tgt lv st) : Sm X cl w nL res mv u pc lv (.int x :: st) :=
  fun hm H locs ls hP hD hS hl => lv_if_eq E.1 E.2.1 hdg ht (fun _ => k hm H locs ls hP hD hS hl) (fun h => absurd hc h)
theorem Sm_if_eq_f (E : En X cl Ts cc own nL tys as rm ext) {x : Int32} {off : Int} {tgt : Nat} (hdg : decode cc pc = .ok (.ifCond .eq off, 3)) (ht : (pc : Int) + off = (tgt : Int)) (hc : ¬ x = 0) (k : Sm X cl w nL res mv u (pc + 3) lv st) : Sm X cl w nL res mv u pc lv (.int x :: st) :=
  fun hm H locs ls hP hD hS hl => lv_if_eq E.1 E.2.1 hdg ht (fun h => absurd h hc) (fun _ => k hm H locs ls hP hD hS hl)
theorem Sm_icmp_eq (E : En X cl Ts cc own nL tys as rm ext) {x y : Int32} {off : Int} {tgt : Nat} {d : Decidable (x = y)} {mt mf : Option α} (hdg : decode cc pc = .ok (.if_icmp .eq off, 3)) (ht : (pc : Int) + off = (tgt : Int)) (kt : x = y → Sm X cl w nL res mt u tgt lv st) (kf : ¬ x = y → Sm X cl w nL res mf u (pc + 3) lv st) : Sm X cl w nL res (@ite _ (x = y) d mt mf) u pc lv (.int y :: .int x :: st) :=
  fun hm H locs ls hP hD hS hl => lv_icmp_eq E.1 E.2.1 hdg ht (fun h => kt h (by rw [if_pos h] at hm; exact hm) H locs ls hP hD hS hl) (fun h => kf h (by rw [if_neg h] at hm; exact hm) H locs ls hP hD hS hl)
theorem Sm_icmp_eq_t (E : En X cl Ts cc own nL tys as rm ext) {x y : Int32} {off : Int} {tgt : Nat} (hdg : decode cc pc = .ok (.if_icmp .eq off, 3)) (ht : (pc : Int) + off = (tgt : Int)) (hc : x = y) (k : Sm X cl w nL res mv u tgt lv st) : Sm X cl w nL res mv u pc lv (.int y :: .int x :: st) :=
  fun hm H locs ls hP hD hS hl => lv_icmp_eq E.1 E.2.1 hdg ht (fun _ => k hm H locs ls hP hD hS hl) (fun h => absurd hc h)
theorem Sm_icmp_eq_f (E : En X cl Ts cc own nL tys as rm ext) {x y : Int32} {off : Int} {tgt : Nat} (hdg : decode cc pc = .ok (.if_icmp .eq off, 3)) (ht : (pc : Int) + off = (tgt : Int)) (hc : ¬ x = y) (k : Sm X cl w nL res mv u (pc + 3) lv st) : Sm X cl w nL res mv u pc lv (.int y :: .int x :: st) :=
  fun hm H locs ls hP hD hS hl => lv_icmp_eq E.1 E.2.1 hdg ht (fun h => absurd h hc) (fun _ => k hm H locs ls hP hD hS hl)
theorem Sm_if_ne (E : En X cl Ts cc own nL tys as rm ext) {x : Int32} {off : Int} {tgt : Nat} {d : Decidable (x = 0)} {mt mf : Option α} (hdg : decode cc pc = .ok (.ifCond .ne off, 3)) (ht : (pc : Int) + off = (tgt : Int)) (kt : ¬ x = 0 → Sm X cl w nL res mt u tgt lv st) (kf : x = 0 → Sm X cl w nL res mf u (pc + 3) lv st) : Sm X cl w nL res (@ite _ (x = 0) d mf mt) u pc lv (.int x :: st) :=
  fun hm H locs ls hP hD hS hl => lv_if_ne E.1 E.2.1 hdg ht (fun h => kt h (by rw [if_neg h] at hm; exact hm) H locs ls hP hD hS hl) (fun h => kf h (by rw [if_pos h] at hm; exact hm) H locs ls hP hD hS hl)
theorem Sm_if_ne_t (E : En X cl Ts cc own nL tys as rm ext) {x : Int32} {off : Int} {tgt : Nat} (hdg : decode cc pc = .ok (.ifCond .ne off, 3)) (ht : (pc : Int) + off = (tgt : Int)) (hc : ¬ x = 0) (k : Sm X cl w nL res mv u tgt lv st) : Sm X cl w nL res mv u pc lv (.int x :: st) :=
  fun hm H locs ls hP hD hS hl => lv_if_ne E.1 E.2.1 hdg ht (fun _ => k hm H locs ls hP hD hS hl) (fun h => absurd h hc)
theorem Sm_if_ne_f (E : En X cl Ts cc own nL tys as rm ext) {x : Int32} {off : Int} {tgt : Nat} (hdg : decode cc pc = .ok (.ifCond .ne off, 3)) (ht : (pc : Int) + off = (tgt : Int)) (hc : x = 0) (k : Sm X cl w nL res mv u (pc + 3) lv st) : Sm X cl w nL res mv u pc lv (.int x :: st) :=
  fun hm H locs ls hP hD hS hl => lv_if_ne E.1 E.2.1 hdg ht (fun h => absurd hc h) (fun _ => k hm H locs ls hP hD hS hl)
theorem Sm_icmp_ne (E : En X cl Ts cc own nL tys as rm ext) {x y : Int32} {off : Int} {tgt : Nat} {d : Decidable (x = y)} {mt mf : Option α} (hdg : decode cc pc = .ok (.if_icmp .ne off, 3)) (ht : (pc : Int) + off = (tgt : Int)) (kt : ¬ x = y → Sm X cl w nL res mt u tgt lv st) (kf : x = y → Sm X cl w nL res mf u (pc + 3) lv st) : Sm X cl w nL res (@ite _ (x = y) d mf mt) u pc lv (.int y :: .int x :: st) :=
  fun hm H locs ls hP hD hS hl => lv_icmp_ne E.1 E.2.1 hdg ht (fun h => kt h (by rw [if_neg h] at hm; exact hm) H locs ls hP hD hS hl) (fun h => kf h (by rw [if_pos h] at hm; exact hm) H locs ls hP hD hS hl)
theorem Sm_icmp_ne_t (E : En X cl Ts cc own nL tys as rm ext) {x y : Int32} {off : Int} {tgt : Nat} (hdg : decode cc pc = .ok (.if_icmp .ne off, 3)) (ht : (pc : Int) + off = (tgt : Int)) (hc : ¬ x = y) (k : Sm X cl w nL res mv u tgt lv st) : Sm X cl w nL res mv u pc lv (.int y :: .int x :: st) :=
  fun hm H locs ls hP hD hS hl => lv_icmp_ne E.1 E.2.1 hdg ht (fun _ => k hm H locs ls hP hD hS hl) (fun h => absurd h hc)
theorem Sm_icmp_ne_f (E : En X cl Ts cc own nL tys as rm ext) {x y : Int32} {off : Int} {tgt : Nat} (hdg : decode cc pc = .ok (.if_icmp .ne off, 3)) (ht : (pc : Int) + off = (tgt : Int)) (hc : x = y) (k : Sm X cl w nL res mv u (pc + 3) lv st) : Sm X cl w nL res mv u pc lv (.int y :: .int x :: st) :=
  fun hm H locs ls hP hD hS hl => lv_icmp_ne E.1 E.2.1 hdg ht (fun h => absurd hc h) (fun _ => k hm H locs ls hP hD hS hl)
theorem Sm_if_lt (E : En X cl Ts cc own nL tys as rm ext) {x : Int32} {off : Int} {tgt : Nat} {d : Decidable (x < 0)} {mt mf : Option α} (hdg : decode cc pc = .ok (.ifCond .lt off, 3)) (ht : (pc : Int) + off = (tgt : Int)) (kt : x < 0 → Sm X cl w nL res mt u tgt lv st) (kf : ¬ x < 0 → Sm X cl w nL res mf u (pc + 3) lv st) : Sm X cl w nL res (@ite _ (x < 0) d mt mf) u pc lv (.int x :: st) :=
  fun hm H locs ls hP hD hS hl => lv_if_lt E.1 E.2.1 hdg ht (fun h => kt h (by rw [if_pos h] at hm; exact hm) H locs ls hP hD hS hl) (fun h => kf h (by rw [if_neg h] at hm; exact hm) H locs ls hP hD hS hl)
theorem Sm_if_lt_t (E : En X cl Ts cc own nL tys as rm ext) {x : Int32} {off : Int} {tgt : Nat} (hdg : decode cc pc = .ok (.ifCond .lt off, 3)) (ht : (pc : Int) + off = (tgt : Int)) (hc : x < 0) (k : Sm X cl w nL res mv u tgt lv st) : Sm X cl w nL res mv u pc lv (.int x :: st) :=
  fun hm H locs ls hP hD hS hl => lv_if_lt E.1 E.2.1 hdg ht (fun _ => k hm H locs ls hP hD hS hl) (fun h => absurd hc h)
theorem Sm_if_lt_f (E : En X cl Ts cc own nL tys as rm ext) {x : Int32} {off : Int} {tgt : Nat} (hdg : decode cc pc = .ok (.ifCond .lt off, 3)) (ht : (pc : Int) + off = (tgt : Int)) (hc : ¬ x < 0) (k : Sm X cl w nL res mv u (pc + 3) lv st) : Sm X cl w nL res mv u pc lv (.int x :: st) :=
  fun hm H locs ls hP hD hS hl => lv_if_lt E.1 E.2.1 hdg ht (fun h => absurd h hc) (fun _ => k hm H locs ls hP hD hS hl)
theorem Sm_icmp_lt (E : En X cl Ts cc own nL tys as rm ext) {x y : Int32} {off : Int} {tgt : Nat} {d : Decidable (x < y)} {mt mf : Option α} (hdg : decode cc pc = .ok (.if_icmp .lt off, 3)) (ht : (pc : Int) + off = (tgt : Int)) (kt : x < y → Sm X cl w nL res mt u tgt lv st) (kf : ¬ x < y → Sm X cl w nL res mf u (pc + 3) lv st) : Sm X cl w nL res (@ite _ (x < y) d mt mf) u pc lv (.int y :: .int x :: st) :=
  fun hm H locs ls hP hD hS hl => lv_icmp_lt E.1 E.2.1 hdg ht (fun h => kt h (by rw [if_pos h] at hm; exact hm) H locs ls hP hD hS hl) (fun h => kf h (by rw [if_neg h] at hm; exact hm) H locs ls hP hD hS hl)
theorem Sm_icmp_lt_t (E : En X cl Ts cc own nL tys as rm ext) {x y : Int32} {off : Int} {tgt : Nat} (hdg : decode cc pc = .ok (.if_icmp .lt off, 3)) (ht : (pc : Int) + off = (tgt : Int)) (hc : x < y) (k : Sm X cl w nL res mv u tgt lv st) : Sm X cl w nL res mv u pc lv (.int y :: .int x :: st) :=
  fun hm H locs ls hP hD hS hl => lv_icmp_lt E.1 E.2.1 hdg ht (fun _ => k hm H locs ls hP hD hS hl) (fun h => absurd hc h)
theorem Sm_icmp_lt_f (E : En X cl Ts cc own nL tys as rm ext) {x y : Int32} {off : Int} {tgt : Nat} (hdg : decode cc pc = .ok (.if_icmp .lt off, 3)) (ht : (pc : Int) + off = (tgt : Int)) (hc : ¬ x < y) (k : Sm X cl w nL res mv u (pc + 3) lv st) : Sm X cl w nL res mv u pc lv (.int y :: .int x :: st) :=
  fun hm H locs ls hP hD hS hl => lv_icmp_lt E.1 E.2.1 hdg ht (fun h => absurd h hc) (fun _ => k hm H locs ls hP hD hS hl)
theorem Sm_if_ge (E : En X cl Ts cc own nL tys as rm ext) {x : Int32} {off : Int} {tgt : Nat} {d : Decidable (0 ≤ x)} {mt mf : Option α} (hdg : decode cc pc = .ok (.ifCond .ge off, 3)) (ht : (pc : Int) + off = (tgt : Int)) (kt : 0 ≤ x → Sm X cl w nL res mt u tgt lv st) (kf : ¬ 0 ≤ x → Sm X cl w nL res mf u (pc + 3) lv st) : Sm X cl w nL res (@ite _ (0 ≤ x) d mt mf) u pc lv (.int x :: st) :=
  fun hm H locs ls hP hD hS hl => lv_if_ge E.1 E.2.1 hdg ht (fun h => kt h (by rw [if_pos h] at hm; exact hm) H locs ls hP hD hS hl) (fun h => kf h (by rw [if_neg h] at hm; exact hm) H locs ls hP hD hS hl)
theorem Sm_if_ge_t (E : En X cl Ts cc own nL tys as rm ext) {x : Int32} {off : Int} {tgt : Nat} (hdg : decode cc pc = .ok (.ifCond .ge off, 3)) (ht : (pc : Int) + off = (tgt : Int)) (hc : 0 ≤ x) (k : Sm X cl w nL res mv u tgt lv st) : Sm X cl w nL res mv u pc lv (.int x :: st) :=
  fun hm H locs ls hP hD hS hl => lv_if_ge E.1 E.2.1 hdg ht (fun _ => k hm H locs ls hP hD hS hl) (fun h => absurd hc h)
theorem Sm_if_ge_f (E : En X cl Ts cc own nL tys as rm ext) {x : Int32} {off : Int} {tgt : Nat} (hdg : decode cc pc = .ok (.ifCond .ge off, 3)) (ht : (pc : Int) + off = (tgt : Int)) (hc : ¬ 0 ≤ x) (k : Sm X cl w nL res mv u (pc + 3) lv st) : Sm X cl w nL res mv u pc lv (.int x :: st) :=
  fun hm H locs ls hP hD hS hl => lv_if_ge E.1 E.2.1 hdg ht (fun h => absurd h hc) (fun _ => k hm H locs ls hP hD hS hl)
theorem Sm_icmp_ge (E : En X cl Ts cc own nL tys as rm ext) {x y : Int32} {off : Int} {tgt : Nat} {d : Decidable (y ≤ x)} {mt mf : Option α} (hdg : decode cc pc = .ok (.if_icmp .ge off, 3)) (ht : (pc : Int) + off = (tgt : Int)) (kt : y ≤ x → Sm X cl w nL res mt u tgt lv st) (kf : ¬ y ≤ x → Sm X cl w nL res mf u (pc + 3) lv st) : Sm X cl w nL res (@ite _ (y ≤ x) d mt mf) u pc lv (.int y :: .int x :: st) :=
  fun hm H locs ls hP hD hS hl => lv_icmp_ge E.1 E.2.1 hdg ht (fun h => kt h (by rw [if_pos h] at hm; exact hm) H locs ls hP hD hS hl) (fun h => kf h (by rw [if_neg h] at hm; exact hm) H locs ls hP hD hS hl)
theorem Sm_icmp_ge_t (E : En X cl Ts cc own nL tys as rm ext) {x y : Int32} {off : Int} {tgt : Nat} (hdg : decode cc pc = .ok (.if_icmp .ge off, 3)) (ht : (pc : Int) + off = (tgt : Int)) (hc : y ≤ x) (k : Sm X cl w nL res mv u tgt lv st) : Sm X cl w nL res mv u pc lv (.int y :: .int x :: st) :=
  fun hm H locs ls hP hD hS hl => lv_icmp_ge E.1 E.2.1 hdg ht (fun _ => k hm H locs ls hP hD hS hl) (fun h => absurd hc h)
theorem Sm_icmp_ge_f (E : En X cl Ts cc own nL tys as rm ext) {x y : Int32} {off : Int} {tgt : Nat} (hdg : decode cc pc = .ok (.if_icmp .ge off, 3)) (ht : (pc : Int) + off = (tgt : Int)) (hc : ¬ y ≤ x) (k : Sm X cl w nL res mv u (pc + 3) lv st) : Sm X cl w nL res mv u pc lv (.int y :: .int x :: st) :=
  fun hm H locs ls hP hD hS hl => lv_icmp_ge E.1 E.2.1 hdg ht (fun h => absurd h hc) (fun _ => k hm H locs ls hP hD hS hl)
theorem Sm_if_gt (E : En X cl Ts cc own nL tys as rm ext) {x : Int32} {off : Int} {tgt : Nat} {d : Decidable (0 < x)} {mt mf : Option α} (hdg : decode cc pc = .ok (.ifCond .gt off, 3)) (ht : (pc : Int) + off = (tgt : Int)) (kt : 0 < x → Sm X cl w nL res mt u tgt lv st) (kf : ¬ 0 < x → Sm X cl w nL res mf u (pc + 3) lv st) : Sm X cl w nL res (@ite _ (0 < x) d mt mf) u pc lv (.int x :: st) :=
  fun hm H locs ls hP hD hS hl => lv_if_gt E.1 E.2.1 hdg ht (fun h => kt h (by rw [if_pos h] at hm; exact hm) H locs ls hP hD hS hl) (fun h => kf h (by rw [if_neg h] at hm; exact hm) H locs ls hP hD hS hl)
theorem Sm_if_gt_t (E : En X cl Ts cc own nL tys as rm ext) {x : Int32} {off : Int} {tgt : Nat} (hdg : decode cc pc = .ok (.ifCond .gt off, 3)) (ht : (pc : Int) + off = (tgt : Int)) (hc : 0 < x) (k : Sm X cl w nL res mv u tgt lv st) : Sm X cl w nL res mv u pc lv (.int x :: st) :=
  fun hm H locs ls hP hD hS hl => lv_if_gt E.1 E.2.1 hdg ht (fun _ => k hm H locs ls hP hD hS hl) (fun h => absurd hc h)
theorem Sm_if_gt_f (E : En X cl Ts cc own nL tys as rm ext) {x : Int32} {off : Int} {tgt : Nat} (hdg : decode cc pc = .ok (.ifCond .gt off, 3)) (ht : (pc : Int) + off = (tgt : Int)) (hc : ¬ 0 < x) (k : Sm X cl w nL res mv u (pc + 3) lv st) : Sm X cl w nL res mv u pc lv (.int x :: st) :=
  fun hm H locs ls hP hD hS hl => lv_if_gt E.1 E.2.1 hdg ht (fun h => absurd h hc) (fun _ => k hm H locs ls hP hD hS hl)
theorem Sm_icmp_gt (E : En X cl Ts cc own nL tys as rm ext) {x y : Int32} {off : Int} {tgt : Nat} {d : Decidable (y < x)} {mt mf : Option α} (hdg : decode cc pc = .ok (.if_icmp .gt off, 3)) (ht : (pc : Int) + off = (tgt : Int)) (kt : y < x → Sm X cl w nL res mt u tgt lv st) (kf : ¬ y < x → Sm X cl w nL res mf u (pc + 3) lv st) : Sm X cl w nL res (@ite _ (y < x) d mt mf) u pc lv (.int y :: .int x :: st) :=
  fun hm H locs ls hP hD hS hl => lv_icmp_gt E.1 E.2.1 hdg ht (fun h => kt h (by rw [if_pos h] at hm; exact hm) H locs ls hP hD hS hl) (fun h => kf h (by rw [if_neg h] at hm; exact hm) H locs ls hP hD hS hl)
theorem Sm_icmp_gt_t (E : En X cl Ts cc own nL tys as rm ext) {x y : Int32} {off : Int} {tgt : Nat} (hdg : decode cc pc = .ok (.if_icmp .gt off, 3)) (ht : (pc : Int) + off = (tgt : Int)) (hc : y < x) (k : Sm X cl w nL res mv u tgt lv st) : Sm X cl w nL res mv u pc lv (.int y :: .int x :: st) :=
  fun hm H locs ls hP hD hS hl => lv_icmp_gt E.1 E.2.1 hdg ht (fun _ => k hm H locs ls hP hD hS hl) (fun h => absurd hc h)
theorem Sm_icmp_gt_f (E : En X cl Ts cc own nL tys as rm ext) {x y : Int32} {off : Int} {tgt : Nat} (hdg : decode cc pc = .ok (.if_icmp .gt off, 3)) (ht : (pc : Int) + off = (tgt : Int)) (hc : ¬ y < x) (k : Sm X cl w nL res mv u (pc + 3) lv st) : Sm X cl w nL res mv u pc lv (.int y :: .int x :: st) :=
  fun hm H locs ls hP hD hS hl => lv_icmp_gt E.1 E.2.1 hdg ht (fun h => absurd h hc) (fun _ => k hm H locs ls hP hD hS hl)
theorem Sm_if_le (E : En X cl Ts cc own nL tys as rm ext) {x : Int32} {off : Int} {tgt : Nat} {d : Decidable (x ≤ 0)} {mt mf : Option α} (hdg : decode cc pc = .ok (.ifCond .le off, 3)) (ht : (pc : Int) + off = (tgt : Int)) (kt : x ≤ 0 → Sm X cl w nL res mt u tgt lv st) (kf : ¬ x ≤ 0 → Sm X cl w nL res mf u (pc + 3) lv st) : Sm X cl w nL res (@ite _ (x ≤ 0) d mt mf) u pc lv (.int x :: st) :=
  fun hm H locs ls hP hD hS hl => lv_if_le E.1 E.2.1 hdg ht (fun h => kt h (by rw [if_pos h] at hm; exact hm) H locs ls hP hD hS hl) (fun h => kf h (by rw [if_neg h] at hm; exact hm) H locs ls hP hD hS hl)
theorem Sm_if_le_t (E : En X cl Ts cc own nL tys as rm ext) {x : Int32} {off : Int} {tgt : Nat} (hdg : decode cc pc = .ok (.ifCond .le off, 3)) (ht : (pc : Int) + off = (tgt : Int)) (hc : x ≤ 0) (k : Sm X cl w nL res mv u tgt lv st) : Sm X cl w nL res mv u pc lv (.int x :: st) :=
  fun hm H locs ls hP hD hS hl => lv_if_le E.1 E.2.1 hdg ht (fun _ => k hm H locs ls hP hD hS hl) (fun h => absurd hc h)
theorem Sm_if_le_f (E : En X cl Ts cc own nL tys as rm ext) {x : Int32} {off : Int} {tgt : Nat} (hdg : decode cc pc = .ok (.ifCond .le off, 3)) (ht : (pc : Int) + off = (tgt : Int)) (hc : ¬ x ≤ 0) (k : Sm X cl w nL res mv u (pc + 3) lv st) : Sm X cl w nL res mv u pc lv (.int x :: st) :=
  fun hm H locs ls hP hD hS hl => lv_if_le E.1 E.2.1 hdg ht (fun h => absurd h hc) (fun _ => k hm H locs ls hP hD hS hl)
theorem Sm_icmp_le (E : En X cl Ts cc own nL tys as rm ext) {x y : Int32} {off : Int} {tgt : Nat} {d : Decidable (x ≤ y)} {mt mf : Option α} (hdg : decode cc pc = .ok (.if_icmp .le off, 3)) (ht : (pc : Int) + off = (tgt : Int)) (kt : x ≤ y → Sm X cl w nL res mt u tgt lv st) (kf : ¬ x ≤ y → Sm X cl w nL res mf u (pc + 3) lv st) : Sm X cl w nL res (@ite _ (x ≤ y) d mt mf) u pc lv (.int y :: .int x :: st) :=
  fun hm H locs ls hP hD hS hl => lv_icmp_le E.1 E.2.1 hdg ht (fun h => kt h (by rw [if_pos h] at hm; exact hm) H locs ls hP hD hS hl) (fun h => kf h (by rw [if_neg h] at hm; exact hm) H locs ls hP hD hS hl)
theorem Sm_icmp_le_t (E : En X cl Ts cc own nL tys as rm ext) {x y : Int32} {off : Int} {tgt : Nat} (hdg : decode cc pc = .ok (.if_icmp .le off, 3)) (ht : (pc : Int) + off = (tgt : Int)) (hc : x ≤ y) (k : Sm X cl w nL res mv u tgt lv st) : Sm X cl w nL res mv u pc lv (.int y :: .int x :: st) :=
  fun hm H locs ls hP hD hS hl => lv_icmp_le E.1 E.2.1 hdg ht (fun _ => k hm H locs ls hP hD hS hl) (fun h => absurd hc h)
theorem Sm_icmp_le_f (E : En X cl Ts cc own nL tys as rm ext) {x y : Int32} {off : Int} {tgt : Nat} (hdg : decode cc pc = .ok (.if_icmp .le off, 3)) (ht : (pc : Int) + off = (tgt : Int)) (hc : ¬ x ≤ y) (k : Sm X cl w nL res mv u (pc + 3) lv st) : Sm X cl w nL res mv u pc lv (.int y :: .int x :: st) :=
  fun hm H locs ls hP hD hS hl => lv_icmp_le E.1 E.2.1 hdg ht (fun h => absurd h hc) (fun _ => k hm H locs ls hP hD hS hl)
theorem Sm_goto (E : En X cl Ts cc own nL tys as rm ext) {off : Int} {tgt : Nat} (hdg : decode cc pc = .ok (.goto off, 3)) (ht : (pc : Int) + off = (tgt : Int)) (k : Sm X cl w nL res mv u tgt lv st) : Sm X cl w nL res mv u pc lv st :=
  fun hm H locs ls hP hD hS hl => lv_goto E.1 E.2.1 hdg ht (k hm H locs ls hP hD hS hl)
theorem Sm_tableIn {x k : Int32} (hx : x = k) (E : En X cl Ts cc own nL tys as rm ext) {dflt lo hi off : Int} {offs : Array Int} {len tgt : Nat} (hdg : decode cc pc = .ok (.tableswitch dflt lo hi offs, len)) (h1 : ¬ k.toInt < lo) (h2 : ¬ hi < k.toInt) (ho : offs[(k.toInt - lo).toNat]? = some off) (ht : (pc : Int) + off = (tgt : Int)) (kk : Sm X cl w nL res mv u tgt lv st) : Sm X cl w nL res mv u pc lv (.int x :: st) := by
  subst hx
  exact fun hm H locs ls hP hD hS hl => lv_tableIn E.1 E.2.1 hdg h1 h2 ho ht (kk hm H locs ls hP hD hS hl)
theorem Sm_tableOut (E : En X cl Ts cc own nL tys as rm ext) {x : Int32} {dflt lo hi : Int} {offs : Array Int} {len tgt : Nat} (hdg : decode cc pc = .ok (.tableswitch dflt lo hi offs, len)) (h : x.toInt < lo ∨ hi < x.toInt) (ht : (pc : Int) + dflt = (tgt : Int)) (kk : Sm X cl w nL res mv u tgt lv st) : Sm X cl w nL res mv u pc lv (.int x :: st) :=
  fun hm H locs ls hP hD hS hl => lv_tableOut E.1 E.2.1 hdg h ht (kk hm H locs ls hP hD hS hl)
/-- a field is read -/
theorem Sm_get (E : En X cl Ts cc own nL tys as rm ext) {ref C : String} {T : u_T} {N ci index : Nat} (hin : ∀ x ∈ u_ws C T N, x ∈ Ts) (hc : cl[ci]? = some (C, T, N)) {a q0 : Nat} {fs : List Value} (he : (w u)[q0]? = some (a, .inr (ci, fs))) (k : Nat) (hk : k < N) (hd : (T k).1 = ref) {v : Value} (hv : fs[k]? = some v) (hlink : Cond.fieldLink own index ref (T k).2.1 (T k).2.2.1 ∈ Ts) (hdg : decode cc pc = .ok (.getfield index, 3)) (kk : Sm X cl w nL res mv u (pc + 3) lv (v :: st)) : Sm X cl w nL res mv u pc lv (.ref a :: st) := by
  subst hd
  exact fun hm H locs ls hP hD hS hl => va_get E.1 E.2.1 E.2.2.1 hin E.2.2.2.1 E.2.2.2.2.1 hP q0 he hc k hk (E.2.2.1 _ hlink) (fun _ h => h) hv hdg (kk hm H locs ls hP hD hS hl)
/-- a field is written -/
theorem Sm_put (E : En X cl Ts cc own nL tys as rm ext) {ref C : String} {T : u_T} {N ci index : Nat} (hin : ∀ x ∈ u_ws C T N, x ∈ Ts) (ty0 : Nat → FieldType) (hty : ∀ k, k < N → parseFieldDescriptor (T k).2.2.1 = some (ty0 k)) (hnm : ∀ a, a < N → ∀ b, b < N → a ≠ b → (T a).2.1 ≠ (T b).2.1) (hc : cl[ci]? = some (C, T, N)) {a q0 : Nat} {fs : List Value} (he : (w u)[q0]? = some (a, .inr (ci, fs))) (k : Nat) (hk : k < N) (hd : (T k).1 = ref) (hfin : (T k).2.2.2 = false) {ty : FieldType} (hpd : parseFieldDescriptor (T k).2.2.1 = some ty) (hl0 : k < fs.length) {v : Value} {u' : σ} (hs : (w u).set q0 (a, .inr (ci, fs.set k v)) = w u') (hn : narrow ty v = v) (hf : fits ty v = true) (hlink : Cond.fieldLink own index ref (T k).2.1 (T k).2.2.1 ∈ Ts) (hdg : decode cc pc = .ok (.putfield index, 3)) {K : σ → Option α} (kk : ∀ u1 : σ, u1 = u' → Sm X cl w nL res (K u1) u1 (pc + 3) lv st) : Sm X cl w nL res (seq u' K) u pc lv (v :: .ref a :: st) := by
  subst hd
  refine fun hm H locs ls hP hD hS hl => va_put E.1 E.2.1 E.2.2.1 hin ty0 hty hnm E.2.2.2.1 E.2.2.2.2.1 hP hD hS q0 he hc k hk (E.2.2.1 _ hlink) (fun _ h => h) hfin hpd hn hf hl0 hdg (fun H1 locs1 hP1 hD1 hS1 => ?_)
  rw [hs] at hP1 hD1
  exact kk u' rfl hm H1 locs1 ls hP1 hD1 hS1 hl
theorem Sm_iald (E : En X cl Ts cc own nL tys as rm ext) {a q0 t0 n : Nat} {cA : ClassId} {f : Nat → Int32} (he : (w u)[q0]? = some (a, .inl (cA, n, .inl f))) (ht : tys[t0]? = some (cA, .int)) {i : Int32} (hin : vp_in i n) (hdg : decode cc pc = .ok (.iaload, 1)) (k : Sm X cl w nL res mv u (pc + 1) lv (.int (f i.toNatClampNeg) :: st)) : Sm X cl w nL res mv u pc lv (.int i :: .ref a :: st) :=
  fun hm H locs ls hP hD hS hl => va_iald E.1 E.2.1 E.2.2.2.2.1 hP q0 t0 he ht hin hdg (k hm H locs ls hP hD hS hl)
theorem Sm_bald (E : En X cl Ts cc own nL tys as rm ext) {a q0 t0 n : Nat} {cA : ClassId} {f : Nat → Int32} (he : (w u)[q0]? = some (a, .inl (cA, n, .inl f))) (ht : tys[t0]? = some (cA, .byte)) {i : Int32} (hin : vp_in i n) (hdg : decode cc pc = .ok (.baload, 1)) (k : Sm X cl w nL res mv u (pc + 1) lv (.int (f i.toNatClampNeg) :: st)) : Sm X cl w nL res mv u pc lv (.int i :: .ref a :: st) :=
  fun hm H locs ls hP hD hS hl => va_bald E.1 E.2.1 E.2.2.2.2.1 hP q0 t0 he ht hin hdg (k hm H locs ls hP hD hS hl)
theorem Sm_zald (E : En X cl Ts cc own nL tys as rm ext) {a q0 t0 n : Nat} {cA : ClassId} {f : Nat → Int32} (he : (w u)[q0]? = some (a, .inl (cA, n, .inl f))) (ht : tys[t0]? = some (cA, .boolean)) {i : Int32} (hin : vp_in i n) (hdg : decode cc pc = .ok (.baload, 1)) (k : Sm X cl w nL res mv u (pc + 1) lv (.int (f i.toNatClampNeg) :: st)) : Sm X cl w nL res mv u pc lv (.int i :: .ref a :: st) :=
  fun hm H locs ls hP hD hS hl => va_zald E.1 E.2.1 E.2.2.2.2.1 hP q0 t0 he ht hin hdg (k hm H locs ls hP hD hS hl)
theorem Sm_iast (E : En X cl Ts cc own nL tys as rm ext) {a q0 t0 n : Nat} {cA : ClassId} {f : Nat → Int32} (he : (w u)[q0]? = some (a, .inl (cA, n, .inl f))) (ht : tys[t0]? = some (cA, .int)) {i x : Int32} {u' : σ} (hs : (w u).set q0 (a, .inl (cA, n, .inl (upd f i.toNatClampNeg x))) = w u') (hin : vp_in i n) (hdg : decode cc pc = .ok (.iastore, 1)) {K : σ → Option α} (kk : ∀ u1 : σ, u1 = u' → Sm X cl w nL res (K u1) u1 (pc + 1) lv st) : Sm X cl w nL res (seq u' K) u pc lv (.int x :: .int i :: .ref a :: st) :=
  fun hm H locs ls hP hD hS hl => va_iast E.1 E.2.1 E.2.2.2.2.1 hP hD hS q0 t0 he ht hin hdg (fun H1 locs1 hP1 hD1 hS1 => kk u' rfl hm H1 locs1 ls (hs ▸ hP1) (hs ▸ hD1) hS1 hl)
theorem Sm_bast (E : En X cl Ts cc own nL tys as rm ext) {a q0 t0 n : Nat} {cA : ClassId} {f : Nat → Int32} (he : (w u)[q0]? = some (a, .inl (cA, n, .inl f))) (ht : tys[t0]? = some (cA, .byte)) {i x : Int32} {u' : σ} (hs : (w u).set q0 (a, .inl (cA, n, .inl (upd f i.toNatClampNeg (i2b x)))) = w u') (hin : vp_in i n) (hdg : decode cc pc = .ok (.bastore, 1)) {K : σ → Option α} (kk : ∀ u1 : σ, u1 = u' → Sm X cl w nL res (K u1) u1 (pc + 1) lv st) : Sm X cl w nL res (seq u' K) u pc lv (.int x :: .int i :: .ref a :: st) :=
  fun hm H locs ls hP hD hS hl => va_bast E.1 E.2.1 E.2.2.2.2.1 hP hD hS q0 t0 he ht hin hdg (fun H1 locs1 hP1 hD1 hS1 => kk u' rfl hm H1 locs1 ls (hs ▸ hP1) (hs ▸ hD1) hS1 hl)
theorem Sm_zast (E : En X cl Ts cc own nL tys as rm ext) {a q0 t0 n : Nat} {cA : ClassId} {f : Nat → Int32} (he : (w u)[q0]? = some (a, .inl (cA, n, .inl f))) (ht : tys[t0]? = some (cA, .boolean)) {i x : Int32} {u' : σ} (hs : (w u).set q0 (a, .inl (cA, n, .inl (upd f i.toNatClampNeg (zn x)))) = w u') (hin : vp_in i n) (hdg : decode cc pc = .ok (.bastore, 1)) {K : σ → Option α} (kk : ∀ u1 : σ, u1 = u' → Sm X cl w nL res (K u1) u1 (pc + 1) lv st) : Sm X cl w nL res (seq u' K) u pc lv (.int x :: .int i :: .ref a :: st) :=
  fun hm H locs ls hP hD hS hl => va_zast E.1 E.2.1 E.2.2.2.2.1 hP hD hS q0 t0 he ht hin hdg (fun H1 locs1 hP1 hD1 hS1 => kk u' rfl hm H1 locs1 ls (hs ▸ hP1) (hs ▸ hD1) hS1 hl)
theorem Sm_lald (E : En X cl Ts cc own nL tys as rm ext) {a q0 t0 n : Nat} {cA : ClassId} {f : Nat → Int64} (he : (w u)[q0]? = some (a, .inl (cA, n, .inr (.inl f)))) (ht : tys[t0]? = some (cA, .long)) {i : Int32} (hin : vp_in i n) (hdg : decode cc pc = .ok (.laload, 1)) (k : Sm X cl w nL res mv u (pc + 1) lv (.long (f i.toNatClampNeg) :: st)) : Sm X cl w nL res mv u pc lv (.int i :: .ref a :: st) :=
  fun hm H locs ls hP hD hS hl => va_lald E.1 E.2.1 E.2.2.2.2.1 hP q0 t0 he ht hin hdg (k hm H locs ls hP hD hS hl)
theorem Sm_last (E : En X cl Ts cc own nL tys as rm ext) {a q0 t0 n : Nat} {cA : ClassId} {f : Nat → Int64} (he : (w u)[q0]? = some (a, .inl (cA, n, .inr (.inl f)))) (ht : tys[t0]? = some (cA, .long)) {i : Int32} {x : Int64} {u' : σ} (hs : (w u).set q0 (a, .inl (cA, n, .inr (.inl (vp_updL f i.toNatClampNeg x)))) = w u') (hin : vp_in i n) (hdg : decode cc pc = .ok (.lastore, 1)) {K : σ → Option α} (kk : ∀ u1 : σ, u1 = u' → Sm X cl w nL res (K u1) u1 (pc + 1) lv st) : Sm X cl w nL res (seq u' K) u pc lv (.long x :: .int i :: .ref a :: st) :=
  fun hm H locs ls hP hD hS hl => va_last E.1 E.2.1 E.2.2.2.2.1 hP hD hS q0 t0 he ht hin hdg (fun H1 locs1 hP1 hD1 hS1 => kk u' rfl hm H1 locs1 ls (hs ▸ hP1) (hs ▸ hD1) hS1 hl)
theorem Sm_alen (E : En X cl Ts cc own nL tys as rm ext) {a q0 t0 : Nat} {cA : ClassId} {x : vp_A} {ty : FieldType} (he : (w u)[q0]? = some (a, .inl (cA, x))) (ht : tys[t0]? = some (cA, ty)) {v : Int32} (hv : Int32.ofNat x.1 = v) (hdg : decode cc pc = .ok (.arraylength, 1)) (k : Sm X cl w nL res mv u (pc + 1) lv (.int v :: st)) : Sm X cl w nL res mv u pc lv (.ref a :: st) :=
  fun hm H locs ls hP hD hS hl => va_alen E.1 E.2.1 E.2.2.2.2.1 hP q0 t0 he ht hv hdg (k hm H locs ls hP hD hS hl)
end Sm
/-! RETURNS, CONTRACTS, CALLS -/
def RtI (X : Cx) (cl : List vw_C) {σ : Type} (w : σ → va_W) (cc : ByteArray) (res : Int32 × σ) : Prop := ∀ (r : Int32) (u : σ), (r, u) = res → ∀ (H : Heap) (locs : List Loc) (ls : Array Slot) (pc : Nat), va_P (xD X) cl (w u) H → va_D (xA X) (w u) → va_S (xA X) (xs X).heap H locs → decode cc pc = .ok (.ireturn, 1) → Wx X H locs (F0 (xm X) pc ls [.int r])
def RtZ (X : Cx) (cl : List vw_C) {σ : Type} (w : σ → va_W) (cc : ByteArray) (ty : FieldType) (res : Int32 × σ) : Prop := ∀ (r : Int32) (u : σ), (r, u) = res → narrow ty (.int r) = .int r → ∀ (H : Heap) (locs : List Loc) (ls : Array Slot) (pc : Nat), va_P (xD X) cl (w u) H → va_D (xA X) (w u) → va_S (xA X) (xs X).heap H locs → decode cc pc = .ok (.ireturn, 1) → Wx X H locs (F0 (xm X) pc ls [.int r])
def RtJ (X : Cx) (cl : List vw_C) {σ : Type} (w : σ → va_W) (cc : ByteArray) (res : Int64 × σ) : Prop := ∀ (r : Int64) (u : σ), (r, u) = res → ∀ (H : Heap) (locs : List Loc) (ls : Array Slot) (pc : Nat), va_P (xD X) cl (w u) H → va_D (xA X) (w u) → va_S (xA X) (xs X).heap H locs → decode cc pc = .ok (.lreturn, 1) → Wx X H locs (F0 (xm X) pc ls [.long r])
def RtV (X : Cx) (cl : List vw_C) {σ : Type} (w : σ → va_W) (cc : ByteArray) (res : σ) : Prop := ∀ (u : σ), u = res → ∀ (H : Heap) (locs : List Loc) (ls : Array Slot) (pc : Nat), va_P (xD X) cl (w u) H → va_D (xA X) (w u) → va_S (xA X) (xs X).heap H locs → decode cc pc = .ok (.return_, 1) → Wx X H locs (F0 (xm X) pc ls [])
def RtA (X : Cx) (cl : List vw_C) {σ : Type} (w : σ → va_W) (cc : ByteArray) (a : Nat) (res : σ) : Prop := ∀ (u : σ), u = res → ∀ (H : Heap) (locs : List Loc) (ls : Array Slot) (pc : Nat), va_P (xD X) cl (w u) H → va_D (xA X) (w u) → va_S (xA X) (xs X).heap H locs → decode cc pc = .ok (.areturn, 1) → Wx X H locs (F0 (xm X) pc ls [.ref a])
section Ret
variable {X : Cx} {cl : List vw_C} {cc : ByteArray} {nL : Nat} {σ : Type} {w : σ → va_W} {u : σ} {pc : Nat} {lv : List (Nat × Value)}
theorem Sm_retI {res : Int32 × σ} (hR : RtI X cl w cc res) {x : Int32} (hdg : decode cc pc = .ok (.ireturn, 1)) : Sm X cl w nL res (some (x, u)) u pc lv [.int x] := fun hm H locs ls hP hD hS _ => hR x u (Option.some.inj hm) H locs ls pc hP hD hS hdg
theorem Sm_reti {res : Int32} (hR : RtI X cl w cc (res, u)) {x : Int32} (hdg : decode cc pc = .ok (.ireturn, 1)) : Sm X cl w nL res (some x) u pc lv [.int x] := fun hm H locs ls hP hD hS _ => hR x u (by rw [Option.some.inj hm]) H locs ls pc hP hD hS hdg
theorem Sm_retZ {ty : FieldType} {res : Int32 × σ} (hR : RtZ X cl w cc ty res) {x : Int32} (hn : narrow ty (.int x) = .int x) (hdg : decode cc pc = .ok (.ireturn, 1)) : Sm X cl w nL res (some (x, u)) u pc lv [.int x] := fun hm H locs ls hP hD hS _ => hR x u (Option.some.inj hm) hn H locs ls pc hP hD hS hdg
theorem Sm_retz {ty : FieldType} {res : Int32} (hR : RtZ X cl w cc ty (res, u)) {x : Int32} (hn : narrow ty (.int x) = .int x) (hdg : decode cc pc = .ok (.ireturn, 1)) : Sm X cl w nL res (some x) u pc lv [.int x] := fun hm H locs ls hP hD hS _ => hR x u (by rw [Option.some.inj hm]) hn H locs ls pc hP hD hS hdg
theorem Sm_retJ {res : Int64 × σ} (hR : RtJ X cl w cc res) {x : Int64} (hdg : decode cc pc = .ok (.lreturn, 1)) : Sm X cl w nL res (some (x, u)) u pc lv [.long x] := fun hm H locs ls hP hD hS _ => hR x u (Option.some.inj hm) H locs ls pc hP hD hS hdg
theorem Sm_retj {res : Int64} (hR : RtJ X cl w cc (res, u)) {x : Int64} (hdg : decode cc pc = .ok (.lreturn, 1)) : Sm X cl w nL res (some x) u pc lv [.long x] := fun hm H locs ls hP hD hS _ => hR x u (by rw [Option.some.inj hm]) H locs ls pc hP hD hS hdg
theorem Sm_retV {res : σ} (hR : RtV X cl w cc res) (hdg : decode cc pc = .ok (.return_, 1)) : Sm X cl w nL res (some u) u pc lv [] := fun hm H locs ls hP hD hS _ => hR u (Option.some.inj hm) H locs ls pc hP hD hS hdg
theorem Sm_retv {res : Unit} (hR : RtV X cl w cc u) (hdg : decode cc pc = .ok (.return_, 1)) : Sm X cl w nL res (some ()) u pc lv [] := fun _ H locs ls hP hD hS _ => hR u rfl H locs ls pc hP hD hS hdg
theorem Sm_reta {res : Unit} {a : Nat} (hR : RtA X cl w cc a u) (hdg : decode cc pc = .ok (.areturn, 1)) : Sm X cl w nL res (some ()) u pc lv [.ref a] := fun _ H locs ls hP hD hS _ => hR u rfl H locs ls pc hP hD hS hdg
end Ret
def Bw (D : va_G) (cl : List vw_C) {σ : Type} (w : σ → va_W) (tys : List (ClassId × FieldType)) (A : Nat → Prop) (u : σ) (t : State) : Prop := va_P D cl (w u) t.heap ∧ va_K D cl tys t ∧ va_D A (w u)
abbrev Qt : Type := Array Value → State → Outcome → State → Prop
def qI (D : va_G) (cl : List vw_C) {σ : Type} (w : σ → va_W) (tys : List (ClassId × FieldType)) (as : List Nat) (res : Int32 × σ) (sz : Nat) : Qt := va_Qi (fun r u => (r, u) = res) (Bw D cl w tys (Aw as sz)) (Aw as sz)
def qJ (D : va_G) (cl : List vw_C) {σ : Type} (w : σ → va_W) (tys : List (ClassId × FieldType)) (as : List Nat) (res : Int64 × σ) (sz : Nat) : Qt := va_Ql (fun r u => (r, u) = res) (Bw D cl w tys (Aw as sz)) (Aw as sz)
def qV (D : va_G) (cl : List vw_C) {σ : Type} (w : σ → va_W) (tys : List (ClassId × FieldType)) (as : List Nat) (res : σ) (sz : Nat) : Qt := va_Qv (fun u => u = res) (Bw D cl w tys (Aw as sz)) (Aw as sz)
def qA (D : va_G) (cl : List vw_C) {σ : Type} (w : σ → va_W) (tys : List (ClassId × FieldType)) (as : List Nat) (a : Nat) (res : σ) (sz : Nat) : Qt := va_Qr (fun u => u = res) (fun u b t => b = a ∧ Bw D cl w tys (Aw as sz) u t) (Aw as sz)
/-- a contract: at this world, with these arguments -/
def Ct (l : Launch) (D : va_G) (cl : List vw_C) (Ts : List Cond) {σ : Type} (w : σ → va_W) (tys : List (ClassId × FieldType)) (as : List Nat) (ext : (Nat → Prop) → State → Heap → Prop) (y : MethodName) (cd : Cond) (rm : Room) (av : List Value) (u : σ) (Qk : Nat → Qt) : Prop :=
  ∀ sz : Nat, Met l y (cd :: Ts) rm (va_Pc av (fun U => U.heap.size = sz ∧ va_P D cl (w u) U.heap ∧ va_K D cl tys U ∧ va_D (fun _ => True) (w u) ∧ ext (Aw as sz) U U.heap)) (Qk sz) 0 0 (Aw as sz)
/-- what lies outside of the worlds and never changes goes along -/
def ExtOk (ext : (Nat → Prop) → State → Heap → Prop) : Prop :=
  (∀ (A : Nat → Prop) (U V : State) (H : Heap), V.vm = U.vm → ext A U H → ext A V H) ∧
  (∀ (A B : Nat → Prop) (s U : State) (H : Heap), s.WarmedH U.vm → (∀ q, B q → A q) → (∀ q : Nat, q < s.heap.size → ¬ A q → H[q]? = s.heap[q]?) → ext A s s.heap → ext B U H)
theorem Aw_mono {as : List Nat} {a b : Nat} (h : a ≤ b) : ∀ q, Aw as b q → Aw as a q := fun q hq => hq.elim Or.inl (fun z => Or.inr (Nat.le_trans h z))
theorem Aw_D {as : List Nat} {sz : Nat} {A : Nat → Prop} {ws : va_W} (has : ws.map Prod.fst = as) (h : va_D A ws) : va_D (Aw as sz) ws :=
  ⟨h.1, fun k q hk => Or.inl (by rw [← has]; exact List.mem_map.mpr ⟨q, List.mem_of_getElem? hk, rfl⟩)⟩
section Cts
variable {l : Launch} {D : va_G} {cl : List vw_C} {Ts : List Cond} {σ : Type} {w : σ → va_W} {tys : List (ClassId × FieldType)} {as : List Nat} {ext : (Nat → Prop) → State → Heap → Prop} {y : MethodName} {rm : Room} {av : List Value} {u : σ} {cc : ByteArray} {maxL : Nat}

theorem Ct_I {res : Int32 × σ} {mv : Option (Int32 × σ)} (hy : plainName y.cls = true) (has : ∀ u : σ, (w u).map Prod.fst = as) (hav : (lg_sl av).length ≤ maxL) (hm : mv = some res) (body : ∀ X : Cx, X.2.1 = l → xD X = D → En X cl Ts cc y.cls maxL tys as rm ext → RtI X cl w cc res → Sm X cl w maxL res mv u 0 (lv_args 0 av) []) : Ct l D cl Ts w tys as ext y (.code y cc maxL (some .int)) rm av u (qI D cl w tys as res) := by
  intro sz
  refine Met.ofW (cc := cc) (maxL := maxL) (ret := some .int) hy rfl ?_
  intro p e s m args below meth c s₁ B hml hv
  obtain ⟨rfl, hsz, hP, hK, hD0, hX⟩ := hv
  have hx := B.exec
  have hb := B.bytes
  have hr := B.returns
  have hts0 := atoms_spec (ws := Cond.code y cc maxL (some .int) :: Ts) B.pre
  have hown : s.vm.findClass y.cls = some m.cls := findClass_of_methodNamed B.named
  have hlocks := B.notSynchronized
  subst hsz
  have hD : va_D (Aw as s.heap.size) (w u) := Aw_D (has u) hD0
  have hl := lv_entry av (n := maxL) hav
  rw [lg_entry_eq]
  generalize (lg_sl av ++ List.replicate (maxL - (lg_sl av).length) Slot.unset).toArray = ls at hl ⊢
  refine body (p, l, e, (headSpec (Cond.code y cc maxL (some .int) :: Ts) rm).room, s, m, av.toArray, below, meth, c, MQ below (qI D cl w tys as res s.heap.size) av.toArray s 0 0 (Aw as s.heap.size), D, Aw as s.heap.size, 0, 0) rfl rfl ⟨hx, hb, fun w0 h0 => hts0 w0 (List.mem_cons_of_mem _ h0), hown, hK, hml, rfl, rfl, ⟨Nat.zero_le _, Nat.zero_le _⟩, hX⟩ ?_ hm s.heap [] ls hP hD va_S.rf hl
  exact fun r u he H locs ls pc hP hD hS hdg => W.iret (v := r) hx hb hr (fun t ht hW => ⟨⟨r, u, rfl, he, by rw [ht]; exact hP, va_K.moved hW.alike hK, hD⟩, hS.F ht⟩) hS.2.2 hdg hlocks
theorem Ct_i {res : Int32} {mv : Option Int32} (hy : plainName y.cls = true) (has : ∀ u : σ, (w u).map Prod.fst = as) (hav : (lg_sl av).length ≤ maxL) (hm : mv = some res) (body : ∀ X : Cx, X.2.1 = l → xD X = D → En X cl Ts cc y.cls maxL tys as rm ext → RtI X cl w cc (res, u) → Sm X cl w maxL res mv u 0 (lv_args 0 av) []) : Ct l D cl Ts w tys as ext y (.code y cc maxL (some .int)) rm av u (qI D cl w tys as (res, u)) := by
  intro sz
  refine Met.ofW (cc := cc) (maxL := maxL) (ret := some .int) hy rfl ?_
  intro p e s m args below meth c s₁ B hml hv
  obtain ⟨rfl, hsz, hP, hK, hD0, hX⟩ := hv
  have hx := B.exec
  have hb := B.bytes
  have hr := B.returns
  have hts0 := atoms_spec (ws := Cond.code y cc maxL (some .int) :: Ts) B.pre
  have hown : s.vm.findClass y.cls = some m.cls := findClass_of_methodNamed B.named
  have hlocks := B.notSynchronized
  subst hsz
  have hD : va_D (Aw as s.heap.size) (w u) := Aw_D (has u) hD0
  have hl := lv_entry av (n := maxL) hav
  rw [lg_entry_eq]
  generalize (lg_sl av ++ List.replicate (maxL - (lg_sl av).length) Slot.unset).toArray = ls at hl ⊢
  refine body (p, l, e, (headSpec (Cond.code y cc maxL (some .int) :: Ts) rm).room, s, m, av.toArray, below, meth, c, MQ below (qI D cl w tys as (res, u) s.heap.size) av.toArray s 0 0 (Aw as s.heap.size), D, Aw as s.heap.size, 0, 0) rfl rfl ⟨hx, hb, fun w0 h0 => hts0 w0 (List.mem_cons_of_mem _ h0), hown, hK, hml, rfl, rfl, ⟨Nat.zero_le _, Nat.zero_le _⟩, hX⟩ ?_ hm s.heap [] ls hP hD va_S.rf hl
  exact fun r u he H locs ls pc hP hD hS hdg => W.iret (v := r) hx hb hr (fun t ht hW => ⟨⟨r, u, rfl, he, by rw [ht]; exact hP, va_K.moved hW.alike hK, hD⟩, hS.F ht⟩) hS.2.2 hdg hlocks
theorem Ct_Z {ty : FieldType} {res : Int32 × σ} {mv : Option (Int32 × σ)} (hy : plainName y.cls = true) (has : ∀ u : σ, (w u).map Prod.fst = as) (hav : (lg_sl av).length ≤ maxL) (hm : mv = some res) (body : ∀ X : Cx, X.2.1 = l → xD X = D → En X cl Ts cc y.cls maxL tys as rm ext → RtZ X cl w cc ty res → Sm X cl w maxL res mv u 0 (lv_args 0 av) []) : Ct l D cl Ts w tys as ext y (.code y cc maxL (some ty)) rm av u (qI D cl w tys as res) := by
  intro sz
  refine Met.ofW (cc := cc) (maxL := maxL) (ret := some ty) hy rfl ?_
  intro p e s m args below meth c s₁ B hml hv
  obtain ⟨rfl, hsz, hP, hK, hD0, hX⟩ := hv
  have hx := B.exec
  have hb := B.bytes
  have hr := B.returns
  have hts0 := atoms_spec (ws := Cond.code y cc maxL (some ty) :: Ts) B.pre
  have hown : s.vm.findClass y.cls = some m.cls := findClass_of_methodNamed B.named
  have hlocks := B.notSynchronized
  subst hsz
  have hD : va_D (Aw as s.heap.size) (w u) := Aw_D (has u) hD0
  have hl := lv_entry av (n := maxL) hav
  rw [lg_entry_eq]
  generalize (lg_sl av ++ List.replicate (maxL - (lg_sl av).length) Slot.unset).toArray = ls at hl ⊢
  refine body (p, l, e, (headSpec (Cond.code y cc maxL (some ty) :: Ts) rm).room, s, m, av.toArray, below, meth, c, MQ below (qI D cl w tys as res s.heap.size) av.toArray s 0 0 (Aw as s.heap.size), D, Aw as s.heap.size, 0, 0) rfl rfl ⟨hx, hb, fun w0 h0 => hts0 w0 (List.mem_cons_of_mem _ h0), hown, hK, hml, rfl, rfl, ⟨Nat.zero_le _, Nat.zero_le _⟩, hX⟩ ?_ hm s.heap [] ls hP hD va_S.rf hl
  exact fun r u he hn H locs ls pc hP hD hS hdg => W.zret (v := r) hx hb hr hn (fun t ht hW => ⟨⟨r, u, rfl, he, by rw [ht]; exact hP, va_K.moved hW.alike hK, hD⟩, hS.F ht⟩) hS.2.2 hdg hlocks
theorem Ct_z {ty : FieldType} {res : Int32} {mv : Option (Int32)} (hy : plainName y.cls = true) (has : ∀ u : σ, (w u).map Prod.fst = as) (hav : (lg_sl av).length ≤ maxL) (hm : mv = some res) (body : ∀ X : Cx, X.2.1 = l → xD X = D → En X cl Ts cc y.cls maxL tys as rm ext → RtZ X cl w cc ty (res, u) → Sm X cl w maxL res mv u 0 (lv_args 0 av) []) : Ct l D cl Ts w tys as ext y (.code y cc maxL (some ty)) rm av u (qI D cl w tys as (res, u)) := by
  intro sz
  refine Met.ofW (cc := cc) (maxL := maxL) (ret := some ty) hy rfl ?_
  intro p e s m args below meth c s₁ B hml hv
  obtain ⟨rfl, hsz, hP, hK, hD0, hX⟩ := hv
  have hx := B.exec
  have hb := B.bytes
  have hr := B.returns
  have hts0 := atoms_spec (ws := Cond.code y cc maxL (some ty) :: Ts) B.pre
  have hown : s.vm.findClass y.cls = some m.cls := findClass_of_methodNamed B.named
  have hlocks := B.notSynchronized
  subst hsz
  have hD : va_D (Aw as s.heap.size) (w u) := Aw_D (has u) hD0
  have hl := lv_entry av (n := maxL) hav
  rw [lg_entry_eq]
  generalize (lg_sl av ++ List.replicate (maxL - (lg_sl av).length) Slot.unset).toArray = ls at hl ⊢
  refine body (p, l, e, (headSpec (Cond.code y cc maxL (some ty) :: Ts) rm).room, s, m, av.toArray, below, meth, c, MQ below (qI D cl w tys as (res, u) s.heap.size) av.toArray s 0 0 (Aw as s.heap.size), D, Aw as s.heap.size, 0, 0) rfl rfl ⟨hx, hb, fun w0 h0 => hts0 w0 (List.mem_cons_of_mem _ h0), hown, hK, hml, rfl, rfl, ⟨Nat.zero_le _, Nat.zero_le _⟩, hX⟩ ?_ hm s.heap [] ls hP hD va_S.rf hl
  exact fun r u he hn H locs ls pc hP hD hS hdg => W.zret (v := r) hx hb hr hn (fun t ht hW => ⟨⟨r, u, rfl, he, by rw [ht]; exact hP, va_K.moved hW.alike hK, hD⟩, hS.F ht⟩) hS.2.2 hdg hlocks
theorem Ct_J {res : Int64 × σ} {mv : Option (Int64 × σ)} (hy : plainName y.cls = true) (has : ∀ u : σ, (w u).map Prod.fst = as) (hav : (lg_sl av).length ≤ maxL) (hm : mv = some res) (body : ∀ X : Cx, X.2.1 = l → xD X = D → En X cl Ts cc y.cls maxL tys as rm ext → RtJ X cl w cc res → Sm X cl w maxL res mv u 0 (lv_args 0 av) []) : Ct l D cl Ts w tys as ext y (.code y cc maxL (some .long)) rm av u (qJ D cl w tys as res) := by
  intro sz
  refine Met.ofW (cc := cc) (maxL := maxL) (ret := some .long) hy rfl ?_
  intro p e s m args below meth c s₁ B hml hv
  obtain ⟨rfl, hsz, hP, hK, hD0, hX⟩ := hv
  have hx := B.exec
  have hb := B.bytes
  have hr := B.returns
  have hts0 := atoms_spec (ws := Cond.code y cc maxL (some .long) :: Ts) B.pre
  have hown : s.vm.findClass y.cls = some m.cls := findClass_of_methodNamed B.named
  have hlocks := B.notSynchronized
  subst hsz
  have hD : va_D (Aw as s.heap.size) (w u) := Aw_D (has u) hD0
  have hl := lv_entry av (n := maxL) hav
  rw [lg_entry_eq]
  generalize (lg_sl av ++ List.replicate (maxL - (lg_sl av).length) Slot.unset).toArray = ls at hl ⊢
  refine body (p, l, e, (headSpec (Cond.code y cc maxL (some .long) :: Ts) rm).room, s, m, av.toArray, below, meth, c, MQ below (qJ D cl w tys as res s.heap.size) av.toArray s 0 0 (Aw as s.heap.size), D, Aw as s.heap.size, 0, 0) rfl rfl ⟨hx, hb, fun w0 h0 => hts0 w0 (List.mem_cons_of_mem _ h0), hown, hK, hml, rfl, rfl, ⟨Nat.zero_le _, Nat.zero_le _⟩, hX⟩ ?_ hm s.heap [] ls hP hD va_S.rf hl
  exact fun r u he H locs ls pc hP hD hS hdg => W.lret (v := r) hx hb hr (fun t ht hW => ⟨⟨r, u, rfl, he, by rw [ht]; exact hP, va_K.moved hW.alike hK, hD⟩, hS.F ht⟩) hS.2.2 hdg hlocks
theorem Ct_j {res : Int64} {mv : Option (Int64)} (hy : plainName y.cls = true) (has : ∀ u : σ, (w u).map Prod.fst = as) (hav : (lg_sl av).length ≤ maxL) (hm : mv = some res) (body : ∀ X : Cx, X.2.1 = l → xD X = D → En X cl Ts cc y.cls maxL tys as rm ext → RtJ X cl w cc (res, u) → Sm X cl w maxL res mv u 0 (lv_args 0 av) []) : Ct l D cl Ts w tys as ext y (.code y cc maxL (some .long)) rm av u (qJ D cl w tys as (res, u)) := by
  intro sz
  refine Met.ofW (cc := cc) (maxL := maxL) (ret := some .long) hy rfl ?_
  intro p e s m args below meth c s₁ B hml hv
  obtain ⟨rfl, hsz, hP, hK, hD0, hX⟩ := hv
  have hx := B.exec
  have hb := B.bytes
  have hr := B.returns
  have hts0 := atoms_spec (ws := Cond.code y cc maxL (some .long) :: Ts) B.pre
  have hown : s.vm.findClass y.cls = some m.cls := findClass_of_methodNamed B.named
  have hlocks := B.notSynchronized
  subst hsz
  have hD : va_D (Aw as s.heap.size) (w u) := Aw_D (has u) hD0
  have hl := lv_entry av (n := maxL) hav
  rw [lg_entry_eq]
  generalize (lg_sl av ++ List.replicate (maxL - (lg_sl av).length) Slot.unset).toArray = ls at hl ⊢
  refine body (p, l, e, (headSpec (Cond.code y cc maxL (some .long) :: Ts) rm).room, s, m, av.toArray, below, meth, c, MQ below (qJ D cl w tys as (res, u) s.heap.size) av.toArray s 0 0 (Aw as s.heap.size), D, Aw as s.heap.size, 0, 0) rfl rfl ⟨hx, hb, fun w0 h0 => hts0 w0 (List.mem_cons_of_mem _ h0), hown, hK, hml, rfl, rfl, ⟨Nat.zero_le _, Nat.zero_le _⟩, hX⟩ ?_ hm s.heap [] ls hP hD va_S.rf hl
  exact fun r u he H locs ls pc hP hD hS hdg => W.lret (v := r) hx hb hr (fun t ht hW => ⟨⟨r, u, rfl, he, by rw [ht]; exact hP, va_K.moved hW.alike hK, hD⟩, hS.F ht⟩) hS.2.2 hdg hlocks
theorem Ct_V {res : σ} {mv : Option σ} (hy : plainName y.cls = true) (has : ∀ u : σ, (w u).map Prod.fst = as) (hav : (lg_sl av).length ≤ maxL) (hm : mv = some res) (body : ∀ X : Cx, X.2.1 = l → xD X = D → En X cl Ts cc y.cls maxL tys as rm ext → RtV X cl w cc res → Sm X cl w maxL res mv u 0 (lv_args 0 av) []) : Ct l D cl Ts w tys as ext y (.code y cc maxL (none)) rm av u (qV D cl w tys as res) := by
  intro sz
  refine Met.ofW (cc := cc) (maxL := maxL) (ret := none) hy rfl ?_
  intro p e s m args below meth c s₁ B hml hv
  obtain ⟨rfl, hsz, hP, hK, hD0, hX⟩ := hv
  have hx := B.exec
  have hb := B.bytes
  have hr := B.returns
  have hts0 := atoms_spec (ws := Cond.code y cc maxL (none) :: Ts) B.pre
  have hown : s.vm.findClass y.cls = some m.cls := findClass_of_methodNamed B.named
  have hlocks := B.notSynchronized
  subst hsz
  have hD : va_D (Aw as s.heap.size) (w u) := Aw_D (has u) hD0
  have hl := lv_entry av (n := maxL) hav
  rw [lg_entry_eq]
  generalize (lg_sl av ++ List.replicate (maxL - (lg_sl av).length) Slot.unset).toArray = ls at hl ⊢
  refine body (p, l, e, (headSpec (Cond.code y cc maxL (none) :: Ts) rm).room, s, m, av.toArray, below, meth, c, MQ below (qV D cl w tys as res s.heap.size) av.toArray s 0 0 (Aw as s.heap.size), D, Aw as s.heap.size, 0, 0) rfl rfl ⟨hx, hb, fun w0 h0 => hts0 w0 (List.mem_cons_of_mem _ h0), hown, hK, hml, rfl, rfl, ⟨Nat.zero_le _, Nat.zero_le _⟩, hX⟩ ?_ hm s.heap [] ls hP hD va_S.rf hl
  exact fun u he H locs ls pc hP hD hS hdg => W.vret hx hb hr (fun t ht hW => ⟨⟨u, rfl, he, by rw [ht]; exact hP, va_K.moved hW.alike hK, hD⟩, hS.F ht⟩) hS.2.2 hdg hlocks
theorem Ct_v {mv : Option Unit} (hy : plainName y.cls = true) (has : ∀ u : σ, (w u).map Prod.fst = as) (hav : (lg_sl av).length ≤ maxL) (hm : mv = some ()) (body : ∀ X : Cx, X.2.1 = l → xD X = D → En X cl Ts cc y.cls maxL tys as rm ext → RtV X cl w cc u → Sm X cl w maxL () mv u 0 (lv_args 0 av) []) : Ct l D cl Ts w tys as ext y (.code y cc maxL (none)) rm av u (qV D cl w tys as u) := by
  intro sz
  refine Met.ofW (cc := cc) (maxL := maxL) (ret := none) hy rfl ?_
  intro p e s m args below meth c s₁ B hml hv
  obtain ⟨rfl, hsz, hP, hK, hD0, hX⟩ := hv
  have hx := B.exec
  have hb := B.bytes
  have hr := B.returns
  have hts0 := atoms_spec (ws := Cond.code y cc maxL (none) :: Ts) B.pre
  have hown : s.vm.findClass y.cls = some m.cls := findClass_of_methodNamed B.named
  have hlocks := B.notSynchronized
  subst hsz
  have hD : va_D (Aw as s.heap.size) (w u) := Aw_D (has u) hD0
  have hl := lv_entry av (n := maxL) hav
  rw [lg_entry_eq]
  generalize (lg_sl av ++ List.replicate (maxL - (lg_sl av).length) Slot.unset).toArray = ls at hl ⊢
  refine body (p, l, e, (headSpec (Cond.code y cc maxL (none) :: Ts) rm).room, s, m, av.toArray, below, meth, c, MQ below (qV D cl w tys as u s.heap.size) av.toArray s 0 0 (Aw as s.heap.size), D, Aw as s.heap.size, 0, 0) rfl rfl ⟨hx, hb, fun w0 h0 => hts0 w0 (List.mem_cons_of_mem _ h0), hown, hK, hml, rfl, rfl, ⟨Nat.zero_le _, Nat.zero_le _⟩, hX⟩ ?_ hm s.heap [] ls hP hD va_S.rf hl
  exact fun u2 he H locs ls pc hP hD hS hdg => W.vret hx hb hr (fun t ht hW => ⟨⟨u2, rfl, he, by rw [ht]; exact hP, va_K.moved hW.alike hK, hD⟩, hS.F ht⟩) hS.2.2 hdg hlocks
theorem Ct_a {rt : FieldType} {a : Nat} {mv : Option Unit} (hy : plainName y.cls = true) (has : ∀ u : σ, (w u).map Prod.fst = as) (hav : (lg_sl av).length ≤ maxL) (hrt : (∃ n, rt = .object n) ∨ ∃ t, rt = .array t) (hm : mv = some ()) (body : ∀ X : Cx, X.2.1 = l → xD X = D → En X cl Ts cc y.cls maxL tys as rm ext → RtA X cl w cc a u → Sm X cl w maxL () mv u 0 (lv_args 0 av) []) : Ct l D cl Ts w tys as ext y (.code y cc maxL (some rt)) rm av u (qA D cl w tys as a u) := by
  intro sz
  refine Met.ofW (cc := cc) (maxL := maxL) (ret := some rt) hy rfl ?_
  intro p e s m args below meth c s₁ B hml hv
  obtain ⟨rfl, hsz, hP, hK, hD0, hX⟩ := hv
  have hx := B.exec
  have hb := B.bytes
  have hr := B.returns
  have hts0 := atoms_spec (ws := Cond.code y cc maxL (some rt) :: Ts) B.pre
  have hown : s.vm.findClass y.cls = some m.cls := findClass_of_methodNamed B.named
  have hlocks := B.notSynchronized
  subst hsz
  have hD : va_D (Aw as s.heap.size) (w u) := Aw_D (has u) hD0
  have hl := lv_entry av (n := maxL) hav
  rw [lg_entry_eq]
  generalize (lg_sl av ++ List.replicate (maxL - (lg_sl av).length) Slot.unset).toArray = ls at hl ⊢
  refine body (p, l, e, (headSpec (Cond.code y cc maxL (some rt) :: Ts) rm).room, s, m, av.toArray, below, meth, c, MQ below (qA D cl w tys as a u s.heap.size) av.toArray s 0 0 (Aw as s.heap.size), D, Aw as s.heap.size, 0, 0) rfl rfl ⟨hx, hb, fun w0 h0 => hts0 w0 (List.mem_cons_of_mem _ h0), hown, hK, hml, rfl, rfl, ⟨Nat.zero_le _, Nat.zero_le _⟩, hX⟩ ?_ hm s.heap [] ls hP hD va_S.rf hl
  exact fun u2 he H locs ls pc hP hD hS hdg => W.aret (v := .ref a) hx hb hr hrt (Or.inr ⟨a, rfl⟩) (fun t ht hW => ⟨⟨u2, a, rfl, he, rfl, by rw [ht]; exact hP, va_K.moved hW.alike hK, hD⟩, hS.F ht⟩) hS.2.2 hdg hlocks
end Cts
section Calls2
variable {X : Cx} {cl : List vw_C} {Ts : List Cond} {cc : ByteArray} {own : String} {nL : Nat} {tys : List (ClassId × FieldType)} {as : List Nat} {rm : Room} {ext : (Nat → Prop) → State → Heap → Prop} {σ α : Type} {w : σ → va_W} {res : α} {mv : Option α} {u : σ} {pc : Nat} {lv : List (Nat × Value)} {st st0 As : List Value} {b : Nat} {y : MethodName} {bytes : ByteArray} {maxL idx n : Nat} {ret : Option FieldType} {rm' : Room}
theorem ct_blind {D : va_G} {av : List Value} {sz : Nat} (hE : ExtOk ext) : FrameBlind (va_Pc av (fun U => U.heap.size = sz ∧ va_P D cl (w u) U.heap ∧ va_K D cl tys U ∧ va_D (fun _ => True) (w u) ∧ ext (Aw as sz) U U.heap)) := by
  intro a U g mk q
  obtain ⟨q0, q1, qP, qK, qD, qX⟩ := q
  exact ⟨q0, q1, qP, va_K.moved (u := U) (U := U.calling g mk a) (Vm.Alike.refl U.vm) qK, qD, hE.1 _ U (U.calling g mk a) _ rfl qX⟩
theorem ct_pre {H : Heap} {locs : List Loc} (E : En X cl Ts cc own nL tys as rm ext) (hE : ExtOk ext) (hP : va_P (xD X) cl (w u) H) (hD : va_D (xA X) (w u)) (hS : va_S (xA X) (xs X).heap H locs) : ∀ U : State, U.heap = H → (xs X).WarmedH U.vm → (U.heap.size = H.size ∧ va_P (xD X) cl (w u) U.heap ∧ va_K (xD X) cl tys U ∧ va_D (fun _ => True) (w u) ∧ ext (Aw as H.size) U U.heap) := by
  intro U hU hW
  refine ⟨by rw [hU], by rw [hU]; exact hP, va_K.moved hW.alike E.2.2.2.2.1, hD.weaken (fun _ _ _ _ => trivial), ?_⟩
  rw [hU]
  refine hE.2 _ _ _ _ _ hW ?_ hS.2.1 E.2.2.2.2.2.2.2.2.2
  rw [E.2.2.2.2.2.2.1]
  exact Aw_mono hS.1
theorem rvW (E : En X cl Ts cc own nL tys as rm ext) {q0 ci : Nat} {fs : List Value} {q : vw_C} (hc : cl[ci]? = some q) (hq : q.1 = y.cls) (he : (w u)[q0]? = some (b, .inr (ci, fs))) : ∀ (H : Heap) (locs : List Loc), va_P (xD X) cl (w u) H → va_S (xA X) (xs X).heap H locs → ∃ cell : Cell, H[b]? = some cell ∧ cell.vm.isStatics = false ∧ (xs X).vm.findClass y.cls = some cell.cls := by
  intro H locs hP _
  have h := va_recv E.2.2.2.2.1 hP hc he
  rw [hq] at h
  exact h
theorem ct_free {H : Heap} {locs : List Loc} (E : En X cl Ts cc own nL tys as rm ext) (hS : va_S (xA X) (xs X).heap H locs) : ∀ q, Aw as H.size q → xA X q := by
  rw [E.2.2.2.2.2.2.1]
  exact Aw_mono hS.1
theorem Sm_cVI (E : En X cl Ts cc own nL tys as rm ext) (hE : ExtOk ext) (has : ∀ u : σ, (w u).map Prod.fst = as) {f : Option (Int32 × σ)} {K : Int32 → σ → Option α} (hC : ∀ r, f = some r → Ct X.2.1 (xD X) cl Ts w tys as ext y (.code y bytes maxL ret) rm' (.ref b :: As) u (qI (xD X) cl w tys as r)) (hg : GoodIn Ts (wsV own idx y.cls y (.code y bytes maxL ret :: Ts))) (hd : y.cls ≠ "java/lang/invoke/MethodHandle" ∧ y.cls ≠ "java/lang/invoke/VarHandle" ∧ (parseMethodDescriptor y.desc).map (fun d => d.parameters.length) = some n) (hn : As.length = n) (hrm : rm'.cells = 0 ∧ rm'.slots = 0) (hR : rm'.frames + 1 ≤ rm.frames ∧ 8 + (maxL + 11) + rm'.locals ≤ rm.locals) (hrv : ∀ (H : Heap) (locs : List Loc), va_P (xD X) cl (w u) H → va_S (xA X) (xs X).heap H locs → ∃ cell : Cell, H[b]? = some cell ∧ cell.vm.isStatics = false ∧ (xs X).vm.findClass y.cls = some cell.cls) (hst : st0 = As.reverse ++ .ref b :: st) (h8 : (st.map fun v => v.category).sum ≤ 8) (hdg : decode cc pc = .ok (.invokevirtual idx, 3)) (kk : ∀ (r : Int32) (u1 : σ), f = some (r, u1) → Sm X cl w nL res (K r u1) u1 (pc + 3) lv (.int r :: st)) : Sm X cl w nL res (bM f K) u pc lv st0 := by
  intro hm H locs ls hP hD hS hl
  subst hst
  cases hf : f with
  | none => rw [hf] at hm; cases hm
  | some q0 =>
    obtain ⟨r0, u0⟩ := q0
    subst hf
    have hFc := ct_free E hS
    have hrv1 := hrv H locs hP hS
    refine va_calli (va_runV (As := As) (rest := st) ⟨E.1, E.2.1, E.2.2.2.2.2.1, E.2.2.2.1, E.2.2.1⟩ (hC _ rfl H.size) (cwV n E.2.2.1 hg rfl hrm.1 hrm.2 ⟨rfl, hd⟩ (by rw [E.2.2.2.2.2.2.2.1]; exact hR)) ⟨ct_blind hE, hrv1, fun U hU hW => ⟨rfl, ct_pre E hE hP hD hS U hU hW⟩⟩ rfl hn hl.1 rfl (lv_room h8) hdg (by rw [E.2.2.2.2.2.2.2.1]; exact E.2.2.2.2.2.2.2.2.1)) hS (fun q _ h => hFc q h) hFc (fun r1 u1 t H1 locs1 ht hvm hw1 hB hz1 hk1 hS1 => ?_)
    obtain ⟨hP1, hK1, hD1⟩ := hB
    rw [ht] at hP1
    cases hw1
    exact kk _ _ rfl hm H1 locs1 ls hP1 (hD1.weaken (fun _ _ _ h => hFc _ h)) hS1 hl
theorem Sm_cSI (E : En X cl Ts cc own nL tys as rm ext) (hE : ExtOk ext) (has : ∀ u : σ, (w u).map Prod.fst = as) {f : Option (Int32 × σ)} {K : Int32 → σ → Option α} (hC : ∀ r, f = some r → Ct X.2.1 (xD X) cl Ts w tys as ext y (.code y bytes maxL ret) rm' As u (qI (xD X) cl w tys as r)) (hg : GoodIn Ts (va_wsS own idx y (.code y bytes maxL ret :: Ts))) (hd : y.cls ≠ "java/lang/invoke/MethodHandle" ∧ y.cls ≠ "java/lang/invoke/VarHandle" ∧ (parseMethodDescriptor y.desc).map (fun d => d.parameters.length) = some n) (hn : As.length = n) (hrm : rm'.cells = 0 ∧ rm'.slots = 0) (hR : rm'.frames + 1 ≤ rm.frames ∧ 8 + (maxL + 11) + rm'.locals ≤ rm.locals) (hst : st0 = As.reverse ++ st) (h8 : (st.map fun v => v.category).sum ≤ 8) (hdg : decode cc pc = .ok (.invokestatic idx, 3)) (kk : ∀ (r : Int32) (u1 : σ), f = some (r, u1) → Sm X cl w nL res (K r u1) u1 (pc + 3) lv (.int r :: st)) : Sm X cl w nL res (bM f K) u pc lv st0 := by
  intro hm H locs ls hP hD hS hl
  subst hst
  cases hf : f with
  | none => rw [hf] at hm; cases hm
  | some q0 =>
    obtain ⟨r0, u0⟩ := q0
    subst hf
    have hFc := ct_free E hS
    refine va_calli (va_runS (As := As) (rest := st) ⟨E.1, E.2.1, E.2.2.2.2.2.1, E.2.2.2.1, E.2.2.1⟩ (hC _ rfl H.size) (va_cwS n E.2.2.1 hg rfl hrm.1 hrm.2 hd (by rw [E.2.2.2.2.2.2.2.1]; exact hR)) ⟨ct_blind hE, fun U hU hW => ⟨rfl, ct_pre E hE hP hD hS U hU hW⟩⟩ rfl hn hl.1 rfl (lv_room h8) hdg (by rw [E.2.2.2.2.2.2.2.1]; exact E.2.2.2.2.2.2.2.2.1)) hS (fun q _ h => hFc q h) hFc (fun r1 u1 t H1 locs1 ht hvm hw1 hB hz1 hk1 hS1 => ?_)
    obtain ⟨hP1, hK1, hD1⟩ := hB
    rw [ht] at hP1
    cases hw1
    exact kk _ _ rfl hm H1 locs1 ls hP1 (hD1.weaken (fun _ _ _ h => hFc _ h)) hS1 hl
theorem Sm_cVi (E : En X cl Ts cc own nL tys as rm ext) (hE : ExtOk ext) (has : ∀ u : σ, (w u).map Prod.fst = as) {f : Option Int32} {K : Int32 → Option α} (hC : ∀ r, f = some r → Ct X.2.1 (xD X) cl Ts w tys as ext y (.code y bytes maxL ret) rm' (.ref b :: As) u (qI (xD X) cl w tys as (r, u))) (hg : GoodIn Ts (wsV own idx y.cls y (.code y bytes maxL ret :: Ts))) (hd : y.cls ≠ "java/lang/invoke/MethodHandle" ∧ y.cls ≠ "java/lang/invoke/VarHandle" ∧ (parseMethodDescriptor y.desc).map (fun d => d.parameters.length) = some n) (hn : As.length = n) (hrm : rm'.cells = 0 ∧ rm'.slots = 0) (hR : rm'.frames + 1 ≤ rm.frames ∧ 8 + (maxL + 11) + rm'.locals ≤ rm.locals) (hrv : ∀ (H : Heap) (locs : List Loc), va_P (xD X) cl (w u) H → va_S (xA X) (xs X).heap H locs → ∃ cell : Cell, H[b]? = some cell ∧ cell.vm.isStatics = false ∧ (xs X).vm.findClass y.cls = some cell.cls) (hst : st0 = As.reverse ++ .ref b :: st) (h8 : (st.map fun v => v.category).sum ≤ 8) (hdg : decode cc pc = .ok (.invokevirtual idx, 3)) (kk : ∀ (r : Int32), f = some r → Sm X cl w nL res (K r) u (pc + 3) lv (.int r :: st)) : Sm X cl w nL res (bP f K) u pc lv st0 := by
  intro hm H locs ls hP hD hS hl
  subst hst
  cases hf : f with
  | none => rw [hf] at hm; cases hm
  | some q0 =>
    skip
    subst hf
    have hFc := ct_free E hS
    have hrv1 := hrv H locs hP hS
    refine va_calli (va_runV (As := As) (rest := st) ⟨E.1, E.2.1, E.2.2.2.2.2.1, E.2.2.2.1, E.2.2.1⟩ (hC _ rfl H.size) (cwV n E.2.2.1 hg rfl hrm.1 hrm.2 ⟨rfl, hd⟩ (by rw [E.2.2.2.2.2.2.2.1]; exact hR)) ⟨ct_blind hE, hrv1, fun U hU hW => ⟨rfl, ct_pre E hE hP hD hS U hU hW⟩⟩ rfl hn hl.1 rfl (lv_room h8) hdg (by rw [E.2.2.2.2.2.2.2.1]; exact E.2.2.2.2.2.2.2.2.1)) hS (fun q _ h => hFc q h) hFc (fun r1 u1 t H1 locs1 ht hvm hw1 hB hz1 hk1 hS1 => ?_)
    obtain ⟨hP1, hK1, hD1⟩ := hB
    rw [ht] at hP1
    cases hw1
    exact kk _ rfl hm H1 locs1 ls hP1 (hD1.weaken (fun _ _ _ h => hFc _ h)) hS1 hl
theorem Sm_cSi (E : En X cl Ts cc own nL tys as rm ext) (hE : ExtOk ext) (has : ∀ u : σ, (w u).map Prod.fst = as) {f : Option Int32} {K : Int32 → Option α} (hC : ∀ r, f = some r → Ct X.2.1 (xD X) cl Ts w tys as ext y (.code y bytes maxL ret) rm' As u (qI (xD X) cl w tys as (r, u))) (hg : GoodIn Ts (va_wsS own idx y (.code y bytes maxL ret :: Ts))) (hd : y.cls ≠ "java/lang/invoke/MethodHandle" ∧ y.cls ≠ "java/lang/invoke/VarHandle" ∧ (parseMethodDescriptor y.desc).map (fun d => d.parameters.length) = some n) (hn : As.length = n) (hrm : rm'.cells = 0 ∧ rm'.slots = 0) (hR : rm'.frames + 1 ≤ rm.frames ∧ 8 + (maxL + 11) + rm'.locals ≤ rm.locals) (hst : st0 = As.reverse ++ st) (h8 : (st.map fun v => v.category).sum ≤ 8) (hdg : decode cc pc = .ok (.invokestatic idx, 3)) (kk : ∀ (r : Int32), f = some r → Sm X cl w nL res (K r) u (pc + 3) lv (.int r :: st)) : Sm X cl w nL res (bP f K) u pc lv st0 := by
  intro hm H locs ls hP hD hS hl
  subst hst
  cases hf : f with
  | none => rw [hf] at hm; cases hm
  | some q0 =>
    skip
    subst hf
    have hFc := ct_free E hS
    refine va_calli (va_runS (As := As) (rest := st) ⟨E.1, E.2.1, E.2.2.2.2.2.1, E.2.2.2.1, E.2.2.1⟩ (hC _ rfl H.size) (va_cwS n E.2.2.1 hg rfl hrm.1 hrm.2 hd (by rw [E.2.2.2.2.2.2.2.1]; exact hR)) ⟨ct_blind hE, fun U hU hW => ⟨rfl, ct_pre E hE hP hD hS U hU hW⟩⟩ rfl hn hl.1 rfl (lv_room h8) hdg (by rw [E.2.2.2.2.2.2.2.1]; exact E.2.2.2.2.2.2.2.2.1)) hS (fun q _ h => hFc q h) hFc (fun r1 u1 t H1 locs1 ht hvm hw1 hB hz1 hk1 hS1 => ?_)
    obtain ⟨hP1, hK1, hD1⟩ := hB
    rw [ht] at hP1
    cases hw1
    exact kk _ rfl hm H1 locs1 ls hP1 (hD1.weaken (fun _ _ _ h => hFc _ h)) hS1 hl
theorem Sm_cVJ (E : En X cl Ts cc own nL tys as rm ext) (hE : ExtOk ext) (has : ∀ u : σ, (w u).map Prod.fst = as) {f : Option (Int64 × σ)} {K : Int64 → σ → Option α} (hC : ∀ r, f = some r → Ct X.2.1 (xD X) cl Ts w tys as ext y (.code y bytes maxL ret) rm' (.ref b :: As) u (qJ (xD X) cl w tys as r)) (hg : GoodIn Ts (wsV own idx y.cls y (.code y bytes maxL ret :: Ts))) (hd : y.cls ≠ "java/lang/invoke/MethodHandle" ∧ y.cls ≠ "java/lang/invoke/VarHandle" ∧ (parseMethodDescriptor y.desc).map (fun d => d.parameters.length) = some n) (hn : As.length = n) (hrm : rm'.cells = 0 ∧ rm'.slots = 0) (hR : rm'.frames + 1 ≤ rm.frames ∧ 8 + (maxL + 11) + rm'.locals ≤ rm.locals) (hrv : ∀ (H : Heap) (locs : List Loc), va_P (xD X) cl (w u) H → va_S (xA X) (xs X).heap H locs → ∃ cell : Cell, H[b]? = some cell ∧ cell.vm.isStatics = false ∧ (xs X).vm.findClass y.cls = some cell.cls) (hst : st0 = As.reverse ++ .ref b :: st) (h8 : (st.map fun v => v.category).sum ≤ 8) (hdg : decode cc pc = .ok (.invokevirtual idx, 3)) (kk : ∀ (r : Int64) (u1 : σ), f = some (r, u1) → Sm X cl w nL res (K r u1) u1 (pc + 3) lv (.long r :: st)) : Sm X cl w nL res (bM f K) u pc lv st0 := by
  intro hm H locs ls hP hD hS hl
  subst hst
  cases hf : f with
  | none => rw [hf] at hm; cases hm
  | some q0 =>
    obtain ⟨r0, u0⟩ := q0
    subst hf
    have hFc := ct_free E hS
    have hrv1 := hrv H locs hP hS
    refine va_calll (va_runV (As := As) (rest := st) ⟨E.1, E.2.1, E.2.2.2.2.2.1, E.2.2.2.1, E.2.2.1⟩ (hC _ rfl H.size) (cwV n E.2.2.1 hg rfl hrm.1 hrm.2 ⟨rfl, hd⟩ (by rw [E.2.2.2.2.2.2.2.1]; exact hR)) ⟨ct_blind hE, hrv1, fun U hU hW => ⟨rfl, ct_pre E hE hP hD hS U hU hW⟩⟩ rfl hn hl.1 rfl (lv_room h8) hdg (by rw [E.2.2.2.2.2.2.2.1]; exact E.2.2.2.2.2.2.2.2.1)) hS (fun q _ h => hFc q h) hFc (fun r1 u1 t H1 locs1 ht hvm hw1 hB hz1 hk1 hS1 => ?_)
    obtain ⟨hP1, hK1, hD1⟩ := hB
    rw [ht] at hP1
    cases hw1
    exact kk _ _ rfl hm H1 locs1 ls hP1 (hD1.weaken (fun _ _ _ h => hFc _ h)) hS1 hl
theorem Sm_cSJ (E : En X cl Ts cc own nL tys as rm ext) (hE : ExtOk ext) (has : ∀ u : σ, (w u).map Prod.fst = as) {f : Option (Int64 × σ)} {K : Int64 → σ → Option α} (hC : ∀ r, f = some r → Ct X.2.1 (xD X) cl Ts w tys as ext y (.code y bytes maxL ret) rm' As u (qJ (xD X) cl w tys as r)) (hg : GoodIn Ts (va_wsS own idx y (.code y bytes maxL ret :: Ts))) (hd : y.cls ≠ "java/lang/invoke/MethodHandle" ∧ y.cls ≠ "java/lang/invoke/VarHandle" ∧ (parseMethodDescriptor y.desc).map (fun d => d.parameters.length) = some n) (hn : As.length = n) (hrm : rm'.cells = 0 ∧ rm'.slots = 0) (hR : rm'.frames + 1 ≤ rm.frames ∧ 8 + (maxL + 11) + rm'.locals ≤ rm.locals) (hst : st0 = As.reverse ++ st) (h8 : (st.map fun v => v.category).sum ≤ 8) (hdg : decode cc pc = .ok (.invokestatic idx, 3)) (kk : ∀ (r : Int64) (u1 : σ), f = some (r, u1) → Sm X cl w nL res (K r u1) u1 (pc + 3) lv (.long r :: st)) : Sm X cl w nL res (bM f K) u pc lv st0 := by
  intro hm H locs ls hP hD hS hl
  subst hst
  cases hf : f with
  | none => rw [hf] at hm; cases hm
  | some q0 =>
    obtain ⟨r0, u0⟩ := q0
    subst hf
    have hFc := ct_free E hS
    refine va_calll (va_runS (As := As) (rest := st) ⟨E.1, E.2.1, E.2.2.2.2.2.1, E.2.2.2.1, E.2.2.1⟩ (hC _ rfl H.size) (va_cwS n E.2.2.1 hg rfl hrm.1 hrm.2 hd (by rw [E.2.2.2.2.2.2.2.1]; exact hR)) ⟨ct_blind hE, fun U hU hW => ⟨rfl, ct_pre E hE hP hD hS U hU hW⟩⟩ rfl hn hl.1 rfl (lv_room h8) hdg (by rw [E.2.2.2.2.2.2.2.1]; exact E.2.2.2.2.2.2.2.2.1)) hS (fun q _ h => hFc q h) hFc (fun r1 u1 t H1 locs1 ht hvm hw1 hB hz1 hk1 hS1 => ?_)
    obtain ⟨hP1, hK1, hD1⟩ := hB
    rw [ht] at hP1
    cases hw1
    exact kk _ _ rfl hm H1 locs1 ls hP1 (hD1.weaken (fun _ _ _ h => hFc _ h)) hS1 hl
theorem Sm_cVj (E : En X cl Ts cc own nL tys as rm ext) (hE : ExtOk ext) (has : ∀ u : σ, (w u).map Prod.fst = as) {f : Option Int64} {K : Int64 → Option α} (hC : ∀ r, f = some r → Ct X.2.1 (xD X) cl Ts w tys as ext y (.code y bytes maxL ret) rm' (.ref b :: As) u (qJ (xD X) cl w tys as (r, u))) (hg : GoodIn Ts (wsV own idx y.cls y (.code y bytes maxL ret :: Ts))) (hd : y.cls ≠ "java/lang/invoke/MethodHandle" ∧ y.cls ≠ "java/lang/invoke/VarHandle" ∧ (parseMethodDescriptor y.desc).map (fun d => d.parameters.length) = some n) (hn : As.length = n) (hrm : rm'.cells = 0 ∧ rm'.slots = 0) (hR : rm'.frames + 1 ≤ rm.frames ∧ 8 + (maxL + 11) + rm'.locals ≤ rm.locals) (hrv : ∀ (H : Heap) (locs : List Loc), va_P (xD X) cl (w u) H → va_S (xA X) (xs X).heap H locs → ∃ cell : Cell, H[b]? = some cell ∧ cell.vm.isStatics = false ∧ (xs X).vm.findClass y.cls = some cell.cls) (hst : st0 = As.reverse ++ .ref b :: st) (h8 : (st.map fun v => v.category).sum ≤ 8) (hdg : decode cc pc = .ok (.invokevirtual idx, 3)) (kk : ∀ (r : Int64), f = some r → Sm X cl w nL res (K r) u (pc + 3) lv (.long r :: st)) : Sm X cl w nL res (bP f K) u pc lv st0 := by
  intro hm H locs ls hP hD hS hl
  subst hst
  cases hf : f with
  | none => rw [hf] at hm; cases hm
  | some q0 =>
    skip
    subst hf
    have hFc := ct_free E hS
    have hrv1 := hrv H locs hP hS
    refine va_calll (va_runV (As := As) (rest := st) ⟨E.1, E.2.1, E.2.2.2.2.2.1, E.2.2.2.1, E.2.2.1⟩ (hC _ rfl H.size) (cwV n E.2.2.1 hg rfl hrm.1 hrm.2 ⟨rfl, hd⟩ (by rw [E.2.2.2.2.2.2.2.1]; exact hR)) ⟨ct_blind hE, hrv1, fun U hU hW => ⟨rfl, ct_pre E hE hP hD hS U hU hW⟩⟩ rfl hn hl.1 rfl (lv_room h8) hdg (by rw [E.2.2.2.2.2.2.2.1]; exact E.2.2.2.2.2.2.2.2.1)) hS (fun q _ h => hFc q h) hFc (fun r1 u1 t H1 locs1 ht hvm hw1 hB hz1 hk1 hS1 => ?_)
    obtain ⟨hP1, hK1, hD1⟩ := hB
    rw [ht] at hP1
    cases hw1
    exact kk _ rfl hm H1 locs1 ls hP1 (hD1.weaken (fun _ _ _ h => hFc _ h)) hS1 hl
theorem Sm_cSj (E : En X cl Ts cc own nL tys as rm ext) (hE : ExtOk ext) (has : ∀ u : σ, (w u).map Prod.fst = as) {f : Option Int64} {K : Int64 → Option α} (hC : ∀ r, f = some r → Ct X.2.1 (xD X) cl Ts w tys as ext y (.code y bytes maxL ret) rm' As u (qJ (xD X) cl w tys as (r, u))) (hg : GoodIn Ts (va_wsS own idx y (.code y bytes maxL ret :: Ts))) (hd : y.cls ≠ "java/lang/invoke/MethodHandle" ∧ y.cls ≠ "java/lang/invoke/VarHandle" ∧ (parseMethodDescriptor y.desc).map (fun d => d.parameters.length) = some n) (hn : As.length = n) (hrm : rm'.cells = 0 ∧ rm'.slots = 0) (hR : rm'.frames + 1 ≤ rm.frames ∧ 8 + (maxL + 11) + rm'.locals ≤ rm.locals) (hst : st0 = As.reverse ++ st) (h8 : (st.map fun v => v.category).sum ≤ 8) (hdg : decode cc pc = .ok (.invokestatic idx, 3)) (kk : ∀ (r : Int64), f = some r → Sm X cl w nL res (K r) u (pc + 3) lv (.long r :: st)) : Sm X cl w nL res (bP f K) u pc lv st0 := by
  intro hm H locs ls hP hD hS hl
  subst hst
  cases hf : f with
  | none => rw [hf] at hm; cases hm
  | some q0 =>
    skip
    subst hf
    have hFc := ct_free E hS
    refine va_calll (va_runS (As := As) (rest := st) ⟨E.1, E.2.1, E.2.2.2.2.2.1, E.2.2.2.1, E.2.2.1⟩ (hC _ rfl H.size) (va_cwS n E.2.2.1 hg rfl hrm.1 hrm.2 hd (by rw [E.2.2.2.2.2.2.2.1]; exact hR)) ⟨ct_blind hE, fun U hU hW => ⟨rfl, ct_pre E hE hP hD hS U hU hW⟩⟩ rfl hn hl.1 rfl (lv_room h8) hdg (by rw [E.2.2.2.2.2.2.2.1]; exact E.2.2.2.2.2.2.2.2.1)) hS (fun q _ h => hFc q h) hFc (fun r1 u1 t H1 locs1 ht hvm hw1 hB hz1 hk1 hS1 => ?_)
    obtain ⟨hP1, hK1, hD1⟩ := hB
    rw [ht] at hP1
    cases hw1
    exact kk _ rfl hm H1 locs1 ls hP1 (hD1.weaken (fun _ _ _ h => hFc _ h)) hS1 hl
theorem Sm_cVV (E : En X cl Ts cc own nL tys as rm ext) (hE : ExtOk ext) (has : ∀ u : σ, (w u).map Prod.fst = as) {f : Option σ} {K : σ → Option α} (hC : ∀ r, f = some r → Ct X.2.1 (xD X) cl Ts w tys as ext y (.code y bytes maxL ret) rm' (.ref b :: As) u (qV (xD X) cl w tys as r)) (hg : GoodIn Ts (wsV own idx y.cls y (.code y bytes maxL ret :: Ts))) (hd : y.cls ≠ "java/lang/invoke/MethodHandle" ∧ y.cls ≠ "java/lang/invoke/VarHandle" ∧ (parseMethodDescriptor y.desc).map (fun d => d.parameters.length) = some n) (hn : As.length = n) (hrm : rm'.cells = 0 ∧ rm'.slots = 0) (hR : rm'.frames + 1 ≤ rm.frames ∧ 8 + (maxL + 11) + rm'.locals ≤ rm.locals) (hrv : ∀ (H : Heap) (locs : List Loc), va_P (xD X) cl (w u) H → va_S (xA X) (xs X).heap H locs → ∃ cell : Cell, H[b]? = some cell ∧ cell.vm.isStatics = false ∧ (xs X).vm.findClass y.cls = some cell.cls) (hst : st0 = As.reverse ++ .ref b :: st) (h8 : (st.map fun v => v.category).sum ≤ 8) (hdg : decode cc pc = .ok (.invokevirtual idx, 3)) (kk : ∀ (u1 : σ), f = some u1 → Sm X cl w nL res (K u1) u1 (pc + 3) lv st) : Sm X cl w nL res (bP f K) u pc lv st0 := by
  intro hm H locs ls hP hD hS hl
  subst hst
  cases hf : f with
  | none => rw [hf] at hm; cases hm
  | some q0 =>
    skip
    subst hf
    have hFc := ct_free E hS
    have hrv1 := hrv H locs hP hS
    refine va_callv (va_runV (As := As) (rest := st) ⟨E.1, E.2.1, E.2.2.2.2.2.1, E.2.2.2.1, E.2.2.1⟩ (hC _ rfl H.size) (cwV n E.2.2.1 hg rfl hrm.1 hrm.2 ⟨rfl, hd⟩ (by rw [E.2.2.2.2.2.2.2.1]; exact hR)) ⟨ct_blind hE, hrv1, fun U hU hW => ⟨rfl, ct_pre E hE hP hD hS U hU hW⟩⟩ rfl hn hl.1 rfl (lv_room h8) hdg (by rw [E.2.2.2.2.2.2.2.1]; exact E.2.2.2.2.2.2.2.2.1)) hS (fun q _ h => hFc q h) hFc (fun u1 t H1 locs1 ht hvm hw1 hB hz1 hk1 hS1 => ?_)
    obtain ⟨hP1, hK1, hD1⟩ := hB
    rw [ht] at hP1
    cases hw1
    exact kk _ rfl hm H1 locs1 ls hP1 (hD1.weaken (fun _ _ _ h => hFc _ h)) hS1 hl
theorem Sm_cSV (E : En X cl Ts cc own nL tys as rm ext) (hE : ExtOk ext) (has : ∀ u : σ, (w u).map Prod.fst = as) {f : Option σ} {K : σ → Option α} (hC : ∀ r, f = some r → Ct X.2.1 (xD X) cl Ts w tys as ext y (.code y bytes maxL ret) rm' As u (qV (xD X) cl w tys as r)) (hg : GoodIn Ts (va_wsS own idx y (.code y bytes maxL ret :: Ts))) (hd : y.cls ≠ "java/lang/invoke/MethodHandle" ∧ y.cls ≠ "java/lang/invoke/VarHandle" ∧ (parseMethodDescriptor y.desc).map (fun d => d.parameters.length) = some n) (hn : As.length = n) (hrm : rm'.cells = 0 ∧ rm'.slots = 0) (hR : rm'.frames + 1 ≤ rm.frames ∧ 8 + (maxL + 11) + rm'.locals ≤ rm.locals) (hst : st0 = As.reverse ++ st) (h8 : (st.map fun v => v.category).sum ≤ 8) (hdg : decode cc pc = .ok (.invokestatic idx, 3)) (kk : ∀ (u1 : σ), f = some u1 → Sm X cl w nL res (K u1) u1 (pc + 3) lv st) : Sm X cl w nL res (bP f K) u pc lv st0 := by
  intro hm H locs ls hP hD hS hl
  subst hst
  cases hf : f with
  | none => rw [hf] at hm; cases hm
  | some q0 =>
    skip
    subst hf
    have hFc := ct_free E hS
    refine va_callv (va_runS (As := As) (rest := st) ⟨E.1, E.2.1, E.2.2.2.2.2.1, E.2.2.2.1, E.2.2.1⟩ (hC _ rfl H.size) (va_cwS n E.2.2.1 hg rfl hrm.1 hrm.2 hd (by rw [E.2.2.2.2.2.2.2.1]; exact hR)) ⟨ct_blind hE, fun U hU hW => ⟨rfl, ct_pre E hE hP hD hS U hU hW⟩⟩ rfl hn hl.1 rfl (lv_room h8) hdg (by rw [E.2.2.2.2.2.2.2.1]; exact E.2.2.2.2.2.2.2.2.1)) hS (fun q _ h => hFc q h) hFc (fun u1 t H1 locs1 ht hvm hw1 hB hz1 hk1 hS1 => ?_)
    obtain ⟨hP1, hK1, hD1⟩ := hB
    rw [ht] at hP1
    cases hw1
    exact kk _ rfl hm H1 locs1 ls hP1 (hD1.weaken (fun _ _ _ h => hFc _ h)) hS1 hl
theorem Sm_cVv (E : En X cl Ts cc own nL tys as rm ext) (hE : ExtOk ext) (has : ∀ u : σ, (w u).map Prod.fst = as) {f : Option Unit} {K : Unit → Option α} (hC : f = some () → Ct X.2.1 (xD X) cl Ts w tys as ext y (.code y bytes maxL ret) rm' (.ref b :: As) u (qV (xD X) cl w tys as u)) (hg : GoodIn Ts (wsV own idx y.cls y (.code y bytes maxL ret :: Ts))) (hd : y.cls ≠ "java/lang/invoke/MethodHandle" ∧ y.cls ≠ "java/lang/invoke/VarHandle" ∧ (parseMethodDescriptor y.desc).map (fun d => d.parameters.length) = some n) (hn : As.length = n) (hrm : rm'.cells = 0 ∧ rm'.slots = 0) (hR : rm'.frames + 1 ≤ rm.frames ∧ 8 + (maxL + 11) + rm'.locals ≤ rm.locals) (hrv : ∀ (H : Heap) (locs : List Loc), va_P (xD X) cl (w u) H → va_S (xA X) (xs X).heap H locs → ∃ cell : Cell, H[b]? = some cell ∧ cell.vm.isStatics = false ∧ (xs X).vm.findClass y.cls = some cell.cls) (hst : st0 = As.reverse ++ .ref b :: st) (h8 : (st.map fun v => v.category).sum ≤ 8) (hdg : decode cc pc = .ok (.invokevirtual idx, 3)) (kk : ∀ (z : Unit), f = some () → Sm X cl w nL res (K z) u (pc + 3) lv st) : Sm X cl w nL res (bP f K) u pc lv st0 := by
  intro hm H locs ls hP hD hS hl
  subst hst
  cases hf : f with
  | none => rw [hf] at hm; cases hm
  | some q0 =>
    skip
    subst hf
    have hFc := ct_free E hS
    have hrv1 := hrv H locs hP hS
    refine va_callv (va_runV (As := As) (rest := st) ⟨E.1, E.2.1, E.2.2.2.2.2.1, E.2.2.2.1, E.2.2.1⟩ (hC rfl H.size) (cwV n E.2.2.1 hg rfl hrm.1 hrm.2 ⟨rfl, hd⟩ (by rw [E.2.2.2.2.2.2.2.1]; exact hR)) ⟨ct_blind hE, hrv1, fun U hU hW => ⟨rfl, ct_pre E hE hP hD hS U hU hW⟩⟩ rfl hn hl.1 rfl (lv_room h8) hdg (by rw [E.2.2.2.2.2.2.2.1]; exact E.2.2.2.2.2.2.2.2.1)) hS (fun q _ h => hFc q h) hFc (fun u1 t H1 locs1 ht hvm hw1 hB hz1 hk1 hS1 => ?_)
    obtain ⟨hP1, hK1, hD1⟩ := hB
    rw [ht] at hP1
    cases hw1
    exact kk _ rfl hm H1 locs1 ls hP1 (hD1.weaken (fun _ _ _ h => hFc _ h)) hS1 hl
theorem Sm_cSv (E : En X cl Ts cc own nL tys as rm ext) (hE : ExtOk ext) (has : ∀ u : σ, (w u).map Prod.fst = as) {f : Option Unit} {K : Unit → Option α} (hC : f = some () → Ct X.2.1 (xD X) cl Ts w tys as ext y (.code y bytes maxL ret) rm' As u (qV (xD X) cl w tys as u)) (hg : GoodIn Ts (va_wsS own idx y (.code y bytes maxL ret :: Ts))) (hd : y.cls ≠ "java/lang/invoke/MethodHandle" ∧ y.cls ≠ "java/lang/invoke/VarHandle" ∧ (parseMethodDescriptor y.desc).map (fun d => d.parameters.length) = some n) (hn : As.length = n) (hrm : rm'.cells = 0 ∧ rm'.slots = 0) (hR : rm'.frames + 1 ≤ rm.frames ∧ 8 + (maxL + 11) + rm'.locals ≤ rm.locals) (hst : st0 = As.reverse ++ st) (h8 : (st.map fun v => v.category).sum ≤ 8) (hdg : decode cc pc = .ok (.invokestatic idx, 3)) (kk : ∀ (z : Unit), f = some () → Sm X cl w nL res (K z) u (pc + 3) lv st) : Sm X cl w nL res (bP f K) u pc lv st0 := by
  intro hm H locs ls hP hD hS hl
  subst hst
  cases hf : f with
  | none => rw [hf] at hm; cases hm
  | some q0 =>
    skip
    subst hf
    have hFc := ct_free E hS
    refine va_callv (va_runS (As := As) (rest := st) ⟨E.1, E.2.1, E.2.2.2.2.2.1, E.2.2.2.1, E.2.2.1⟩ (hC rfl H.size) (va_cwS n E.2.2.1 hg rfl hrm.1 hrm.2 hd (by rw [E.2.2.2.2.2.2.2.1]; exact hR)) ⟨ct_blind hE, fun U hU hW => ⟨rfl, ct_pre E hE hP hD hS U hU hW⟩⟩ rfl hn hl.1 rfl (lv_room h8) hdg (by rw [E.2.2.2.2.2.2.2.1]; exact E.2.2.2.2.2.2.2.2.1)) hS (fun q _ h => hFc q h) hFc (fun u1 t H1 locs1 ht hvm hw1 hB hz1 hk1 hS1 => ?_)
    obtain ⟨hP1, hK1, hD1⟩ := hB
    rw [ht] at hP1
    cases hw1
    exact kk _ rfl hm H1 locs1 ls hP1 (hD1.weaken (fun _ _ _ h => hFc _ h)) hS1 hl
theorem Sm_cVa (E : En X cl Ts cc own nL tys as rm ext) (hE : ExtOk ext) (has : ∀ u : σ, (w u).map Prod.fst = as) {f : Option Unit} {K : Unit → Option α} {a : Nat} (hC : f = some () → Ct X.2.1 (xD X) cl Ts w tys as ext y (.code y bytes maxL ret) rm' (.ref b :: As) u (qA (xD X) cl w tys as a u)) (hg : GoodIn Ts (wsV own idx y.cls y (.code y bytes maxL ret :: Ts))) (hd : y.cls ≠ "java/lang/invoke/MethodHandle" ∧ y.cls ≠ "java/lang/invoke/VarHandle" ∧ (parseMethodDescriptor y.desc).map (fun d => d.parameters.length) = some n) (hn : As.length = n) (hrm : rm'.cells = 0 ∧ rm'.slots = 0) (hR : rm'.frames + 1 ≤ rm.frames ∧ 8 + (maxL + 11) + rm'.locals ≤ rm.locals) (hrv : ∀ (H : Heap) (locs : List Loc), va_P (xD X) cl (w u) H → va_S (xA X) (xs X).heap H locs → ∃ cell : Cell, H[b]? = some cell ∧ cell.vm.isStatics = false ∧ (xs X).vm.findClass y.cls = some cell.cls) (hst : st0 = As.reverse ++ .ref b :: st) (h8 : (st.map fun v => v.category).sum ≤ 8) (hdg : decode cc pc = .ok (.invokevirtual idx, 3)) (kk : ∀ (z : Unit), f = some () → Sm X cl w nL res (K z) u (pc + 3) lv (.ref a :: st)) : Sm X cl w nL res (bP f K) u pc lv st0 := by
  intro hm H locs ls hP hD hS hl
  subst hst
  cases hf : f with
  | none => rw [hf] at hm; cases hm
  | some q0 =>
    skip
    subst hf
    have hFc := ct_free E hS
    have hrv1 := hrv H locs hP hS
    refine va_callr (va_runV (As := As) (rest := st) ⟨E.1, E.2.1, E.2.2.2.2.2.1, E.2.2.2.1, E.2.2.1⟩ (hC rfl H.size) (cwV n E.2.2.1 hg rfl hrm.1 hrm.2 ⟨rfl, hd⟩ (by rw [E.2.2.2.2.2.2.2.1]; exact hR)) ⟨ct_blind hE, hrv1, fun U hU hW => ⟨rfl, ct_pre E hE hP hD hS U hU hW⟩⟩ rfl hn hl.1 rfl (lv_room h8) hdg (by rw [E.2.2.2.2.2.2.2.1]; exact E.2.2.2.2.2.2.2.2.1)) hS (fun q _ h => hFc q h) hFc (fun u1 r1 t H1 locs1 ht hvm hw1 hB hz1 hk1 hS1 => ?_)
    obtain ⟨rfl, hB⟩ := hB
    obtain ⟨hP1, hK1, hD1⟩ := hB
    rw [ht] at hP1
    cases hw1
    exact kk _ rfl hm H1 locs1 ls hP1 (hD1.weaken (fun _ _ _ h => hFc _ h)) hS1 hl
theorem Sm_cSa (E : En X cl Ts cc own nL tys as rm ext) (hE : ExtOk ext) (has : ∀ u : σ, (w u).map Prod.fst = as) {f : Option Unit} {K : Unit → Option α} {a : Nat} (hC : f = some () → Ct X.2.1 (xD X) cl Ts w tys as ext y (.code y bytes maxL ret) rm' As u (qA (xD X) cl w tys as a u)) (hg : GoodIn Ts (va_wsS own idx y (.code y bytes maxL ret :: Ts))) (hd : y.cls ≠ "java/lang/invoke/MethodHandle" ∧ y.cls ≠ "java/lang/invoke/VarHandle" ∧ (parseMethodDescriptor y.desc).map (fun d => d.parameters.length) = some n) (hn : As.length = n) (hrm : rm'.cells = 0 ∧ rm'.slots = 0) (hR : rm'.frames + 1 ≤ rm.frames ∧ 8 + (maxL + 11) + rm'.locals ≤ rm.locals) (hst : st0 = As.reverse ++ st) (h8 : (st.map fun v => v.category).sum ≤ 8) (hdg : decode cc pc = .ok (.invokestatic idx, 3)) (kk : ∀ (z : Unit), f = some () → Sm X cl w nL res (K z) u (pc + 3) lv (.ref a :: st)) : Sm X cl w nL res (bP f K) u pc lv st0 := by
  intro hm H locs ls hP hD hS hl
  subst hst
  cases hf : f with
  | none => rw [hf] at hm; cases hm
  | some q0 =>
    skip
    subst hf
    have hFc := ct_free E hS
    refine va_callr (va_runS (As := As) (rest := st) ⟨E.1, E.2.1, E.2.2.2.2.2.1, E.2.2.2.1, E.2.2.1⟩ (hC rfl H.size) (va_cwS n E.2.2.1 hg rfl hrm.1 hrm.2 hd (by rw [E.2.2.2.2.2.2.2.1]; exact hR)) ⟨ct_blind hE, fun U hU hW => ⟨rfl, ct_pre E hE hP hD hS U hU hW⟩⟩ rfl hn hl.1 rfl (lv_room h8) hdg (by rw [E.2.2.2.2.2.2.2.1]; exact E.2.2.2.2.2.2.2.2.1)) hS (fun q _ h => hFc q h) hFc (fun u1 r1 t H1 locs1 ht hvm hw1 hB hz1 hk1 hS1 => ?_)
    obtain ⟨rfl, hB⟩ := hB
    obtain ⟨hP1, hK1, hD1⟩ := hB
    rw [ht] at hP1
    cases hw1
    exact kk _ rfl hm H1 locs1 ls hP1 (hD1.weaken (fun _ _ _ h => hFc _ h)) hS1 hl
end Calls2
