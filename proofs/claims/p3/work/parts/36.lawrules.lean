theorem Lx_cVI {X : Cx} {cc : ByteArray} {own : String} {nL : Nat} {tys : List (ClassId × FieldType)} {as as' : List Nat} {rm : Room} {ext0 ext : (Nat → Prop) → State → Heap → Prop} {σ α : Type} {w : σ → va_W} {res : α} {u : σ} {pc : Nat} {lv : List (Nat × Value)} {st st0 As : List Value} {b : Nat} {y : MethodName} {bytes : ByteArray} {maxL idx n : Nat} {ret : Option FieldType} {rm' : Room} (E : En X vwCl ALL cc own nL tys as rm ext0) (hE : ExtOk ext) (hx : ext (xA X) (xs X) (xs X).heap) (has : ∀ u : σ, (w u).map Prod.fst = as') {f : Option (Int32 × σ)} {K : Int32 → σ → Option α} (hC : ∀ r, f = some r → Ct X.2.1 (xD X) vwCl ALL w tys as' ext y (.code y bytes maxL ret) rm' (.ref b :: As) u (qI (xD X) vwCl w tys as' r)) (hg : GoodIn ALL (wsV own idx y.cls y (.code y bytes maxL ret :: ALL))) (hd : y.cls ≠ "java/lang/invoke/MethodHandle" ∧ y.cls ≠ "java/lang/invoke/VarHandle" ∧ (parseMethodDescriptor y.desc).map (fun d => d.parameters.length) = some n) (hn : As.length = n) (hrm : rm'.cells = 0 ∧ rm'.slots = 0) (hR : rm'.frames + 1 ≤ rm.frames ∧ 8 + (maxL + 11) + rm'.locals ≤ rm.locals) (hrv : ∀ (H : Heap) (locs : List Loc), va_P (xD X) vwCl (w u) H → va_S (xA X) (xs X).heap H locs → ∃ cell : Cell, H[b]? = some cell ∧ cell.vm.isStatics = false ∧ (xs X).vm.findClass y.cls = some cell.cls) (hst : st0 = As.reverse ++ .ref b :: st) (h8 : (st.map fun v => v.category).sum ≤ 8) (hdg : decode cc pc = .ok (.invokevirtual idx, 3)) (kk : ∀ (r : Int32) (u1 : σ), f = some (r, u1) → Sm X vwCl w nL res (K r u1) u1 (pc + 3) lv (.int r :: st)) : Sm X vwCl w nL res (bM f K) u pc lv st0 := by
  intro hm H locs ls hP hD hS hl
  subst hst
  cases hf : f with
  | none => rw [hf] at hm; cases hm
  | some q0 =>
    obtain ⟨r0, u0⟩ := q0
    subst hf
    have hFc : ∀ q, Aw as' H.size q → xA X q := by
      rintro q (h | h)
      · rw [← has u] at h
        obtain ⟨p, hp, e⟩ := List.mem_map.mp h
        obtain ⟨i, hi⟩ := List.getElem?_of_mem hp
        rw [← e]
        exact hD.2 i p hi
      · exact En_A E q (Nat.le_trans hS.1 h)
    have hrv1 := hrv H locs hP hS
    refine va_calli (va_runV (As := As) (rest := st) ⟨E.1, E.2.1, E.2.2.2.2.2.1, E.2.2.2.1, E.2.2.1⟩ (hC _ rfl H.size) (cwV n E.2.2.1 hg rfl hrm.1 hrm.2 ⟨rfl, hd⟩ (by rw [E.2.2.2.2.2.2.2.1]; exact hR)) ⟨ct_blind hE, hrv1, fun U hU hW => ⟨rfl, by rw [hU], by rw [hU]; exact hP, va_K.moved hW.alike E.2.2.2.2.1, hD.weaken (fun _ _ _ _ => trivial), by rw [hU]; exact hE.2 _ _ _ _ _ hW hFc hS.2.1 hx⟩⟩ rfl hn hl.1 rfl (lv_room h8) hdg (by rw [E.2.2.2.2.2.2.2.1]; exact E.2.2.2.2.2.2.2.2.1)) hS (fun q _ h => hFc q h) hFc (fun r1 u1 t H1 locs1 ht hvm hw1 hB hz1 hk1 hS1 => ?_)
    obtain ⟨hP1, hK1, hD1⟩ := hB
    rw [ht] at hP1
    cases hw1
    exact kk _ _ rfl hm H1 locs1 ls hP1 (hD1.weaken (fun _ _ _ h => hFc _ h)) hS1 hl
theorem Lx_cVi {X : Cx} {cc : ByteArray} {own : String} {nL : Nat} {tys : List (ClassId × FieldType)} {as as' : List Nat} {rm : Room} {ext0 ext : (Nat → Prop) → State → Heap → Prop} {σ α : Type} {w : σ → va_W} {res : α} {u : σ} {pc : Nat} {lv : List (Nat × Value)} {st st0 As : List Value} {b : Nat} {y : MethodName} {bytes : ByteArray} {maxL idx n : Nat} {ret : Option FieldType} {rm' : Room} (E : En X vwCl ALL cc own nL tys as rm ext0) (hE : ExtOk ext) (hx : ext (xA X) (xs X) (xs X).heap) (has : ∀ u : σ, (w u).map Prod.fst = as') {f : Option Int32} {K : Int32 → Option α} (hC : ∀ r, f = some r → Ct X.2.1 (xD X) vwCl ALL w tys as' ext y (.code y bytes maxL ret) rm' (.ref b :: As) u (qI (xD X) vwCl w tys as' (r, u))) (hg : GoodIn ALL (wsV own idx y.cls y (.code y bytes maxL ret :: ALL))) (hd : y.cls ≠ "java/lang/invoke/MethodHandle" ∧ y.cls ≠ "java/lang/invoke/VarHandle" ∧ (parseMethodDescriptor y.desc).map (fun d => d.parameters.length) = some n) (hn : As.length = n) (hrm : rm'.cells = 0 ∧ rm'.slots = 0) (hR : rm'.frames + 1 ≤ rm.frames ∧ 8 + (maxL + 11) + rm'.locals ≤ rm.locals) (hrv : ∀ (H : Heap) (locs : List Loc), va_P (xD X) vwCl (w u) H → va_S (xA X) (xs X).heap H locs → ∃ cell : Cell, H[b]? = some cell ∧ cell.vm.isStatics = false ∧ (xs X).vm.findClass y.cls = some cell.cls) (hst : st0 = As.reverse ++ .ref b :: st) (h8 : (st.map fun v => v.category).sum ≤ 8) (hdg : decode cc pc = .ok (.invokevirtual idx, 3)) (kk : ∀ (r : Int32), f = some r → Sm X vwCl w nL res (K r) u (pc + 3) lv (.int r :: st)) : Sm X vwCl w nL res (bP f K) u pc lv st0 := by
  intro hm H locs ls hP hD hS hl
  subst hst
  cases hf : f with
  | none => rw [hf] at hm; cases hm
  | some q0 =>
    skip
    subst hf
    have hFc : ∀ q, Aw as' H.size q → xA X q := by
      rintro q (h | h)
      · rw [← has u] at h
        obtain ⟨p, hp, e⟩ := List.mem_map.mp h
        obtain ⟨i, hi⟩ := List.getElem?_of_mem hp
        rw [← e]
        exact hD.2 i p hi
      · exact En_A E q (Nat.le_trans hS.1 h)
    have hrv1 := hrv H locs hP hS
    refine va_calli (va_runV (As := As) (rest := st) ⟨E.1, E.2.1, E.2.2.2.2.2.1, E.2.2.2.1, E.2.2.1⟩ (hC _ rfl H.size) (cwV n E.2.2.1 hg rfl hrm.1 hrm.2 ⟨rfl, hd⟩ (by rw [E.2.2.2.2.2.2.2.1]; exact hR)) ⟨ct_blind hE, hrv1, fun U hU hW => ⟨rfl, by rw [hU], by rw [hU]; exact hP, va_K.moved hW.alike E.2.2.2.2.1, hD.weaken (fun _ _ _ _ => trivial), by rw [hU]; exact hE.2 _ _ _ _ _ hW hFc hS.2.1 hx⟩⟩ rfl hn hl.1 rfl (lv_room h8) hdg (by rw [E.2.2.2.2.2.2.2.1]; exact E.2.2.2.2.2.2.2.2.1)) hS (fun q _ h => hFc q h) hFc (fun r1 u1 t H1 locs1 ht hvm hw1 hB hz1 hk1 hS1 => ?_)
    obtain ⟨hP1, hK1, hD1⟩ := hB
    rw [ht] at hP1
    cases hw1
    exact kk _ rfl hm H1 locs1 ls hP1 (hD1.weaken (fun _ _ _ h => hFc _ h)) hS1 hl
theorem Lx_cVj {X : Cx} {cc : ByteArray} {own : String} {nL : Nat} {tys : List (ClassId × FieldType)} {as as' : List Nat} {rm : Room} {ext0 ext : (Nat → Prop) → State → Heap → Prop} {σ α : Type} {w : σ → va_W} {res : α} {u : σ} {pc : Nat} {lv : List (Nat × Value)} {st st0 As : List Value} {b : Nat} {y : MethodName} {bytes : ByteArray} {maxL idx n : Nat} {ret : Option FieldType} {rm' : Room} (E : En X vwCl ALL cc own nL tys as rm ext0) (hE : ExtOk ext) (hx : ext (xA X) (xs X) (xs X).heap) (has : ∀ u : σ, (w u).map Prod.fst = as') {f : Option Int64} {K : Int64 → Option α} (hC : ∀ r, f = some r → Ct X.2.1 (xD X) vwCl ALL w tys as' ext y (.code y bytes maxL ret) rm' (.ref b :: As) u (qJ (xD X) vwCl w tys as' (r, u))) (hg : GoodIn ALL (wsV own idx y.cls y (.code y bytes maxL ret :: ALL))) (hd : y.cls ≠ "java/lang/invoke/MethodHandle" ∧ y.cls ≠ "java/lang/invoke/VarHandle" ∧ (parseMethodDescriptor y.desc).map (fun d => d.parameters.length) = some n) (hn : As.length = n) (hrm : rm'.cells = 0 ∧ rm'.slots = 0) (hR : rm'.frames + 1 ≤ rm.frames ∧ 8 + (maxL + 11) + rm'.locals ≤ rm.locals) (hrv : ∀ (H : Heap) (locs : List Loc), va_P (xD X) vwCl (w u) H → va_S (xA X) (xs X).heap H locs → ∃ cell : Cell, H[b]? = some cell ∧ cell.vm.isStatics = false ∧ (xs X).vm.findClass y.cls = some cell.cls) (hst : st0 = As.reverse ++ .ref b :: st) (h8 : (st.map fun v => v.category).sum ≤ 8) (hdg : decode cc pc = .ok (.invokevirtual idx, 3)) (kk : ∀ (r : Int64), f = some r → Sm X vwCl w nL res (K r) u (pc + 3) lv (.long r :: st)) : Sm X vwCl w nL res (bP f K) u pc lv st0 := by
  intro hm H locs ls hP hD hS hl
  subst hst
  cases hf : f with
  | none => rw [hf] at hm; cases hm
  | some q0 =>
    skip
    subst hf
    have hFc : ∀ q, Aw as' H.size q → xA X q := by
      rintro q (h | h)
      · rw [← has u] at h
        obtain ⟨p, hp, e⟩ := List.mem_map.mp h
        obtain ⟨i, hi⟩ := List.getElem?_of_mem hp
        rw [← e]
        exact hD.2 i p hi
      · exact En_A E q (Nat.le_trans hS.1 h)
    have hrv1 := hrv H locs hP hS
    refine va_calll (va_runV (As := As) (rest := st) ⟨E.1, E.2.1, E.2.2.2.2.2.1, E.2.2.2.1, E.2.2.1⟩ (hC _ rfl H.size) (cwV n E.2.2.1 hg rfl hrm.1 hrm.2 ⟨rfl, hd⟩ (by rw [E.2.2.2.2.2.2.2.1]; exact hR)) ⟨ct_blind hE, hrv1, fun U hU hW => ⟨rfl, by rw [hU], by rw [hU]; exact hP, va_K.moved hW.alike E.2.2.2.2.1, hD.weaken (fun _ _ _ _ => trivial), by rw [hU]; exact hE.2 _ _ _ _ _ hW hFc hS.2.1 hx⟩⟩ rfl hn hl.1 rfl (lv_room h8) hdg (by rw [E.2.2.2.2.2.2.2.1]; exact E.2.2.2.2.2.2.2.2.1)) hS (fun q _ h => hFc q h) hFc (fun r1 u1 t H1 locs1 ht hvm hw1 hB hz1 hk1 hS1 => ?_)
    obtain ⟨hP1, hK1, hD1⟩ := hB
    rw [ht] at hP1
    cases hw1
    exact kk _ rfl hm H1 locs1 ls hP1 (hD1.weaken (fun _ _ _ h => hFc _ h)) hS1 hl
def lfL {α σ τ : Type} (o : Option (α × σ)) (b : τ) : Option (α × (σ × τ)) := match o with
  | some (r, v) => some (r, (v, b))
  | none => none
def lfR {α σ τ : Type} (o : Option (α × τ)) (a : σ) : Option (α × (σ × τ)) := match o with
  | some (r, v) => some (r, (a, v))
  | none => none
section Lf
variable {l : Launch} {D : va_G} {cl : List vw_C} {Ts : List Cond} {σ τ : Type} {w1 : σ → va_W} {w2 : τ → va_W} {tys : List (ClassId × FieldType)} {a1 a2 : List Nat} {G : Gx} {y : MethodName} {cd : Cond} {rm : Room} {av : List Value} {u1 : σ} {u2 : τ}
theorem lf_IL (h1 : ∀ u : σ, (w1 u).map Prod.fst = a1) (h2 : ∀ u : τ, (w2 u).map Prod.fst = a2) {f : Option (Int32 × σ)} (hc : ∀ q, f = some q → Ct l D cl Ts w1 tys a1 (exW G) y cd rm av u1 (qI D cl w1 tys a1 q)) : ∀ q, lfL f u2 = some q → Ct l D cl Ts (w12 w1 w2) tys (a1 ++ a2) (exW G) y cd rm av (u1, u2) (qI D cl (w12 w1 w2) tys (a1 ++ a2) q) := by
  intro q h
  match f, h with
  | some (r, v), h => cases h; exact Fr_IL h1 h2 (hc (r, v) rfl)
theorem lf_IR (h1 : ∀ u : σ, (w1 u).map Prod.fst = a1) (h2 : ∀ u : τ, (w2 u).map Prod.fst = a2) {f : Option (Int32 × τ)} (hc : ∀ q, f = some q → Ct l D cl Ts w2 tys a2 (exW G) y cd rm av u2 (qI D cl w2 tys a2 q)) : ∀ q, lfR f u1 = some q → Ct l D cl Ts (w12 w1 w2) tys (a1 ++ a2) (exW G) y cd rm av (u1, u2) (qI D cl (w12 w1 w2) tys (a1 ++ a2) q) := by
  intro q h
  match f, h with
  | some (r, v), h => cases h; exact Fr_IR h1 h2 (hc (r, v) rfl)
theorem lf_iL (h1 : ∀ u : σ, (w1 u).map Prod.fst = a1) (h2 : ∀ u : τ, (w2 u).map Prod.fst = a2) {f : Option Int32} (hc : ∀ r, f = some r → Ct l D cl Ts w1 tys a1 (exW G) y cd rm av u1 (qI D cl w1 tys a1 (r, u1))) : ∀ r, f = some r → Ct l D cl Ts (w12 w1 w2) tys (a1 ++ a2) (exW G) y cd rm av (u1, u2) (qI D cl (w12 w1 w2) tys (a1 ++ a2) (r, (u1, u2))) := fun r h => Fr_IL h1 h2 (hc r h)
theorem lf_iR (h1 : ∀ u : σ, (w1 u).map Prod.fst = a1) (h2 : ∀ u : τ, (w2 u).map Prod.fst = a2) {f : Option Int32} (hc : ∀ r, f = some r → Ct l D cl Ts w2 tys a2 (exW G) y cd rm av u2 (qI D cl w2 tys a2 (r, u2))) : ∀ r, f = some r → Ct l D cl Ts (w12 w1 w2) tys (a1 ++ a2) (exW G) y cd rm av (u1, u2) (qI D cl (w12 w1 w2) tys (a1 ++ a2) (r, (u1, u2))) := fun r h => Fr_IR h1 h2 (hc r h)
theorem lf_jL (h1 : ∀ u : σ, (w1 u).map Prod.fst = a1) (h2 : ∀ u : τ, (w2 u).map Prod.fst = a2) {f : Option Int64} (hc : ∀ r, f = some r → Ct l D cl Ts w1 tys a1 (exW G) y cd rm av u1 (qJ D cl w1 tys a1 (r, u1))) : ∀ r, f = some r → Ct l D cl Ts (w12 w1 w2) tys (a1 ++ a2) (exW G) y cd rm av (u1, u2) (qJ D cl (w12 w1 w2) tys (a1 ++ a2) (r, (u1, u2))) := fun r h => Fr_JL h1 h2 (hc r h)
theorem lf_jR (h1 : ∀ u : σ, (w1 u).map Prod.fst = a1) (h2 : ∀ u : τ, (w2 u).map Prod.fst = a2) {f : Option Int64} (hc : ∀ r, f = some r → Ct l D cl Ts w2 tys a2 (exW G) y cd rm av u2 (qJ D cl w2 tys a2 (r, u2))) : ∀ r, f = some r → Ct l D cl Ts (w12 w1 w2) tys (a1 ++ a2) (exW G) y cd rm av (u1, u2) (qJ D cl (w12 w1 w2) tys (a1 ++ a2) (r, (u1, u2))) := fun r h => Fr_JR h1 h2 (hc r h)
end Lf
def Scr (X : Cx) (b L : Nat) (xv : Nat → Int32) : Prop := va_X b L xv (xs X) (xs X).heap ∧ b < (xs X).heap.size ∧ ¬ xA X b
section Lw
variable {X : Cx} {cl : List vw_C} {Ts : List Cond} {cc : ByteArray} {own : String} {nL : Nat} {tys : List (ClassId × FieldType)} {as : List Nat} {rm : Room} {ext : (Nat → Prop) → State → Heap → Prop} {σ α : Type} {w : σ → va_W} {res : α} {mv : Option α} {u : σ} {pc : Nat} {lv : List (Nat × Value)} {st : List Value} {b L : Nat} {xv : Nat → Int32}
theorem Sm_sld (E : En X cl Ts cc own nL tys as rm ext) (hX : Scr X b L xv) {i : Int32} (hi : vp_in i L) (hdg : decode cc pc = .ok (.iaload, 1)) (k : Sm X cl w nL res mv u (pc + 1) lv (.int (xv i.toNatClampNeg) :: st)) : Sm X cl w nL res mv u pc lv (.int i :: .ref b :: st) := fun hm H locs ls hP hD hS hl => va_sld E.1 E.2.1 hX.1 hX.2.1 hX.2.2 hS hi hdg (k hm H locs ls hP hD hS hl)
theorem Sm_slen (E : En X cl Ts cc own nL tys as rm ext) (hX : Scr X b L xv) (hdg : decode cc pc = .ok (.arraylength, 1)) (k : Sm X cl w nL res mv u (pc + 1) lv (.int (nI L) :: st)) : Sm X cl w nL res mv u pc lv (.ref b :: st) := fun hm H locs ls hP hD hS hl => va_slen E.1 E.2.1 hX.1 hX.2.1 hX.2.2 hS hdg (k hm H locs ls hP hD hS hl)
theorem Sm_pop2 (E : En X cl Ts cc own nL tys as rm ext) {x : Int64} (hdg : decode cc pc = .ok (.pop2, 1)) (k : Sm X cl w nL res mv u (pc + 1) lv st) : Sm X cl w nL res mv u pc lv (.long x :: st) := fun hm H locs ls hP hD hS hl => lv_pop2_2 E.1 E.2.1 hdg rfl (k hm H locs ls hP hD hS hl)
/-- the law's end: it answers 1 -/
def RtL (X : Cx) (cc : ByteArray) : Prop := ∀ (H : Heap) (locs : List Loc) (ls : Array Slot) (pc : Nat), va_S (xA X) (xs X).heap H locs → decode cc pc = .ok (.ireturn, 1) → Wx X H locs (F0 (xm X) pc ls [.int 1])
theorem Sm_retL (hR : RtL X cc) {x : Int32} (hdg : decode cc pc = .ok (.ireturn, 1)) : Sm X cl w nL (1 : Int32) (some x) u pc lv [.int x] := fun hm H locs ls _ _ hS _ => by
  cases Option.some.inj hm
  exact hR H locs ls pc hS hdg
end Lw
