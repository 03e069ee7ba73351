/-- ldc_w of a text -/
theorem ldw_step {p : Program} {l : Launch} {e : Env} {R : Room} {s : State} {m : MethodId} {args : Array Value} {below : List Frame} {meth : Method} {c : Code} {T : State} {locs : List Loc} {cells slots : Nat}
    (X : Stand p l e R s m args below meth c T locs cells slots) (hexec : p.tables.exec = Jvm.exec) {own text : String} {index : Nat} {a : Addr} (hown : s.vm.findClass own = some m.cls)
    (hconst : (Cond.stringRef own index text).before args s = true) (hev : (Term.string own index).eval args s none [] s = some (.ref a)) {g : JFrame} (hg : g.method = m) (hdg : decode c.code g.pc = .ok (.ldc_w index, 3)) :
    ∀ target, Steps p.tables e below (T.setTop { g with pc := g.pc + 3, stack := .ref a :: g.stack }) target → Steps p.tables e below (T.setTop g) target := by
  obtain ⟨k, cf, i, a', hk, hcf, hcp, -, hr, hev'⟩ := Cond.stringRef_spec hown hconst
  cases hev.symm.trans hev'
  obtain ⟨k', hk', he⟩ := X.warmed.alike.2.2 _ _ hk
  have hr' : k'.resolved[index]? = some (some (.string a)) := by
    rcases X.warmed.entry hk hk' index with h | ⟨h, -⟩
    · rw [h]; exact hr
    · rw [hr] at h; cases h
  intro target hrest
  subst hg
  jvm_step X.here [hexec, hdg, ldc_w.wp_string (e := e) (s := T) (f := g) X.here.top hk' (by rw [he]; exact hcf) hcp hr']
  exact hrest
theorem ldw {p : Program} {l : Launch} {e : Env} {R : Room} {s : State} {m : MethodId} {args : Array Value} {below : List Frame} {meth : Method} {c : Code} {H : Heap} {locs : List Loc} {cells slots : Nat} {Q : State → Prop} {cc : ByteArray} {pc : Nat} {ls : Array Slot} {rest : List Value} (hexec : p.tables.exec = Jvm.exec) (hb : c.code = cc) {own tx : String} {index q : Nat} (hown : s.vm.findClass own = some m.cls) (hZ : vk_R own index tx q s) (hdg : decode cc pc = .ok (.ldc_w index, 3))
    (k : W p l e R s m args below meth c H locs cells slots Q (F0 m (pc + 3) ls (.ref q :: rest))) : W p l e R s m args below meth c H locs cells slots Q (F0 m pc ls rest) := by
  intro T hT X
  obtain ⟨t, a1, b1⟩ := k T hT X
  have h0 : (Cond.stringRef own index tx).before args s = true := hZ.1
  have h1 : (Term.string own index).eval args s none [] s = some (.ref q) := hZ.2
  exact ⟨t, ldw_step X hexec hown (text := tx) (a := q) h0 h1 (g := F0 m pc ls rest) rfl (by rw [hb]; exact hdg) t a1, b1⟩
theorem Sm_ldcS_w {X : Cx} {G : Gx} {cc : ByteArray} {own : String} {nL : Nat} {as : List Nat} {rm : Room} {σ α : Type} {w : σ → va_W} {res : α} {mv : Option α} {u : σ} {pc idx : Nat} {lv : List (Nat × Value)} {st : List Value} (E : En X vwCl ALL cc own nL (tyW G) as rm (exW G)) {tx : String} {k : Nat} (hq : (own, idx, tx, k) ∈ strTab) (hdg : decode cc pc = .ok (.ldc_w idx, 3)) (kk : Sm X vwCl w nL res mv u (pc + 3) lv (.ref (G.2.2.1 k) :: st)) : Sm X vwCl w nL res mv u pc lv st :=
  fun hm H locs ls hP hD hS hlv => ldw E.1 E.2.1 E.2.2.2.1 ((ex_of E).1 _ hq) hdg (kk hm H locs ls hP hD hS hlv)

