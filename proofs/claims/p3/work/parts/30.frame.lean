/-! THE FRAME RULE for contracts: a contract over a world holds beside another world, which stays -/
theorem Met_conseq {l : Launch} {y : MethodName} {ws : List Cond} {rm : Room} {Pc Pc' : Array Value → State → Prop} {Qc Qc' : Array Value → State → Outcome → State → Prop} {mc ms : Nat} {free free' : Addr → Prop} (h : Met l y ws rm Pc Qc mc ms free) (hp : ∀ a s, Pc' a s → Pc a s) (hq : ∀ a s o t, Pc' a s → Qc a s o t → Qc' a s o t) (hf : ∀ q, free q → free' q) : Met l y ws rm Pc' Qc' mc ms free' := by
  intro p e ha hc hk s m args below hfr hfit hP hK
  obtain ⟨n, o, h1, h2, h3, h4, L, h5, h6⟩ := h p e ha hc hk s m args below hfr hfit (hp _ _ hP) hK
  exact ⟨n, o, h1, h2, h3, hq _ _ _ _ hP h4, L, h5, fun q hq => hf _ (h6 q hq)⟩
theorem D_adr {A A' : Nat → Prop} {ws ws' : va_W} (h : ws.map Prod.fst = ws'.map Prod.fst) (hD : va_D A ws) (hA : ∀ q ∈ ws'.map Prod.fst, A' q) : va_D A' ws' := by
  have at' : ∀ (i : Nat) (q : Nat × va_E), ws'[i]? = some q → ∃ q', ws[i]? = some q' ∧ q'.1 = q.1 := by
    intro i q hq
    have h1 : (ws'.map Prod.fst)[i]? = some q.1 := by rw [List.getElem?_map, hq]; rfl
    rw [← h, List.getElem?_map] at h1
    cases hc : ws[i]? with
    | none => rw [hc] at h1; cases h1
    | some q' => rw [hc] at h1; exact ⟨q', rfl, Option.some.inj h1⟩
  refine ⟨fun i j p q hp hq e => ?_, fun k q hk => hA _ (List.mem_map.mpr ⟨q, List.mem_of_getElem? hk, rfl⟩)⟩
  obtain ⟨p', hp', ep⟩ := at' i p hp
  obtain ⟨q', hq', eq⟩ := at' j q hq
  exact hD.1 i j p' q' hp' hq' (by rw [ep, eq, e])
theorem P_left {D : va_G} {cl : List vw_C} {w1 w2 : va_W} {H : Heap} (h : va_P D cl (w1 ++ w2) H) : va_P D cl w1 H := fun k q hk => h k q (by rw [List.getElem?_append_left (List.getElem?_eq_some_iff.mp hk).1]; exact hk)
theorem P_right {D : va_G} {cl : List vw_C} {w1 w2 : va_W} {H : Heap} (h : va_P D cl (w1 ++ w2) H) : va_P D cl w2 H := fun k q hk => h (w1.length + k) q (by rw [List.getElem?_append_right (Nat.le_add_right _ _), Nat.add_sub_cancel_left]; exact hk)
theorem D_left {A : Nat → Prop} {w1 w2 : va_W} (h : va_D A (w1 ++ w2)) : va_D A w1 := by
  have up : ∀ (i : Nat) (q : Nat × va_E), w1[i]? = some q → (w1 ++ w2)[i]? = some q := fun i q hk => by rw [List.getElem?_append_left (List.getElem?_eq_some_iff.mp hk).1]; exact hk
  exact ⟨fun i j p q hp hq e => h.1 i j p q (up i p hp) (up j q hq) e, fun k q hk => h.2 k q (up k q hk)⟩
theorem D_right {A : Nat → Prop} {w1 w2 : va_W} (h : va_D A (w1 ++ w2)) : va_D A w2 := by
  have up : ∀ (i : Nat) (q : Nat × va_E), w2[i]? = some q → (w1 ++ w2)[w1.length + i]? = some q := fun i q hk => by rw [List.getElem?_append_right (Nat.le_add_right _ _), Nat.add_sub_cancel_left]; exact hk
  refine ⟨fun i j p q hp hq e => ?_, fun k q hk => h.2 _ q (up k q hk)⟩
  have := h.1 _ _ p q (up i p hp) (up j q hq) e
  omega
theorem D_apart {A : Nat → Prop} {w1 w2 : va_W} (h : va_D A (w1 ++ w2)) {i j : Nat} {p q : Nat × va_E} (hp : w1[i]? = some p) (hq : w2[j]? = some q) : p.1 ≠ q.1 := by
  intro e
  have h1 : (w1 ++ w2)[i]? = some p := by rw [List.getElem?_append_left (List.getElem?_eq_some_iff.mp hp).1]; exact hp
  have h2 : (w1 ++ w2)[w1.length + j]? = some q := by rw [List.getElem?_append_right (Nat.le_add_right _ _), Nat.add_sub_cancel_left]; exact hq
  have := h.1 _ _ p q h1 h2 e
  have hl := (List.getElem?_eq_some_iff.mp hp).1
  omega
theorem exNar {G : Gx} {A B : Nat → Prop} {U : State} {H : Heap} (hAB : ∀ q, B q → A q) (h : exW G A U H) : exW G B U H := by
  obtain ⟨h1, h2, h3, h4, h5⟩ := h
  exact ⟨h1, fun k hk => ⟨(h2 k hk).1.narrow hAB, (h2 k hk).2.1.narrow hAB, (h2 k hk).2.2.1.narrow hAB, (h2 k hk).2.2.2.narrow hAB⟩, fun j hj => ⟨(h3 j hj).1.narrow hAB, (h3 j hj).2.narrow hAB⟩, h4.narrow hAB, h5.narrow hAB⟩
section Fr
variable {l : Launch} {D : va_G} {cl : List vw_C} {Ts : List Cond} {σ τ : Type} {w1 : σ → va_W} {w2 : τ → va_W} {tys : List (ClassId × FieldType)} {a1 a2 : List Nat} {G : Gx} {y : MethodName} {cd : Cond} {rm : Room} {av : List Value} {u1 : σ} {u2 : τ}
/-- the two worlds beside each other -/
def w12 (w1 : σ → va_W) (w2 : τ → va_W) (u : σ × τ) : va_W := w1 u.1 ++ w2 u.2
theorem w12_as (h1 : ∀ u : σ, (w1 u).map Prod.fst = a1) (h2 : ∀ u : τ, (w2 u).map Prod.fst = a2) : ∀ u : σ × τ, (w12 w1 w2 u).map Prod.fst = a1 ++ a2 := fun u => by rw [w12, List.map_append, h1, h2]
theorem fr_preL {sz : Nat} {U : State} (h : U.heap.size = sz ∧ va_P D cl (w12 w1 w2 (u1, u2)) U.heap ∧ va_K D cl tys U ∧ va_D (fun _ => True) (w12 w1 w2 (u1, u2)) ∧ exW G (Aw (a1 ++ a2) sz) U U.heap) : U.heap.size = sz ∧ va_P D cl (w1 u1) U.heap ∧ va_K D cl tys U ∧ va_D (fun _ => True) (w1 u1) ∧ exW G (Aw a1 sz) U U.heap := ⟨h.1, P_left h.2.1, h.2.2.1, D_left h.2.2.2.1, exNar (fun _ hq => hq.elim (fun z => Or.inl (List.mem_append_left _ z)) Or.inr) h.2.2.2.2⟩
theorem fr_preR {sz : Nat} {U : State} (h : U.heap.size = sz ∧ va_P D cl (w12 w1 w2 (u1, u2)) U.heap ∧ va_K D cl tys U ∧ va_D (fun _ => True) (w12 w1 w2 (u1, u2)) ∧ exW G (Aw (a1 ++ a2) sz) U U.heap) : U.heap.size = sz ∧ va_P D cl (w2 u2) U.heap ∧ va_K D cl tys U ∧ va_D (fun _ => True) (w2 u2) ∧ exW G (Aw a2 sz) U U.heap := ⟨h.1, P_right h.2.1, h.2.2.1, D_right h.2.2.2.1, exNar (fun _ hq => hq.elim (fun z => Or.inl (List.mem_append_right _ z)) Or.inr) h.2.2.2.2⟩
theorem fr_postL (h1 : ∀ u : σ, (w1 u).map Prod.fst = a1) (h2 : ∀ u : τ, (w2 u).map Prod.fst = a2) {sz : Nat} {U t : State} {v : σ} (h : U.heap.size = sz ∧ va_P D cl (w12 w1 w2 (u1, u2)) U.heap ∧ va_K D cl tys U ∧ va_D (fun _ => True) (w12 w1 w2 (u1, u2)) ∧ exW G (Aw (a1 ++ a2) sz) U U.heap) (hB : Bw D cl w1 tys (Aw a1 sz) v t) (hF : va_F (Aw a1 sz) U t) : Bw D cl (w12 w1 w2) tys (Aw (a1 ++ a2) sz) (v, u2) t ∧ va_F (Aw (a1 ++ a2) sz) U t := by
  obtain ⟨g1, gP, gK, gD, gX⟩ := h
  obtain ⟨bP, bK, bD⟩ := hB
  refine ⟨⟨va_P.app bP (fun k q hk => ?_), bK, ?_⟩, hF.1, fun q hq hn => hF.2 q hq (fun z => hn (z.elim (fun z => Or.inl (List.mem_append_left _ z)) Or.inr))⟩
  · have hat := P_right gP k q hk
    have hlt := hat.lt
    refine hat.kept (hF.2 q.1 hlt (fun z => ?_))
    rcases z with z | z
    · rw [← h1 u1] at z
      obtain ⟨p, hp, e⟩ := List.mem_map.mp z
      obtain ⟨i, hi⟩ := List.getElem?_of_mem hp
      exact D_apart gD hi hk e
    · omega
  · exact D_adr (by rw [w12_as h1 h2, w12_as h1 h2]) gD (fun q hq => Or.inl (by rw [w12_as h1 h2] at hq; exact hq))
theorem fr_postR (h1 : ∀ u : σ, (w1 u).map Prod.fst = a1) (h2 : ∀ u : τ, (w2 u).map Prod.fst = a2) {sz : Nat} {U t : State} {v : τ} (h : U.heap.size = sz ∧ va_P D cl (w12 w1 w2 (u1, u2)) U.heap ∧ va_K D cl tys U ∧ va_D (fun _ => True) (w12 w1 w2 (u1, u2)) ∧ exW G (Aw (a1 ++ a2) sz) U U.heap) (hB : Bw D cl w2 tys (Aw a2 sz) v t) (hF : va_F (Aw a2 sz) U t) : Bw D cl (w12 w1 w2) tys (Aw (a1 ++ a2) sz) (u1, v) t ∧ va_F (Aw (a1 ++ a2) sz) U t := by
  obtain ⟨g1, gP, gK, gD, gX⟩ := h
  obtain ⟨bP, bK, bD⟩ := hB
  refine ⟨⟨va_P.app (fun k q hk => ?_) bP, bK, ?_⟩, hF.1, fun q hq hn => hF.2 q hq (fun z => hn (z.elim (fun z => Or.inl (List.mem_append_right _ z)) Or.inr))⟩
  · have hat := P_left gP k q hk
    have hlt := hat.lt
    refine hat.kept (hF.2 q.1 hlt (fun z => ?_))
    rcases z with z | z
    · rw [← h2 u2] at z
      obtain ⟨p, hp, e⟩ := List.mem_map.mp z
      obtain ⟨i, hi⟩ := List.getElem?_of_mem hp
      exact D_apart gD hk hi e.symm
    · omega
  · exact D_adr (by rw [w12_as h1 h2, w12_as h1 h2]) gD (fun q hq => Or.inl (by rw [w12_as h1 h2] at hq; exact hq))
theorem fr_mL {sz : Nat} : ∀ q, Aw a1 sz q → Aw (a1 ++ a2) sz q := fun _ z => z.elim (fun z => Or.inl (List.mem_append_left _ z)) Or.inr
theorem fr_mR {sz : Nat} : ∀ q, Aw a2 sz q → Aw (a1 ++ a2) sz q := fun _ z => z.elim (fun z => Or.inl (List.mem_append_right _ z)) Or.inr
theorem Fr_IL (h1 : ∀ u : σ, (w1 u).map Prod.fst = a1) (h2 : ∀ u : τ, (w2 u).map Prod.fst = a2) {r : Int32} {v : σ} (h : Ct l D cl Ts w1 tys a1 (exW G) y cd rm av u1 (qI D cl w1 tys a1 (r, v))) : Ct l D cl Ts (w12 w1 w2) tys (a1 ++ a2) (exW G) y cd rm av (u1, u2) (qI D cl (w12 w1 w2) tys (a1 ++ a2) (r, (v, u2))) := fun sz => Met_conseq (h sz) (fun a s hp => ⟨hp.1, fr_preL hp.2⟩) (fun a s o t hp hq => by
  obtain ⟨⟨r', v', e1, e2, hB⟩, hF⟩ := hq
  cases e2
  obtain ⟨b, f⟩ := fr_postL h1 h2 hp.2 hB hF
  exact ⟨⟨_, _, e1, rfl, b⟩, f⟩) fr_mL
theorem Fr_IR (h1 : ∀ u : σ, (w1 u).map Prod.fst = a1) (h2 : ∀ u : τ, (w2 u).map Prod.fst = a2) {r : Int32} {v : τ} (h : Ct l D cl Ts w2 tys a2 (exW G) y cd rm av u2 (qI D cl w2 tys a2 (r, v))) : Ct l D cl Ts (w12 w1 w2) tys (a1 ++ a2) (exW G) y cd rm av (u1, u2) (qI D cl (w12 w1 w2) tys (a1 ++ a2) (r, (u1, v))) := fun sz => Met_conseq (h sz) (fun a s hp => ⟨hp.1, fr_preR hp.2⟩) (fun a s o t hp hq => by
  obtain ⟨⟨r', v', e1, e2, hB⟩, hF⟩ := hq
  cases e2
  obtain ⟨b, f⟩ := fr_postR h1 h2 hp.2 hB hF
  exact ⟨⟨_, _, e1, rfl, b⟩, f⟩) fr_mR
theorem Fr_JL (h1 : ∀ u : σ, (w1 u).map Prod.fst = a1) (h2 : ∀ u : τ, (w2 u).map Prod.fst = a2) {r : Int64} {v : σ} (h : Ct l D cl Ts w1 tys a1 (exW G) y cd rm av u1 (qJ D cl w1 tys a1 (r, v))) : Ct l D cl Ts (w12 w1 w2) tys (a1 ++ a2) (exW G) y cd rm av (u1, u2) (qJ D cl (w12 w1 w2) tys (a1 ++ a2) (r, (v, u2))) := fun sz => Met_conseq (h sz) (fun a s hp => ⟨hp.1, fr_preL hp.2⟩) (fun a s o t hp hq => by
  obtain ⟨⟨r', v', e1, e2, hB⟩, hF⟩ := hq
  cases e2
  obtain ⟨b, f⟩ := fr_postL h1 h2 hp.2 hB hF
  exact ⟨⟨_, _, e1, rfl, b⟩, f⟩) fr_mL
theorem Fr_JR (h1 : ∀ u : σ, (w1 u).map Prod.fst = a1) (h2 : ∀ u : τ, (w2 u).map Prod.fst = a2) {r : Int64} {v : τ} (h : Ct l D cl Ts w2 tys a2 (exW G) y cd rm av u2 (qJ D cl w2 tys a2 (r, v))) : Ct l D cl Ts (w12 w1 w2) tys (a1 ++ a2) (exW G) y cd rm av (u1, u2) (qJ D cl (w12 w1 w2) tys (a1 ++ a2) (r, (u1, v))) := fun sz => Met_conseq (h sz) (fun a s hp => ⟨hp.1, fr_preR hp.2⟩) (fun a s o t hp hq => by
  obtain ⟨⟨r', v', e1, e2, hB⟩, hF⟩ := hq
  cases e2
  obtain ⟨b, f⟩ := fr_postR h1 h2 hp.2 hB hF
  exact ⟨⟨_, _, e1, rfl, b⟩, f⟩) fr_mR
end Fr
