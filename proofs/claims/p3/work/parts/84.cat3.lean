/-! THE REFERENCE: IS THE TYPED TEXT A NAME -/
def nameC (v : St) : Prop := (v.1 2).toInt = 0 ∧ (v.1 1).toInt = 1 ∧ (ga v 1 0).toInt = 2 ∧ (ga v 2 0).toInt = 0 ∧ (ga v 3 0).toInt = (v.1 0).toInt
theorem mN_at {x1 : Int32} {u : St} (h0 : 0 ≤ x1.toInt) (h2 : (u.1 0).toInt ≤ 2000) : ok (mM_SqlReaderModel_at x1 u) (fun r => ((u.1 0).toInt ≤ x1.toInt ∧ r.toInt = 0) ∨ (x1.toInt < (u.1 0).toInt ∧ r = ga u 0 x1)) := by
  have l0 : (0 : Int32).toInt = 0 := by decide
  rw [mM_SqlReaderModel_at]
  exact ok_le (fun c => ok_some (Or.inl ⟨c, l0⟩)) (fun c => ok_gd (inb_of (by omega) (by omega)) (ok_some (Or.inr ⟨c, rfl⟩)))
theorem cut_small {u : St} {N : Nat} (I : IX u) (hb : (u.1 2).toInt = 0) (ht : (u.1 1).toInt = 0) (hs : 1 ≤ (u.1 0).toInt) {x2 : Int32} (h2 : 97 ≤ x2.toInt) (hN : 2003 < N) : ∀ (n : Nat) {x3 : Int32} (h3 : 1 ≤ x3.toInt) (h3' : x3.toInt ≤ (u.1 0).toInt) (hp : ∀ i : Nat, 1 ≤ i → (i : Int) < x3.toInt → nmI (u.2.1 0 i).toInt) (hm : (2000 - x3.toInt).toNat < n), ok (mM_SqlReaderModel_cut_L102 (mM_SqlReaderModel_cut_L12 N) n 0 x2 x3 2 u) (fun v => nameC v ↔ ((u.1 0).toInt ≤ 16 ∧ ∀ i : Nat, 1 ≤ i → (i : Int) < (u.1 0).toInt → nmI (u.2.1 0 i).toInt)) := by
  have B := IX_b I
  have l0 : (0 : Int32).toInt = 0 := by decide
  have l1 : (1 : Int32).toInt = 1 := by decide
  have l2 : (2 : Int32).toInt = 2 := by decide
  have l16 : (16 : Int32).toInt = 16 := by decide
  have l36 : (36 : Int32).toInt = 36 := by decide
  have e1 : (u.1 1 + 1 : Int32).toInt = (u.1 1).toInt + (1 : Int32).toInt := add_i (by omega) (by omega)
  intro n
  induction n with
  | zero => intro x3 h3 h3' hp hm; exact absurd hm (Nat.not_lt_zero _)
  | succ n ih =>
    intro x3 h3 h3' hp hm
    have c3 := cl_of (i := x3) (by omega)
    have fin (s1 : Int32) (h1 : (s1.toInt = 1 ∧ 16 < x3.toInt) ∨ (s1.toInt = 0 ∧ x3.toInt ≤ 16)) (hx : x3.toInt = (u.1 0).toInt ∨ ¬ nmI (u.2.1 0 x3.toNatClampNeg).toInt) : ok (mM_SqlReaderModel_cut_J261 (mM_SqlReaderModel_cut_L12 N) 0 x3 2 s1 u) (fun v => nameC v ↔ ((u.1 0).toInt ≤ 16 ∧ ∀ i : Nat, 1 ≤ i → (i : Int) < (u.1 0).toInt → nmI (u.2.1 0 i).toInt)) := by
      rw [mM_SqlReaderModel_cut_J261]
      refine ok_gd (zb_of (by omega) (by omega)) (ok_seq (fun u8 e8 => ?_))
      subst e8
      refine ok_bP (kM_SqlReaderModel_token (u := ss u 2 s1) (show 0 ≤ (u.1 1).toInt by omega) (show (u.1 1).toInt ≤ 2000 by omega)) (fun w hw => ?_)
      subst hw
      have t0 := tokS_0 (u := ss u 2 s1) (k := 2) (b := 0) (e := x3) (show 0 ≤ (u.1 1).toInt by omega) (show (u.1 1).toInt ≤ 1999 by omega)
      have gt : ((ss u 2 s1).1 1).toInt = (u.1 1).toInt := rfl
      have gn : ((tokS (ss u 2 s1) 2 0 x3).1 1).toInt = 1 := by show (u.1 1 + 1 : Int32).toInt = _; omega
      have g2 : ((tokS (ss u 2 s1) 2 0 x3).1 2).toInt = s1.toInt := rfl
      have g0 : ((tokS (ss u 2 s1) 2 0 x3).1 0).toInt = (u.1 0).toInt := rfl
      by_cases hz : x3.toInt = (u.1 0).toInt
      · obtain ⟨K, rfl⟩ : ∃ K, N = K + 1 := ⟨N - 1, by omega⟩
        rw [mM_SqlReaderModel_cut_L12]
        refine ok_le (fun _ => ok_some ?_) (fun c => by exfalso; omega)
        constructor
        · intro h
          obtain ⟨a, _⟩ := h
          exact ⟨by omega, fun i i1 i2 => hp i i1 (by omega)⟩
        · intro h
          have h16 := h.1
          exact ⟨by omega, gn, by omega, by omega, by omega⟩
      · have I8 := IX_bad (x := s1) I (by omega) (by omega) (by omega)
        have I9 : IX (tokS (ss u 2 s1) 2 0 x3) := by
          refine IX_tokS I8 (show (u.1 1).toInt ≤ 1999 by omega) (Or.inl ⟨by omega, by omega⟩) (fun q => ?_)
          have q' : s1.toInt = 0 := q
          exact ⟨⟨by omega, by omega, by omega⟩, Or.inr (by omega), Or.inl (by omega), Or.inl (by omega)⟩
        refine ok_mono (kN_SqlReaderModel_cut_L12 N I9 (Or.inr ⟨by omega, by omega, by omega⟩) (by omega)) (fun v hv => ?_)
        obtain ⟨_, K, _, p, _⟩ := hv
        have v0 : v.1 0 = u.1 0 := K.1 0 (by decide) (by decide)
        have p3 := p.resolve_left (by omega)
        constructor
        · intro h
          obtain ⟨_, _, _, _, h5⟩ := h
          rw [v0] at h5
          omega
        · intro h
          rcases hx with q | q
          · exact absurd q hz
          · exact absurd (h.2 x3.toNatClampNeg (by omega) (by omega)) q
    rw [mM_SqlReaderModel_cut_L102]
    refine ok_neg (by decide) ?_
    rw [mM_SqlReaderModel_cut_J119]
    refine ok_pos rfl (ok_bP (mN_at (by omega) (by omega)) (fun r hr => ok_bP mN_nm (fun s hs' => ok_eq (fun c _ => ?_) (fun c => ok_seq (fun y hy => ?_)))))
    · have hx : x3.toInt = (u.1 0).toInt ∨ ¬ nmI (u.2.1 0 x3.toNatClampNeg).toInt := by
        rcases hr with q | ⟨_, q⟩
        · exact Or.inl (by omega)
        · refine Or.inr (fun h => ?_)
          rcases hs' with w | w
          · omega
          · rw [q] at w
            exact w.2 h
      rw [mM_SqlReaderModel_cut_J136]
      refine ok_neg (by decide) ?_
      rw [mM_SqlReaderModel_cut_J159]
      refine ok_eq (fun q _ => ?_) (fun _ => ok_neg (by decide) ?_)
      · exfalso
        omega
      rw [mM_SqlReaderModel_cut_J216]
      have e : (x3 - 0 : Int32).toInt = x3.toInt - (0 : Int32).toInt := sub_i (by omega) (by omega)
      refine ok_eq (fun _ _ => ok_lt (fun q => by exfalso; omega) (fun _ => ok_pos rfl (ok_lt (fun q => fin 1 (by omega) hx) (fun q => ?_)))) (fun q => by exfalso; omega)
      rw [mM_SqlReaderModel_cut_J242]
      exact ok_neg (by decide) (fin 0 (by omega) hx)
    · have ey : (x3 + 1 : Int32).toInt = x3.toInt + (1 : Int32).toInt := add_i (by omega) (by omega)
      have ey' : y.toInt = x3.toInt + 1 := by rw [hy]; omega
      have q : x3.toInt < (u.1 0).toInt ∧ nmI (u.2.1 0 x3.toNatClampNeg).toInt := by
        rcases hs' with w | w
        · rcases hr with z | ⟨z, q⟩
          · exfalso
            have w2 := w.2
            rw [z.2] at w2
            unfold nmI at w2
            omega
          · have w2 := w.2
            rw [q] at w2
            exact ⟨z, w2⟩
        · exfalso
          omega
      refine ih (by omega) (by omega) (fun i a b => ?_) (by omega)
      by_cases h : i = x3.toNatClampNeg
      · rw [h]; exact q.2
      · exact hp i a (by omega)
theorem cut_name {u : St} (I : IB u) : ok (mM_SqlReaderModel_cut u) (fun v => nameC v ↔ nameB (u.2.1 0) (u.1 0).toInt) := by
  have B := IB_b I
  have l0 : (0 : Int32).toInt = 0 := by decide
  have l1 : (1 : Int32).toInt = 1 := by decide
  have l2 : (2 : Int32).toInt = 2 := by decide
  have l3 : (3 : Int32).toInt = 3 := by decide
  have l6 : (6 : Int32).toInt = 6 := by decide
  have l32 : (32 : Int32).toInt = 32 := by decide
  have l39 : (39 : Int32).toInt = 39 := by decide
  have FUe : FU = 100000 := rfl
  rw [mM_SqlReaderModel_cut]
  refine ok_seq (fun u1 h1 => ok_seq (fun u2 h2 => ?_))
  have I2 : IX u2 := by
    rw [h2, h1]
    exact ⟨MS_s2 (MS_s1 I.1 (by omega) (by omega)) (by omega) (by omega), I.2, fun j hj => by have q : (j : Int) < (0 : Int32).toInt := hj; omega, fun _ j hj => by have q : (j : Int) < (0 : Int32).toInt := hj; omega⟩
  have z1 : (u2.1 1).toInt = 0 := by rw [h2, h1]; exact l0
  have z2 : (u2.1 2).toInt = 0 := by rw [h2]; exact l0
  have z0 : u2.1 0 = u.1 0 := by rw [h2, h1]; rfl
  have a0 : u2.2.1 0 = u.2.1 0 := by rw [h2, h1]; rfl
  have g0 : ga u2 0 0 = u.2.1 0 0 := by
    show u2.2.1 0 _ = _
    rw [a0]
    rfl
  rw [show FU = 99999 + 1 from rfl, mM_SqlReaderModel_cut_L12]
  have no : ¬ (97 ≤ (u.2.1 0 0).toInt ∧ (u.2.1 0 0).toInt ≤ 122) → ∀ {v : St}, ¬ nameC v → (nameC v ↔ nameB (u.2.1 0) (u.1 0).toInt) := fun hn v hv => ⟨fun h => absurd h hv, fun h => absurd h.2.2.1 hn⟩
  refine ok_le (fun c => ok_some ?_) (fun c => ?_)
  · rw [z0] at c
    exact ⟨fun h => by obtain ⟨_, h, _⟩ := h; omega, fun h => by have := h.2.1; omega⟩
  rw [z0] at c
  refine ok_eq (fun _ _ => ok_gd (inb_of (by omega) (by omega)) (ok_seq (fun y3 hy3 => ok_seq (fun y4 hy4 => ?_)))) (fun q => by exfalso; omega)
  rw [g0] at hy3
  have e1 : (0 + 1 : Int32).toInt = 1 := by decide
  have ey4 : y4.toInt = 1 := by rw [hy4]; exact e1
  refine ok_eq (fun c32 _ => ok_seq (fun y hy => ?_)) (fun c32 => ?_)
  · have ey : y.toInt = 1 := by rw [hy]; exact e1
    refine ok_mono (kN_SqlReaderModel_cut_L12 99999 I2 (Or.inr ⟨by omega, by omega, by omega⟩) (by omega)) (fun v hv => no (by rw [← hy3]; omega) (fun h => ?_))
    obtain ⟨_, _, _, _, p⟩ := hv
    obtain ⟨_, b, _, d, _⟩ := h
    omega
  refine ok_eq (fun c39 _ => ?_) (fun c39 => ?_)
  · refine ok_bM (kN_SqlReaderModel_cutText I2 (by omega) (by rw [z0]; omega) (by omega) z2) (fun r w hw => ?_)
    obtain ⟨Iw, Kw, w1, w2, w3, w4, w5⟩ := hw
    have Bw := IX_b Iw
    have k4 := w5.resolve_left (by omega)
    refine ok_mono (kN_SqlReaderModel_cut_L12 99999 Iw (w2.elim Or.inl (fun q => Or.inr ⟨by omega, by rw [z0] at q; omega, q.2⟩)) (by omega)) (fun v hv => no (by rw [← hy3]; omega) (fun h => ?_))
    obtain ⟨_, _, _, p, _⟩ := hv
    have p := p.resolve_left (by omega)
    obtain ⟨_, _, b, _⟩ := h
    omega
  have lg : ∀ (s : Int32), (s.toInt = 1 ∨ s.toInt = 3 ∨ s.toInt = 6) → (s.toInt = 6 ∨ y3.toInt ≠ 36) → ¬ (97 ≤ (u.2.1 0 0).toInt ∧ (u.2.1 0 0).toInt ≤ 122) → ok (mM_SqlReaderModel_cut_L102 (mM_SqlReaderModel_cut_L12 99999) FU 0 y3 y4 s u2) (fun v => nameC v ↔ nameB (u.2.1 0) (u.1 0).toInt) := by
    intro s hs h36 hn
    refine ok_mono (kN_SqlReaderModel_cut_L102 (m := 99999) (kN_SqlReaderModel_cut_L12 99999) FU I2 (by omega) (by rw [z0]; omega) (by omega) (by omega) (by omega) (by rw [z0]; omega) (by omega) (by omega) (by omega) (by omega) z2 (by rw [g0, hy3]) h36 (by omega) (by omega)) (fun v hv => no hn (fun h => ?_))
    obtain ⟨_, _, _, _, p⟩ := hv
    have p := p.resolve_left (by omega)
    obtain ⟨_, _, b, _⟩ := h
    omega
  refine ok_bP (kM_SqlReaderModel_isCapital (IX_IB I2)) (fun r5 h5 => ok_eq (fun c5 _ => ?_) (fun c5 => ?_))
  · refine ok_bP mN_sm (fun r6 h6 => ok_eq (fun c6 _ => ?_) (fun c6 => ?_))
    · have hn : ¬ (97 ≤ (u.2.1 0 0).toInt ∧ (u.2.1 0 0).toInt ≤ 122) := by
        rcases h6 with w | w
        · omega
        · rw [← hy3]; exact w.2
      refine ok_bP (kM_SqlReaderModel_isDigit (IX_IB I2)) (fun r7 h7 => ok_eq (fun c7 _ => ?_) (fun c7 => ?_))
      · exact lg 6 (by omega) (by omega) hn
      · obtain ⟨_, _, d⟩ := h7
        exact lg 3 (by omega) (by omega) hn
    · have hy : 97 ≤ y3.toInt ∧ y3.toInt ≤ 122 := by
        rcases h6 with w | w
        · exact w.2
        · omega
      refine ok_mono (cut_small I2 z2 z1 (by rw [z0]; omega) hy.1 (by omega) FU (by omega) (by rw [z0]; omega) (fun i a b => by omega) (by omega)) (fun v hv => ?_)
      rw [a0, z0] at hv
      rw [hv]
      rw [hy3] at hy
      exact ⟨fun h => ⟨h.1, by omega, hy, h.2⟩, fun h => ⟨h.1, h.2.2.2⟩⟩
  · obtain ⟨_, _, d⟩ := h5
    exact lg 1 (by omega) (by omega) (by rw [← hy3]; omega)
theorem mN_takesName {u : St} (I : IE u) : okM (mM_SqlReaderModel_takesName u) (fun r v => YN r (nameB (u.2.1 0) (u.1 0).toInt) ∧ (∀ j, j ≠ 0 → j ≠ 1 → j ≠ 2 → v.1 j = u.1 j) ∧ (∀ j, j ≠ 1 → j ≠ 2 → j ≠ 3 → v.2.1 j = u.2.1 j) ∧ (r.toInt = 1 → (ga v 2 0).toInt = 0 ∧ (ga v 3 0).toInt = (u.1 0).toInt)) := by
  have l0 : (0 : Int32).toInt = 0 := by decide
  have l1 : (1 : Int32).toInt = 1 := by decide
  have l2 : (2 : Int32).toInt = 2 := by decide
  have gg : inb 0 2001 = true := inb_of (by omega) (by omega)
  rw [mM_SqlReaderModel_takesName]
  refine okM_bP (ok_and (kM_SqlReaderModel_cut I.1) (cut_name I.1)) (fun v hv => ?_)
  obtain ⟨⟨X, K⟩, C⟩ := hv
  have e0 : v.1 0 = u.1 0 := K.1 0 (by decide) (by decide)
  have no : ¬ nameC v → okM (seq (ss v 0 0) fun w => some ((0 : Int32), w)) (fun r v => YN r (nameB (u.2.1 0) (u.1 0).toInt) ∧ (∀ j, j ≠ 0 → j ≠ 1 → j ≠ 2 → v.1 j = u.1 j) ∧ (∀ j, j ≠ 1 → j ≠ 2 → j ≠ 3 → v.2.1 j = u.2.1 j) ∧ (r.toInt = 1 → (ga v 2 0).toInt = 0 ∧ (ga v 3 0).toInt = (u.1 0).toInt)) := by
    intro hn
    refine okM_seq (fun w hw => okM_some ?_)
    rw [hw]
    exact ⟨Or.inr ⟨l0, fun h => hn (C.mpr h)⟩, fun j a b c => (us_ne a).trans (K.1 j b c), fun j a b c => K.2.1 j a b c, fun q => by omega⟩
  refine okM_eq (fun b _ => ?_) (fun b => no (fun h => b (by have := h.1; omega)))
  refine okM_eq (fun t _ => okM_gd gg ?_) (fun t => no (fun h => t (by have := h.2.1; omega)))
  refine okM_eq (fun k _ => okM_gd gg ?_) (fun k => no (fun h => k (by have := h.2.2.1; omega)))
  refine okM_eq (fun f _ => okM_gd gg ?_) (fun f => no (fun h => f (by have := h.2.2.2.1; omega)))
  refine okM_eq (fun s _ => ?_) (fun s => no (fun h => s (by have := h.2.2.2.2; omega)))
  refine okM_seq (fun w hw => okM_some ?_)
  rw [hw]
  refine ⟨Or.inl ⟨l1, C.mp ⟨by omega, by omega, by omega, by omega, by omega⟩⟩, fun j a b c => (us_ne a).trans (K.1 j b c), fun j a b c => K.2.1 j a b c, fun _ => ⟨?_, ?_⟩⟩
  · show (ga v 2 0).toInt = 0
    omega
  · show (ga v 3 0).toInt = (u.1 0).toInt
    rw [← e0]
    omega
/-! THE REFERENCE: A NAME AMONG NAMES -/
theorem mN_isName_0_5_L28 {u : St} {n off : Nat} {o len : Int32} (ho : o.toInt = off) (hoff : off ≤ 112) (f0 : (ga u 2 0).toInt = 0) (hl : len.toInt = n) (hn : n ≤ 16) : ∀ (m : Nat) {x6 : Int32} (h0 : 0 ≤ x6.toInt) (hp : ∀ i : Nat, (i : Int) < x6.toInt → i < n → u.2.1 4 (off + i) = u.2.1 0 i) (hm : ((n : Int) - x6.toInt).toNat < m), ok (mM_SqlReaderModel_isName_0_5_L28 m 0 o len 1 x6 u) (fun r => YN r (∀ i : Nat, i < n → u.2.1 4 (off + i) = u.2.1 0 i)) := by
  intro m
  induction m with
  | zero => intro x6 h0 hp hm; exact absurd hm (Nat.not_lt_zero _)
  | succ m ih =>
    intro x6 h0 hp hm
    have l0 : (0 : Int32).toInt = 0 := by decide
    have l1 : (1 : Int32).toInt = 1 := by decide
    have c6 := cl_of h0
    rw [mM_SqlReaderModel_isName_0_5_L28]
    refine ok_neg (by decide) (ok_le (fun c => ok_gd (by decide) (ok_some (Or.inl ⟨l1, fun i hi => hp i (by omega) hi⟩))) (fun c => ?_))
    have e2 : (ga u 2 0 + x6 : Int32).toInt = (ga u 2 0).toInt + x6.toInt := add_i (by omega) (by omega)
    have c2 := cl_of (i := ga u 2 0 + x6) (by omega)
    have e4 : (o + x6 : Int32).toInt = o.toInt + x6.toInt := add_i (by omega) (by omega)
    have c4 := cl_of (i := o + x6) (by omega)
    have ga0 : ga u 0 (ga u 2 0 + x6) = u.2.1 0 x6.toNatClampNeg := by
      show u.2.1 0 (ga u 2 0 + x6).toNatClampNeg = _
      rw [show (ga u 2 0 + x6).toNatClampNeg = x6.toNatClampNeg by omega]
    have ga4 : ga u 4 (o + x6) = u.2.1 4 (off + x6.toNatClampNeg) := by
      show u.2.1 4 (o + x6).toNatClampNeg = _
      rw [show (o + x6).toNatClampNeg = off + x6.toNatClampNeg by omega]
    have ey : (x6 + 1 : Int32).toInt = x6.toInt + (1 : Int32).toInt := add_i (by omega) (by omega)
    refine ok_gd (inb_of (by omega) (by omega)) (ok_gd (inb_of (by omega) (by omega)) (ok_gd (inb_of (by omega) (by omega)) ?_))
    rw [ga0, ga4]
    refine ok_eq (fun _ q => ok_seq (fun y hy => ?_)) (fun q => ok_seq (fun y hy => ?_))
    · have ey' : y.toInt = x6.toInt + 1 := by rw [hy]; omega
      refine ih (by omega) (fun i hi hn' => ?_) (by omega)
      by_cases h : i = x6.toNatClampNeg
      · rw [h]; exact q.symm
      · exact hp i (by omega) hn'
    · obtain ⟨k, rfl⟩ : ∃ k, m = k + 1 := ⟨m - 1, by omega⟩
      rw [mM_SqlReaderModel_isName_0_5_L28]
      refine ok_pos rfl (ok_gd (by decide) (ok_some (Or.inr ⟨l0, fun h => q ?_⟩)))
      rw [h x6.toNatClampNeg (by omega)]
theorem mN_isName_0_5 {u : St} {n off : Nat} {o len : Int32} (ho : o.toInt = off) (hoff : off ≤ 112) (f0 : (ga u 2 0).toInt = 0) (t0 : (ga u 3 0).toInt = n) (hn : n ≤ 16) : ok (mM_SqlReaderModel_isName_0_5 0 o len u) (fun r => YN r (MT (u.2.1 4) off len (u.2.1 0) n)) := by
  have l0 : (0 : Int32).toInt = 0 := by decide
  have FUe : FU = 100000 := rfl
  have gg : inb 0 2001 = true := inb_of (by omega) (by omega)
  have e : (ga u 3 0 - ga u 2 0 : Int32).toInt = (ga u 3 0).toInt - (ga u 2 0).toInt := sub_i (by omega) (by omega)
  rw [mM_SqlReaderModel_isName_0_5]
  refine ok_gd gg (ok_gd gg (ok_eq (fun q _ => ?_) (fun q => ?_)))
  · refine ok_mono (mN_isName_0_5_L28 ho hoff f0 (n := n) (by omega) hn _ (by omega) (fun i hi => by omega) (by omega)) (fun r hr => ?_)
    rcases hr with w | w
    · exact Or.inl ⟨w.1, by omega, w.2⟩
    · exact Or.inr ⟨w.1, fun h => w.2 h.2⟩
  · rw [show FU = 99999 + 1 from rfl, mM_SqlReaderModel_isName_0_5_L28]
    exact ok_pos rfl (ok_gd (by decide) (ok_some (Or.inr ⟨l0, fun h => q (by have := h.1; omega)⟩)))
theorem mN_isName_0_8_L28 {u : St} {n off : Nat} {o len : Int32} (ho : o.toInt = off) (hoff : off ≤ 1008) (f0 : (ga u 2 0).toInt = 0) (hl : len.toInt = n) (hn : n ≤ 16) : ∀ (m : Nat) {x6 : Int32} (h0 : 0 ≤ x6.toInt) (hp : ∀ i : Nat, (i : Int) < x6.toInt → i < n → u.2.1 7 (off + i) = u.2.1 0 i) (hm : ((n : Int) - x6.toInt).toNat < m), ok (mM_SqlReaderModel_isName_0_8_L28 m 0 o len 1 x6 u) (fun r => YN r (∀ i : Nat, i < n → u.2.1 7 (off + i) = u.2.1 0 i)) := by
  intro m
  induction m with
  | zero => intro x6 h0 hp hm; exact absurd hm (Nat.not_lt_zero _)
  | succ m ih =>
    intro x6 h0 hp hm
    have l0 : (0 : Int32).toInt = 0 := by decide
    have l1 : (1 : Int32).toInt = 1 := by decide
    have c6 := cl_of h0
    rw [mM_SqlReaderModel_isName_0_8_L28]
    refine ok_neg (by decide) (ok_le (fun c => ok_gd (by decide) (ok_some (Or.inl ⟨l1, fun i hi => hp i (by omega) hi⟩))) (fun c => ?_))
    have e2 : (ga u 2 0 + x6 : Int32).toInt = (ga u 2 0).toInt + x6.toInt := add_i (by omega) (by omega)
    have c2 := cl_of (i := ga u 2 0 + x6) (by omega)
    have e4 : (o + x6 : Int32).toInt = o.toInt + x6.toInt := add_i (by omega) (by omega)
    have c4 := cl_of (i := o + x6) (by omega)
    have ga0 : ga u 0 (ga u 2 0 + x6) = u.2.1 0 x6.toNatClampNeg := by
      show u.2.1 0 (ga u 2 0 + x6).toNatClampNeg = _
      rw [show (ga u 2 0 + x6).toNatClampNeg = x6.toNatClampNeg by omega]
    have ga4 : ga u 7 (o + x6) = u.2.1 7 (off + x6.toNatClampNeg) := by
      show u.2.1 7 (o + x6).toNatClampNeg = _
      rw [show (o + x6).toNatClampNeg = off + x6.toNatClampNeg by omega]
    have ey : (x6 + 1 : Int32).toInt = x6.toInt + (1 : Int32).toInt := add_i (by omega) (by omega)
    refine ok_gd (inb_of (by omega) (by omega)) (ok_gd (inb_of (by omega) (by omega)) (ok_gd (inb_of (by omega) (by omega)) ?_))
    rw [ga0, ga4]
    refine ok_eq (fun _ q => ok_seq (fun y hy => ?_)) (fun q => ok_seq (fun y hy => ?_))
    · have ey' : y.toInt = x6.toInt + 1 := by rw [hy]; omega
      refine ih (by omega) (fun i hi hn' => ?_) (by omega)
      by_cases h : i = x6.toNatClampNeg
      · rw [h]; exact q.symm
      · exact hp i (by omega) hn'
    · obtain ⟨k, rfl⟩ : ∃ k, m = k + 1 := ⟨m - 1, by omega⟩
      rw [mM_SqlReaderModel_isName_0_8_L28]
      refine ok_pos rfl (ok_gd (by decide) (ok_some (Or.inr ⟨l0, fun h => q ?_⟩)))
      rw [h x6.toNatClampNeg (by omega)]
theorem mN_isName_0_8 {u : St} {n off : Nat} {o len : Int32} (ho : o.toInt = off) (hoff : off ≤ 1008) (f0 : (ga u 2 0).toInt = 0) (t0 : (ga u 3 0).toInt = n) (hn : n ≤ 16) : ok (mM_SqlReaderModel_isName_0_8 0 o len u) (fun r => YN r (MT (u.2.1 7) off len (u.2.1 0) n)) := by
  have l0 : (0 : Int32).toInt = 0 := by decide
  have FUe : FU = 100000 := rfl
  have gg : inb 0 2001 = true := inb_of (by omega) (by omega)
  have e : (ga u 3 0 - ga u 2 0 : Int32).toInt = (ga u 3 0).toInt - (ga u 2 0).toInt := sub_i (by omega) (by omega)
  rw [mM_SqlReaderModel_isName_0_8]
  refine ok_gd gg (ok_gd gg (ok_eq (fun q _ => ?_) (fun q => ?_)))
  · refine ok_mono (mN_isName_0_8_L28 ho hoff f0 (n := n) (by omega) hn _ (by omega) (fun i hi => by omega) (by omega)) (fun r hr => ?_)
    rcases hr with w | w
    · exact Or.inl ⟨w.1, by omega, w.2⟩
    · exact Or.inr ⟨w.1, fun h => w.2 h.2⟩
  · rw [show FU = 99999 + 1 from rfl, mM_SqlReaderModel_isName_0_8_L28]
    exact ok_pos rfl (ok_gd (by decide) (ok_some (Or.inr ⟨l0, fun h => q (by have := h.1; omega)⟩)))
theorem mN_tableOf_L4 {u : St} {n : Nat} (f0 : (ga u 2 0).toInt = 0) (t0 : (ga u 3 0).toInt = n) (hn : n ≤ 16) (h8 : (u.1 3).toInt ≤ 8) : ∀ (m : Nat) {x2 x3 : Int32} (h0 : 0 ≤ x3.toInt) (st : (x2.toInt < 0 ∧ ∀ t : Nat, (t : Int) < x3.toInt → ¬ MT (u.2.1 4) (16 * t) (u.2.1 5 t) (u.2.1 0) n) ∨ (0 ≤ x2.toInt ∧ ∃ t : Nat, (t : Int) < (u.1 3).toInt ∧ MT (u.2.1 4) (16 * t) (u.2.1 5 t) (u.2.1 0) n)) (hm : (8 - x3.toInt).toNat < m), ok (mM_SqlReaderModel_tableOf_L4 m 0 x2 x3 u) (fun r => (r.toInt < 0 ∧ ∀ t : Nat, (t : Int) < (u.1 3).toInt → ¬ MT (u.2.1 4) (16 * t) (u.2.1 5 t) (u.2.1 0) n) ∨ (0 ≤ r.toInt ∧ ∃ t : Nat, (t : Int) < (u.1 3).toInt ∧ MT (u.2.1 4) (16 * t) (u.2.1 5 t) (u.2.1 0) n)) := by
  intro m
  induction m with
  | zero => intro x2 x3 h0 st hm; exact absurd hm (Nat.not_lt_zero _)
  | succ m ih =>
    intro x2 x3 h0 st hm
    have l0 : (0 : Int32).toInt = 0 := by decide
    have l1 : (1 : Int32).toInt = 1 := by decide
    have l16 : (16 : Int32).toInt = 16 := by decide
    have c3 := cl_of h0
    rw [mM_SqlReaderModel_tableOf_L4]
    refine ok_le (fun c => ok_some ?_) (fun c => ?_)
    · rcases st with w | w
      · exact Or.inl ⟨w.1, fun t ht => w.2 t (by omega)⟩
      · exact Or.inr w
    have e16 : (16 * x3 : Int32).toInt = 16 * x3.toInt := cmu_i l16 (by omega) (by omega)
    have ey : (x3 + 1 : Int32).toInt = x3.toInt + (1 : Int32).toInt := add_i (by omega) (by omega)
    refine ok_gd (inb_of (by omega) (by omega)) (ok_bP (mN_isName_0_5 (off := 16 * x3.toNatClampNeg) (by omega) (by omega) f0 t0 hn) (fun r hr => ok_eq (fun q _ => ok_seq (fun y hy => ?_)) (fun q => ok_seq (fun y hy => ?_))))
    · have ey' : y.toInt = x3.toInt + 1 := by rw [hy]; omega
      refine ih (by omega) ?_ (by omega)
      rcases st with w | w
      · refine Or.inl ⟨w.1, fun t ht => ?_⟩
        by_cases h : t = x3.toNatClampNeg
        · rcases hr with z | z
          · omega
          · rw [h]; exact z.2
        · exact w.2 t (by omega)
      · exact Or.inr w
    · have ey' : y.toInt = x3.toInt + 1 := by rw [hy]; omega
      refine ih (by omega) (Or.inr ⟨h0, x3.toNatClampNeg, by omega, ?_⟩) (by omega)
      rcases hr with z | z
      · exact z.2
      · omega
theorem mN_columnOf_L5 {u : St} {n : Nat} {x1 : Int32} (hx0 : 0 ≤ x1.toInt) (hx1 : x1.toInt ≤ 7) (f0 : (ga u 2 0).toInt = 0) (t0 : (ga u 3 0).toInt = n) (hn : n ≤ 16) (h8 : (ga u 6 x1).toInt ≤ 8) : ∀ (m : Nat) {x3 x4 : Int32} (h0 : 0 ≤ x4.toInt) (st : (x3.toInt < 0 ∧ ∀ c : Nat, (c : Int) < x4.toInt → ¬ MT (u.2.1 7) (16 * (8 * x1.toNatClampNeg + c)) (u.2.1 8 (8 * x1.toNatClampNeg + c)) (u.2.1 0) n) ∨ (0 ≤ x3.toInt ∧ ∃ c : Nat, (c : Int) < (ga u 6 x1).toInt ∧ MT (u.2.1 7) (16 * (8 * x1.toNatClampNeg + c)) (u.2.1 8 (8 * x1.toNatClampNeg + c)) (u.2.1 0) n)) (hm : (8 - x4.toInt).toNat < m), ok (mM_SqlReaderModel_columnOf_L5 m x1 0 x3 x4 u) (fun r => (r.toInt < 0 ∧ ∀ c : Nat, (c : Int) < (ga u 6 x1).toInt → ¬ MT (u.2.1 7) (16 * (8 * x1.toNatClampNeg + c)) (u.2.1 8 (8 * x1.toNatClampNeg + c)) (u.2.1 0) n) ∨ (0 ≤ r.toInt ∧ ∃ c : Nat, (c : Int) < (ga u 6 x1).toInt ∧ MT (u.2.1 7) (16 * (8 * x1.toNatClampNeg + c)) (u.2.1 8 (8 * x1.toNatClampNeg + c)) (u.2.1 0) n)) := by
  intro m
  induction m with
  | zero => intro x3 x4 h0 st hm; exact absurd hm (Nat.not_lt_zero _)
  | succ m ih =>
    intro x3 x4 h0 st hm
    have l0 : (0 : Int32).toInt = 0 := by decide
    have l1 : (1 : Int32).toInt = 1 := by decide
    have l8 : (8 : Int32).toInt = 8 := by decide
    have l16 : (16 : Int32).toInt = 16 := by decide
    have c4 := cl_of h0
    have cx := cl_of hx0
    rw [mM_SqlReaderModel_columnOf_L5]
    refine ok_gd (inb_of (by omega) (by omega)) (ok_le (fun c => ok_some ?_) (fun c => ?_))
    · rcases st with w | w
      · exact Or.inl ⟨w.1, fun t ht => w.2 t (by omega)⟩
      · exact Or.inr w
    have e8 : (8 * x1 : Int32).toInt = 8 * x1.toInt := cmu_i l8 (by omega) (by omega)
    have e9 : (8 * x1 + x4 : Int32).toInt = (8 * x1 : Int32).toInt + x4.toInt := add_i (by omega) (by omega)
    have c9 := cl_of (i := 8 * x1 + x4) (by omega)
    have e16 : (16 * (8 * x1 + x4) : Int32).toInt = 16 * (8 * x1 + x4 : Int32).toInt := cmu_i l16 (by omega) (by omega)
    have g8 : ga u 8 (8 * x1 + x4) = u.2.1 8 (8 * x1.toNatClampNeg + x4.toNatClampNeg) := by
      show u.2.1 8 (8 * x1 + x4).toNatClampNeg = _
      rw [show (8 * x1 + x4).toNatClampNeg = 8 * x1.toNatClampNeg + x4.toNatClampNeg by omega]
    have ey : (x4 + 1 : Int32).toInt = x4.toInt + (1 : Int32).toInt := add_i (by omega) (by omega)
    refine ok_gd (inb_of (by omega) (by omega)) ?_
    rw [g8]
    refine ok_bP (mN_isName_0_8 (off := 16 * (8 * x1.toNatClampNeg + x4.toNatClampNeg)) (by omega) (by omega) f0 t0 hn) (fun r hr => ok_eq (fun q _ => ok_seq (fun y hy => ?_)) (fun q => ok_seq (fun y hy => ?_)))
    · have ey' : y.toInt = x4.toInt + 1 := by rw [hy]; omega
      refine ih (by omega) ?_ (by omega)
      rcases st with w | w
      · refine Or.inl ⟨w.1, fun t ht => ?_⟩
        by_cases h : t = x4.toNatClampNeg
        · rcases hr with z | z
          · omega
          · rw [h]; exact z.2
        · exact w.2 t (by omega)
      · exact Or.inr w
    · have ey' : y.toInt = x4.toInt + 1 := by rw [hy]; omega
      refine ih (by omega) (Or.inr ⟨h0, x4.toNatClampNeg, by omega, ?_⟩) (by omega)
      rcases hr with z | z
      · exact z.2
      · omega
/-- what a new table leaves -/
def TbP (w : St) (T n : Nat) (v : St) : Prop := (v.1 3).toInt = T + 1 ∧ (∀ j, j ≠ 3 → v.1 j = w.1 j) ∧ (∀ j, j ≠ 4 → j ≠ 5 → j ≠ 6 → v.2.1 j = w.2.1 j) ∧ v.2.1 5 = upd (w.2.1 5) T (ga w 3 0) ∧ v.2.1 6 = upd (w.2.1 6) T 0
theorem mN_table_L31 {n T : Nat} (hn : n ≤ 16) (hT : T ≤ 7) : ∀ (m k : Nat) {x1 : Int32} {w : St} (hx : x1.toInt = k) (hk : k ≤ n) (t0 : (ga w 3 0).toInt = n) (h3 : (w.1 3).toInt = T) (b0 : ∀ i, i < n → byt (w.2.1 0 i)) (hm : n - k < m), okM (mM_SqlReaderModel_table_L31 m x1 w) (fun r v => r.toInt = T ∧ TbP w T n v ∧ (∀ j, (j < 16 * T + k ∨ 16 * T + n ≤ j) → v.2.1 4 j = w.2.1 4 j) ∧ (∀ i, k ≤ i → i < n → v.2.1 4 (16 * T + i) = w.2.1 0 i)) := by
  intro m
  induction m with
  | zero => intro k x1 w hx hk t0 h3 b0 hm; exact absurd hm (Nat.not_lt_zero _)
  | succ m ih =>
    intro k x1 w hx hk t0 h3 b0 hm
    have l0 : (0 : Int32).toInt = 0 := by decide
    have l1 : (1 : Int32).toInt = 1 := by decide
    have l16 : (16 : Int32).toInt = 16 := by decide
    have gg : inb 0 2001 = true := inb_of (by omega) (by omega)
    have g3 : inb (w.1 3) 8 = true := inb_of (by omega) (by omega)
    have ct := cl_of (i := w.1 3) (by omega)
    have cT : (w.1 3).toNatClampNeg = T := by omega
    rw [mM_SqlReaderModel_table_L31]
    refine okM_gd gg (okM_le (fun c => ?_) (fun c => ?_))
    · have kn : k = n := by omega
      have e3 : (w.1 3 + 1 : Int32).toInt = (w.1 3).toInt + (1 : Int32).toInt := add_i (by omega) (by omega)
      have s1 : w.1 3 + 1 - 1 = w.1 3 := Int32.add_sub_cancel _ _
      refine okM_gd gg (okM_gd g3 (okM_seq (fun u4 e4 => ?_)))
      subst e4
      refine okM_gd g3 (okM_seq (fun u5 e5 => okM_seq (fun u6 e6 => okM_some ?_)))
      subst e5
      subst e6
      refine ⟨?_, ⟨?_, fun j hj => us_ne hj, fun j h4 h5 h6 => ?_, ?_, ?_⟩, fun j _ => rfl, fun i a b => by omega⟩
      · show (w.1 3 + 1 - 1).toInt = T
        rw [s1]; exact h3
      · show (w.1 3 + 1 : Int32).toInt = T + 1
        omega
      · show us (us w.2.1 5 _) 6 _ j = _
        rw [us_ne h6, us_ne h5]
      · rw [← cT]; rfl
      · rw [← cT]; rfl
    · have c1 := cl_of (i := x1) (by omega)
      have e1 : (16 * w.1 3 : Int32).toInt = 16 * (w.1 3).toInt := cmu_i l16 (by omega) (by omega)
      have e2 : (16 * w.1 3 + x1 : Int32).toInt = (16 * w.1 3 : Int32).toInt + x1.toInt := add_i (by omega) (by omega)
      have c2 := cl_of (i := 16 * w.1 3 + x1) (by omega)
      have e5 : (x1 + 1 : Int32).toInt = x1.toInt + (1 : Int32).toInt := add_i (by omega) (by omega)
      refine okM_gd (inb_of (by omega) (by omega)) (okM_gd (inb_of (by omega) (by omega)) (okM_seq (fun u7 e7 => okM_seq (fun y hy => ?_))))
      have gb : i2b (ga w 0 x1) = w.2.1 0 k := by
        have q : ga w 0 x1 = w.2.1 0 k := by
          show w.2.1 0 x1.toNatClampNeg = _
          rw [show x1.toNatClampNeg = k by omega]
        rw [q]
        exact i2b_id (b0 k (by omega))
      have f7 : u7.2.1 4 = upd (w.2.1 4) (16 * T + k) (w.2.1 0 k) := by
        rw [e7, ← gb, show 16 * T + k = (16 * w.1 3 + x1).toNatClampNeg by omega]; rfl
      have z3 : u7.1 = w.1 := by rw [e7]; rfl
      have a3 : ga u7 3 0 = ga w 3 0 := by rw [e7]; rfl
      have a0 : u7.2.1 0 = w.2.1 0 := by rw [e7]; rfl
      have a5 : u7.2.1 5 = w.2.1 5 := by rw [e7]; rfl
      have a6 : u7.2.1 6 = w.2.1 6 := by rw [e7]; rfl
      refine okM_mono (ih (k + 1) (by rw [hy]; omega) (by omega) (by rw [a3]; exact t0) (by rw [z3]; exact h3) (by rw [a0]; exact b0) (by omega)) (fun r v hv => ?_)
      obtain ⟨r1, ⟨p1, p2, p3, p4, p5⟩, r3, r4⟩ := hv
      refine ⟨r1, ⟨p1, fun j hj => ?_, fun j h4 h5 h6 => ?_, ?_, ?_⟩, fun j hj => ?_, fun i a b => ?_⟩
      · rw [p2 j hj, z3]
      · rw [p3 j h4 h5 h6, e7]; exact us_ne h4
      · rw [p4, a5, a3]
      · rw [p5, a6]
      · rw [r3 j (by omega), f7]
        exact pk_un (by omega)
      · by_cases h : i = k
        · rw [h, r3 _ (by omega), f7, pk_us]
        · rw [r4 i (by omega) b, a0]
/-- what a new column leaves -/
def ClP (w : St) (t c n : Nat) (x2 : Int32) (v : St) : Prop := (∀ j, v.1 j = w.1 j) ∧ (∀ j, j ≠ 6 → j ≠ 7 → j ≠ 8 → j ≠ 9 → v.2.1 j = w.2.1 j) ∧ v.2.1 8 = upd (w.2.1 8) c (ga w 3 0) ∧ v.2.1 6 = upd (w.2.1 6) t (w.2.1 6 t + 1)
theorem mN_column_L72 {n t c : Nat} (hn : n ≤ 16) (ht : t ≤ 7) (hc : c ≤ 63) : ∀ (m k : Nat) {x1 x2 x4 x5 : Int32} {w : St} (hx : x5.toInt = k) (h1 : x1.toInt = t) (h4 : x4.toInt = c) (hk : k ≤ n) (t0 : (ga w 3 0).toInt = n) (h6 : 0 ≤ (w.2.1 6 t).toInt ∧ (w.2.1 6 t).toInt ≤ 7) (b0 : ∀ i, i < n → byt (w.2.1 0 i)) (hm : n - k < m), okM (mM_SqlReaderModel_column_L72 m x1 x2 x4 x5 w) (fun r v => r.toInt = (w.2.1 6 t).toInt ∧ ClP w t c n x2 v ∧ (∀ j, (j < 16 * c + k ∨ 16 * c + n ≤ j) → v.2.1 7 j = w.2.1 7 j) ∧ (∀ i, k ≤ i → i < n → v.2.1 7 (16 * c + i) = w.2.1 0 i)) := by
  intro m
  induction m with
  | zero => intro k x1 x2 x4 x5 w hx h1 h4 hk t0 h6 b0 hm; exact absurd hm (Nat.not_lt_zero _)
  | succ m ih =>
    intro k x1 x2 x4 x5 w hx h1 h4 hk t0 h6 b0 hm
    have l0 : (0 : Int32).toInt = 0 := by decide
    have l1 : (1 : Int32).toInt = 1 := by decide
    have l16 : (16 : Int32).toInt = 16 := by decide
    have gg : inb 0 2001 = true := inb_of (by omega) (by omega)
    have g1 : inb x1 8 = true := inb_of (by omega) (by omega)
    have g4 : inb x4 64 = true := inb_of (by omega) (by omega)
    have c1 := cl_of (i := x1) (by omega)
    have c4 := cl_of (i := x4) (by omega)
    have d1 : x1.toNatClampNeg = t := by omega
    have d4 : x4.toNatClampNeg = c := by omega
    rw [mM_SqlReaderModel_column_L72]
    refine okM_gd gg (okM_le (fun q => ?_) (fun q => ?_))
    · have s1 : w.2.1 6 t + 1 - 1 = w.2.1 6 t := Int32.add_sub_cancel _ _
      refine okM_gd gg (okM_gd g4 (okM_seq (fun u5 e5 => ?_)))
      subst e5
      refine okM_gd g4 (okM_seq (fun u6 e6 => ?_))
      subst e6
      refine okM_gd g1 (okM_gd g1 (okM_seq (fun u7 e7 => okM_gd g1 (okM_some ?_))))
      have g6 : ga w 6 x1 = w.2.1 6 t := by show w.2.1 6 x1.toNatClampNeg = _; rw [d1]
      have f6 : u7.2.1 6 = upd (w.2.1 6) t (w.2.1 6 t + 1) := by
        rw [e7, ← g6, ← d1]; rfl
      have g7 : ga u7 6 x1 = w.2.1 6 t + 1 := by
        show u7.2.1 6 x1.toNatClampNeg = _
        rw [f6, d1, pk_us]
      refine ⟨?_, ⟨fun j => ?_, fun j j6 j7 j8 j9 => ?_, ?_, f6⟩, fun j _ => ?_, fun i a b => by omega⟩
      · rw [g7, s1]
      · rw [e7]; rfl
      · rw [e7]
        show us (us (us w.2.1 8 _) 9 _) 6 _ j = _
        rw [us_ne j6, us_ne j9, us_ne j8]
      · rw [e7, ← d4]; rfl
      · rw [e7]; rfl
    · have c5 := cl_of (i := x5) (by omega)
      have e1 : (16 * x4 : Int32).toInt = 16 * x4.toInt := cmu_i l16 (by omega) (by omega)
      have e2 : (16 * x4 + x5 : Int32).toInt = (16 * x4 : Int32).toInt + x5.toInt := add_i (by omega) (by omega)
      have c2 := cl_of (i := 16 * x4 + x5) (by omega)
      have e5 : (x5 + 1 : Int32).toInt = x5.toInt + (1 : Int32).toInt := add_i (by omega) (by omega)
      refine okM_gd (inb_of (by omega) (by omega)) (okM_gd (inb_of (by omega) (by omega)) (okM_seq (fun u7 e7 => okM_seq (fun y hy => ?_))))
      have gb : i2b (ga w 0 x5) = w.2.1 0 k := by
        have q : ga w 0 x5 = w.2.1 0 k := by
          show w.2.1 0 x5.toNatClampNeg = _
          rw [show x5.toNatClampNeg = k by omega]
        rw [q]
        exact i2b_id (b0 k (by omega))
      have f7 : u7.2.1 7 = upd (w.2.1 7) (16 * c + k) (w.2.1 0 k) := by
        rw [e7, ← gb, show 16 * c + k = (16 * x4 + x5).toNatClampNeg by omega]; rfl
      have z3 : u7.1 = w.1 := by rw [e7]; rfl
      have a3 : ga u7 3 0 = ga w 3 0 := by rw [e7]; rfl
      have a0 : u7.2.1 0 = w.2.1 0 := by rw [e7]; rfl
      have a8 : u7.2.1 8 = w.2.1 8 := by rw [e7]; rfl
      have a6 : u7.2.1 6 = w.2.1 6 := by rw [e7]; rfl
      refine okM_mono (ih (k + 1) (by rw [hy]; omega) h1 h4 (by omega) (by rw [a3]; exact t0) (by rw [a6]; exact h6) (by rw [a0]; exact b0) (by omega)) (fun r v hv => ?_)
      obtain ⟨r1, ⟨p2, p3, p4, p5⟩, r3, r4⟩ := hv
      refine ⟨by rw [← a6]; exact r1, ⟨fun j => ?_, fun j j6 j7 j8 j9 => ?_, ?_, ?_⟩, fun j hj => ?_, fun i a b => ?_⟩
      · rw [p2 j, z3]
      · rw [p3 j j6 j7 j8 j9, e7]; exact us_ne j7
      · rw [p4, a8, a3]
      · rw [p5, a6]
      · rw [r3 j (by omega), f7]
        exact pk_un (by omega)
      · by_cases h : i = k
        · rw [h, r3 _ (by omega), f7, pk_us]
        · rw [r4 i (by omega) b, a0]
