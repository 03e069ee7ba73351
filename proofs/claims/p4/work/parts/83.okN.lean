theorem tokS_0 {u : St} {k b e : Int32} (h0 : 0 ≤ (u.1 1).toInt) (h1 : (u.1 1).toInt ≤ 1999) : ((u.1 1).toInt = 0 ∧ (ga (tokS u k b e) 1 0).toInt = k.toInt ∧ (ga (tokS u k b e) 2 0).toInt = b.toInt ∧ (ga (tokS u k b e) 3 0).toInt = e.toInt) ∨ (1 ≤ (u.1 1).toInt ∧ (ga (tokS u k b e) 1 0).toInt = (ga u 1 0).toInt ∧ (ga (tokS u k b e) 2 0).toInt = (ga u 2 0).toInt ∧ (ga (tokS u k b e) 3 0).toInt = (ga u 3 0).toInt) := by
  have c := cl_of h0
  have z : (0 : Int32).toNatClampNeg = 0 := by decide
  have e1 : ga (tokS u k b e) 1 0 = upd (u.2.1 1) (u.1 1).toNatClampNeg k (0 : Int32).toNatClampNeg := rfl
  have e2 : ga (tokS u k b e) 2 0 = upd (u.2.1 2) (u.1 1).toNatClampNeg b (0 : Int32).toNatClampNeg := rfl
  have e3 : ga (tokS u k b e) 3 0 = upd (u.2.1 3) (u.1 1).toNatClampNeg e (0 : Int32).toNatClampNeg := rfl
  rw [e1, e2, e3]
  by_cases h : (u.1 1).toInt = 0
  · refine Or.inl ⟨h, ?_⟩
    rw [show (u.1 1).toNatClampNeg = (0 : Int32).toNatClampNeg by omega, pk_us, pk_us, pk_us]
    exact ⟨rfl, rfl, rfl⟩
  · refine Or.inr ⟨by omega, ?_⟩
    rw [pk_un (show (0 : Int32).toNatClampNeg ≠ (u.1 1).toNatClampNeg by omega), pk_un (show (0 : Int32).toNatClampNeg ≠ (u.1 1).toNatClampNeg by omega), pk_un (show (0 : Int32).toNatClampNeg ≠ (u.1 1).toNatClampNeg by omega)]
    exact ⟨rfl, rfl, rfl⟩
def CtP (u : St) (x1 : Int32) (r : Int32) (v : St) : Prop := IX v ∧ Kf u v ∧ x1.toInt < r.toInt ∧ ((v.1 2).toInt = 1 ∨ (r.toInt ≤ (u.1 0).toInt ∧ (v.1 1).toInt ≤ r.toInt)) ∧ (u.1 1).toInt ≤ (v.1 1).toInt ∧ ((u.1 1).toInt ≤ 0 ∨ ((ga v 1 0).toInt = (ga u 1 0).toInt ∧ (ga v 2 0).toInt = (ga u 2 0).toInt ∧ (ga v 3 0).toInt = (ga u 3 0).toInt)) ∧ (1 ≤ (u.1 1).toInt ∨ (1 ≤ (v.1 1).toInt ∧ (ga v 1 0).toInt = 4 ∧ (ga v 2 0).toInt = x1.toInt))
theorem kN_SqlReaderModel_cutText_J135 {x1 x2 x3 x4 : Int32} {u : St} (I : IX u) (h0 : 0 ≤ x1.toInt) (h1 : x1.toInt < 2000) (ht : (u.1 1).toInt ≤ x1.toInt) (h2 : x1.toInt < x3.toInt) (hc : Cst u x1 x2 x3 x4) (h4 : x4.toInt = 0 ∨ (u.1 2).toInt = 1) : okM (mM_SqlReaderModel_cutText_J135 x1 x2 x3 u) (CtP u x1) := by
  have B := IX_b I
  have l0 : (0 : Int32).toInt = 0 := by decide
  have l1 : (1 : Int32).toInt = 1 := by decide
  have l4 : (4 : Int32).toInt = 4 := by decide
  have l31 : (31 : Int32).toInt = 31 := by decide
  have ft (s : Int32) : ((u.1 1).toInt ≤ ((tokS (ss u 2 s) 4 x1 x3).1 1).toInt) ∧ ((u.1 1).toInt ≤ 0 ∨ ((ga (tokS (ss u 2 s) 4 x1 x3) 1 0).toInt = (ga u 1 0).toInt ∧ (ga (tokS (ss u 2 s) 4 x1 x3) 2 0).toInt = (ga u 2 0).toInt ∧ (ga (tokS (ss u 2 s) 4 x1 x3) 3 0).toInt = (ga u 3 0).toInt)) ∧ (1 ≤ (u.1 1).toInt ∨ (1 ≤ ((tokS (ss u 2 s) 4 x1 x3).1 1).toInt ∧ (ga (tokS (ss u 2 s) 4 x1 x3) 1 0).toInt = 4 ∧ (ga (tokS (ss u 2 s) 4 x1 x3) 2 0).toInt = x1.toInt)) := by
    have t0 := tokS_0 (u := ss u 2 s) (k := 4) (b := x1) (e := x3) (show 0 ≤ (u.1 1).toInt by omega) (show (u.1 1).toInt ≤ 1999 by omega)
    have g1 : (ga (ss u 2 s) 1 0).toInt = (ga u 1 0).toInt := rfl
    have g2 : (ga (ss u 2 s) 2 0).toInt = (ga u 2 0).toInt := rfl
    have g3 : (ga (ss u 2 s) 3 0).toInt = (ga u 3 0).toInt := rfl
    have gt : ((ss u 2 s).1 1).toInt = (u.1 1).toInt := rfl
    have e3 : (u.1 1 + 1 : Int32).toInt = (u.1 1).toInt + (1 : Int32).toInt := add_i (by omega) (by omega)
    have gn : ((tokS (ss u 2 s) 4 x1 x3).1 1).toInt = (u.1 1).toInt + 1 := by show (u.1 1 + 1 : Int32).toInt = _; omega
    exact ⟨by omega, by omega, by omega⟩
  have bd : okM (seq (ss u 2 1) fun u2 => bP (mM_SqlReaderModel_token 4 x1 x3 u2) fun u3 => some (x3, u3)) (CtP u x1) := by
    refine okM_seq (fun u2 e2 => ?_)
    subst e2
    have I2 := IX_bad (x := 1) I (by omega) (by omega) (by omega)
    refine okM_bP (kM_SqlReaderModel_token (u := ss u 2 1) (show 0 ≤ (u.1 1).toInt by omega) (show (u.1 1).toInt ≤ 2000 by omega)) (fun v hv => ?_)
    subst hv
    refine okM_some ⟨IX_tokS I2 (show (u.1 1).toInt ≤ 1999 by omega) (Or.inl ⟨by omega, by omega⟩) (fun q => ?_), Kf_tr Kf_bad Kf_tok, h2, Or.inl rfl, ft 1⟩
    have q' : (1 : Int32).toInt = 0 := q
    omega
  rw [mM_SqlReaderModel_cutText_J135]
  refine okM_eq (fun c c' => ?_) (fun c => bd)
  refine okM_le (fun c2 => ?_) (fun c2 => bd)
  refine okM_seq (fun u2 e2 => ?_)
  subst e2
  have I2 := IX_bad (x := 0) I (by omega) (by omega) (by omega)
  refine okM_bP (kM_SqlReaderModel_token (u := ss u 2 0) (show 0 ≤ (u.1 1).toInt by omega) (show (u.1 1).toInt ≤ 2000 by omega)) (fun v hv => ?_)
  subst hv
  have k : x3.toInt ≤ (u.1 0).toInt ∧ ∃ c : Nat, x2.toInt = c ∧ stp (u.2.1 0) c (x1.toInt.toNat + 1) (x3.toInt.toNat - 1) := by
    rcases hc with hc | ⟨_, q, c, ec, hs | hs⟩
    · omega
    · omega
    · exact ⟨q, c, ec, hs.2⟩
  obtain ⟨q, c3, ec, hs⟩ := k
  have e3 : (u.1 1 + 1 : Int32).toInt = (u.1 1).toInt + (1 : Int32).toInt := add_i (by omega) (by omega)
  refine okM_some ⟨IX_tokS I2 (show (u.1 1).toInt ≤ 1999 by omega) (Or.inl ⟨by omega, by omega⟩) (fun _ => ⟨by omega, by omega, by omega, Or.inr ⟨c3, by omega, hs⟩⟩), Kf_tr Kf_bad Kf_tok, h2, Or.inr ⟨q, ?_⟩, ft 0⟩
  show (u.1 1 + 1 : Int32).toInt ≤ x3.toInt
  omega
theorem kN_SqlReaderModel_cutText_L9 : ∀ (n : Nat) {x1 x2 x3 x4 : Int32} {u : St} (I : IX u) (h0 : 0 ≤ x1.toInt) (h1 : x1.toInt < 2000) (ht : (u.1 1).toInt ≤ x1.toInt) (h2 : x1.toInt < x3.toInt) (h3 : x3.toInt ≤ 2002) (h5 : 0 ≤ x4.toInt) (h6 : x4.toInt ≤ 1) (h7 : 0 ≤ x2.toInt) (h8 : x2.toInt ≤ x3.toInt) (hc : Cst u x1 x2 x3 x4) (hm : (2003 - x3.toInt).toNat < n), okM (mM_SqlReaderModel_cutText_L9 n x1 x2 x3 x4 u) (CtP u x1) := by
  intro n
  induction n with
  | zero => intro x1 x2 x3 x4 u I h0 h1 ht h2 h3 h5 h6 h7 h8 hc hm; exact absurd hm (Nat.not_lt_zero _)
  | succ n ih =>
    intro x1 x2 x3 x4 u I h0 h1 ht h2 h3 h5 h6 h7 h8 hc hm
    have B := IX_b I
    have l0 : (0 : Int32).toInt = 0 := by decide
    have l1 : (1 : Int32).toInt = 1 := by decide
    have l2 : (2 : Int32).toInt = 2 := by decide
    have l32 : (32 : Int32).toInt = 32 := by decide
    have l126 : (126 : Int32).toInt = 126 := by decide
    have l39 : (39 : Int32).toInt = 39 := by decide
    have e1 : (x3 + 1 : Int32).toInt = x3.toInt + (1 : Int32).toInt := add_i (by omega) (by omega)
    have e2 : (x3 + 2 : Int32).toInt = x3.toInt + (2 : Int32).toInt := add_i (by omega) (by omega)
    have e3 : (x2 + 1 : Int32).toInt = x2.toInt + (1 : Int32).toInt := add_i (by omega) (by omega)
    rw [mM_SqlReaderModel_cutText_L9]
    refine okM_eq (fun c c' => kN_SqlReaderModel_cutText_J135 I h0 h1 ht h2 hc (by omega)) (fun c => ?_)
    refine okM_eq (fun b b' => ?_) (fun b => kN_SqlReaderModel_cutText_J135 I h0 h1 ht h2 hc (by omega))
    have k : x3.toInt ≤ (u.1 0).toInt ∧ ∃ c : Nat, x2.toInt = c ∧ stp (u.2.1 0) c (x1.toInt.toNat + 1) x3.toInt.toNat := by
      rcases hc with hc | ⟨_, q, c, ec, hs | hs⟩
      · omega
      · exact ⟨q, c, ec, hs.2⟩
      · omega
    obtain ⟨q, cn, ec, hs⟩ := k
    have ga3 : (ga u 0 x3) = u.2.1 0 x3.toInt.toNat := by
      have c3 := cl_of (i := x3) (by omega)
      have c4 : x3.toNatClampNeg = x3.toInt.toNat := by omega
      show u.2.1 0 x3.toNatClampNeg = _
      rw [c4]
    -- one turn: bad := s1, x2 or x2 + 1, x3 + 1 or x3 + 2
    have turn : ∀ (op qu : Int32), ((op.toInt = 1 ∧ qu.toInt = 0 ∧ (x3.toInt < (u.1 0).toInt → ga u 0 x3 ≠ 39)) ∨ (op.toInt = 1 ∧ qu.toInt = 1 ∧ x3.toInt + 1 < (u.1 0).toInt ∧ ga u 0 x3 = 39) ∨ (op.toInt = 0 ∧ qu.toInt = 1)) → okM (mM_SqlReaderModel_cutText_J60 (mM_SqlReaderModel_cutText_L9 n) x1 x2 x3 qu op u) (CtP u x1) := by
      intro op qu hoq
      have fin : ∀ s1 : Int32, (s1.toInt = 1 ∨ (s1.toInt = 0 ∧ x3.toInt < (u.1 0).toInt)) → okM (mM_SqlReaderModel_cutText_J96 (mM_SqlReaderModel_cutText_L9 n) x1 x2 x3 op qu s1 u) (CtP u x1) := by
        intro s1 hs1
        rw [mM_SqlReaderModel_cutText_J96]
        refine okM_gd (zb_of (by omega) (by omega)) (okM_seq (fun u9 h9 => ?_))
        subst h9
        have I9 := IX_bad (x := s1) I (by omega) (by omega) (by omega)
        have go : ∀ (y z : Int32), ((op.toInt = 1 ∧ y.toInt = x2.toInt + 1 ∧ (qu.toInt = 0 ∧ z.toInt = x3.toInt + 1 ∨ qu.toInt = 1 ∧ z.toInt = x3.toInt + 2)) ∨ (op.toInt = 0 ∧ y.toInt = x2.toInt ∧ z.toInt = x3.toInt + 1)) → okM (mM_SqlReaderModel_cutText_L9 n x1 y z op (ss u 2 s1)) (CtP u x1) := by
          intro y z hyz
          by_cases hz : z.toInt ≤ 2002
          · refine okM_mono (ih I9 h0 h1 ht (by omega) hz (by omega) (by omega) (by omega) (by omega) ?_ (by omega)) (fun r v hq => ⟨hq.1, Kf_tr Kf_bad hq.2.1, hq.2.2⟩)
            rcases hs1 with hs1 | ⟨hs1, hlt⟩
            · exact Or.inl hs1
            · refine Or.inr ⟨hs1, ?_, ?_⟩
              · show z.toInt ≤ (u.1 0).toInt
                omega
              · rcases hyz with ⟨o1, hy, hz2⟩ | ⟨o1, hy, hz2⟩
                · refine ⟨cn + 1, by omega, Or.inl ⟨o1, ?_⟩⟩
                  have sn := stp_snoc hs
                  have en : nx (u.2.1 0) x3.toInt.toNat = z.toInt.toNat := by
                    unfold nx
                    rcases hoq with ⟨_, q1, hn⟩ | ⟨_, q1, _, hn⟩ | ⟨q0, _⟩
                    · rw [if_neg (by rw [← ga3]; exact hn hlt)]; omega
                    · rw [if_pos (by rw [← ga3]; exact hn)]; omega
                    · omega
                  rw [en] at sn
                  exact sn
                · refine ⟨cn, by omega, Or.inr ⟨o1, ?_⟩⟩
                  have en : z.toInt.toNat - 1 = x3.toInt.toNat := by omega
                  rw [en]
                  exact hs
          · exfalso; omega
        have nxt : ∀ y : Int32, (op.toInt = 1 ∧ y.toInt = x2.toInt + 1 ∨ op.toInt = 0 ∧ y.toInt = x2.toInt) → okM (mM_SqlReaderModel_cutText_J111 (mM_SqlReaderModel_cutText_L9 n) x1 x3 op qu y (ss u 2 s1)) (CtP u x1) := by
          intro y hy
          rw [mM_SqlReaderModel_cutText_J111]
          refine okM_eq (fun c c' => okM_seq (fun z hz => go y z (by rw [hz]; omega))) (fun c => ?_)
          refine okM_eq (fun c c' => okM_seq (fun z hz => go y z (by rw [hz]; omega))) (fun c => ?_)
          exact okM_seq (fun z hz => go y z (by rw [hz]; omega))
        exact okM_eq (fun c c' => nxt x2 (by omega)) (fun c => nxt (x2 + 1) (by omega))
      rw [mM_SqlReaderModel_cutText_J60]
      refine okM_le (fun c => fin 1 (by omega)) (fun c => ?_)
      refine okM_bP (kM_SqlReaderModel_at (IX_IB I) (by omega)) (fun r hr => ?_)
      refine okM_lt (fun c => fin 1 (by omega)) (fun c => ?_)
      refine okM_bP (kM_SqlReaderModel_at (IX_IB I) (by omega)) (fun r hr => ?_)
      exact okM_le (fun c => fin 0 (by omega)) (fun c => fin 1 (by omega))
    refine okM_bP (kM_SqlReaderModel_at (IX_IB I) (by omega)) (fun r hr => ?_)
    refine okM_eq (fun r9 r9' => ?_) (fun r9 => ?_)
    · rw [mM_SqlReaderModel_cutText_J36]
      refine okM_neg (by decide) ?_
      refine okM_bP (kM_SqlReaderModel_at (IX_IB I) (by omega)) (fun r2 hr2 => ?_)
      refine okM_eq (fun q9 q9' => turn 1 1 (Or.inr (Or.inl ⟨by omega, by omega, by omega, Int32.toInt_inj.mp (by omega)⟩))) (fun q9 => turn 0 1 (Or.inr (Or.inr ⟨by omega, by omega⟩)))
    · rw [mM_SqlReaderModel_cutText_J36]
      refine okM_pos (by decide) ?_
      refine turn 1 0 (Or.inl ⟨by omega, by omega, fun hl e => ?_⟩)
      have e' := congrArg Int32.toInt e
      omega
theorem kN_SqlReaderModel_cutText {x1 : Int32} {u : St} (I : IX u) (h0 : 0 ≤ x1.toInt) (h1 : x1.toInt < (u.1 0).toInt) (ht : (u.1 1).toInt ≤ x1.toInt) (hb : (u.1 2).toInt = 0) : okM (mM_SqlReaderModel_cutText x1 u) (CtP u x1) := by
  have B := IX_b I
  have l0 : (0 : Int32).toInt = 0 := by decide
  have l1 : (1 : Int32).toInt = 1 := by decide
  have FUe : FU = 100000 := rfl
  have e1 : (x1 + 1 : Int32).toInt = x1.toInt + (1 : Int32).toInt := add_i (by omega) (by omega)
  rw [mM_SqlReaderModel_cutText]
  refine okM_seq (fun y hy => ?_)
  have ey : y.toInt = x1.toInt + 1 := by rw [hy]; omega
  refine kN_SqlReaderModel_cutText_L9 _ I h0 (by omega) ht (by omega) (by omega) (by omega) (by omega) (by omega) (by omega) (Or.inr ⟨hb, by omega, 0, by omega, Or.inl ⟨by omega, ?_⟩⟩) (by omega)
  show x1.toInt.toNat + 1 = y.toInt.toNat
  omega
theorem kN_SqlReaderModel_cut_J261 {q12 : Int32 → St → Option (St)} {m : Nat} (hq : ∀ {x1 : Int32} {u : St} (I : IX u) (h0 : (u.1 2).toInt = 1 ∨ (0 ≤ x1.toInt ∧ x1.toInt ≤ 2000 ∧ (u.1 1).toInt ≤ x1.toInt)) (hm : (2003 - x1.toInt - 5000 * (u.1 2).toInt).toNat < m), ok (q12 x1 u) (fun v => IX v ∧ Kf u v ∧ (u.1 1).toInt ≤ (v.1 1).toInt ∧ ((u.1 1).toInt ≤ 0 ∨ ((ga v 1 0).toInt = (ga u 1 0).toInt ∧ (ga v 2 0).toInt = (ga u 2 0).toInt ∧ (ga v 3 0).toInt = (ga u 3 0).toInt)) ∧ (x1.toInt < 1 ∨ 1 ≤ (u.1 1).toInt ∨ (v.1 1).toInt ≤ 0 ∨ 1 ≤ (ga v 2 0).toInt))) {x1 : Int32} {x3 : Int32} {x4 : Int32} {s1 : Int32} {u : St} (I : IX u) (h0 : 0 ≤ x1.toInt) (h1 : x1.toInt < (u.1 0).toInt) (h2 : (u.1 1).toInt ≤ x1.toInt) (h3 : (2003 - x1.toInt).toNat < m + 1) (h4 : -1 ≤ x3.toInt) (h5 : (u.1 2).toInt ≤ s1.toInt) (h6 : 0 ≤ s1.toInt) (h7 : s1.toInt ≤ 1) (h8 : (x4.toInt ≠ 1 ∧ x4.toInt ≠ 6) ∨ (-1 ≤ x3.toInt ∧ x3.toInt ≤ 2000)) (h9 : s1.toInt = 1 ∨ (x1.toInt < x3.toInt ∧ x3.toInt ≤ (u.1 0).toInt ∧ x4.toInt ≠ 4 ∧ (x4.toInt ≠ 2 ∨ x3.toInt - x1.toInt ≤ 16) ∧ (x4.toInt ≠ 5 ∨ (x1.toInt + 1 < 2000 ∧ 49 ≤ (ga u 0 (x1 + 1)).toInt ∧ (ga u 0 (x1 + 1)).toInt ≤ 57)))) : ok (mM_SqlReaderModel_cut_J261 q12 x1 x3 x4 s1 u) (fun v => IX v ∧ Kf u v ∧ (u.1 1).toInt ≤ (v.1 1).toInt ∧ ((u.1 1).toInt ≤ 0 ∨ ((ga v 1 0).toInt = (ga u 1 0).toInt ∧ (ga v 2 0).toInt = (ga u 2 0).toInt ∧ (ga v 3 0).toInt = (ga u 3 0).toInt)) ∧ (1 ≤ (u.1 1).toInt ∨ (1 ≤ (v.1 1).toInt ∧ (ga v 1 0).toInt = x4.toInt ∧ (ga v 2 0).toInt = x1.toInt ∧ (ga v 3 0).toInt = x3.toInt))) := by
  have B := IX_b I
  have l1 : (1 : Int32).toInt = 1 := by decide
  rw [mM_SqlReaderModel_cut_J261]
  refine ok_gd (zb_of (by omega) (by omega)) (ok_seq (fun u8 e8 => ?_))
  subst e8
  have I8 := IX_bad (x := s1) I (by omega) (by omega) (by omega)
  refine ok_bP (kM_SqlReaderModel_token (u := ss u 2 s1) (show 0 ≤ (u.1 1).toInt by omega) (show (u.1 1).toInt ≤ 2000 by omega)) (fun v hv => ?_)
  subst hv
  have e3 : (u.1 1 + 1 : Int32).toInt = (u.1 1).toInt + (1 : Int32).toInt := add_i (by omega) (by omega)
  have I9 : IX (tokS (ss u 2 s1) x4 x1 x3) := by
    refine IX_tokS I8 (show (u.1 1).toInt ≤ 1999 by omega) (by omega) (fun q => ?_)
    have q' : s1.toInt = 0 := q
    have c := cl_of (i := x1 + 1) (by have e := add_i (a := x1) (b := 1) (by omega) (by omega); omega)
    have e := add_i (a := x1) (b := 1) (by omega) (by omega)
    have c2 : (x1 + 1 : Int32).toNatClampNeg = x1.toInt.toNat + 1 := by omega
    have g : ga u 0 (x1 + 1) = u.2.1 0 (x1.toInt.toNat + 1) := by
      show u.2.1 0 (x1 + 1 : Int32).toNatClampNeg = _
      rw [c2]
    rw [g] at h9
    refine ⟨by omega, by omega, ?_, by omega⟩
    show x4.toInt ≠ 5 ∨ (x1.toInt + 1 < 2000 ∧ 49 ≤ (u.2.1 0 (x1.toInt.toNat + 1)).toInt ∧ (u.2.1 0 (x1.toInt.toNat + 1)).toInt ≤ 57)
    omega
  have t0 := tokS_0 (u := ss u 2 s1) (k := x4) (b := x1) (e := x3) (show 0 ≤ (u.1 1).toInt by omega) (show (u.1 1).toInt ≤ 1999 by omega)
  have g1 : (ga (ss u 2 s1) 1 0).toInt = (ga u 1 0).toInt := rfl
  have g2 : (ga (ss u 2 s1) 2 0).toInt = (ga u 2 0).toInt := rfl
  have g3 : (ga (ss u 2 s1) 3 0).toInt = (ga u 3 0).toInt := rfl
  have gt : ((ss u 2 s1).1 1).toInt = (u.1 1).toInt := rfl
  have gn : ((tokS (ss u 2 s1) x4 x1 x3).1 1).toInt = (u.1 1).toInt + 1 := by show (u.1 1 + 1 : Int32).toInt = _; omega
  refine ok_mono (hq I9 ?_ ?_) (fun w hw => ?_)
  · show s1.toInt = 1 ∨ (0 ≤ x3.toInt ∧ x3.toInt ≤ 2000 ∧ (u.1 1 + 1 : Int32).toInt ≤ x3.toInt)
    omega
  · show (2003 - x3.toInt - 5000 * s1.toInt).toNat < m
    omega
  · obtain ⟨w1, w2, w3, w4, _⟩ := hw
    exact ⟨w1, Kf_tr (Kf_tr Kf_bad Kf_tok) w2, by omega, by omega, by omega⟩
set_option maxHeartbeats 8000000 in
theorem kN_SqlReaderModel_cut_J216 {q12 : Int32 → St → Option (St)} {m : Nat} (hq : ∀ {x1 : Int32} {u : St} (I : IX u) (h0 : (u.1 2).toInt = 1 ∨ (0 ≤ x1.toInt ∧ x1.toInt ≤ 2000 ∧ (u.1 1).toInt ≤ x1.toInt)) (hm : (2003 - x1.toInt - 5000 * (u.1 2).toInt).toNat < m), ok (q12 x1 u) (fun v => IX v ∧ Kf u v ∧ (u.1 1).toInt ≤ (v.1 1).toInt ∧ ((u.1 1).toInt ≤ 0 ∨ ((ga v 1 0).toInt = (ga u 1 0).toInt ∧ (ga v 2 0).toInt = (ga u 2 0).toInt ∧ (ga v 3 0).toInt = (ga u 3 0).toInt)) ∧ (x1.toInt < 1 ∨ 1 ≤ (u.1 1).toInt ∨ (v.1 1).toInt ≤ 0 ∨ 1 ≤ (ga v 2 0).toInt))) {x1 : Int32} {x3 : Int32} {x4 : Int32} {u : St} (I : IX u) (h0 : 0 ≤ x1.toInt) (h1 : x1.toInt < (u.1 0).toInt) (h2 : (u.1 1).toInt ≤ x1.toInt) (h3 : (2003 - x1.toInt).toNat < m + 1) (h4 : 1 ≤ x4.toInt) (h5 : x4.toInt ≤ 6) (h6 : x4.toInt ≠ 4) (h7 : x3.toInt ≤ 2002) (h8 : -1 ≤ x3.toInt) (h9 : (x4.toInt ≠ 1 ∧ x4.toInt ≠ 6) ∨ x3.toInt ≤ 2000) (h10 : (u.1 2).toInt = 1 ∨ x3.toInt = -1 ∨ (x1.toInt < x3.toInt ∧ x3.toInt ≤ (u.1 0).toInt ∧ (x4.toInt ≠ 5 ∨ (x1.toInt + 1 < 2000 ∧ 49 ≤ (ga u 0 (x1 + 1)).toInt ∧ (ga u 0 (x1 + 1)).toInt ≤ 57)))) : ok (mM_SqlReaderModel_cut_J216 q12 x1 x3 x4 u) (fun v => IX v ∧ Kf u v ∧ (u.1 1).toInt ≤ (v.1 1).toInt ∧ ((u.1 1).toInt ≤ 0 ∨ ((ga v 1 0).toInt = (ga u 1 0).toInt ∧ (ga v 2 0).toInt = (ga u 2 0).toInt ∧ (ga v 3 0).toInt = (ga u 3 0).toInt)) ∧ (1 ≤ (u.1 1).toInt ∨ (1 ≤ (v.1 1).toInt ∧ (ga v 1 0).toInt = x4.toInt ∧ (ga v 2 0).toInt = x1.toInt ∧ (ga v 3 0).toInt = x3.toInt))) := by
  have l0 : (0 : Int32).toInt = 0 := by decide
  have l1 : (1 : Int32).toInt = 1 := by decide
  have l2 : (2 : Int32).toInt = 2 := by decide
  have l3 : (3 : Int32).toInt = 3 := by decide
  have l4 : (4 : Int32).toInt = 4 := by decide
  have l5 : (5 : Int32).toInt = 5 := by decide
  have l6 : (6 : Int32).toInt = 6 := by decide
  have l16 : (16 : Int32).toInt = 16 := by decide
  have l18 : (18 : Int32).toInt = 18 := by decide
  have l49 : (49 : Int32).toInt = 49 := by decide
  have l57 : (57 : Int32).toInt = 57 := by decide
  have l2000 : (2000 : Int32).toInt = 2000 := by decide
  have l2003 : (2003 : Int32).toInt = 2003 := by decide
  rw [mM_SqlReaderModel_cut_J216]
  refine ok_eq (fun c_1 c_1' => ?_) (fun c_1 => ?_)
  · refine ok_lt (fun c_2 => ?_) (fun c_2 => ?_)
    · refine ok_mono (kN_SqlReaderModel_cut_J261 hq I (by have FUe : FU = 100000 := rfl; have B_3 := IX_b I; omega) (by have FUe : FU = 100000 := rfl; have B_4 := IX_b I; omega) (by have FUe : FU = 100000 := rfl; have B_5 := IX_b I; omega) (by have FUe : FU = 100000 := rfl; have B_6 := IX_b I; omega) (by have FUe : FU = 100000 := rfl; have B_7 := IX_b I; omega) (by have FUe : FU = 100000 := rfl; have B_8 := IX_b I; omega) (by have FUe : FU = 100000 := rfl; have B_9 := IX_b I; omega) (by have FUe : FU = 100000 := rfl; have B_10 := IX_b I; omega) (by have FUe : FU = 100000 := rfl; have B_11 := IX_b I; omega) (by have FUe : FU = 100000 := rfl; have B_12 := IX_b I; omega)) (fun u_14 z_13 => ?_)
      obtain ⟨I_u_14, G_u_14, p_15, p_16, p_17⟩ := z_13
      have F_u_14 := Kf_tr (Kf_rfl u) G_u_14
      have g_18 : (u_14.1 0).toInt = (u.1 0).toInt := by rw [G_u_14.1 0 (by decide) (by decide)]
      exact ⟨I_u_14, F_u_14, (by have B_19 := IX_b I; have B_20 := IX_b I_u_14; omega), (by have B_21 := IX_b I; have B_22 := IX_b I_u_14; omega), (by have B_23 := IX_b I; have B_24 := IX_b I_u_14; omega)⟩
    · refine ok_eq (fun c_25 c_25' => ?_) (fun c_25 => ?_)
      · try have e_26 : (x3 - x1 : Int32).toInt = (x3 : Int32).toInt - (x1 : Int32).toInt := by have B_27 := IX_b I; exact sub_i (by omega) (by omega)
        refine ok_lt (fun c_28 => ?_) (fun c_28 => ?_)
        · refine ok_mono (kN_SqlReaderModel_cut_J261 hq I (by have FUe : FU = 100000 := rfl; have B_29 := IX_b I; omega) (by have FUe : FU = 100000 := rfl; have B_30 := IX_b I; omega) (by have FUe : FU = 100000 := rfl; have B_31 := IX_b I; omega) (by have FUe : FU = 100000 := rfl; have B_32 := IX_b I; omega) (by have FUe : FU = 100000 := rfl; have B_33 := IX_b I; omega) (by have FUe : FU = 100000 := rfl; have B_34 := IX_b I; omega) (by have FUe : FU = 100000 := rfl; have B_35 := IX_b I; omega) (by have FUe : FU = 100000 := rfl; have B_36 := IX_b I; omega) (by have FUe : FU = 100000 := rfl; have B_37 := IX_b I; omega) (by have FUe : FU = 100000 := rfl; have B_38 := IX_b I; omega)) (fun u_40 z_39 => ?_)
          obtain ⟨I_u_40, G_u_40, p_41, p_42, p_43⟩ := z_39
          have F_u_40 := Kf_tr (Kf_rfl u) G_u_40
          have g_44 : (u_40.1 0).toInt = (u.1 0).toInt := by rw [G_u_40.1 0 (by decide) (by decide)]
          exact ⟨I_u_40, F_u_40, (by have B_45 := IX_b I; have B_46 := IX_b I_u_40; omega), (by have B_47 := IX_b I; have B_48 := IX_b I_u_40; omega), (by have B_49 := IX_b I; have B_50 := IX_b I_u_40; omega)⟩
        · rw [mM_SqlReaderModel_cut_J242]
          refine ok_eq (fun c_51 c_51' => ?_) (fun c_51 => ?_)
          · try have e_52 : (x3 - x1 : Int32).toInt = (x3 : Int32).toInt - (x1 : Int32).toInt := by have B_53 := IX_b I; exact sub_i (by omega) (by omega)
            refine ok_le (fun c_54 => ?_) (fun c_54 => ?_)
            · refine ok_mono (kN_SqlReaderModel_cut_J261 hq I (by have FUe : FU = 100000 := rfl; have B_55 := IX_b I; omega) (by have FUe : FU = 100000 := rfl; have B_56 := IX_b I; omega) (by have FUe : FU = 100000 := rfl; have B_57 := IX_b I; omega) (by have FUe : FU = 100000 := rfl; have B_58 := IX_b I; omega) (by have FUe : FU = 100000 := rfl; have B_59 := IX_b I; omega) (by have FUe : FU = 100000 := rfl; have B_60 := IX_b I; omega) (by have FUe : FU = 100000 := rfl; have B_61 := IX_b I; omega) (by have FUe : FU = 100000 := rfl; have B_62 := IX_b I; omega) (by have FUe : FU = 100000 := rfl; have B_63 := IX_b I; omega) (by have FUe : FU = 100000 := rfl; have B_64 := IX_b I; omega)) (fun u_66 z_65 => ?_)
              obtain ⟨I_u_66, G_u_66, p_67, p_68, p_69⟩ := z_65
              have F_u_66 := Kf_tr (Kf_rfl u) G_u_66
              have g_70 : (u_66.1 0).toInt = (u.1 0).toInt := by rw [G_u_66.1 0 (by decide) (by decide)]
              exact ⟨I_u_66, F_u_66, (by have B_71 := IX_b I; have B_72 := IX_b I_u_66; omega), (by have B_73 := IX_b I; have B_74 := IX_b I_u_66; omega), (by have B_75 := IX_b I; have B_76 := IX_b I_u_66; omega)⟩
            · refine ok_mono (kN_SqlReaderModel_cut_J261 hq I (by have FUe : FU = 100000 := rfl; have B_77 := IX_b I; omega) (by have FUe : FU = 100000 := rfl; have B_78 := IX_b I; omega) (by have FUe : FU = 100000 := rfl; have B_79 := IX_b I; omega) (by have FUe : FU = 100000 := rfl; have B_80 := IX_b I; omega) (by have FUe : FU = 100000 := rfl; have B_81 := IX_b I; omega) (by have FUe : FU = 100000 := rfl; have B_82 := IX_b I; omega) (by have FUe : FU = 100000 := rfl; have B_83 := IX_b I; omega) (by have FUe : FU = 100000 := rfl; have B_84 := IX_b I; omega) (by have FUe : FU = 100000 := rfl; have B_85 := IX_b I; omega) (by have FUe : FU = 100000 := rfl; have B_86 := IX_b I; omega)) (fun u_88 z_87 => ?_)
              obtain ⟨I_u_88, G_u_88, p_89, p_90, p_91⟩ := z_87
              have F_u_88 := Kf_tr (Kf_rfl u) G_u_88
              have g_92 : (u_88.1 0).toInt = (u.1 0).toInt := by rw [G_u_88.1 0 (by decide) (by decide)]
              exact ⟨I_u_88, F_u_88, (by have B_93 := IX_b I; have B_94 := IX_b I_u_88; omega), (by have B_95 := IX_b I; have B_96 := IX_b I_u_88; omega), (by have B_97 := IX_b I; have B_98 := IX_b I_u_88; omega)⟩
          · refine ok_mono (kN_SqlReaderModel_cut_J261 hq I (by have FUe : FU = 100000 := rfl; have B_99 := IX_b I; omega) (by have FUe : FU = 100000 := rfl; have B_100 := IX_b I; omega) (by have FUe : FU = 100000 := rfl; have B_101 := IX_b I; omega) (by have FUe : FU = 100000 := rfl; have B_102 := IX_b I; omega) (by have FUe : FU = 100000 := rfl; have B_103 := IX_b I; omega) (by have FUe : FU = 100000 := rfl; have B_104 := IX_b I; omega) (by have FUe : FU = 100000 := rfl; have B_105 := IX_b I; omega) (by have FUe : FU = 100000 := rfl; have B_106 := IX_b I; omega) (by have FUe : FU = 100000 := rfl; have B_107 := IX_b I; omega) (by have FUe : FU = 100000 := rfl; have B_108 := IX_b I; omega)) (fun u_110 z_109 => ?_)
            obtain ⟨I_u_110, G_u_110, p_111, p_112, p_113⟩ := z_109
            have F_u_110 := Kf_tr (Kf_rfl u) G_u_110
            have g_114 : (u_110.1 0).toInt = (u.1 0).toInt := by rw [G_u_110.1 0 (by decide) (by decide)]
            exact ⟨I_u_110, F_u_110, (by have B_115 := IX_b I; have B_116 := IX_b I_u_110; omega), (by have B_117 := IX_b I; have B_118 := IX_b I_u_110; omega), (by have B_119 := IX_b I; have B_120 := IX_b I_u_110; omega)⟩
      · rw [mM_SqlReaderModel_cut_J242]
        refine ok_eq (fun c_121 c_121' => ?_) (fun c_121 => ?_)
        · try have e_122 : (x3 - x1 : Int32).toInt = (x3 : Int32).toInt - (x1 : Int32).toInt := by have B_123 := IX_b I; exact sub_i (by omega) (by omega)
          refine ok_le (fun c_124 => ?_) (fun c_124 => ?_)
          · refine ok_mono (kN_SqlReaderModel_cut_J261 hq I (by have FUe : FU = 100000 := rfl; have B_125 := IX_b I; omega) (by have FUe : FU = 100000 := rfl; have B_126 := IX_b I; omega) (by have FUe : FU = 100000 := rfl; have B_127 := IX_b I; omega) (by have FUe : FU = 100000 := rfl; have B_128 := IX_b I; omega) (by have FUe : FU = 100000 := rfl; have B_129 := IX_b I; omega) (by have FUe : FU = 100000 := rfl; have B_130 := IX_b I; omega) (by have FUe : FU = 100000 := rfl; have B_131 := IX_b I; omega) (by have FUe : FU = 100000 := rfl; have B_132 := IX_b I; omega) (by have FUe : FU = 100000 := rfl; have B_133 := IX_b I; omega) (by have FUe : FU = 100000 := rfl; have B_134 := IX_b I; omega)) (fun u_136 z_135 => ?_)
            obtain ⟨I_u_136, G_u_136, p_137, p_138, p_139⟩ := z_135
            have F_u_136 := Kf_tr (Kf_rfl u) G_u_136
            have g_140 : (u_136.1 0).toInt = (u.1 0).toInt := by rw [G_u_136.1 0 (by decide) (by decide)]
            exact ⟨I_u_136, F_u_136, (by have B_141 := IX_b I; have B_142 := IX_b I_u_136; omega), (by have B_143 := IX_b I; have B_144 := IX_b I_u_136; omega), (by have B_145 := IX_b I; have B_146 := IX_b I_u_136; omega)⟩
          · refine ok_mono (kN_SqlReaderModel_cut_J261 hq I (by have FUe : FU = 100000 := rfl; have B_147 := IX_b I; omega) (by have FUe : FU = 100000 := rfl; have B_148 := IX_b I; omega) (by have FUe : FU = 100000 := rfl; have B_149 := IX_b I; omega) (by have FUe : FU = 100000 := rfl; have B_150 := IX_b I; omega) (by have FUe : FU = 100000 := rfl; have B_151 := IX_b I; omega) (by have FUe : FU = 100000 := rfl; have B_152 := IX_b I; omega) (by have FUe : FU = 100000 := rfl; have B_153 := IX_b I; omega) (by have FUe : FU = 100000 := rfl; have B_154 := IX_b I; omega) (by have FUe : FU = 100000 := rfl; have B_155 := IX_b I; omega) (by have FUe : FU = 100000 := rfl; have B_156 := IX_b I; omega)) (fun u_158 z_157 => ?_)
            obtain ⟨I_u_158, G_u_158, p_159, p_160, p_161⟩ := z_157
            have F_u_158 := Kf_tr (Kf_rfl u) G_u_158
            have g_162 : (u_158.1 0).toInt = (u.1 0).toInt := by rw [G_u_158.1 0 (by decide) (by decide)]
            exact ⟨I_u_158, F_u_158, (by have B_163 := IX_b I; have B_164 := IX_b I_u_158; omega), (by have B_165 := IX_b I; have B_166 := IX_b I_u_158; omega), (by have B_167 := IX_b I; have B_168 := IX_b I_u_158; omega)⟩
        · refine ok_mono (kN_SqlReaderModel_cut_J261 hq I (by have FUe : FU = 100000 := rfl; have B_169 := IX_b I; omega) (by have FUe : FU = 100000 := rfl; have B_170 := IX_b I; omega) (by have FUe : FU = 100000 := rfl; have B_171 := IX_b I; omega) (by have FUe : FU = 100000 := rfl; have B_172 := IX_b I; omega) (by have FUe : FU = 100000 := rfl; have B_173 := IX_b I; omega) (by have FUe : FU = 100000 := rfl; have B_174 := IX_b I; omega) (by have FUe : FU = 100000 := rfl; have B_175 := IX_b I; omega) (by have FUe : FU = 100000 := rfl; have B_176 := IX_b I; omega) (by have FUe : FU = 100000 := rfl; have B_177 := IX_b I; omega) (by have FUe : FU = 100000 := rfl; have B_178 := IX_b I; omega)) (fun u_180 z_179 => ?_)
          obtain ⟨I_u_180, G_u_180, p_181, p_182, p_183⟩ := z_179
          have F_u_180 := Kf_tr (Kf_rfl u) G_u_180
          have g_184 : (u_180.1 0).toInt = (u.1 0).toInt := by rw [G_u_180.1 0 (by decide) (by decide)]
          exact ⟨I_u_180, F_u_180, (by have B_185 := IX_b I; have B_186 := IX_b I_u_180; omega), (by have B_187 := IX_b I; have B_188 := IX_b I_u_180; omega), (by have B_189 := IX_b I; have B_190 := IX_b I_u_180; omega)⟩
  · refine ok_mono (kN_SqlReaderModel_cut_J261 hq I (by have FUe : FU = 100000 := rfl; have B_191 := IX_b I; omega) (by have FUe : FU = 100000 := rfl; have B_192 := IX_b I; omega) (by have FUe : FU = 100000 := rfl; have B_193 := IX_b I; omega) (by have FUe : FU = 100000 := rfl; have B_194 := IX_b I; omega) (by have FUe : FU = 100000 := rfl; have B_195 := IX_b I; omega) (by have FUe : FU = 100000 := rfl; have B_196 := IX_b I; omega) (by have FUe : FU = 100000 := rfl; have B_197 := IX_b I; omega) (by have FUe : FU = 100000 := rfl; have B_198 := IX_b I; omega) (by have FUe : FU = 100000 := rfl; have B_199 := IX_b I; omega) (by have FUe : FU = 100000 := rfl; have B_200 := IX_b I; omega)) (fun u_202 z_201 => ?_)
    obtain ⟨I_u_202, G_u_202, p_203, p_204, p_205⟩ := z_201
    have F_u_202 := Kf_tr (Kf_rfl u) G_u_202
    have g_206 : (u_202.1 0).toInt = (u.1 0).toInt := by rw [G_u_202.1 0 (by decide) (by decide)]
    exact ⟨I_u_202, F_u_202, (by have B_207 := IX_b I; have B_208 := IX_b I_u_202; omega), (by have B_209 := IX_b I; have B_210 := IX_b I_u_202; omega), (by have B_211 := IX_b I; have B_212 := IX_b I_u_202; omega)⟩
set_option maxHeartbeats 8000000 in
theorem kN_SqlReaderModel_cut_J159 {q12 : Int32 → St → Option (St)} {m : Nat} (hq : ∀ {x1 : Int32} {u : St} (I : IX u) (h0 : (u.1 2).toInt = 1 ∨ (0 ≤ x1.toInt ∧ x1.toInt ≤ 2000 ∧ (u.1 1).toInt ≤ x1.toInt)) (hm : (2003 - x1.toInt - 5000 * (u.1 2).toInt).toNat < m), ok (q12 x1 u) (fun v => IX v ∧ Kf u v ∧ (u.1 1).toInt ≤ (v.1 1).toInt ∧ ((u.1 1).toInt ≤ 0 ∨ ((ga v 1 0).toInt = (ga u 1 0).toInt ∧ (ga v 2 0).toInt = (ga u 2 0).toInt ∧ (ga v 3 0).toInt = (ga u 3 0).toInt)) ∧ (x1.toInt < 1 ∨ 1 ≤ (u.1 1).toInt ∨ (v.1 1).toInt ≤ 0 ∨ 1 ≤ (ga v 2 0).toInt))) {x1 : Int32} {x2 : Int32} {x3 : Int32} {x4 : Int32} {u : St} (I : IX u) (h0 : 0 ≤ x1.toInt) (h1 : x1.toInt < (u.1 0).toInt) (h2 : (u.1 1).toInt ≤ x1.toInt) (h3 : (2003 - x1.toInt).toNat < m + 1) (h4 : x1.toInt < x3.toInt) (h5 : x3.toInt ≤ (u.1 0).toInt) (h6 : 1 ≤ x4.toInt) (h7 : x4.toInt ≤ 6) (h8 : x4.toInt ≠ 4) (h9 : x4.toInt ≠ 5) (h10 : (u.1 2).toInt = 0) (h11 : x2.toInt = (ga u 0 x1).toInt) (h12 : x4.toInt = 6 ∨ x2.toInt ≠ 36) (h13 : x4.toInt ≠ 6 ∨ x3.toInt = x1.toInt + 1) : ok (mM_SqlReaderModel_cut_J159 q12 x1 x2 x3 x4 u) (fun v => IX v ∧ Kf u v ∧ (u.1 1).toInt ≤ (v.1 1).toInt ∧ ((u.1 1).toInt ≤ 0 ∨ ((ga v 1 0).toInt = (ga u 1 0).toInt ∧ (ga v 2 0).toInt = (ga u 2 0).toInt ∧ (ga v 3 0).toInt = (ga u 3 0).toInt)) ∧ (1 ≤ (u.1 1).toInt ∨ (1 ≤ (v.1 1).toInt ∧ ((ga v 1 0).toInt = x4.toInt ∨ (ga v 1 0).toInt = 5) ∧ (ga v 2 0).toInt = x1.toInt))) := by
  have l0 : (0 : Int32).toInt = 0 := by decide
  have l1 : (1 : Int32).toInt = 1 := by decide
  have l2 : (2 : Int32).toInt = 2 := by decide
  have l3 : (3 : Int32).toInt = 3 := by decide
  have l4 : (4 : Int32).toInt = 4 := by decide
  have l5 : (5 : Int32).toInt = 5 := by decide
  have l6 : (6 : Int32).toInt = 6 := by decide
  have l36 : (36 : Int32).toInt = 36 := by decide
  have l49 : (49 : Int32).toInt = 49 := by decide
  have l57 : (57 : Int32).toInt = 57 := by decide
  have l2000 : (2000 : Int32).toInt = 2000 := by decide
  have l2002 : (2002 : Int32).toInt = 2002 := by decide
  have l2003 : (2003 : Int32).toInt = 2003 := by decide
  rw [mM_SqlReaderModel_cut_J159]
  have Z := ga_nx (u := u) (k := 0) (y := x3) h0 (by have B := IX_b I; omega)
  refine ok_eq (fun c_1 c_1' => ?_) (fun c_1 => ?_)
  · refine ok_bP (kM_SqlReaderModel_at (IX_IB I) (by have FUe : FU = 100000 := rfl; have B_3 := IX_b I; omega)) (fun r_4 z_2 => ?_)
    have p_5 := z_2
    refine ok_lt (fun c_6 => ?_) (fun c_6 => ?_)
    · refine ok_seq (fun u_8 h_7 => ?_)
      have I_u_8 : IX u_8 := by rw [h_7]; exact IX_bad I (by have B_9 := IX_b I; omega) (by have B_10 := IX_b I; omega) (by have B_11 := IX_b I; omega)
      have F_u_8 : Kf u u_8 := by rw [h_7]; exact Kf_tr (Kf_rfl u) Kf_bad
      have g_12 : (ga u_8 1 0).toInt = (ga u 1 0).toInt := by rw [h_7]; rfl
      have g_13 : (ga u_8 2 0).toInt = (ga u 2 0).toInt := by rw [h_7]; rfl
      have g_14 : (ga u_8 3 0).toInt = (ga u 3 0).toInt := by rw [h_7]; rfl
      have g_15 : (ga u_8 0 (x1 + 1)).toInt = (ga u 0 (x1 + 1)).toInt := by rw [h_7]; rfl
      have g_16 : (u_8.1 2).toInt = (1 : Int32).toInt := by rw [h_7]; rfl
      have g_17 : (u_8.1 0).toInt = (u.1 0).toInt := by rw [h_7]; rfl
      have g_18 : (u_8.1 1).toInt = (u.1 1).toInt := by rw [h_7]; rfl
      try have e_21 : (x3 + 1 : Int32).toInt = (x3 : Int32).toInt + (1 : Int32).toInt := by have B_22 := IX_b I; exact add_i (by omega) (by omega)
      refine ok_seq (fun y_20 h_19 => ?_)
      have h_19' : y_20.toInt = (x3 + 1 : Int32).toInt := by rw [h_19]
      refine ok_mono (kN_SqlReaderModel_cut_J216 hq I_u_8 (by have FUe : FU = 100000 := rfl; have B_23 := IX_b I_u_8; have B_24 := IX_b I; omega) (by have FUe : FU = 100000 := rfl; have B_25 := IX_b I_u_8; have B_26 := IX_b I; omega) (by have FUe : FU = 100000 := rfl; have B_27 := IX_b I_u_8; have B_28 := IX_b I; omega) (by have FUe : FU = 100000 := rfl; have B_29 := IX_b I_u_8; have B_30 := IX_b I; omega) (by have FUe : FU = 100000 := rfl; have B_31 := IX_b I_u_8; have B_32 := IX_b I; omega) (by have FUe : FU = 100000 := rfl; have B_33 := IX_b I_u_8; have B_34 := IX_b I; omega) (by have FUe : FU = 100000 := rfl; have B_35 := IX_b I_u_8; have B_36 := IX_b I; omega) (by have FUe : FU = 100000 := rfl; have B_37 := IX_b I_u_8; have B_38 := IX_b I; omega) (by have FUe : FU = 100000 := rfl; have B_39 := IX_b I_u_8; have B_40 := IX_b I; omega) (by have FUe : FU = 100000 := rfl; have B_41 := IX_b I_u_8; have B_42 := IX_b I; omega) (by have FUe : FU = 100000 := rfl; have B_43 := IX_b I_u_8; have B_44 := IX_b I; omega)) (fun u_46 z_45 => ?_)
      obtain ⟨I_u_46, G_u_46, p_47, p_48, p_49⟩ := z_45
      have F_u_46 := Kf_tr F_u_8 G_u_46
      have g_50 : (u_46.1 0).toInt = (u_8.1 0).toInt := by rw [G_u_46.1 0 (by decide) (by decide)]
      exact ⟨I_u_46, F_u_46, (by have B_51 := IX_b I; have B_52 := IX_b I_u_46; omega), (by have B_53 := IX_b I; have B_54 := IX_b I_u_46; omega), (by have B_55 := IX_b I; have B_56 := IX_b I_u_46; omega)⟩
    · refine ok_bP (kM_SqlReaderModel_at (IX_IB I) (by have FUe : FU = 100000 := rfl; have B_58 := IX_b I; omega)) (fun r_59 z_57 => ?_)
      have p_60 := z_57
      refine ok_le (fun c_61 => ?_) (fun c_61 => ?_)
      · refine ok_seq (fun u_63 h_62 => ?_)
        have I_u_63 : IX u_63 := by rw [h_62]; exact IX_bad I (by have B_64 := IX_b I; omega) (by have B_65 := IX_b I; omega) (by have B_66 := IX_b I; omega)
        have F_u_63 : Kf u u_63 := by rw [h_62]; exact Kf_tr (Kf_rfl u) Kf_bad
        have g_67 : (ga u_63 1 0).toInt = (ga u 1 0).toInt := by rw [h_62]; rfl
        have g_68 : (ga u_63 2 0).toInt = (ga u 2 0).toInt := by rw [h_62]; rfl
        have g_69 : (ga u_63 3 0).toInt = (ga u 3 0).toInt := by rw [h_62]; rfl
        have g_70 : (ga u_63 0 (x1 + 1)).toInt = (ga u 0 (x1 + 1)).toInt := by rw [h_62]; rfl
        have g_71 : (u_63.1 2).toInt = (0 : Int32).toInt := by rw [h_62]; rfl
        have g_72 : (u_63.1 0).toInt = (u.1 0).toInt := by rw [h_62]; rfl
        have g_73 : (u_63.1 1).toInt = (u.1 1).toInt := by rw [h_62]; rfl
        try have e_76 : (x3 + 1 : Int32).toInt = (x3 : Int32).toInt + (1 : Int32).toInt := by have B_77 := IX_b I; exact add_i (by omega) (by omega)
        refine ok_seq (fun y_75 h_74 => ?_)
        have h_74' : y_75.toInt = (x3 + 1 : Int32).toInt := by rw [h_74]
        refine ok_mono (kN_SqlReaderModel_cut_J216 hq I_u_63 (by have FUe : FU = 100000 := rfl; have B_78 := IX_b I_u_63; have B_79 := IX_b I; omega) (by have FUe : FU = 100000 := rfl; have B_80 := IX_b I_u_63; have B_81 := IX_b I; omega) (by have FUe : FU = 100000 := rfl; have B_82 := IX_b I_u_63; have B_83 := IX_b I; omega) (by have FUe : FU = 100000 := rfl; have B_84 := IX_b I_u_63; have B_85 := IX_b I; omega) (by have FUe : FU = 100000 := rfl; have B_86 := IX_b I_u_63; have B_87 := IX_b I; omega) (by have FUe : FU = 100000 := rfl; have B_88 := IX_b I_u_63; have B_89 := IX_b I; omega) (by have FUe : FU = 100000 := rfl; have B_90 := IX_b I_u_63; have B_91 := IX_b I; omega) (by have FUe : FU = 100000 := rfl; have B_92 := IX_b I_u_63; have B_93 := IX_b I; omega) (by have FUe : FU = 100000 := rfl; have B_94 := IX_b I_u_63; have B_95 := IX_b I; omega) (by have FUe : FU = 100000 := rfl; have B_96 := IX_b I_u_63; have B_97 := IX_b I; omega) (by have FUe : FU = 100000 := rfl; have B_98 := IX_b I_u_63; have B_99 := IX_b I; omega)) (fun u_101 z_100 => ?_)
        obtain ⟨I_u_101, G_u_101, p_102, p_103, p_104⟩ := z_100
        have F_u_101 := Kf_tr F_u_63 G_u_101
        have g_105 : (u_101.1 0).toInt = (u_63.1 0).toInt := by rw [G_u_101.1 0 (by decide) (by decide)]
        exact ⟨I_u_101, F_u_101, (by have B_106 := IX_b I; have B_107 := IX_b I_u_101; omega), (by have B_108 := IX_b I; have B_109 := IX_b I_u_101; omega), (by have B_110 := IX_b I; have B_111 := IX_b I_u_101; omega)⟩
      · refine ok_seq (fun u_113 h_112 => ?_)
        have I_u_113 : IX u_113 := by rw [h_112]; exact IX_bad I (by have B_114 := IX_b I; omega) (by have B_115 := IX_b I; omega) (by have B_116 := IX_b I; omega)
        have F_u_113 : Kf u u_113 := by rw [h_112]; exact Kf_tr (Kf_rfl u) Kf_bad
        have g_117 : (ga u_113 1 0).toInt = (ga u 1 0).toInt := by rw [h_112]; rfl
        have g_118 : (ga u_113 2 0).toInt = (ga u 2 0).toInt := by rw [h_112]; rfl
        have g_119 : (ga u_113 3 0).toInt = (ga u 3 0).toInt := by rw [h_112]; rfl
        have g_120 : (ga u_113 0 (x1 + 1)).toInt = (ga u 0 (x1 + 1)).toInt := by rw [h_112]; rfl
        have g_121 : (u_113.1 2).toInt = (1 : Int32).toInt := by rw [h_112]; rfl
        have g_122 : (u_113.1 0).toInt = (u.1 0).toInt := by rw [h_112]; rfl
        have g_123 : (u_113.1 1).toInt = (u.1 1).toInt := by rw [h_112]; rfl
        try have e_126 : (x3 + 1 : Int32).toInt = (x3 : Int32).toInt + (1 : Int32).toInt := by have B_127 := IX_b I; exact add_i (by omega) (by omega)
        refine ok_seq (fun y_125 h_124 => ?_)
        have h_124' : y_125.toInt = (x3 + 1 : Int32).toInt := by rw [h_124]
        refine ok_mono (kN_SqlReaderModel_cut_J216 hq I_u_113 (by have FUe : FU = 100000 := rfl; have B_128 := IX_b I_u_113; have B_129 := IX_b I; omega) (by have FUe : FU = 100000 := rfl; have B_130 := IX_b I_u_113; have B_131 := IX_b I; omega) (by have FUe : FU = 100000 := rfl; have B_132 := IX_b I_u_113; have B_133 := IX_b I; omega) (by have FUe : FU = 100000 := rfl; have B_134 := IX_b I_u_113; have B_135 := IX_b I; omega) (by have FUe : FU = 100000 := rfl; have B_136 := IX_b I_u_113; have B_137 := IX_b I; omega) (by have FUe : FU = 100000 := rfl; have B_138 := IX_b I_u_113; have B_139 := IX_b I; omega) (by have FUe : FU = 100000 := rfl; have B_140 := IX_b I_u_113; have B_141 := IX_b I; omega) (by have FUe : FU = 100000 := rfl; have B_142 := IX_b I_u_113; have B_143 := IX_b I; omega) (by have FUe : FU = 100000 := rfl; have B_144 := IX_b I_u_113; have B_145 := IX_b I; omega) (by have FUe : FU = 100000 := rfl; have B_146 := IX_b I_u_113; have B_147 := IX_b I; omega) (by have FUe : FU = 100000 := rfl; have B_148 := IX_b I_u_113; have B_149 := IX_b I; omega)) (fun u_151 z_150 => ?_)
        obtain ⟨I_u_151, G_u_151, p_152, p_153, p_154⟩ := z_150
        have F_u_151 := Kf_tr F_u_113 G_u_151
        have g_155 : (u_151.1 0).toInt = (u_113.1 0).toInt := by rw [G_u_151.1 0 (by decide) (by decide)]
        exact ⟨I_u_151, F_u_151, (by have B_156 := IX_b I; have B_157 := IX_b I_u_151; omega), (by have B_158 := IX_b I; have B_159 := IX_b I_u_151; omega), (by have B_160 := IX_b I; have B_161 := IX_b I_u_151; omega)⟩
  · refine ok_eq (fun c_162 c_162' => ?_) (fun c_162 => ?_)
    · refine ok_bP (kM_SqlReaderModel_signEnd (IX_IB I) (by have FUe : FU = 100000 := rfl; have B_164 := IX_b I; omega) (by have FUe : FU = 100000 := rfl; have B_165 := IX_b I; omega)) (fun r_166 z_163 => ?_)
      have p_167 := z_163
      refine ok_mono (kN_SqlReaderModel_cut_J216 hq I (by have FUe : FU = 100000 := rfl; have B_168 := IX_b I; omega) (by have FUe : FU = 100000 := rfl; have B_169 := IX_b I; omega) (by have FUe : FU = 100000 := rfl; have B_170 := IX_b I; omega) (by have FUe : FU = 100000 := rfl; have B_171 := IX_b I; omega) (by have FUe : FU = 100000 := rfl; have B_172 := IX_b I; omega) (by have FUe : FU = 100000 := rfl; have B_173 := IX_b I; omega) (by have FUe : FU = 100000 := rfl; have B_174 := IX_b I; omega) (by have FUe : FU = 100000 := rfl; have B_175 := IX_b I; omega) (by have FUe : FU = 100000 := rfl; have B_176 := IX_b I; omega) (by have FUe : FU = 100000 := rfl; have B_177 := IX_b I; omega) (by have FUe : FU = 100000 := rfl; have B_178 := IX_b I; omega)) (fun u_180 z_179 => ?_)
      obtain ⟨I_u_180, G_u_180, p_181, p_182, p_183⟩ := z_179
      have F_u_180 := Kf_tr (Kf_rfl u) G_u_180
      have g_184 : (u_180.1 0).toInt = (u.1 0).toInt := by rw [G_u_180.1 0 (by decide) (by decide)]
      exact ⟨I_u_180, F_u_180, (by have B_185 := IX_b I; have B_186 := IX_b I_u_180; omega), (by have B_187 := IX_b I; have B_188 := IX_b I_u_180; omega), (by have B_189 := IX_b I; have B_190 := IX_b I_u_180; omega)⟩
    · refine ok_mono (kN_SqlReaderModel_cut_J216 hq I (by have FUe : FU = 100000 := rfl; have B_191 := IX_b I; omega) (by have FUe : FU = 100000 := rfl; have B_192 := IX_b I; omega) (by have FUe : FU = 100000 := rfl; have B_193 := IX_b I; omega) (by have FUe : FU = 100000 := rfl; have B_194 := IX_b I; omega) (by have FUe : FU = 100000 := rfl; have B_195 := IX_b I; omega) (by have FUe : FU = 100000 := rfl; have B_196 := IX_b I; omega) (by have FUe : FU = 100000 := rfl; have B_197 := IX_b I; omega) (by have FUe : FU = 100000 := rfl; have B_198 := IX_b I; omega) (by have FUe : FU = 100000 := rfl; have B_199 := IX_b I; omega) (by have FUe : FU = 100000 := rfl; have B_200 := IX_b I; omega) (by have FUe : FU = 100000 := rfl; have B_201 := IX_b I; omega)) (fun u_203 z_202 => ?_)
      obtain ⟨I_u_203, G_u_203, p_204, p_205, p_206⟩ := z_202
      have F_u_203 := Kf_tr (Kf_rfl u) G_u_203
      have g_207 : (u_203.1 0).toInt = (u.1 0).toInt := by rw [G_u_203.1 0 (by decide) (by decide)]
      exact ⟨I_u_203, F_u_203, (by have B_208 := IX_b I; have B_209 := IX_b I_u_203; omega), (by have B_210 := IX_b I; have B_211 := IX_b I_u_203; omega), (by have B_212 := IX_b I; have B_213 := IX_b I_u_203; omega)⟩
set_option maxHeartbeats 8000000 in
theorem kN_SqlReaderModel_cut_L102 {q12 : Int32 → St → Option (St)} {m : Nat} (hq : ∀ {x1 : Int32} {u : St} (I : IX u) (h0 : (u.1 2).toInt = 1 ∨ (0 ≤ x1.toInt ∧ x1.toInt ≤ 2000 ∧ (u.1 1).toInt ≤ x1.toInt)) (hm : (2003 - x1.toInt - 5000 * (u.1 2).toInt).toNat < m), ok (q12 x1 u) (fun v => IX v ∧ Kf u v ∧ (u.1 1).toInt ≤ (v.1 1).toInt ∧ ((u.1 1).toInt ≤ 0 ∨ ((ga v 1 0).toInt = (ga u 1 0).toInt ∧ (ga v 2 0).toInt = (ga u 2 0).toInt ∧ (ga v 3 0).toInt = (ga u 3 0).toInt)) ∧ (x1.toInt < 1 ∨ 1 ≤ (u.1 1).toInt ∨ (v.1 1).toInt ≤ 0 ∨ 1 ≤ (ga v 2 0).toInt))) : ∀ (n : Nat) {x1 : Int32} {x2 : Int32} {x3 : Int32} {x4 : Int32} {u : St} (I : IX u) (h0 : 0 ≤ x1.toInt) (h1 : x1.toInt < (u.1 0).toInt) (h2 : (u.1 1).toInt ≤ x1.toInt) (h3 : (2003 - x1.toInt).toNat < m + 1) (h4 : x1.toInt < x3.toInt) (h5 : x3.toInt ≤ (u.1 0).toInt) (h6 : 1 ≤ x4.toInt) (h7 : x4.toInt ≤ 6) (h8 : x4.toInt ≠ 4) (h9 : x4.toInt ≠ 5) (h10 : (u.1 2).toInt = 0) (h11 : x2.toInt = (ga u 0 x1).toInt) (h12 : x4.toInt = 6 ∨ x2.toInt ≠ 36) (h13 : x4.toInt ≠ 6 ∨ x3.toInt = x1.toInt + 1) (hm : (2000 - x3.toInt).toNat < n), ok (mM_SqlReaderModel_cut_L102 q12 n x1 x2 x3 x4 u) (fun v => IX v ∧ Kf u v ∧ (u.1 1).toInt ≤ (v.1 1).toInt ∧ ((u.1 1).toInt ≤ 0 ∨ ((ga v 1 0).toInt = (ga u 1 0).toInt ∧ (ga v 2 0).toInt = (ga u 2 0).toInt ∧ (ga v 3 0).toInt = (ga u 3 0).toInt)) ∧ (1 ≤ (u.1 1).toInt ∨ (1 ≤ (v.1 1).toInt ∧ ((ga v 1 0).toInt = x4.toInt ∨ (ga v 1 0).toInt = 5) ∧ (ga v 2 0).toInt = x1.toInt))) := by
  intro n
  induction n with
  | zero => intro x1 x2 x3 x4 u I h0 h1 h2 h3 h4 h5 h6 h7 h8 h9 h10 h11 h12 h13 hm; exact absurd hm (Nat.not_lt_zero _)
  | succ n ih =>
    intro x1 x2 x3 x4 u I h0 h1 h2 h3 h4 h5 h6 h7 h8 h9 h10 h11 h12 h13 hm
    have l0 : (0 : Int32).toInt = 0 := by decide
    have l1 : (1 : Int32).toInt = 1 := by decide
    have l2 : (2 : Int32).toInt = 2 := by decide
    have l3 : (3 : Int32).toInt = 3 := by decide
    have l4 : (4 : Int32).toInt = 4 := by decide
    have l5 : (5 : Int32).toInt = 5 := by decide
    have l6 : (6 : Int32).toInt = 6 := by decide
    have l36 : (36 : Int32).toInt = 36 := by decide
    have l2000 : (2000 : Int32).toInt = 2000 := by decide
    have l2003 : (2003 : Int32).toInt = 2003 := by decide
    rw [mM_SqlReaderModel_cut_L102]
    refine ok_eq (fun c_1 c_1' => ?_) (fun c_1 => ?_)
    · refine ok_bP (kM_SqlReaderModel_at (IX_IB I) (by have FUe : FU = 100000 := rfl; have B_3 := IX_b I; omega)) (fun r_4 z_2 => ?_)
      have p_5 := z_2
      refine ok_bP (kM_SqlReaderModel_isCapital (IX_IB I)) (fun r_7 z_6 => ?_)
      obtain ⟨p_8, p_9, p_10⟩ := z_6
      refine ok_eq (fun c_11 c_11' => ?_) (fun c_11 => ?_)
      · rw [mM_SqlReaderModel_cut_J119]
        refine ok_eq (fun c_12 c_12' => ?_) (fun c_12 => ?_)
        · refine ok_bP (kM_SqlReaderModel_at (IX_IB I) (by have FUe : FU = 100000 := rfl; have B_14 := IX_b I; omega)) (fun r_15 z_13 => ?_)
          have p_16 := z_13
          refine ok_bP (kM_SqlReaderModel_isInName (IX_IB I)) (fun r_18 z_17 => ?_)
          obtain ⟨p_19, p_20, p_21⟩ := z_17
          refine ok_eq (fun c_22 c_22' => ?_) (fun c_22 => ?_)
          · rw [mM_SqlReaderModel_cut_J136]
            refine ok_eq (fun c_23 c_23' => ?_) (fun c_23 => ?_)
            · refine ok_bP (kM_SqlReaderModel_at (IX_IB I) (by have FUe : FU = 100000 := rfl; have B_25 := IX_b I; omega)) (fun r_26 z_24 => ?_)
              have p_27 := z_24
              refine ok_bP (kM_SqlReaderModel_isDigit (IX_IB I)) (fun r_29 z_28 => ?_)
              obtain ⟨p_30, p_31, p_32⟩ := z_28
              refine ok_eq (fun c_33 c_33' => ?_) (fun c_33 => ?_)
              · refine ok_mono (kN_SqlReaderModel_cut_J159 hq I (by have FUe : FU = 100000 := rfl; have B_34 := IX_b I; omega) (by have FUe : FU = 100000 := rfl; have B_35 := IX_b I; omega) (by have FUe : FU = 100000 := rfl; have B_36 := IX_b I; omega) (by have FUe : FU = 100000 := rfl; have B_37 := IX_b I; omega) (by have FUe : FU = 100000 := rfl; have B_38 := IX_b I; omega) (by have FUe : FU = 100000 := rfl; have B_39 := IX_b I; omega) (by have FUe : FU = 100000 := rfl; have B_40 := IX_b I; omega) (by have FUe : FU = 100000 := rfl; have B_41 := IX_b I; omega) (by have FUe : FU = 100000 := rfl; have B_42 := IX_b I; omega) (by have FUe : FU = 100000 := rfl; have B_43 := IX_b I; omega) (by have FUe : FU = 100000 := rfl; have B_44 := IX_b I; omega) (by have FUe : FU = 100000 := rfl; have B_45 := IX_b I; omega) (by have FUe : FU = 100000 := rfl; have B_46 := IX_b I; omega) (by have FUe : FU = 100000 := rfl; have B_47 := IX_b I; omega)) (fun u_49 z_48 => ?_)
                obtain ⟨I_u_49, G_u_49, p_50, p_51, p_52⟩ := z_48
                have F_u_49 := Kf_tr (Kf_rfl u) G_u_49
                have g_53 : (u_49.1 0).toInt = (u.1 0).toInt := by rw [G_u_49.1 0 (by decide) (by decide)]
                exact ⟨I_u_49, F_u_49, (by have B_54 := IX_b I; have B_55 := IX_b I_u_49; omega), (by have B_56 := IX_b I; have B_57 := IX_b I_u_49; omega), (by have B_58 := IX_b I; have B_59 := IX_b I_u_49; omega)⟩
              · try have e_62 : (x3 + 1 : Int32).toInt = (x3 : Int32).toInt + (1 : Int32).toInt := by have B_63 := IX_b I; exact add_i (by omega) (by omega)
                refine ok_seq (fun y_61 h_60 => ?_)
                have h_60' : y_61.toInt = (x3 + 1 : Int32).toInt := by rw [h_60]
                refine ok_mono (ih I (by have B_64 := IX_b I; omega) (by have B_65 := IX_b I; omega) (by have B_66 := IX_b I; omega) (by have B_67 := IX_b I; omega) (by have B_68 := IX_b I; omega) (by have B_69 := IX_b I; omega) (by have B_70 := IX_b I; omega) (by have B_71 := IX_b I; omega) (by have B_72 := IX_b I; omega) (by have B_73 := IX_b I; omega) (by have B_74 := IX_b I; omega) (by have B_75 := IX_b I; omega) (by have B_76 := IX_b I; omega) (by have B_77 := IX_b I; omega) (by have B_78 := IX_b I; omega)) (fun u_80 z_79 => ?_)
                obtain ⟨I_u_80, G_u_80, p_81, p_82, p_83⟩ := z_79
                have F_u_80 := Kf_tr (Kf_rfl u) G_u_80
                have g_84 : (u_80.1 0).toInt = (u.1 0).toInt := by rw [G_u_80.1 0 (by decide) (by decide)]
                exact ⟨I_u_80, F_u_80, (by have B_85 := IX_b I; have B_86 := IX_b I_u_80; omega), (by have B_87 := IX_b I; have B_88 := IX_b I_u_80; omega), (by have B_89 := IX_b I; have B_90 := IX_b I_u_80; omega)⟩
            · refine ok_mono (kN_SqlReaderModel_cut_J159 hq I (by have FUe : FU = 100000 := rfl; have B_91 := IX_b I; omega) (by have FUe : FU = 100000 := rfl; have B_92 := IX_b I; omega) (by have FUe : FU = 100000 := rfl; have B_93 := IX_b I; omega) (by have FUe : FU = 100000 := rfl; have B_94 := IX_b I; omega) (by have FUe : FU = 100000 := rfl; have B_95 := IX_b I; omega) (by have FUe : FU = 100000 := rfl; have B_96 := IX_b I; omega) (by have FUe : FU = 100000 := rfl; have B_97 := IX_b I; omega) (by have FUe : FU = 100000 := rfl; have B_98 := IX_b I; omega) (by have FUe : FU = 100000 := rfl; have B_99 := IX_b I; omega) (by have FUe : FU = 100000 := rfl; have B_100 := IX_b I; omega) (by have FUe : FU = 100000 := rfl; have B_101 := IX_b I; omega) (by have FUe : FU = 100000 := rfl; have B_102 := IX_b I; omega) (by have FUe : FU = 100000 := rfl; have B_103 := IX_b I; omega) (by have FUe : FU = 100000 := rfl; have B_104 := IX_b I; omega)) (fun u_106 z_105 => ?_)
              obtain ⟨I_u_106, G_u_106, p_107, p_108, p_109⟩ := z_105
              have F_u_106 := Kf_tr (Kf_rfl u) G_u_106
              have g_110 : (u_106.1 0).toInt = (u.1 0).toInt := by rw [G_u_106.1 0 (by decide) (by decide)]
              exact ⟨I_u_106, F_u_106, (by have B_111 := IX_b I; have B_112 := IX_b I_u_106; omega), (by have B_113 := IX_b I; have B_114 := IX_b I_u_106; omega), (by have B_115 := IX_b I; have B_116 := IX_b I_u_106; omega)⟩
          · try have e_119 : (x3 + 1 : Int32).toInt = (x3 : Int32).toInt + (1 : Int32).toInt := by have B_120 := IX_b I; exact add_i (by omega) (by omega)
            refine ok_seq (fun y_118 h_117 => ?_)
            have h_117' : y_118.toInt = (x3 + 1 : Int32).toInt := by rw [h_117]
            refine ok_mono (ih I (by have B_121 := IX_b I; omega) (by have B_122 := IX_b I; omega) (by have B_123 := IX_b I; omega) (by have B_124 := IX_b I; omega) (by have B_125 := IX_b I; omega) (by have B_126 := IX_b I; omega) (by have B_127 := IX_b I; omega) (by have B_128 := IX_b I; omega) (by have B_129 := IX_b I; omega) (by have B_130 := IX_b I; omega) (by have B_131 := IX_b I; omega) (by have B_132 := IX_b I; omega) (by have B_133 := IX_b I; omega) (by have B_134 := IX_b I; omega) (by have B_135 := IX_b I; omega)) (fun u_137 z_136 => ?_)
            obtain ⟨I_u_137, G_u_137, p_138, p_139, p_140⟩ := z_136
            have F_u_137 := Kf_tr (Kf_rfl u) G_u_137
            have g_141 : (u_137.1 0).toInt = (u.1 0).toInt := by rw [G_u_137.1 0 (by decide) (by decide)]
            exact ⟨I_u_137, F_u_137, (by have B_142 := IX_b I; have B_143 := IX_b I_u_137; omega), (by have B_144 := IX_b I; have B_145 := IX_b I_u_137; omega), (by have B_146 := IX_b I; have B_147 := IX_b I_u_137; omega)⟩
        · rw [mM_SqlReaderModel_cut_J136]
          refine ok_eq (fun c_148 c_148' => ?_) (fun c_148 => ?_)
          · refine ok_bP (kM_SqlReaderModel_at (IX_IB I) (by have FUe : FU = 100000 := rfl; have B_150 := IX_b I; omega)) (fun r_151 z_149 => ?_)
            have p_152 := z_149
            refine ok_bP (kM_SqlReaderModel_isDigit (IX_IB I)) (fun r_154 z_153 => ?_)
            obtain ⟨p_155, p_156, p_157⟩ := z_153
            refine ok_eq (fun c_158 c_158' => ?_) (fun c_158 => ?_)
            · refine ok_mono (kN_SqlReaderModel_cut_J159 hq I (by have FUe : FU = 100000 := rfl; have B_159 := IX_b I; omega) (by have FUe : FU = 100000 := rfl; have B_160 := IX_b I; omega) (by have FUe : FU = 100000 := rfl; have B_161 := IX_b I; omega) (by have FUe : FU = 100000 := rfl; have B_162 := IX_b I; omega) (by have FUe : FU = 100000 := rfl; have B_163 := IX_b I; omega) (by have FUe : FU = 100000 := rfl; have B_164 := IX_b I; omega) (by have FUe : FU = 100000 := rfl; have B_165 := IX_b I; omega) (by have FUe : FU = 100000 := rfl; have B_166 := IX_b I; omega) (by have FUe : FU = 100000 := rfl; have B_167 := IX_b I; omega) (by have FUe : FU = 100000 := rfl; have B_168 := IX_b I; omega) (by have FUe : FU = 100000 := rfl; have B_169 := IX_b I; omega) (by have FUe : FU = 100000 := rfl; have B_170 := IX_b I; omega) (by have FUe : FU = 100000 := rfl; have B_171 := IX_b I; omega) (by have FUe : FU = 100000 := rfl; have B_172 := IX_b I; omega)) (fun u_174 z_173 => ?_)
              obtain ⟨I_u_174, G_u_174, p_175, p_176, p_177⟩ := z_173
              have F_u_174 := Kf_tr (Kf_rfl u) G_u_174
              have g_178 : (u_174.1 0).toInt = (u.1 0).toInt := by rw [G_u_174.1 0 (by decide) (by decide)]
              exact ⟨I_u_174, F_u_174, (by have B_179 := IX_b I; have B_180 := IX_b I_u_174; omega), (by have B_181 := IX_b I; have B_182 := IX_b I_u_174; omega), (by have B_183 := IX_b I; have B_184 := IX_b I_u_174; omega)⟩
            · try have e_187 : (x3 + 1 : Int32).toInt = (x3 : Int32).toInt + (1 : Int32).toInt := by have B_188 := IX_b I; exact add_i (by omega) (by omega)
              refine ok_seq (fun y_186 h_185 => ?_)
              have h_185' : y_186.toInt = (x3 + 1 : Int32).toInt := by rw [h_185]
              refine ok_mono (ih I (by have B_189 := IX_b I; omega) (by have B_190 := IX_b I; omega) (by have B_191 := IX_b I; omega) (by have B_192 := IX_b I; omega) (by have B_193 := IX_b I; omega) (by have B_194 := IX_b I; omega) (by have B_195 := IX_b I; omega) (by have B_196 := IX_b I; omega) (by have B_197 := IX_b I; omega) (by have B_198 := IX_b I; omega) (by have B_199 := IX_b I; omega) (by have B_200 := IX_b I; omega) (by have B_201 := IX_b I; omega) (by have B_202 := IX_b I; omega) (by have B_203 := IX_b I; omega)) (fun u_205 z_204 => ?_)
              obtain ⟨I_u_205, G_u_205, p_206, p_207, p_208⟩ := z_204
              have F_u_205 := Kf_tr (Kf_rfl u) G_u_205
              have g_209 : (u_205.1 0).toInt = (u.1 0).toInt := by rw [G_u_205.1 0 (by decide) (by decide)]
              exact ⟨I_u_205, F_u_205, (by have B_210 := IX_b I; have B_211 := IX_b I_u_205; omega), (by have B_212 := IX_b I; have B_213 := IX_b I_u_205; omega), (by have B_214 := IX_b I; have B_215 := IX_b I_u_205; omega)⟩
          · refine ok_mono (kN_SqlReaderModel_cut_J159 hq I (by have FUe : FU = 100000 := rfl; have B_216 := IX_b I; omega) (by have FUe : FU = 100000 := rfl; have B_217 := IX_b I; omega) (by have FUe : FU = 100000 := rfl; have B_218 := IX_b I; omega) (by have FUe : FU = 100000 := rfl; have B_219 := IX_b I; omega) (by have FUe : FU = 100000 := rfl; have B_220 := IX_b I; omega) (by have FUe : FU = 100000 := rfl; have B_221 := IX_b I; omega) (by have FUe : FU = 100000 := rfl; have B_222 := IX_b I; omega) (by have FUe : FU = 100000 := rfl; have B_223 := IX_b I; omega) (by have FUe : FU = 100000 := rfl; have B_224 := IX_b I; omega) (by have FUe : FU = 100000 := rfl; have B_225 := IX_b I; omega) (by have FUe : FU = 100000 := rfl; have B_226 := IX_b I; omega) (by have FUe : FU = 100000 := rfl; have B_227 := IX_b I; omega) (by have FUe : FU = 100000 := rfl; have B_228 := IX_b I; omega) (by have FUe : FU = 100000 := rfl; have B_229 := IX_b I; omega)) (fun u_231 z_230 => ?_)
            obtain ⟨I_u_231, G_u_231, p_232, p_233, p_234⟩ := z_230
            have F_u_231 := Kf_tr (Kf_rfl u) G_u_231
            have g_235 : (u_231.1 0).toInt = (u.1 0).toInt := by rw [G_u_231.1 0 (by decide) (by decide)]
            exact ⟨I_u_231, F_u_231, (by have B_236 := IX_b I; have B_237 := IX_b I_u_231; omega), (by have B_238 := IX_b I; have B_239 := IX_b I_u_231; omega), (by have B_240 := IX_b I; have B_241 := IX_b I_u_231; omega)⟩
      · try have e_244 : (x3 + 1 : Int32).toInt = (x3 : Int32).toInt + (1 : Int32).toInt := by have B_245 := IX_b I; exact add_i (by omega) (by omega)
        refine ok_seq (fun y_243 h_242 => ?_)
        have h_242' : y_243.toInt = (x3 + 1 : Int32).toInt := by rw [h_242]
        refine ok_mono (ih I (by have B_246 := IX_b I; omega) (by have B_247 := IX_b I; omega) (by have B_248 := IX_b I; omega) (by have B_249 := IX_b I; omega) (by have B_250 := IX_b I; omega) (by have B_251 := IX_b I; omega) (by have B_252 := IX_b I; omega) (by have B_253 := IX_b I; omega) (by have B_254 := IX_b I; omega) (by have B_255 := IX_b I; omega) (by have B_256 := IX_b I; omega) (by have B_257 := IX_b I; omega) (by have B_258 := IX_b I; omega) (by have B_259 := IX_b I; omega) (by have B_260 := IX_b I; omega)) (fun u_262 z_261 => ?_)
        obtain ⟨I_u_262, G_u_262, p_263, p_264, p_265⟩ := z_261
        have F_u_262 := Kf_tr (Kf_rfl u) G_u_262
        have g_266 : (u_262.1 0).toInt = (u.1 0).toInt := by rw [G_u_262.1 0 (by decide) (by decide)]
        exact ⟨I_u_262, F_u_262, (by have B_267 := IX_b I; have B_268 := IX_b I_u_262; omega), (by have B_269 := IX_b I; have B_270 := IX_b I_u_262; omega), (by have B_271 := IX_b I; have B_272 := IX_b I_u_262; omega)⟩
    · rw [mM_SqlReaderModel_cut_J119]
      refine ok_eq (fun c_273 c_273' => ?_) (fun c_273 => ?_)
      · refine ok_bP (kM_SqlReaderModel_at (IX_IB I) (by have FUe : FU = 100000 := rfl; have B_275 := IX_b I; omega)) (fun r_276 z_274 => ?_)
        have p_277 := z_274
        refine ok_bP (kM_SqlReaderModel_isInName (IX_IB I)) (fun r_279 z_278 => ?_)
        obtain ⟨p_280, p_281, p_282⟩ := z_278
        refine ok_eq (fun c_283 c_283' => ?_) (fun c_283 => ?_)
        · rw [mM_SqlReaderModel_cut_J136]
          refine ok_eq (fun c_284 c_284' => ?_) (fun c_284 => ?_)
          · refine ok_bP (kM_SqlReaderModel_at (IX_IB I) (by have FUe : FU = 100000 := rfl; have B_286 := IX_b I; omega)) (fun r_287 z_285 => ?_)
            have p_288 := z_285
            refine ok_bP (kM_SqlReaderModel_isDigit (IX_IB I)) (fun r_290 z_289 => ?_)
            obtain ⟨p_291, p_292, p_293⟩ := z_289
            refine ok_eq (fun c_294 c_294' => ?_) (fun c_294 => ?_)
            · refine ok_mono (kN_SqlReaderModel_cut_J159 hq I (by have FUe : FU = 100000 := rfl; have B_295 := IX_b I; omega) (by have FUe : FU = 100000 := rfl; have B_296 := IX_b I; omega) (by have FUe : FU = 100000 := rfl; have B_297 := IX_b I; omega) (by have FUe : FU = 100000 := rfl; have B_298 := IX_b I; omega) (by have FUe : FU = 100000 := rfl; have B_299 := IX_b I; omega) (by have FUe : FU = 100000 := rfl; have B_300 := IX_b I; omega) (by have FUe : FU = 100000 := rfl; have B_301 := IX_b I; omega) (by have FUe : FU = 100000 := rfl; have B_302 := IX_b I; omega) (by have FUe : FU = 100000 := rfl; have B_303 := IX_b I; omega) (by have FUe : FU = 100000 := rfl; have B_304 := IX_b I; omega) (by have FUe : FU = 100000 := rfl; have B_305 := IX_b I; omega) (by have FUe : FU = 100000 := rfl; have B_306 := IX_b I; omega) (by have FUe : FU = 100000 := rfl; have B_307 := IX_b I; omega) (by have FUe : FU = 100000 := rfl; have B_308 := IX_b I; omega)) (fun u_310 z_309 => ?_)
              obtain ⟨I_u_310, G_u_310, p_311, p_312, p_313⟩ := z_309
              have F_u_310 := Kf_tr (Kf_rfl u) G_u_310
              have g_314 : (u_310.1 0).toInt = (u.1 0).toInt := by rw [G_u_310.1 0 (by decide) (by decide)]
              exact ⟨I_u_310, F_u_310, (by have B_315 := IX_b I; have B_316 := IX_b I_u_310; omega), (by have B_317 := IX_b I; have B_318 := IX_b I_u_310; omega), (by have B_319 := IX_b I; have B_320 := IX_b I_u_310; omega)⟩
            · try have e_323 : (x3 + 1 : Int32).toInt = (x3 : Int32).toInt + (1 : Int32).toInt := by have B_324 := IX_b I; exact add_i (by omega) (by omega)
              refine ok_seq (fun y_322 h_321 => ?_)
              have h_321' : y_322.toInt = (x3 + 1 : Int32).toInt := by rw [h_321]
              refine ok_mono (ih I (by have B_325 := IX_b I; omega) (by have B_326 := IX_b I; omega) (by have B_327 := IX_b I; omega) (by have B_328 := IX_b I; omega) (by have B_329 := IX_b I; omega) (by have B_330 := IX_b I; omega) (by have B_331 := IX_b I; omega) (by have B_332 := IX_b I; omega) (by have B_333 := IX_b I; omega) (by have B_334 := IX_b I; omega) (by have B_335 := IX_b I; omega) (by have B_336 := IX_b I; omega) (by have B_337 := IX_b I; omega) (by have B_338 := IX_b I; omega) (by have B_339 := IX_b I; omega)) (fun u_341 z_340 => ?_)
              obtain ⟨I_u_341, G_u_341, p_342, p_343, p_344⟩ := z_340
              have F_u_341 := Kf_tr (Kf_rfl u) G_u_341
              have g_345 : (u_341.1 0).toInt = (u.1 0).toInt := by rw [G_u_341.1 0 (by decide) (by decide)]
              exact ⟨I_u_341, F_u_341, (by have B_346 := IX_b I; have B_347 := IX_b I_u_341; omega), (by have B_348 := IX_b I; have B_349 := IX_b I_u_341; omega), (by have B_350 := IX_b I; have B_351 := IX_b I_u_341; omega)⟩
          · refine ok_mono (kN_SqlReaderModel_cut_J159 hq I (by have FUe : FU = 100000 := rfl; have B_352 := IX_b I; omega) (by have FUe : FU = 100000 := rfl; have B_353 := IX_b I; omega) (by have FUe : FU = 100000 := rfl; have B_354 := IX_b I; omega) (by have FUe : FU = 100000 := rfl; have B_355 := IX_b I; omega) (by have FUe : FU = 100000 := rfl; have B_356 := IX_b I; omega) (by have FUe : FU = 100000 := rfl; have B_357 := IX_b I; omega) (by have FUe : FU = 100000 := rfl; have B_358 := IX_b I; omega) (by have FUe : FU = 100000 := rfl; have B_359 := IX_b I; omega) (by have FUe : FU = 100000 := rfl; have B_360 := IX_b I; omega) (by have FUe : FU = 100000 := rfl; have B_361 := IX_b I; omega) (by have FUe : FU = 100000 := rfl; have B_362 := IX_b I; omega) (by have FUe : FU = 100000 := rfl; have B_363 := IX_b I; omega) (by have FUe : FU = 100000 := rfl; have B_364 := IX_b I; omega) (by have FUe : FU = 100000 := rfl; have B_365 := IX_b I; omega)) (fun u_367 z_366 => ?_)
            obtain ⟨I_u_367, G_u_367, p_368, p_369, p_370⟩ := z_366
            have F_u_367 := Kf_tr (Kf_rfl u) G_u_367
            have g_371 : (u_367.1 0).toInt = (u.1 0).toInt := by rw [G_u_367.1 0 (by decide) (by decide)]
            exact ⟨I_u_367, F_u_367, (by have B_372 := IX_b I; have B_373 := IX_b I_u_367; omega), (by have B_374 := IX_b I; have B_375 := IX_b I_u_367; omega), (by have B_376 := IX_b I; have B_377 := IX_b I_u_367; omega)⟩
        · try have e_380 : (x3 + 1 : Int32).toInt = (x3 : Int32).toInt + (1 : Int32).toInt := by have B_381 := IX_b I; exact add_i (by omega) (by omega)
          refine ok_seq (fun y_379 h_378 => ?_)
          have h_378' : y_379.toInt = (x3 + 1 : Int32).toInt := by rw [h_378]
          refine ok_mono (ih I (by have B_382 := IX_b I; omega) (by have B_383 := IX_b I; omega) (by have B_384 := IX_b I; omega) (by have B_385 := IX_b I; omega) (by have B_386 := IX_b I; omega) (by have B_387 := IX_b I; omega) (by have B_388 := IX_b I; omega) (by have B_389 := IX_b I; omega) (by have B_390 := IX_b I; omega) (by have B_391 := IX_b I; omega) (by have B_392 := IX_b I; omega) (by have B_393 := IX_b I; omega) (by have B_394 := IX_b I; omega) (by have B_395 := IX_b I; omega) (by have B_396 := IX_b I; omega)) (fun u_398 z_397 => ?_)
          obtain ⟨I_u_398, G_u_398, p_399, p_400, p_401⟩ := z_397
          have F_u_398 := Kf_tr (Kf_rfl u) G_u_398
          have g_402 : (u_398.1 0).toInt = (u.1 0).toInt := by rw [G_u_398.1 0 (by decide) (by decide)]
          exact ⟨I_u_398, F_u_398, (by have B_403 := IX_b I; have B_404 := IX_b I_u_398; omega), (by have B_405 := IX_b I; have B_406 := IX_b I_u_398; omega), (by have B_407 := IX_b I; have B_408 := IX_b I_u_398; omega)⟩
      · rw [mM_SqlReaderModel_cut_J136]
        refine ok_eq (fun c_409 c_409' => ?_) (fun c_409 => ?_)
        · refine ok_bP (kM_SqlReaderModel_at (IX_IB I) (by have FUe : FU = 100000 := rfl; have B_411 := IX_b I; omega)) (fun r_412 z_410 => ?_)
          have p_413 := z_410
          refine ok_bP (kM_SqlReaderModel_isDigit (IX_IB I)) (fun r_415 z_414 => ?_)
          obtain ⟨p_416, p_417, p_418⟩ := z_414
          refine ok_eq (fun c_419 c_419' => ?_) (fun c_419 => ?_)
          · refine ok_mono (kN_SqlReaderModel_cut_J159 hq I (by have FUe : FU = 100000 := rfl; have B_420 := IX_b I; omega) (by have FUe : FU = 100000 := rfl; have B_421 := IX_b I; omega) (by have FUe : FU = 100000 := rfl; have B_422 := IX_b I; omega) (by have FUe : FU = 100000 := rfl; have B_423 := IX_b I; omega) (by have FUe : FU = 100000 := rfl; have B_424 := IX_b I; omega) (by have FUe : FU = 100000 := rfl; have B_425 := IX_b I; omega) (by have FUe : FU = 100000 := rfl; have B_426 := IX_b I; omega) (by have FUe : FU = 100000 := rfl; have B_427 := IX_b I; omega) (by have FUe : FU = 100000 := rfl; have B_428 := IX_b I; omega) (by have FUe : FU = 100000 := rfl; have B_429 := IX_b I; omega) (by have FUe : FU = 100000 := rfl; have B_430 := IX_b I; omega) (by have FUe : FU = 100000 := rfl; have B_431 := IX_b I; omega) (by have FUe : FU = 100000 := rfl; have B_432 := IX_b I; omega) (by have FUe : FU = 100000 := rfl; have B_433 := IX_b I; omega)) (fun u_435 z_434 => ?_)
            obtain ⟨I_u_435, G_u_435, p_436, p_437, p_438⟩ := z_434
            have F_u_435 := Kf_tr (Kf_rfl u) G_u_435
            have g_439 : (u_435.1 0).toInt = (u.1 0).toInt := by rw [G_u_435.1 0 (by decide) (by decide)]
            exact ⟨I_u_435, F_u_435, (by have B_440 := IX_b I; have B_441 := IX_b I_u_435; omega), (by have B_442 := IX_b I; have B_443 := IX_b I_u_435; omega), (by have B_444 := IX_b I; have B_445 := IX_b I_u_435; omega)⟩
          · try have e_448 : (x3 + 1 : Int32).toInt = (x3 : Int32).toInt + (1 : Int32).toInt := by have B_449 := IX_b I; exact add_i (by omega) (by omega)
            refine ok_seq (fun y_447 h_446 => ?_)
            have h_446' : y_447.toInt = (x3 + 1 : Int32).toInt := by rw [h_446]
            refine ok_mono (ih I (by have B_450 := IX_b I; omega) (by have B_451 := IX_b I; omega) (by have B_452 := IX_b I; omega) (by have B_453 := IX_b I; omega) (by have B_454 := IX_b I; omega) (by have B_455 := IX_b I; omega) (by have B_456 := IX_b I; omega) (by have B_457 := IX_b I; omega) (by have B_458 := IX_b I; omega) (by have B_459 := IX_b I; omega) (by have B_460 := IX_b I; omega) (by have B_461 := IX_b I; omega) (by have B_462 := IX_b I; omega) (by have B_463 := IX_b I; omega) (by have B_464 := IX_b I; omega)) (fun u_466 z_465 => ?_)
            obtain ⟨I_u_466, G_u_466, p_467, p_468, p_469⟩ := z_465
            have F_u_466 := Kf_tr (Kf_rfl u) G_u_466
            have g_470 : (u_466.1 0).toInt = (u.1 0).toInt := by rw [G_u_466.1 0 (by decide) (by decide)]
            exact ⟨I_u_466, F_u_466, (by have B_471 := IX_b I; have B_472 := IX_b I_u_466; omega), (by have B_473 := IX_b I; have B_474 := IX_b I_u_466; omega), (by have B_475 := IX_b I; have B_476 := IX_b I_u_466; omega)⟩
        · refine ok_mono (kN_SqlReaderModel_cut_J159 hq I (by have FUe : FU = 100000 := rfl; have B_477 := IX_b I; omega) (by have FUe : FU = 100000 := rfl; have B_478 := IX_b I; omega) (by have FUe : FU = 100000 := rfl; have B_479 := IX_b I; omega) (by have FUe : FU = 100000 := rfl; have B_480 := IX_b I; omega) (by have FUe : FU = 100000 := rfl; have B_481 := IX_b I; omega) (by have FUe : FU = 100000 := rfl; have B_482 := IX_b I; omega) (by have FUe : FU = 100000 := rfl; have B_483 := IX_b I; omega) (by have FUe : FU = 100000 := rfl; have B_484 := IX_b I; omega) (by have FUe : FU = 100000 := rfl; have B_485 := IX_b I; omega) (by have FUe : FU = 100000 := rfl; have B_486 := IX_b I; omega) (by have FUe : FU = 100000 := rfl; have B_487 := IX_b I; omega) (by have FUe : FU = 100000 := rfl; have B_488 := IX_b I; omega) (by have FUe : FU = 100000 := rfl; have B_489 := IX_b I; omega) (by have FUe : FU = 100000 := rfl; have B_490 := IX_b I; omega)) (fun u_492 z_491 => ?_)
          obtain ⟨I_u_492, G_u_492, p_493, p_494, p_495⟩ := z_491
          have F_u_492 := Kf_tr (Kf_rfl u) G_u_492
          have g_496 : (u_492.1 0).toInt = (u.1 0).toInt := by rw [G_u_492.1 0 (by decide) (by decide)]
          exact ⟨I_u_492, F_u_492, (by have B_497 := IX_b I; have B_498 := IX_b I_u_492; omega), (by have B_499 := IX_b I; have B_500 := IX_b I_u_492; omega), (by have B_501 := IX_b I; have B_502 := IX_b I_u_492; omega)⟩
set_option maxHeartbeats 8000000 in
theorem kN_SqlReaderModel_cut_L12 : ∀ (n : Nat) {x1 : Int32} {u : St} (I : IX u) (h0 : (u.1 2).toInt = 1 ∨ (0 ≤ x1.toInt ∧ x1.toInt ≤ 2000 ∧ (u.1 1).toInt ≤ x1.toInt)) (hm : (2003 - x1.toInt - 5000 * (u.1 2).toInt).toNat < n), ok (mM_SqlReaderModel_cut_L12 n x1 u) (fun v => IX v ∧ Kf u v ∧ (u.1 1).toInt ≤ (v.1 1).toInt ∧ ((u.1 1).toInt ≤ 0 ∨ ((ga v 1 0).toInt = (ga u 1 0).toInt ∧ (ga v 2 0).toInt = (ga u 2 0).toInt ∧ (ga v 3 0).toInt = (ga u 3 0).toInt)) ∧ (x1.toInt < 1 ∨ 1 ≤ (u.1 1).toInt ∨ (v.1 1).toInt ≤ 0 ∨ 1 ≤ (ga v 2 0).toInt)) := by
  intro n
  induction n with
  | zero => intro x1 u I h0 hm; exact absurd hm (Nat.not_lt_zero _)
  | succ n ih =>
    intro x1 u I h0 hm
    have l0 : (0 : Int32).toInt = 0 := by decide
    have l1 : (1 : Int32).toInt = 1 := by decide
    have l2 : (2 : Int32).toInt = 2 := by decide
    have l3 : (3 : Int32).toInt = 3 := by decide
    have l4 : (4 : Int32).toInt = 4 := by decide
    have l5 : (5 : Int32).toInt = 5 := by decide
    have l6 : (6 : Int32).toInt = 6 := by decide
    have l32 : (32 : Int32).toInt = 32 := by decide
    have l36 : (36 : Int32).toInt = 36 := by decide
    have l39 : (39 : Int32).toInt = 39 := by decide
    have l2000 : (2000 : Int32).toInt = 2000 := by decide
    have l2003 : (2003 : Int32).toInt = 2003 := by decide
    have l5000 : (5000 : Int32).toInt = 5000 := by decide
    rw [mM_SqlReaderModel_cut_L12]
    refine ok_le (fun c_1 => ?_) (fun c_1 => ?_)
    · exact ok_some ⟨I, (Kf_rfl u), (by have B_2 := IX_b I; omega), (by have B_3 := IX_b I; omega), (by have B_4 := IX_b I; omega)⟩
    · refine ok_eq (fun c_5 c_5' => ?_) (fun c_5 => ?_)
      · refine ok_gd (inb_of (by have B_6 := IX_b I; omega) (by have B_7 := IX_b I; omega)) ?_
        refine ok_seq (fun y_9 h_8 => ?_)
        have h_8' : y_9.toInt = ((ga u 0 x1) : Int32).toInt := by rw [h_8]
        try have e_12 : (x1 + 1 : Int32).toInt = (x1 : Int32).toInt + (1 : Int32).toInt := by have B_13 := IX_b I; exact add_i (by omega) (by omega)
        refine ok_seq (fun y_11 h_10 => ?_)
        have h_10' : y_11.toInt = ((x1 + 1) : Int32).toInt := by rw [h_10]
        refine ok_eq (fun c_14 c_14' => ?_) (fun c_14 => ?_)
        · try have e_17 : (x1 + 1 : Int32).toInt = (x1 : Int32).toInt + (1 : Int32).toInt := by have B_18 := IX_b I; exact add_i (by omega) (by omega)
          refine ok_seq (fun y_16 h_15 => ?_)
          have h_15' : y_16.toInt = (x1 + 1 : Int32).toInt := by rw [h_15]
          refine ok_mono (ih I (by have B_19 := IX_b I; omega) (by have B_20 := IX_b I; omega)) (fun u_22 z_21 => ?_)
          obtain ⟨I_u_22, G_u_22, p_23, p_24, p_25⟩ := z_21
          have F_u_22 := Kf_tr (Kf_rfl u) G_u_22
          have g_26 : (u_22.1 0).toInt = (u.1 0).toInt := by rw [G_u_22.1 0 (by decide) (by decide)]
          exact ⟨I_u_22, F_u_22, (by have B_27 := IX_b I; have B_28 := IX_b I_u_22; omega), (by have B_29 := IX_b I; have B_30 := IX_b I_u_22; omega), (by have B_31 := IX_b I; have B_32 := IX_b I_u_22; omega)⟩
        · refine ok_eq (fun c_33 c_33' => ?_) (fun c_33 => ?_)
          · refine ok_bM (kN_SqlReaderModel_cutText I (by have FUe : FU = 100000 := rfl; have B_35 := IX_b I; omega) (by have FUe : FU = 100000 := rfl; have B_36 := IX_b I; omega) (by have FUe : FU = 100000 := rfl; have B_37 := IX_b I; omega) (by have FUe : FU = 100000 := rfl; have B_38 := IX_b I; omega)) (fun r_39 u_40 z_34 => ?_)
            obtain ⟨I_u_40, G_u_40, p_41, p_42, p_43, p_44, p_45⟩ := z_34
            have F_u_40 := Kf_tr (Kf_rfl u) G_u_40
            have g_46 : (u_40.1 0).toInt = (u.1 0).toInt := by rw [G_u_40.1 0 (by decide) (by decide)]
            refine ok_mono (ih I_u_40 (by have B_47 := IX_b I_u_40; omega) (by have B_48 := IX_b I_u_40; omega)) (fun u_50 z_49 => ?_)
            obtain ⟨I_u_50, G_u_50, p_51, p_52, p_53⟩ := z_49
            have F_u_50 := Kf_tr F_u_40 G_u_50
            have g_54 : (u_50.1 0).toInt = (u_40.1 0).toInt := by rw [G_u_50.1 0 (by decide) (by decide)]
            exact ⟨I_u_50, F_u_50, (by have B_55 := IX_b I; have B_56 := IX_b I_u_50; omega), (by have B_57 := IX_b I; have B_58 := IX_b I_u_50; omega), (by have B_59 := IX_b I; have B_60 := IX_b I_u_50; omega)⟩
          · refine ok_bP (kM_SqlReaderModel_isCapital (IX_IB I)) (fun r_62 z_61 => ?_)
            obtain ⟨p_63, p_64, p_65⟩ := z_61
            refine ok_eq (fun c_66 c_66' => ?_) (fun c_66 => ?_)
            · refine ok_bP (kM_SqlReaderModel_isSmall (IX_IB I)) (fun r_68 z_67 => ?_)
              obtain ⟨p_69, p_70, p_71⟩ := z_67
              refine ok_eq (fun c_72 c_72' => ?_) (fun c_72 => ?_)
              · refine ok_bP (kM_SqlReaderModel_isDigit (IX_IB I)) (fun r_74 z_73 => ?_)
                obtain ⟨p_75, p_76, p_77⟩ := z_73
                refine ok_eq (fun c_78 c_78' => ?_) (fun c_78 => ?_)
                · refine ok_mono (kN_SqlReaderModel_cut_L102 ih _ I (by have FUe : FU = 100000 := rfl; have B_79 := IX_b I; omega) (by have FUe : FU = 100000 := rfl; have B_80 := IX_b I; omega) (by have FUe : FU = 100000 := rfl; have B_81 := IX_b I; omega) (by have FUe : FU = 100000 := rfl; have B_82 := IX_b I; omega) (by have FUe : FU = 100000 := rfl; have B_83 := IX_b I; omega) (by have FUe : FU = 100000 := rfl; have B_84 := IX_b I; omega) (by have FUe : FU = 100000 := rfl; have B_85 := IX_b I; omega) (by have FUe : FU = 100000 := rfl; have B_86 := IX_b I; omega) (by have FUe : FU = 100000 := rfl; have B_87 := IX_b I; omega) (by have FUe : FU = 100000 := rfl; have B_88 := IX_b I; omega) (by have FUe : FU = 100000 := rfl; have B_89 := IX_b I; omega) (by have FUe : FU = 100000 := rfl; have B_90 := IX_b I; omega) (by have FUe : FU = 100000 := rfl; have B_91 := IX_b I; omega) (by have FUe : FU = 100000 := rfl; have B_92 := IX_b I; omega) (by have FUe : FU = 100000 := rfl; have B_93 := IX_b I; omega)) (fun u_95 z_94 => ?_)
                  obtain ⟨I_u_95, G_u_95, p_96, p_97, p_98⟩ := z_94
                  have F_u_95 := Kf_tr (Kf_rfl u) G_u_95
                  have g_99 : (u_95.1 0).toInt = (u.1 0).toInt := by rw [G_u_95.1 0 (by decide) (by decide)]
                  exact ⟨I_u_95, F_u_95, (by have B_100 := IX_b I; have B_101 := IX_b I_u_95; omega), (by have B_102 := IX_b I; have B_103 := IX_b I_u_95; omega), (by have B_104 := IX_b I; have B_105 := IX_b I_u_95; omega)⟩
                · refine ok_mono (kN_SqlReaderModel_cut_L102 ih _ I (by have FUe : FU = 100000 := rfl; have B_106 := IX_b I; omega) (by have FUe : FU = 100000 := rfl; have B_107 := IX_b I; omega) (by have FUe : FU = 100000 := rfl; have B_108 := IX_b I; omega) (by have FUe : FU = 100000 := rfl; have B_109 := IX_b I; omega) (by have FUe : FU = 100000 := rfl; have B_110 := IX_b I; omega) (by have FUe : FU = 100000 := rfl; have B_111 := IX_b I; omega) (by have FUe : FU = 100000 := rfl; have B_112 := IX_b I; omega) (by have FUe : FU = 100000 := rfl; have B_113 := IX_b I; omega) (by have FUe : FU = 100000 := rfl; have B_114 := IX_b I; omega) (by have FUe : FU = 100000 := rfl; have B_115 := IX_b I; omega) (by have FUe : FU = 100000 := rfl; have B_116 := IX_b I; omega) (by have FUe : FU = 100000 := rfl; have B_117 := IX_b I; omega) (by have FUe : FU = 100000 := rfl; have B_118 := IX_b I; omega) (by have FUe : FU = 100000 := rfl; have B_119 := IX_b I; omega) (by have FUe : FU = 100000 := rfl; have B_120 := IX_b I; omega)) (fun u_122 z_121 => ?_)
                  obtain ⟨I_u_122, G_u_122, p_123, p_124, p_125⟩ := z_121
                  have F_u_122 := Kf_tr (Kf_rfl u) G_u_122
                  have g_126 : (u_122.1 0).toInt = (u.1 0).toInt := by rw [G_u_122.1 0 (by decide) (by decide)]
                  exact ⟨I_u_122, F_u_122, (by have B_127 := IX_b I; have B_128 := IX_b I_u_122; omega), (by have B_129 := IX_b I; have B_130 := IX_b I_u_122; omega), (by have B_131 := IX_b I; have B_132 := IX_b I_u_122; omega)⟩
              · refine ok_mono (kN_SqlReaderModel_cut_L102 ih _ I (by have FUe : FU = 100000 := rfl; have B_133 := IX_b I; omega) (by have FUe : FU = 100000 := rfl; have B_134 := IX_b I; omega) (by have FUe : FU = 100000 := rfl; have B_135 := IX_b I; omega) (by have FUe : FU = 100000 := rfl; have B_136 := IX_b I; omega) (by have FUe : FU = 100000 := rfl; have B_137 := IX_b I; omega) (by have FUe : FU = 100000 := rfl; have B_138 := IX_b I; omega) (by have FUe : FU = 100000 := rfl; have B_139 := IX_b I; omega) (by have FUe : FU = 100000 := rfl; have B_140 := IX_b I; omega) (by have FUe : FU = 100000 := rfl; have B_141 := IX_b I; omega) (by have FUe : FU = 100000 := rfl; have B_142 := IX_b I; omega) (by have FUe : FU = 100000 := rfl; have B_143 := IX_b I; omega) (by have FUe : FU = 100000 := rfl; have B_144 := IX_b I; omega) (by have FUe : FU = 100000 := rfl; have B_145 := IX_b I; omega) (by have FUe : FU = 100000 := rfl; have B_146 := IX_b I; omega) (by have FUe : FU = 100000 := rfl; have B_147 := IX_b I; omega)) (fun u_149 z_148 => ?_)
                obtain ⟨I_u_149, G_u_149, p_150, p_151, p_152⟩ := z_148
                have F_u_149 := Kf_tr (Kf_rfl u) G_u_149
                have g_153 : (u_149.1 0).toInt = (u.1 0).toInt := by rw [G_u_149.1 0 (by decide) (by decide)]
                exact ⟨I_u_149, F_u_149, (by have B_154 := IX_b I; have B_155 := IX_b I_u_149; omega), (by have B_156 := IX_b I; have B_157 := IX_b I_u_149; omega), (by have B_158 := IX_b I; have B_159 := IX_b I_u_149; omega)⟩
            · refine ok_mono (kN_SqlReaderModel_cut_L102 ih _ I (by have FUe : FU = 100000 := rfl; have B_160 := IX_b I; omega) (by have FUe : FU = 100000 := rfl; have B_161 := IX_b I; omega) (by have FUe : FU = 100000 := rfl; have B_162 := IX_b I; omega) (by have FUe : FU = 100000 := rfl; have B_163 := IX_b I; omega) (by have FUe : FU = 100000 := rfl; have B_164 := IX_b I; omega) (by have FUe : FU = 100000 := rfl; have B_165 := IX_b I; omega) (by have FUe : FU = 100000 := rfl; have B_166 := IX_b I; omega) (by have FUe : FU = 100000 := rfl; have B_167 := IX_b I; omega) (by have FUe : FU = 100000 := rfl; have B_168 := IX_b I; omega) (by have FUe : FU = 100000 := rfl; have B_169 := IX_b I; omega) (by have FUe : FU = 100000 := rfl; have B_170 := IX_b I; omega) (by have FUe : FU = 100000 := rfl; have B_171 := IX_b I; omega) (by have FUe : FU = 100000 := rfl; have B_172 := IX_b I; omega) (by have FUe : FU = 100000 := rfl; have B_173 := IX_b I; omega) (by have FUe : FU = 100000 := rfl; have B_174 := IX_b I; omega)) (fun u_176 z_175 => ?_)
              obtain ⟨I_u_176, G_u_176, p_177, p_178, p_179⟩ := z_175
              have F_u_176 := Kf_tr (Kf_rfl u) G_u_176
              have g_180 : (u_176.1 0).toInt = (u.1 0).toInt := by rw [G_u_176.1 0 (by decide) (by decide)]
              exact ⟨I_u_176, F_u_176, (by have B_181 := IX_b I; have B_182 := IX_b I_u_176; omega), (by have B_183 := IX_b I; have B_184 := IX_b I_u_176; omega), (by have B_185 := IX_b I; have B_186 := IX_b I_u_176; omega)⟩
      · exact ok_some ⟨I, (Kf_rfl u), (by have B_187 := IX_b I; omega), (by have B_188 := IX_b I; omega), (by have B_189 := IX_b I; omega)⟩
