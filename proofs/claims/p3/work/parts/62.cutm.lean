/-! CUTTING -/
theorem ga_nx {u : St} {k : Nat} {x y : Int32} (h0 : 0 ≤ x.toInt) (h1 : x.toInt < 2000) : y.toInt ≠ x.toInt + 1 ∨ (ga u k y).toInt = (ga u k (x + 1)).toInt := by
  have l1 : (1 : Int32).toInt = 1 := by decide
  have e : (x + 1 : Int32).toInt = x.toInt + (1 : Int32).toInt := add_i (by omega) (by omega)
  by_cases h : y.toInt = x.toInt + 1
  · refine Or.inr ?_
    rw [show y = x + 1 from Int32.toInt_inj.mp (by omega)]
  · exact Or.inl h
def tokS (u : St) (k b e : Int32) : St := ss (sa (sa (sa u 1 (u.1 1) k) 2 (u.1 1) b) 3 (u.1 1) e) 1 (u.1 1 + 1)
theorem kM_SqlReaderModel_token {x1 x2 x3 : Int32} {u : St} (h0 : 0 ≤ (u.1 1).toInt) (h1 : (u.1 1).toInt ≤ 2000) : ok (mM_SqlReaderModel_token x1 x2 x3 u) (fun v => v = tokS u x1 x2 x3) := by
  have g : inb (u.1 1) 2001 = true := inb_of (by omega) (by omega)
  rw [mM_SqlReaderModel_token]
  refine ok_gd g (ok_seq (fun u1 e1 => ?_))
  subst e1
  refine ok_gd g (ok_seq (fun u2 e2 => ?_))
  subst e2
  refine ok_gd g (ok_seq (fun u3 e3 => ok_seq (fun u4 e4 => ok_some ?_)))
  subst e3
  subst e4
  rfl
theorem IX_tokS {u : St} {k b e : Int32} (I : IX u) (ht : (u.1 1).toInt ≤ 1999) (hw : (k.toInt ≠ 1 ∧ k.toInt ≠ 6) ∨ (0 ≤ b.toInt ∧ b.toInt ≤ 2000 ∧ -1 ≤ e.toInt ∧ e.toInt ≤ 2000)) (hk : (u.1 2).toInt = 0 → TKv (u.2.1 0) k b e) : IX (tokS u k b e) := by
  have B := IX_b I
  have l1 : (1 : Int32).toInt = 1 := by decide
  have e1 : (u.1 1 + 1 : Int32).toInt = (u.1 1).toInt + (1 : Int32).toInt := add_i (by omega) (by omega)
  have c := cl_of (i := u.1 1) (by omega)
  obtain ⟨ms, ma, tw, tk⟩ := I
  refine ⟨MS_s1 (u := sa (sa (sa u 1 (u.1 1) k) 2 (u.1 1) b) 3 (u.1 1) e) ms (by omega) (by omega), ma, ?_, ?_⟩
  · intro j hj
    have hj' : (j : Int) < (u.1 1 + 1 : Int32).toInt := hj
    show ((upd (u.2.1 1) (u.1 1).toNatClampNeg k j).toInt ≠ 1 ∧ (upd (u.2.1 1) (u.1 1).toNatClampNeg k j).toInt ≠ 6) ∨ (0 ≤ (upd (u.2.1 2) (u.1 1).toNatClampNeg b j).toInt ∧ (upd (u.2.1 2) (u.1 1).toNatClampNeg b j).toInt ≤ 2000 ∧ -1 ≤ (upd (u.2.1 3) (u.1 1).toNatClampNeg e j).toInt ∧ (upd (u.2.1 3) (u.1 1).toNatClampNeg e j).toInt ≤ 2000)
    by_cases h : j = (u.1 1).toNatClampNeg
    · rw [h, pk_us, pk_us, pk_us]; exact hw
    · rw [pk_un h, pk_un h, pk_un h]; exact tw j (by omega)
  · intro hb j hj
    have hj' : (j : Int) < (u.1 1 + 1 : Int32).toInt := hj
    show TKv (u.2.1 0) (upd (u.2.1 1) (u.1 1).toNatClampNeg k j) (upd (u.2.1 2) (u.1 1).toNatClampNeg b j) (upd (u.2.1 3) (u.1 1).toNatClampNeg e j)
    by_cases h : j = (u.1 1).toNatClampNeg
    · rw [h, pk_us, pk_us, pk_us]; exact hk hb
    · rw [pk_un h, pk_un h, pk_un h]; exact tk hb j (by omega)
theorem IX_bad {u : St} {x : Int32} (I : IX u) (h0 : 0 ≤ x.toInt) (h1 : x.toInt ≤ 1) (h2 : (u.1 2).toInt ≤ x.toInt) : IX (ss u 2 x) := by
  have B := IX_b I
  obtain ⟨ms, ma, tw, tk⟩ := I
  refine ⟨MS_s2 ms h0 h1, ma, tw, fun hb => ?_⟩
  have hb' : x.toInt = 0 := hb
  exact tk (by omega)
theorem stp_cnt {f : Nat → Int32} : ∀ {c i e : Nat}, stp f c i e → i + c ≤ e := by
  intro c
  induction c with
  | zero => intro i e h; exact Nat.le_of_eq h
  | succ c ih =>
    intro i e h
    have h1 := ih h.2
    have h2 : i < nx f i := nx_lt
    omega
/-- where cutText stands: a text from x1, x2 letters so far, at x3, open or not -/
def Cst (u : St) (x1 x2 x3 x4 : Int32) : Prop := (u.1 2).toInt = 1 ∨ ((u.1 2).toInt = 0 ∧ x3.toInt ≤ (u.1 0).toInt ∧ ∃ c : Nat, x2.toInt = c ∧ ((x4.toInt = 1 ∧ stp (u.2.1 0) c (x1.toInt.toNat + 1) x3.toInt.toNat) ∨ (x4.toInt = 0 ∧ stp (u.2.1 0) c (x1.toInt.toNat + 1) (x3.toInt.toNat - 1))))
/-- what stays over cutting -/
def Kf (u v : St) : Prop := (∀ j, j ≠ 1 → j ≠ 2 → v.1 j = u.1 j) ∧ (∀ j, j ≠ 1 → j ≠ 2 → j ≠ 3 → v.2.1 j = u.2.1 j) ∧ v.2.2 = u.2.2
theorem Kf_rfl (u : St) : Kf u u := ⟨fun _ _ _ => rfl, fun _ _ _ _ => rfl, rfl⟩
theorem Kf_tr {u v w : St} (h : Kf u v) (g : Kf v w) : Kf u w := ⟨fun j a b => (g.1 j a b).trans (h.1 j a b), fun j a b c => (g.2.1 j a b c).trans (h.2.1 j a b c), g.2.2.trans h.2.2⟩
theorem Kf_bad {u : St} {x : Int32} : Kf u (ss u 2 x) := ⟨fun _ _ b => us_ne b, fun _ _ _ _ => rfl, rfl⟩
theorem Kf_s1 {u : St} {x : Int32} : Kf u (ss u 1 x) := ⟨fun _ a _ => us_ne a, fun _ _ _ _ => rfl, rfl⟩
theorem Kf_tok {u : St} {k b e : Int32} : Kf u (tokS u k b e) := ⟨fun _ a _ => us_ne a, fun j a b c => by
  show us (us (us u.2.1 1 _) 2 _) 3 _ j = _
  rw [us_ne c, us_ne b, us_ne a], rfl⟩
def CtQ (u : St) (x1 : Int32) (r : Int32) (v : St) : Prop := IX v ∧ Kf u v ∧ x1.toInt < r.toInt ∧ ((v.1 2).toInt = 1 ∨ (r.toInt ≤ (u.1 0).toInt ∧ (v.1 1).toInt ≤ r.toInt))
theorem kM_SqlReaderModel_cutText_J135 {x1 x2 x3 x4 : Int32} {u : St} (I : IX u) (h0 : 0 ≤ x1.toInt) (h1 : x1.toInt < 2000) (ht : (u.1 1).toInt ≤ x1.toInt) (h2 : x1.toInt < x3.toInt) (hc : Cst u x1 x2 x3 x4) (h4 : x4.toInt = 0 ∨ (u.1 2).toInt = 1) : okM (mM_SqlReaderModel_cutText_J135 x1 x2 x3 u) (CtQ u x1) := by
  have B := IX_b I
  have l0 : (0 : Int32).toInt = 0 := by decide
  have l1 : (1 : Int32).toInt = 1 := by decide
  have l4 : (4 : Int32).toInt = 4 := by decide
  have l31 : (31 : Int32).toInt = 31 := by decide
  have bd : okM (seq (ss u 2 1) fun u2 => bP (mM_SqlReaderModel_token 4 x1 x3 u2) fun u3 => some (x3, u3)) (CtQ u x1) := by
    refine okM_seq (fun u2 e2 => ?_)
    subst e2
    have I2 := IX_bad (x := 1) I (by omega) (by omega) (by omega)
    refine okM_bP (kM_SqlReaderModel_token (u := ss u 2 1) (show 0 ≤ (u.1 1).toInt by omega) (show (u.1 1).toInt ≤ 2000 by omega)) (fun v hv => ?_)
    subst hv
    refine okM_some ⟨IX_tokS I2 (show (u.1 1).toInt ≤ 1999 by omega) (Or.inl ⟨by omega, by omega⟩) (fun q => ?_), Kf_tr Kf_bad Kf_tok, h2, Or.inl rfl⟩
    have q' : (1 : Int32).toInt = 0 := q
    omega
  rw [mM_SqlReaderModel_cutText_J135]
  refine okM_eq (fun c c' => ?_) (fun c => bd)
  refine okM_le (fun c2 => ?_) (fun c2 => bd)
  refine okM_seq (fun u2 e2 => ?_)
  subst e2
  have I2 := IX_bad (x := 0) I (by omega) (by omega) (by omega)
  refine okM_bP (kM_SqlReaderModel_token (u := ss u 2 0) (show 0 ≤ (u.1 1).toInt by omega) (show (u.1 1).toInt ≤ 2000 by omega)) (fun v hv => ?_)
  subst hv
  have k : x3.toInt ≤ (u.1 0).toInt ∧ ∃ c : Nat, x2.toInt = c ∧ stp (u.2.1 0) c (x1.toInt.toNat + 1) (x3.toInt.toNat - 1) := by
    rcases hc with hc | ⟨_, q, c, ec, hs | hs⟩
    · omega
    · omega
    · exact ⟨q, c, ec, hs.2⟩
  obtain ⟨q, c3, ec, hs⟩ := k
  have e3 : (u.1 1 + 1 : Int32).toInt = (u.1 1).toInt + (1 : Int32).toInt := add_i (by omega) (by omega)
  refine okM_some ⟨IX_tokS I2 (show (u.1 1).toInt ≤ 1999 by omega) (Or.inl ⟨by omega, by omega⟩) (fun _ => ⟨by omega, by omega, by omega, Or.inr ⟨c3, by omega, hs⟩⟩), Kf_tr Kf_bad Kf_tok, h2, Or.inr ⟨q, ?_⟩⟩
  show (u.1 1 + 1 : Int32).toInt ≤ x3.toInt
  omega
theorem kM_SqlReaderModel_cutText_L9 : ∀ (n : Nat) {x1 x2 x3 x4 : Int32} {u : St} (I : IX u) (h0 : 0 ≤ x1.toInt) (h1 : x1.toInt < 2000) (ht : (u.1 1).toInt ≤ x1.toInt) (h2 : x1.toInt < x3.toInt) (h3 : x3.toInt ≤ 2002) (h5 : 0 ≤ x4.toInt) (h6 : x4.toInt ≤ 1) (h7 : 0 ≤ x2.toInt) (h8 : x2.toInt ≤ x3.toInt) (hc : Cst u x1 x2 x3 x4) (hm : (2003 - x3.toInt).toNat < n), okM (mM_SqlReaderModel_cutText_L9 n x1 x2 x3 x4 u) (CtQ u x1) := by
  intro n
  induction n with
  | zero => intro x1 x2 x3 x4 u I h0 h1 ht h2 h3 h5 h6 h7 h8 hc hm; exact absurd hm (Nat.not_lt_zero _)
  | succ n ih =>
    intro x1 x2 x3 x4 u I h0 h1 ht h2 h3 h5 h6 h7 h8 hc hm
    have B := IX_b I
    have l0 : (0 : Int32).toInt = 0 := by decide
    have l1 : (1 : Int32).toInt = 1 := by decide
    have l2 : (2 : Int32).toInt = 2 := by decide
    have l32 : (32 : Int32).toInt = 32 := by decide
    have l126 : (126 : Int32).toInt = 126 := by decide
    have l39 : (39 : Int32).toInt = 39 := by decide
    have e1 : (x3 + 1 : Int32).toInt = x3.toInt + (1 : Int32).toInt := add_i (by omega) (by omega)
    have e2 : (x3 + 2 : Int32).toInt = x3.toInt + (2 : Int32).toInt := add_i (by omega) (by omega)
    have e3 : (x2 + 1 : Int32).toInt = x2.toInt + (1 : Int32).toInt := add_i (by omega) (by omega)
    rw [mM_SqlReaderModel_cutText_L9]
    refine okM_eq (fun c c' => kM_SqlReaderModel_cutText_J135 I h0 h1 ht h2 hc (by omega)) (fun c => ?_)
    refine okM_eq (fun b b' => ?_) (fun b => kM_SqlReaderModel_cutText_J135 I h0 h1 ht h2 hc (by omega))
    have k : x3.toInt ≤ (u.1 0).toInt ∧ ∃ c : Nat, x2.toInt = c ∧ stp (u.2.1 0) c (x1.toInt.toNat + 1) x3.toInt.toNat := by
      rcases hc with hc | ⟨_, q, c, ec, hs | hs⟩
      · omega
      · exact ⟨q, c, ec, hs.2⟩
      · omega
    obtain ⟨q, cn, ec, hs⟩ := k
    have ga3 : (ga u 0 x3) = u.2.1 0 x3.toInt.toNat := by
      have c3 := cl_of (i := x3) (by omega)
      have c4 : x3.toNatClampNeg = x3.toInt.toNat := by omega
      show u.2.1 0 x3.toNatClampNeg = _
      rw [c4]
    -- one turn: bad := s1, x2 or x2 + 1, x3 + 1 or x3 + 2
    have turn : ∀ (op qu : Int32), ((op.toInt = 1 ∧ qu.toInt = 0 ∧ (x3.toInt < (u.1 0).toInt → ga u 0 x3 ≠ 39)) ∨ (op.toInt = 1 ∧ qu.toInt = 1 ∧ x3.toInt + 1 < (u.1 0).toInt ∧ ga u 0 x3 = 39) ∨ (op.toInt = 0 ∧ qu.toInt = 1)) → okM (mM_SqlReaderModel_cutText_J60 (mM_SqlReaderModel_cutText_L9 n) x1 x2 x3 qu op u) (CtQ u x1) := by
      intro op qu hoq
      have fin : ∀ s1 : Int32, (s1.toInt = 1 ∨ (s1.toInt = 0 ∧ x3.toInt < (u.1 0).toInt)) → okM (mM_SqlReaderModel_cutText_J96 (mM_SqlReaderModel_cutText_L9 n) x1 x2 x3 op qu s1 u) (CtQ u x1) := by
        intro s1 hs1
        rw [mM_SqlReaderModel_cutText_J96]
        refine okM_gd (zb_of (by omega) (by omega)) (okM_seq (fun u9 h9 => ?_))
        subst h9
        have I9 := IX_bad (x := s1) I (by omega) (by omega) (by omega)
        have go : ∀ (y z : Int32), ((op.toInt = 1 ∧ y.toInt = x2.toInt + 1 ∧ (qu.toInt = 0 ∧ z.toInt = x3.toInt + 1 ∨ qu.toInt = 1 ∧ z.toInt = x3.toInt + 2)) ∨ (op.toInt = 0 ∧ y.toInt = x2.toInt ∧ z.toInt = x3.toInt + 1)) → okM (mM_SqlReaderModel_cutText_L9 n x1 y z op (ss u 2 s1)) (CtQ u x1) := by
          intro y z hyz
          by_cases hz : z.toInt ≤ 2002
          · refine okM_mono (ih I9 h0 h1 ht (by omega) hz (by omega) (by omega) (by omega) (by omega) ?_ (by omega)) (fun r v hq => ⟨hq.1, Kf_tr Kf_bad hq.2.1, hq.2.2⟩)
            rcases hs1 with hs1 | ⟨hs1, hlt⟩
            · exact Or.inl hs1
            · refine Or.inr ⟨hs1, ?_, ?_⟩
              · show z.toInt ≤ (u.1 0).toInt
                omega
              · rcases hyz with ⟨o1, hy, hz2⟩ | ⟨o1, hy, hz2⟩
                · refine ⟨cn + 1, by omega, Or.inl ⟨o1, ?_⟩⟩
                  have sn := stp_snoc hs
                  have en : nx (u.2.1 0) x3.toInt.toNat = z.toInt.toNat := by
                    unfold nx
                    rcases hoq with ⟨_, q1, hn⟩ | ⟨_, q1, _, hn⟩ | ⟨q0, _⟩
                    · rw [if_neg (by rw [← ga3]; exact hn hlt)]; omega
                    · rw [if_pos (by rw [← ga3]; exact hn)]; omega
                    · omega
                  rw [en] at sn
                  exact sn
                · refine ⟨cn, by omega, Or.inr ⟨o1, ?_⟩⟩
                  have en : z.toInt.toNat - 1 = x3.toInt.toNat := by omega
                  rw [en]
                  exact hs
          · exfalso; omega
        have nxt : ∀ y : Int32, (op.toInt = 1 ∧ y.toInt = x2.toInt + 1 ∨ op.toInt = 0 ∧ y.toInt = x2.toInt) → okM (mM_SqlReaderModel_cutText_J111 (mM_SqlReaderModel_cutText_L9 n) x1 x3 op qu y (ss u 2 s1)) (CtQ u x1) := by
          intro y hy
          rw [mM_SqlReaderModel_cutText_J111]
          refine okM_eq (fun c c' => okM_seq (fun z hz => go y z (by rw [hz]; omega))) (fun c => ?_)
          refine okM_eq (fun c c' => okM_seq (fun z hz => go y z (by rw [hz]; omega))) (fun c => ?_)
          exact okM_seq (fun z hz => go y z (by rw [hz]; omega))
        exact okM_eq (fun c c' => nxt x2 (by omega)) (fun c => nxt (x2 + 1) (by omega))
      rw [mM_SqlReaderModel_cutText_J60]
      refine okM_le (fun c => fin 1 (by omega)) (fun c => ?_)
      refine okM_bP (kM_SqlReaderModel_at (IX_IB I) (by omega)) (fun r hr => ?_)
      refine okM_lt (fun c => fin 1 (by omega)) (fun c => ?_)
      refine okM_bP (kM_SqlReaderModel_at (IX_IB I) (by omega)) (fun r hr => ?_)
      exact okM_le (fun c => fin 0 (by omega)) (fun c => fin 1 (by omega))
    refine okM_bP (kM_SqlReaderModel_at (IX_IB I) (by omega)) (fun r hr => ?_)
    refine okM_eq (fun r9 r9' => ?_) (fun r9 => ?_)
    · rw [mM_SqlReaderModel_cutText_J36]
      refine okM_neg (by decide) ?_
      refine okM_bP (kM_SqlReaderModel_at (IX_IB I) (by omega)) (fun r2 hr2 => ?_)
      refine okM_eq (fun q9 q9' => turn 1 1 (Or.inr (Or.inl ⟨by omega, by omega, by omega, Int32.toInt_inj.mp (by omega)⟩))) (fun q9 => turn 0 1 (Or.inr (Or.inr ⟨by omega, by omega⟩)))
    · rw [mM_SqlReaderModel_cutText_J36]
      refine okM_pos (by decide) ?_
      refine turn 1 0 (Or.inl ⟨by omega, by omega, fun hl e => ?_⟩)
      have e' := congrArg Int32.toInt e
      omega
theorem kM_SqlReaderModel_cutText {x1 : Int32} {u : St} (I : IX u) (h0 : 0 ≤ x1.toInt) (h1 : x1.toInt < (u.1 0).toInt) (ht : (u.1 1).toInt ≤ x1.toInt) (hb : (u.1 2).toInt = 0) : okM (mM_SqlReaderModel_cutText x1 u) (CtQ u x1) := by
  have B := IX_b I
  have l0 : (0 : Int32).toInt = 0 := by decide
  have l1 : (1 : Int32).toInt = 1 := by decide
  have FUe : FU = 100000 := rfl
  have e1 : (x1 + 1 : Int32).toInt = x1.toInt + (1 : Int32).toInt := add_i (by omega) (by omega)
  rw [mM_SqlReaderModel_cutText]
  refine okM_seq (fun y hy => ?_)
  have ey : y.toInt = x1.toInt + 1 := by rw [hy]; omega
  refine kM_SqlReaderModel_cutText_L9 _ I h0 (by omega) ht (by omega) (by omega) (by omega) (by omega) (by omega) (by omega) (Or.inr ⟨hb, by omega, 0, by omega, Or.inl ⟨by omega, ?_⟩⟩) (by omega)
  show x1.toInt.toNat + 1 = y.toInt.toNat
  omega
