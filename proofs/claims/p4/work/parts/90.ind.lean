/-! THE LAW'S MODEL, CALL BY CALL -/
theorem okM_lfL {α σ τ : Type} {o : Option (α × σ)} {b : τ} {P : α → σ → Prop} (h : okM o P) : okM (lfL o b) (fun r w => P r w.1 ∧ w.2 = b) := by
  obtain ⟨z, v, e, q⟩ := h
  rw [e]
  exact ⟨z, (v, b), rfl, q, rfl⟩
theorem okM_lfR {α σ τ : Type} {o : Option (α × τ)} {a : σ} {P : α → τ → Prop} (h : okM o P) : okM (lfR o a) (fun r w => P r w.2 ∧ w.1 = a) := by
  obtain ⟨z, v, e, q⟩ := h
  rw [e]
  exact ⟨z, (a, v), rfl, q, rfl⟩
theorem IC_0 : IC uC0 := by
  have g : ∀ j : Fin 14, 0 ≤ (gst 0 (nI j.val)).toInt := by decide +kernel
  refine ⟨⟨by decide, by decide, by decide, by decide, by decide, by decide, by decide, by decide, by decide, by decide⟩, fun j => ?_, fun j => ?_, fun j => ?_, fun j => ?_, fun j => ⟨?_, fun hj => ?_⟩, fun j _ => ?_⟩
  · show fits .byte (.int 0) = true
    decide
  · show 0 ≤ (0 : Int32).toInt ∧ (0 : Int32).toInt ≤ 8
    decide
  · exact Or.inl (show (0 : Int32).toInt ≠ 28 by decide)
  · show tkq 0
    unfold tkq
    decide
  · show 0 ≤ (0 : Int32).toInt
    decide
  · show (0 : Int32).toInt ≤ (gst 0 (nI j)).toInt
    exact g ⟨j, hj⟩
  · show -1 ≤ (0 : Int32).toInt ∧ (0 : Int32).toInt ≤ 200
    decide
theorem IB_z : IB zSt := by
  refine ⟨by unfold MS; decide, fun j => ?_, fun j => ?_, fun j => ?_, fun j => ?_, fun j => ?_, fun j => ?_, fun j => ?_⟩
  · show 0 ≤ (0 : Int32).toInt ∧ (0 : Int32).toInt ≤ 16
    decide
  · show 0 ≤ (0 : Int32).toInt ∧ (0 : Int32).toInt ≤ 8
    decide
  · show 0 ≤ (0 : Int32).toInt ∧ (0 : Int32).toInt ≤ 16
    decide
  · show 0 ≤ (0 : Int32).toInt ∧ (0 : Int32).toInt ≤ 31
    decide
  · show 0 ≤ (0 : Int32).toInt ∧ (0 : Int32).toInt ≤ 16
    decide
  · show -1 ≤ (0 : Int32).toInt ∧ (0 : Int32).toInt ≤ 7
    decide
  · show -1 ≤ (0 : Int32).toInt ∧ (0 : Int32).toInt ≤ 7
    decide
theorem M0_z : IE uM0 ∧ (uM0.1 0).toInt = 0 ∧ Kc zSt uM0 := by
  obtain ⟨v, e, I, Zv, ar, s0, _, _, s3, _⟩ := kB_SqlReaderModel_forget IB_z
  have q : uM0 = v := by
    unfold uM0
    rw [e]
  rw [q]
  obtain ⟨z4, z5, z7, z8, z9, z10, z11, z12, z13, z14, z15, z16, z17, z18, z19, z20, z21, z22, z23, z24, z25, z26, z27, z28⟩ := Zv
  refine ⟨⟨I, ⟨by omega, by omega, by omega⟩, fun j hj => by omega⟩, ?_, s3, ar 4 (by decide), ar 5 (by decide), ar 6 (by decide), ar 7 (by decide), ar 8 (by decide), ar 9 (by decide)⟩
  rw [s0]
  decide
theorem RL_0 : RL (uC0, uM0) := by
  have l0 : (0 : Int32).toInt = 0 := by decide
  obtain ⟨E, z, k3, _⟩ := M0_z
  have u0 : (uC0.1 0).toInt = 0 := by decide
  have u1 : (uC0.1 1).toInt = 0 := by decide
  have u2 : (uC0.1 2).toInt = 0 := by decide
  have m3 : (uM0.1 3).toInt = 0 := by rw [k3]; decide
  have s3 : sC (uC0.2.1 3) = 0 := by decide
  refine ⟨IC_0, E, ⟨?_, fun i hi => ?_⟩, ?_, ?_, fun t ht => ?_, fun t _ _ => l0⟩
  · show (uC0.1 0).toInt = (uM0.1 0).toInt
    omega
  · have hi' : (i : Int) < (uC0.1 0).toInt := hi
    omega
  · show (uC0.1 1).toInt = (uM0.1 3).toInt
    omega
  · show (uC0.1 2).toInt ≤ 16 * ((uC0.1 1).toInt + sC (uC0.2.1 3))
    omega
  · have ht' : (t : Int) < (uC0.1 1).toInt := ht
    omega
theorem law_ok (xv : Nat → Int32) (L : Nat) (hL : L ≤ 2048) : ∀ (n : Nat) {x3 : Int32} {u : St × St} (R : RL u) (h0 : 0 ≤ x3.toInt) (h1 : x3.toInt ≤ 2052) (hm : (3000 - x3.toInt).toNat < n), ok (mL_law_L18 xv L n x3 u) (fun r => r = 1) := by
  intro n
  induction n with
  | zero => intro x3 u R h0 h1 hm; exact absurd hm (Nat.not_lt_zero _)
  | succ n ih =>
    intro x3 u R h0 h1 hm
    have l1 : (1 : Int32).toInt = 1 := by decide
    have l2 : (2 : Int32).toInt = 2 := by decide
    have l3 : (3 : Int32).toInt = 3 := by decide
    have l4 : (4 : Int32).toInt = 4 := by decide
    have eL : (nI L).toInt = (L : Int) := nI_toInt (by omega)
    have e4 : (nI L - 4 : Int32).toInt = (nI L).toInt - (4 : Int32).toInt := sub_i (by omega) (by omega)
    have e1 : (x3 + 1 : Int32).toInt = x3.toInt + (1 : Int32).toInt := add_i (by omega) (by omega)
    have e2 : (x3 + 2 : Int32).toInt = x3.toInt + (2 : Int32).toInt := add_i (by omega) (by omega)
    have e3 : (x3 + 3 : Int32).toInt = x3.toInt + (3 : Int32).toInt := add_i (by omega) (by omega)
    have e5 : (x3 + 4 : Int32).toInt = x3.toInt + (4 : Int32).toInt := add_i (by omega) (by omega)
    rw [mL_law_L18]
    refine ok_lt (fun _ => ok_some rfl) (fun c => ?_)
    have g0 : inb x3 L = true := inb_of (by omega) (by omega)
    have g1 : inb (x3 + 1) L = true := inb_of (by omega) (by omega)
    have g2 : inb (x3 + 2) L = true := inb_of (by omega) (by omega)
    have g3 : inb (x3 + 3) L = true := inb_of (by omega) (by omega)
    have nx : ∀ (y : Int32) (w : St × St), y = x3 + 4 → RL w → ok (mL_law_L18 xv L n y w) (fun r => r = 1) := by
      intro y w hy Rw
      have ey : y.toInt = x3.toInt + 4 := by rw [hy]; omega
      exact ih Rw (by omega) (by omega) (by omega)
    refine ok_gd g0 ?_
    refine ok_eq (fun _ _ => ?_) (fun _ => ?_)
    · refine ok_gd g1 (ok_gd g2 (ok_gd g3 ?_))
      refine ok_bM (okM_lfL (RL_type (c := u.1) (m := u.2) R)) (fun r1 w1 h1 => ?_)
      obtain ⟨h1, a4⟩ := h1
      refine ok_gd g1 (ok_gd g2 (ok_gd g3 ?_))
      rw [a4]
      refine ok_bM (okM_lfR h1) (fun r2 w2 h2 => ?_)
      obtain ⟨hq, b4⟩ := h2
      have Rw : RL w2 := by
        have q := hq.2
        rw [← b4] at q
        exact q
      exact ok_seq (fun y hy => nx y w2 hy Rw)
    refine ok_eq (fun _ _ => ?_) (fun _ => ?_)
    · refine ok_bM (okM_lfL (RL_table (c := u.1) (m := u.2) R)) (fun r1 w1 h1 => ?_)
      obtain ⟨h1, a4⟩ := h1
      rw [a4]
      refine ok_bM (okM_lfR h1) (fun r2 w2 h2 => ?_)
      obtain ⟨hq, b4⟩ := h2
      have Rw : RL w2 := by
        have q := hq.2
        rw [← b4] at q
        exact q
      exact ok_seq (fun y hy => nx y w2 hy Rw)
    refine ok_eq (fun _ _ => ?_) (fun _ => ?_)
    · refine ok_gd g1 (ok_gd g2 ?_)
      refine ok_bM (okM_lfL (RL_column (c := u.1) (m := u.2) R)) (fun r1 w1 h1 => ?_)
      obtain ⟨h1, a4⟩ := h1
      refine ok_gd g1 (ok_gd g2 ?_)
      rw [a4]
      refine ok_bM (okM_lfR h1) (fun r2 w2 h2 => ?_)
      obtain ⟨hq, b4⟩ := h2
      have Rw : RL w2 := by
        have q := hq.2
        rw [← b4] at q
        exact q
      exact ok_eq (fun _ _ => ok_seq (fun y hy => nx y w2 hy Rw)) (fun q => absurd (congrArg Int32.toInt hq.1) q)
    refine ok_eq (fun _ _ => ?_) (fun _ => ?_)
    · refine ok_bM (okM_lfL (RL_read (c := u.1) (m := u.2) R)) (fun r1 w1 h1 => ?_)
      obtain ⟨h1, a4⟩ := h1
      rw [a4]
      refine ok_bM (okM_lfR h1) (fun r2 w2 h2 => ?_)
      obtain ⟨hq, b4⟩ := h2
      have Rw : RL w2 := by
        have q := hq
        rw [← b4] at q
        exact q
      exact ok_seq (fun y hy => nx y w2 hy Rw)
    refine ok_eq (fun _ _ => ?_) (fun _ => ?_)
    · refine ok_gd g1 (ok_gd g2 ?_)
      refine ok_bP (kC_SqlReader_node R.1) (fun r1 _ => ?_)
      refine ok_gd g1 (ok_gd g2 ?_)
      refine ok_bP (kE_SqlReaderModel_node R.2.1) (fun r2 _ => ?_)
      exact ok_seq (fun y hy => nx y u hy R)
    refine ok_eq (fun _ _ => ?_) (fun _ => ?_)
    · refine ok_gd g1 ?_
      refine ok_bP (kC_SqlReader_value R.1) (fun r1 _ => ?_)
      refine ok_gd g1 ?_
      refine ok_bP (kE_SqlReaderModel_value R.2.1) (fun r2 _ => ?_)
      exact ok_seq (fun y hy => nx y u hy R)
    refine ok_eq (fun _ _ => ?_) (fun _ => ?_)
    · refine ok_gd g1 (ok_gd g2 ?_)
      refine ok_bP (kC_SqlReader_letter R.1) (fun r1 _ => ?_)
      refine ok_gd g1 (ok_gd g2 ?_)
      refine ok_bP (kE_SqlReaderModel_letter R.2.1) (fun r2 _ => ?_)
      exact ok_seq (fun y hy => nx y u hy R)
    refine ok_eq (fun _ _ => ?_) (fun _ => ?_)
    · refine ok_gd g1 ?_
      refine ok_bP (kC_SqlReader_count R.1) (fun r1 _ => ?_)
      refine ok_gd g1 ?_
      refine ok_bP (kE_SqlReaderModel_count R.2.1) (fun r2 _ => ?_)
      exact ok_seq (fun y hy => nx y u hy R)
    refine ok_eq (fun _ _ => ?_) (fun _ => ?_)
    · refine ok_gd g1 (ok_gd g2 ?_)
      refine ok_bP (kC_SqlReader_list R.1) (fun r1 _ => ?_)
      refine ok_gd g1 (ok_gd g2 ?_)
      refine ok_bP (kE_SqlReaderModel_list R.2.1) (fun r2 _ => ?_)
      exact ok_seq (fun y hy => nx y u hy R)
    refine ok_eq (fun _ _ => ?_) (fun _ => ?_)
    · refine ok_gd g1 (ok_gd g2 ?_)
      refine ok_bP (kC_SqlReader_name R.1) (fun r1 _ => ?_)
      refine ok_gd g1 (ok_gd g2 ?_)
      refine ok_bP (kE_SqlReaderModel_name R.2.1) (fun r2 _ => ?_)
      exact ok_seq (fun y hy => nx y u hy R)
    exact ok_seq (fun y hy => nx y u hy R)
theorem law_one {xv : Nat → Int32} {L : Nat} (hL : L ≤ 2048) : ∃ n, mL_law_L18 xv L n 0 (uC0, uM0) = some 1 := by
  have l0 : (0 : Int32).toInt = 0 := by decide
  obtain ⟨r, e, q⟩ := law_ok xv L hL 3001 (x3 := 0) RL_0 (by omega) (by omega) (by omega)
  exact ⟨3001, by rw [e, q]⟩
