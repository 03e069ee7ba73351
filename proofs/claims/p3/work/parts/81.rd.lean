/-! KEEPING NAMES, AND READ -/
def tokW (u : St) (t : Int32) : Prop := 0 ≤ t.toInt ∧ t.toInt ≤ 2000 ∧ 0 ≤ (ga u 2 t).toInt ∧ (ga u 2 t).toInt ≤ (ga u 3 t).toInt ∧ (ga u 3 t).toInt ≤ 2000 ∧ (ga u 3 t).toInt - (ga u 2 t).toInt ≤ 16
theorem kB_keep_L29 : ∀ (n : Nat) {x1 x2 x3 : Int32} {u : St} (h0 : 0 ≤ x1.toInt) (h1 : x1.toInt ≤ 8) (h3 : 0 ≤ x3.toInt) (h3' : x3.toInt ≤ 16) (hx : (ga u 36 x1).toInt ≤ 0 ∨ (tokW u x2 ∧ (ga u 36 x1).toInt = (ga u 3 x2).toInt - (ga u 2 x2).toInt)) (hm : (16 - x3.toInt).toNat < n), ok (mM_SqlReaderModel_keep_L29 n x1 x2 x3 u) (fun v => v.1 = u.1 ∧ ∀ j, j ≠ 35 → v.2.1 j = u.2.1 j) := by
  intro n
  induction n with
  | zero => intro x1 x2 x3 u h0 h1 h3 h3' hx hm; exact absurd hm (Nat.not_lt_zero _)
  | succ n ih =>
    intro x1 x2 x3 u h0 h1 h3 h3' hx hm
    have l1 : (1 : Int32).toInt = 1 := by decide
    have l16 : (16 : Int32).toInt = 16 := by decide
    rw [mM_SqlReaderModel_keep_L29]
    refine ok_gd (inb_of (by omega) (by omega)) (ok_le (fun c => ok_some ⟨rfl, fun _ _ => rfl⟩) (fun c => ?_))
    have t := hx.resolve_left (by omega)
    obtain ⟨⟨t1, t2, t3, t4, t5, t6⟩, t7⟩ := t
    have e1 : (ga u 2 x2 + x3 : Int32).toInt = (ga u 2 x2).toInt + x3.toInt := add_i (by omega) (by omega)
    have e2 : (16 * x1 : Int32).toInt = 16 * x1.toInt := cmu_i l16 (by omega) (by omega)
    have e3 : (16 * x1 + x3 : Int32).toInt = (16 * x1 : Int32).toInt + x3.toInt := add_i (by omega) (by omega)
    have e4 : (x3 + 1 : Int32).toInt = x3.toInt + (1 : Int32).toInt := add_i (by omega) (by omega)
    refine ok_gd (inb_of (by omega) (by omega)) (ok_gd (inb_of (by omega) (by omega)) (ok_gd (inb_of (by omega) (by omega)) (ok_seq (fun w hw => ok_seq (fun y hy => ?_)))))
    have hx2 : (ga w 36 x1).toInt ≤ 0 ∨ (tokW w x2 ∧ (ga w 36 x1).toInt = (ga w 3 x2).toInt - (ga w 2 x2).toInt) := by rw [hw]; exact hx
    refine ok_mono (ih (u := w) h0 h1 (by rw [hy]; omega) (by rw [hy]; omega) hx2 (by rw [hy]; omega)) (fun v hv => ?_)
    rw [hw] at hv
    exact ⟨hv.1, fun j hj => (hv.2 j hj).trans (us_ne hj)⟩
def kpP (u v : St) : Prop := v.1 = u.1 ∧ (∀ j, j ≠ 35 → j ≠ 36 → v.2.1 j = u.2.1 j) ∧ (∀ j : Nat, v.2.1 36 j = u.2.1 36 j ∨ (0 ≤ (v.2.1 36 j).toInt ∧ (v.2.1 36 j).toInt ≤ 16))
theorem kB_SqlReaderModel_keep {x1 x2 : Int32} {u : St} (h0 : 0 ≤ x1.toInt) (h1 : x1.toInt ≤ 8) (hx : x2.toInt < 0 ∨ tokW u x2) : ok (mM_SqlReaderModel_keep x1 x2 u) (kpP u) := by
  have l0 : (0 : Int32).toInt = 0 := by decide
  have FUe : FU = 100000 := rfl
  have g1 : inb x1 9 = true := inb_of (by omega) (by omega)
  have fin : ∀ {x : Int32} {w v : St}, w = sa u 36 x1 x → 0 ≤ x.toInt → x.toInt ≤ 16 → (v.1 = w.1 ∧ ∀ j, j ≠ 35 → v.2.1 j = w.2.1 j) → kpP u v := by
    intro x w v hw a b hv
    rw [hw] at hv
    refine ⟨hv.1, fun j h5 h6 => (hv.2 j h5).trans (us_ne h6), fun j => ?_⟩
    rw [hv.2 36 (by decide)]
    show upd (u.2.1 36) x1.toNatClampNeg x j = _ ∨ (0 ≤ (upd (u.2.1 36) x1.toNatClampNeg x j).toInt ∧ (upd (u.2.1 36) x1.toNatClampNeg x j).toInt ≤ 16)
    by_cases h : j = x1.toNatClampNeg
    · rw [h, pk_us]; exact Or.inr ⟨a, b⟩
    · rw [pk_un h]; exact Or.inl rfl
  rw [mM_SqlReaderModel_keep]
  refine ok_le (fun c => ?_) (fun c => ?_)
  · have t := hx.resolve_left (by omega)
    obtain ⟨t1, t2, t3, t4, t5, t6⟩ := id t
    have g2 : inb x2 2001 = true := inb_of (by omega) (by omega)
    have e : (ga u 3 x2 - ga u 2 x2 : Int32).toInt = (ga u 3 x2).toInt - (ga u 2 x2).toInt := sub_i (by omega) (by omega)
    refine ok_gd g2 (ok_gd g2 (ok_gd g1 (ok_seq (fun w hw => ?_))))
    have gw : ga w 36 x1 = ga u 3 x2 - ga u 2 x2 := by rw [hw]; exact pk_us
    have tw : tokW w x2 ∧ (ga w 36 x1).toInt = (ga w 3 x2).toInt - (ga w 2 x2).toInt := by
      rw [gw, hw]
      exact ⟨t, e⟩
    exact ok_mono (kB_keep_L29 _ h0 h1 (by omega) (by omega) (Or.inr tw) (by omega)) (fun v hv => fin hw (by omega) (by omega) hv)
  · refine ok_gd g1 (ok_seq (fun w hw => ?_))
    have gw : ga w 36 x1 = 0 := by rw [hw]; exact pk_us
    exact ok_mono (kB_keep_L29 _ h0 h1 (by omega) (by omega) (Or.inl (by rw [gw]; omega)) (by omega)) (fun v hv => fin hw (by omega) (by omega) hv)
theorem IE_keep {u v : St} (I : IE u) (K : kpP u v) : IE v := by
  obtain ⟨e1, ar, k6⟩ := K
  obtain ⟨⟨ms, ma⟩, sz, pa⟩ := I
  refine ⟨⟨?_, ?_⟩, ?_, ?_⟩
  · unfold MS at ms ⊢
    rw [e1]
    exact ms
  · obtain ⟨b0, b1, b2, b3, b4, b5, b6⟩ := ma
    refine ⟨?_, ?_, ?_, ?_, fun j => ?_, ?_, ?_⟩
    · rw [ar 5 (by decide) (by decide)]; exact b0
    · rw [ar 6 (by decide) (by decide)]; exact b1
    · rw [ar 8 (by decide) (by decide)]; exact b2
    · rw [ar 17 (by decide) (by decide)]; exact b3
    · rcases k6 j with q | q
      · rw [q]; exact b4 j
      · exact q
    · rw [ar 24 (by decide) (by decide)]; exact b5
    · rw [ar 28 (by decide) (by decide)]; exact b6
  · rw [e1]; exact sz
  · rw [e1, ar 10 (by decide) (by decide), ar 11 (by decide) (by decide)]
    exact pa
theorem Kc_keep {u v : St} (K : kpP u v) : Kc u v := by
  obtain ⟨e1, ar, _⟩ := K
  exact ⟨by rw [e1], ar 4 (by decide) (by decide), ar 5 (by decide) (by decide), ar 6 (by decide) (by decide), ar 7 (by decide) (by decide), ar 8 (by decide) (by decide), ar 9 (by decide) (by decide)⟩
def NTk (u : St) : Prop := ∀ i : Int32, 0 ≤ i.toInt → i.toInt < (u.1 24).toInt → i.toInt < 8 → tokW u (ga u 31 i)
theorem tokW_keep {u v : St} (K : kpP u v) {t : Int32} (h : tokW u t) : tokW v t := by
  obtain ⟨e1, ar, _⟩ := K
  unfold tokW ga at h ⊢
  rw [ar 2 (by decide) (by decide), ar 3 (by decide) (by decide)]
  exact h
theorem NTk_keep {u v : St} (K : kpP u v) (h : NTk u) : NTk v := by
  intro i a b c
  have e1 := K.1
  rw [e1] at b
  have g : ga v 31 i = ga u 31 i := by
    show v.2.1 31 _ = _
    rw [K.2.1 31 (by decide) (by decide)]
    rfl
  rw [g]
  exact tokW_keep K (h i a b c)
theorem kE_read_L39 : ∀ (n : Nat) {x1 : Int32} {u : St} (I : IE u) (h0 : 0 ≤ x1.toInt) (h1 : x1.toInt ≤ 8) (z0 : (u.1 0).toInt = 0) (N : NTk u) (hm : (8 - x1.toInt).toNat < n), okM (mM_SqlReaderModel_read_L39 n x1 u) (fun _ v => IE v ∧ (v.1 0).toInt = 0 ∧ Kc u v) := by
  intro n
  induction n with
  | zero => intro x1 u I h0 h1 z0 N hm; exact absurd hm (Nat.not_lt_zero _)
  | succ n ih =>
    intro x1 u I h0 h1 z0 N hm
    have l1 : (1 : Int32).toInt = 1 := by decide
    have lm : (-1 : Int32).toInt = -1 := by decide
    have l8 : (8 : Int32).toInt = 8 := by decide
    have e4 : (x1 + 1 : Int32).toInt = x1.toInt + (1 : Int32).toInt := add_i (by omega) (by omega)
    rw [mM_SqlReaderModel_read_L39]
    refine okM_le (fun c => ?_) (fun c => ?_)
    · exact okM_le (fun _ => okM_some ⟨I, z0, Kc_rfl u⟩) (fun _ => okM_some ⟨I, z0, Kc_rfl u⟩)
    have go : ∀ {v : St} {y : Int32}, kpP u v → y = x1 + 1 → okM (mM_SqlReaderModel_read_L39 n y v) (fun _ v => IE v ∧ (v.1 0).toInt = 0 ∧ Kc u v) := by
      intro v y K hy
      have ey : y.toInt = x1.toInt + 1 := by rw [hy]; omega
      refine okM_mono (ih (IE_keep I K) (by omega) (by omega) (by rw [K.1]; exact z0) (NTk_keep K N) (by omega)) (fun r w hw => ⟨hw.1, hw.2.1, Kc_tr (Kc_keep K) hw.2.2⟩)
    refine okM_le (fun _ => ?_) (fun c24 => ?_)
    · exact okM_bP (kB_SqlReaderModel_keep (by omega) (by omega) (Or.inl (by omega))) (fun v K => okM_seq (fun y hy => go K hy))
    · exact okM_gd (inb_of (by omega) (by omega)) (okM_bP (kB_SqlReaderModel_keep (by omega) (by omega) (Or.inr (N x1 h0 c24 (by omega)))) (fun v K => okM_seq (fun y hy => go K hy)))
theorem tokW_IG {u : St} (I : IG u) {t : Int32} (h0 : 0 ≤ t.toInt) (h1 : t.toInt < (u.1 1).toInt) (h2 : (ga u 1 t).toInt = 2) : tokW u t := by
  have B := IG_b I
  have T := (IT_tok (IG_IT I) t).resolve_left (by omega)
  have T := T.resolve_left (by omega)
  obtain ⟨a, b, _⟩ := T
  have b := b.resolve_left (by omega)
  exact ⟨h0, by omega, by omega, by omega, by omega, b⟩
theorem NTk_IG {u : St} (I : IG u) : NTk u := by
  intro i a b _
  have c := cl_of a
  have n := I.2.2.2.2.2.1.2.2.2.1 i.toNatClampNeg (by omega)
  exact tokW_IG I n.1 n.2.1 n.2.2
theorem IE_IG {u : St} (I : IG u) : IE u := by
  have B := IG_b I
  refine ⟨IG_IB I, ⟨by omega, by omega, by omega⟩, fun j hj => ?_⟩
  obtain ⟨_, _, c⟩ := I.2.2.2.2.1 j hj
  rcases c with q | q
  · exact Or.inl q
  · exact Or.inr ⟨by omega, q.2⟩
theorem kE_SqlReaderModel_read {u : St} (I : IE u) : okM (mM_SqlReaderModel_read u) (fun _ v => IE v ∧ (v.1 0).toInt = 0 ∧ Kc u v) := by
  have l0 : (0 : Int32).toInt = 0 := by decide
  have FUe : FU = 100000 := rfl
  rw [mM_SqlReaderModel_read]
  refine okM_bP (kB_SqlReaderModel_forget I.1) (fun u1 h1 => ?_)
  obtain ⟨I1, Z1, ar1, _, _, _, s3, _, _⟩ := h1
  have K1 : Kc u u1 := ⟨s3, ar1 4 (by decide), ar1 5 (by decide), ar1 6 (by decide), ar1 7 (by decide), ar1 8 (by decide), ar1 9 (by decide)⟩
  refine okM_bM (kF_SqlReaderModel_fault I1 Z1) (fun r2 u3 h3 => okM_seq (fun u4 e4 => okM_seq (fun u5 e5 => ?_)))
  obtain ⟨I3, r0, r10, G3, K3⟩ := h3
  have e6 : u5.1 6 = r2 := by rw [e5, e4]; rfl
  have z5 : (u5.1 0).toInt = 0 := by rw [e5]; exact l0
  have K5 : Kc u u5 := by rw [e5, e4]; exact Kc_tr K1 K3
  rw [e6]
  refine okM_le (fun c => ?_) (fun c => ?_)
  · have G := G3 (by omega)
    have G5 : IG u5 := by
      rw [e5, e4]
      exact ⟨MS_s0 G.1 (by omega) (by omega), G.2⟩
    have B5 := IG_b G5
    have T := G5.2.2.2.2.2.1.2.2.2.2
    obtain ⟨_, t12, _, k12, _⟩ := T
    have hx : (u5.1 12).toInt < 0 ∨ tokW u5 (u5.1 12) := by
      by_cases h : (u5.1 12).toInt < 0
      · exact Or.inl h
      · exact Or.inr (tokW_IG G5 (by omega) t12 (k12.resolve_left (by omega)))
    refine okM_bP (kB_SqlReaderModel_keep (by omega) (by omega) hx) (fun u6 K6 => ?_)
    refine okM_mono (kE_read_L39 _ (IE_keep (IE_IG G5) K6) (by omega) (by omega) (by rw [K6.1]; exact z5) (NTk_keep K6 (NTk_IG G5)) (by omega)) (fun r v hv => ⟨hv.1, hv.2.1, Kc_tr (Kc_tr K5 (Kc_keep K6)) hv.2.2⟩)
  · have I5 : IB u5 := by
      rw [e5, e4]
      exact ⟨MS_s0 I3.1 (by omega) (by omega), I3.2⟩
    refine okM_bP (kB_SqlReaderModel_forget I5) (fun u7 h7 => ?_)
    obtain ⟨I7, Z7, ar7, s0, _, _, s3', _, _⟩ := h7
    have K7 : Kc u u7 := Kc_tr K5 ⟨s3', ar7 4 (by decide), ar7 5 (by decide), ar7 6 (by decide), ar7 7 (by decide), ar7 8 (by decide), ar7 9 (by decide)⟩
    have zz : (u7.1 0).toInt = 0 := by rw [s0]; exact z5
    obtain ⟨z4, z5, z7, z8, z9, z10, z11, z12, z13, z14, z15, z16, z17, z18, z19, z20, z21, z22, z23, z24, z25, z26, z27, z28⟩ := Z7
    have E7 : IE u7 := ⟨I7, ⟨by omega, by omega, by omega⟩, fun j hj => by omega⟩
    have N7 : NTk u7 := fun i a b _ => by omega
    refine okM_bP (kB_SqlReaderModel_keep (by omega) (by omega) (Or.inl (by omega))) (fun u8 K8 => ?_)
    refine okM_mono (kE_read_L39 _ (IE_keep E7 K8) (by omega) (by omega) (by rw [K8.1]; exact zz) (NTk_keep K8 N7) (by omega)) (fun r v hv => ⟨hv.1, hv.2.1, Kc_tr (Kc_tr K7 (Kc_keep K8)) hv.2.2⟩)
/-! TABLE, COLUMN -/
theorem kE_SqlReaderModel_table {u : St} (I : IE u) : okM (mM_SqlReaderModel_table u) (fun _ v => IE v ∧ (v.1 0).toInt = 0) := by
  have l0 : (0 : Int32).toInt = 0 := by decide
  have l8 : (8 : Int32).toInt = 8 := by decide
  have FUe : FU = 100000 := rfl
  rw [mM_SqlReaderModel_table]
  refine okM_bM (kE_SqlReaderModel_takesName I) (fun r v hv => ?_)
  obtain ⟨Iv, z, _, r0, r1, h⟩ := hv
  refine okM_eq (fun _ _ => okM_some ⟨Iv, z⟩) (fun c => ?_)
  obtain ⟨tk, t1, k2, f0⟩ := h (by omega)
  have B := IE_b Iv
  have It : IEt v := ⟨Iv, tk⟩
  have T := (IT_tok (IEt_IT It) 0).resolve_left (by omega)
  have T := T.resolve_left (by omega)
  obtain ⟨a, b, _⟩ := T
  have b := b.resolve_left (by omega)
  refine okM_eq (fun _ _ => okM_some ⟨Iv, z⟩) (fun c8 => ?_)
  refine okM_bP (kM_SqlReaderModel_tableOf (IEt_IT It) (by omega) (by omega)) (fun s _ => okM_lt (fun _ => ?_) (fun _ => okM_some ⟨Iv, z⟩))
  exact okM_mono (kE_SqlReaderModel_table_L31 _ It (by omega) (by omega) (by omega) (by omega) (by omega) z (by omega)) (fun r w hw => ⟨hw.1.1, hw.2.2⟩)
theorem kE_SqlReaderModel_column {x1 x2 : Int32} {u : St} (I : IE u) : okM (mM_SqlReaderModel_column x1 x2 u) (fun _ v => IE v ∧ (v.1 0).toInt = 0) := by
  have l0 : (0 : Int32).toInt = 0 := by decide
  have l8 : (8 : Int32).toInt = 8 := by decide
  have FUe : FU = 100000 := rfl
  rw [mM_SqlReaderModel_column]
  refine okM_bM (kE_SqlReaderModel_takesName I) (fun r v hv => ?_)
  obtain ⟨Iv, z, _, r0, r1, h⟩ := hv
  refine okM_eq (fun _ _ => okM_some ⟨Iv, z⟩) (fun c => ?_)
  obtain ⟨tk, t1, k2, f0⟩ := h (by omega)
  have B := IE_b Iv
  have It : IEt v := ⟨Iv, tk⟩
  have T := (IT_tok (IEt_IT It) 0).resolve_left (by omega)
  have T := T.resolve_left (by omega)
  obtain ⟨a, b, _⟩ := T
  have b := b.resolve_left (by omega)
  refine okM_lt (fun _ => okM_some ⟨Iv, z⟩) (fun c0 => okM_le (fun _ => okM_some ⟨Iv, z⟩) (fun c3 => ?_))
  have W := IT_a6 (IEt_IT It) x1
  refine okM_gd (inb_of (by omega) (by omega)) (okM_eq (fun _ _ => okM_some ⟨Iv, z⟩) (fun c8 => ?_))
  refine okM_lt (fun _ => okM_some ⟨Iv, z⟩) (fun _ => okM_le (fun _ => ?_) (fun _ => okM_some ⟨Iv, z⟩))
  refine okM_bP (kM_SqlReaderModel_columnOf (IEt_IT It) (by omega) (by omega) (by omega) (by omega)) (fun s _ => okM_lt (fun _ => ?_) (fun _ => okM_some ⟨Iv, z⟩))
  have e1 : (8 * x1 : Int32).toInt = 8 * x1.toInt := cmu_i l8 (by omega) (by omega)
  have e2 : (8 * x1 + ga v 6 x1 : Int32).toInt = (8 * x1 : Int32).toInt + (ga v 6 x1).toInt := add_i (by omega) (by omega)
  refine okM_gd (inb_of (by omega) (by omega)) (okM_seq (fun y hy => ?_))
  have ey : y.toInt = 8 * x1.toInt + (ga v 6 x1).toInt := by rw [hy]; omega
  exact okM_mono (kE_SqlReaderModel_column_L72 _ It (by omega) (by omega) (by omega) (by omega) (by omega) (by omega) (by omega) (by omega) (by omega) z (by omega)) (fun r w hw => ⟨hw.1.1, hw.2.2⟩)
