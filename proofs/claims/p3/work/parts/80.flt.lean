/-! ONE CHECK, ALL CHECKS, A STATEMENT'S FAULT -/
def oneP (x1 : Int32) (u : St) (r : Int32) (v : St) : Prop := IQ v ∧ Fr [22, 25] [11, 12, 13, 28, 33] u v ∧ 0 ≤ r.toInt ∧ r.toInt ≤ 8 ∧ (∀ a : Nat, r.toInt = 0 → 0 ≤ (u.2.1 28 a).toInt → 0 ≤ (v.2.1 28 a).toInt) ∧ (r.toInt = 0 → (ga u 18 x1).toInt = 4 → 0 ≤ (v.2.1 28 (ga u 19 x1).toNatClampNeg).toInt)
theorem oneP_of {x1 : Int32} {u v : St} {r : Int32} {ks as : List Nat} (Iv : IQ v) (F : Fr ks as u v) (hk : subL ks [22, 25] = true) (ha : subL as [11, 12, 13, 33] = true) (h0 : 0 ≤ r.toInt) (h8 : r.toInt ≤ 8) (h : (ga u 18 x1).toInt ≠ 4) : oneP x1 u r v := by
  have F2 : Fr [22, 25] [11, 12, 13, 33] u v := Fr_tr (Fr_rfl u) F hk ha
  have F3 : Fr [22, 25] [11, 12, 13, 28, 33] u v := Fr_tr (Fr_rfl u) F2 rfl rfl
  refine ⟨Iv, F3, h0, h8, fun a _ q => ?_, fun _ q => absurd q h⟩
  rw [F2.2.1 28 rfl]
  exact q
/-- a fact that omega does not look into -/
def Hd (p : Prop) : Prop := p
theorem hd_mk {p : Prop} (h : p) : Hd p := h
theorem hd_un {p : Prop} (h : Hd p) : p := h
theorem kQ_SqlReaderModel_checkOne {x1 : Int32} {u : St} (I : IQ u) (h0 : 0 ≤ x1.toInt) (h1 : x1.toInt < (u.1 5).toInt) (h5 : (ga u 18 x1).toInt ≠ 5 ∨ 0 ≤ (ga u 28 (ga u 19 x1)).toInt) : okM (mM_SqlReaderModel_checkOne x1 u) (oneP x1 u) := by
  replace h5 := hd_mk h5
  have B5 := (IQ_b I).1.1.2.2.2.2.2.1
  have C := hd_mk (((IK_ch I.1 x1).resolve_left (by omega)).resolve_left (by omega))
  have T := hd_mk (IK_tt I.1)
  have l0 : (0 : Int32).toInt = 0 := by decide
  have l1 : (1 : Int32).toInt = 1 := by decide
  have l2 : (2 : Int32).toInt = 2 := by decide
  have l3 : (3 : Int32).toInt = 3 := by decide
  have l4 : (4 : Int32).toInt = 4 := by decide
  have l5 : (5 : Int32).toInt = 5 := by decide
  have l6 : (6 : Int32).toInt = 6 := by decide
  have l7 : (7 : Int32).toInt = 7 := by decide
  have l9 : (9 : Int32).toInt = 9 := by decide
  have g : inb x1 1200 = true := inb_of (by omega) (by omega)
  rw [mM_SqlReaderModel_checkOne]
  refine okM_gd g (okM_seq (fun y hy => ?_))
  subst hy
  refine okM_gd g (okM_eq (fun c1 _ => ?_) (fun c1 => ?_))
  · have a := (hd_un C).2.1.resolve_left (fun q => q.1 (c1.trans l1))
    refine okM_bM (kQ_SqlReaderModel_checkNode I a.1 a.2) (fun r v hv => okM_some ?_)
    obtain ⟨Iv, F, r0, r8⟩ := hv
    exact oneP_of Iv F rfl rfl r0 r8 (by omega)
  refine okM_gd g (okM_eq (fun c2 _ => ?_) (fun c2 => ?_))
  · have a := (hd_un C).2.1.resolve_left (fun q => q.2.1 (c2.trans l2))
    have b := (hd_un C).2.2.2.2.1.resolve_left (fun q => q.1 (c2.trans l2))
    have d := (hd_un C).2.2.2.2.2.2.resolve_left (fun q => q.1 (c2.trans l2))
    have t9 : 0 ≤ (u.1 9).toInt := (IQ_b I).2.resolve_left (by omega)
    refine okM_gd g (okM_bM (kQ_SqlReaderModel_checkValue I a.1 a.2 t9 d) (fun r v hv => okM_some ?_))
    obtain ⟨Iv, F, r0, r8⟩ := hv
    exact oneP_of Iv F rfl rfl r0 r8 (by omega)
  refine okM_gd g (okM_eq (fun c3 _ => ?_) (fun c3 => ?_))
  · have a := (hd_un C).2.1.resolve_left (fun q => q.2.2.1 (c3.trans l3))
    refine okM_bM (kQ_SqlReaderModel_fits I a.1 a.2) (fun r v hv => ?_)
    obtain ⟨Iv, F, r0, r8⟩ := hv
    refine okM_bP (kM_SqlReaderModel_error (IQ_IB Iv)) (fun s hs => okM_some ?_)
    exact oneP_of Iv F rfl rfl hs.1 hs.2 (by omega)
  refine okM_gd g (okM_eq (fun c4 _ => ?_) (fun c4 => ?_))
  · have a := (hd_un C).2.2.1.resolve_left (fun q => q (c4.trans l4))
    have b := (hd_un C).2.2.2.2.1.resolve_left (fun q => q.2.1 (c4.trans l4))
    have t9 : 0 ≤ (u.1 9).toInt := (IQ_b I).2.resolve_left (by omega)
    have t9' := (IQ_b I).1.1.2.2.2.2.2.2.1.2
    obtain ⟨a1, a2, a3, a4⟩ := a
    have gy : inb (ga u 19 x1) 1000 = true := inb_of a1 (by omega)
    refine okM_gd gy (okM_bP (kM_SqlReaderModel_columnOf (IQ_IT I) t9 t9' a3 a4) (fun r hr => ?_))
    obtain ⟨hr1, hr2⟩ := hr
    refine okM_gd gy (okM_seq (fun u2 e2 => ?_))
    subst e2
    have I2 := IQ_a28 (i := ga u 19 x1) (x := r) I (by omega) (by omega)
    have F2 : Fr [22, 25] [11, 12, 13, 28, 33] u (sa u 28 (ga u 19 x1) r) := Fr_sa (Fr_rfl u) rfl rfl rfl
    have gr : ga (sa u 28 (ga u 19 x1) r) 28 (ga u 19 x1) = r := pk_us
    refine okM_gd gy ?_
    rw [gr]
    refine okM_le (fun c => okM_some ?_) (fun c => okM_some ⟨I2, F2, by decide, by decide, fun _ q => absurd q (by decide), fun q => absurd q (by decide)⟩)
    refine ⟨I2, F2, by decide, by decide, fun k _ q => ?_, fun _ _ => ?_⟩
    · show 0 ≤ (upd (u.2.1 28) (ga u 19 x1).toNatClampNeg r k).toInt
      by_cases h : k = (ga u 19 x1).toNatClampNeg
      · rw [h, pk_us]; omega
      · rw [pk_un h]; exact q
    · show 0 ≤ (upd (u.2.1 28) (ga u 19 x1).toNatClampNeg r (ga u 19 x1).toNatClampNeg).toInt
      rw [pk_us]; omega
  refine okM_gd g (okM_eq (fun c5 _ => ?_) (fun c5 => ?_))
  · have a := (hd_un C).2.2.2.1.resolve_left (fun q => q (c5.trans l5))
    have b := (hd_un C).2.2.2.2.1.resolve_left (fun q => q.2.2.1 (c5.trans l5))
    have d := (hd_un h5).resolve_left (fun q => q (c5.trans l5))
    have t9 : 0 ≤ (u.1 9).toInt := (IQ_b I).2.resolve_left (by omega)
    obtain ⟨a1, a2, a3, a4⟩ := a
    have gy : inb (ga u 19 x1) 1000 = true := inb_of a1 (by omega)
    refine okM_gd gy (okM_gd gy (okM_bP (kQ_SqlReaderModel_targetType I t9 d) (fun r _ => ?_)))
    refine okM_bM (kQ_SqlReaderModel_fits I a3 a4) (fun s v hv => ?_)
    obtain ⟨Iv, F, r0, r8⟩ := hv
    refine okM_bP (kM_SqlReaderModel_error (IQ_IB Iv)) (fun s hs => okM_some ?_)
    exact oneP_of Iv F rfl rfl hs.1 hs.2 (by omega)
  refine okM_gd g (okM_eq (fun c6 _ => ?_) (fun c6 => ?_))
  · have a := (hd_un C).2.1.resolve_left (fun q => q.2.2.2 (c6.trans l6))
    have d := (hd_un C).2.2.2.2.2.2.resolve_left (fun q => q.2 (c6.trans l6))
    refine okM_bP (kM_SqlReaderModel_deed (IQ_IB I)) (fun r hr => okM_eq (fun cr _ => ?_) (fun cr => ?_))
    · have t10 : 0 ≤ (u.1 10).toInt := by
        obtain ⟨_, _, _, _, t7, t8⟩ := hd_un T
        rcases hr with q | q
        · exact t7.resolve_left (fun w => w (by omega))
        · exact t8.resolve_left (fun w => w (by omega))
      have tg : 0 ≤ (u.1 9).toInt := (IQ_b I).2.resolve_left (by omega)
      refine okM_gd g (okM_bM (kQ_SqlReaderModel_checkValue I a.1 a.2 tg d) (fun r v hv => okM_some ?_))
      obtain ⟨Iv, F, r0, r8⟩ := hv
      exact oneP_of Iv F rfl rfl r0 r8 (by omega)
    · refine okM_bP (kQ_SqlReaderModel_gives I a.1 a.2) (fun v hv => okM_some ?_)
      exact oneP_of hv.1 hv.2 rfl rfl (by decide) (by decide) (by omega)
  refine okM_gd g (okM_eq (fun c7 _ => ?_) (fun c7 => ?_))
  · refine okM_bP (kQ_SqlReaderModel_checkStar I) (fun r hr => okM_some ?_)
    exact oneP_of I (Fr_rfl (ks := []) (as := []) u) rfl rfl hr.1 hr.2 (by omega)
  refine okM_gd g (okM_eq (fun c9 _ => ?_) (fun c9 => ?_))
  · have b := (hd_un C).2.2.2.2.1.resolve_left (fun q => q.2.2.2.1 (c9.trans l9))
    have d := (hd_un C).2.2.2.2.2.1.resolve_left (fun q => q (c9.trans l9))
    have t9 : 0 ≤ (u.1 9).toInt := (IQ_b I).2.resolve_left (by omega)
    have t9' := (IQ_b I).1.1.2.2.2.2.2.2.1.2
    refine okM_bP (kM_SqlReaderModel_columnOf (IQ_IT I) t9 t9' d (hd_un T).2.2.1) (fun r hr => okM_seq (fun u6 e6 => ?_))
    subst e6
    have I6 := IQ_s25 (x := r) I hr.1 hr.2
    have F6 : Fr [25] [] u (ss u 25 r) := Fr_ss (Fr_rfl u) rfl rfl
    refine okM_le (fun c => okM_some ?_) (fun c => okM_some ?_)
    · exact oneP_of I6 F6 rfl rfl (by decide) (by decide) (by omega)
    · exact oneP_of I6 F6 rfl rfl (by decide) (by decide) (by omega)
  have s10 : (ga u 18 x1).toInt = 10 := by
    have n1 := (hd_un C).1
    omega
  have b := (hd_un C).2.2.2.2.1.resolve_left (fun q => q.2.2.2.2 s10)
  clear c1 c2 c3 c4 c5 c6 c7 c9
  have z (x : Int32) (hx : x.toInt = 0 ∨ x.toInt = 1) : oneP x1 u 0 (ss u 22 x) := oneP_of (IQ_s22 (x := x) I (by omega) (by omega)) (Fr_ss (ks := [22]) (as := []) (Fr_rfl u) rfl rfl) rfl rfl (by decide) (by decide) (by omega)
  refine okM_eq (fun cu _ => ?_) (fun cu => ?_)
  · have t9 : 0 ≤ (u.1 9).toInt := (IQ_b I).2.resolve_left (by omega)
    have t9' := (IQ_b I).1.1.2.2.2.2.2.2.1.2
    refine okM_gd (inb_of (by omega) (by omega)) (okM_eq (fun _ _ => ?_) (fun _ => ?_))
    · exact okM_seq (fun w hw => okM_some (by rw [hw]; exact z 0 (by omega)))
    · exact okM_seq (fun w hw => okM_some (by rw [hw]; exact z 1 (by omega)))
  · exact okM_seq (fun w hw => okM_some (by rw [hw]; exact z 1 (by omega)))
/-- what a fault leaves -/
def FP (u0 : St) (r : Int32) (v : St) : Prop := IB v ∧ 0 ≤ r.toInt ∧ r.toInt ≤ 10 ∧ (r.toInt = 0 → IG v) ∧ Kc u0 v
theorem FP_tr {u0 u : St} (K : Kc u0 u) {r : Int32} {v : St} (h : FP u r v) : FP u0 r v := ⟨h.1, h.2.1, h.2.2.1, h.2.2.2.1, Kc_tr K h.2.2.2.2⟩
theorem FP_ne {u0 u : St} {r : Int32} (I : IB u) (K : Kc u0 u) (h0 : 0 < r.toInt) (h1 : r.toInt ≤ 10) : FP u0 r u := ⟨I, by omega, h1, fun q => by omega, K⟩
theorem kF_J170 {s0 : Int32} {u : St} (I : IB u) (h0 : 0 ≤ s0.toInt) (h1 : s0.toInt ≤ 10) (hg : s0.toInt = 0 → IG u) : okM (mM_SqlReaderModel_fault_J170 s0 u) (FP u) := by
  have l0 : (0 : Int32).toInt = 0 := by decide
  have l1 : (1 : Int32).toInt = 1 := by decide
  rw [mM_SqlReaderModel_fault_J170]
  refine okM_eq (fun c _ => ?_) (fun c => okM_some (FP_ne I (Kc_rfl u) (by omega) h1))
  have G := hg (by omega)
  refine okM_bP (kG_SqlReaderModel_counts G) (fun r hr => okM_eq (fun cr _ => okM_some (FP_ne I (Kc_rfl u) (by omega) (by omega))) (fun cr => ?_))
  refine okM_bM (kG_SqlReaderModel_checkGroups G) (fun r v hv => okM_some ?_)
  obtain ⟨Gv, F, r0, r10⟩ := hv
  exact ⟨IG_IB Gv, r0, r10, fun _ => Gv, Kc_Fr F rfl rfl⟩
theorem kF_J151 {x2 : Int32} {u : St} (I : IB u) (h0 : 0 ≤ x2.toInt) (h1 : x2.toInt ≤ 10) (hg : x2.toInt = 0 → IQ u) : okM (mM_SqlReaderModel_fault_J151 x2 u) (FP u) := by
  have l0 : (0 : Int32).toInt = 0 := by decide
  rw [mM_SqlReaderModel_fault_J151]
  refine okM_eq (fun c _ => okM_eq (fun _ _ => ?_) (fun _ => ?_)) (fun c => kF_J170 I h0 h1 (fun q => by omega))
  · exact kF_J170 I h0 h1 (fun q => IQ_IG (hg q))
  · have Q := hg (by omega)
    have B := IQ_b Q
    refine okM_bM (kG_SqlReaderModel_spread (IQ_IG Q) (by omega)) (fun r v hv => ?_)
    obtain ⟨r0, r3, Gv, K⟩ := hv
    exact okM_mono (kF_J170 (IG_IB Gv) r0 (by omega) (fun _ => Gv)) (fun s w hw => FP_tr K hw)
def S4 (u : St) (x3 : Int32) : Prop := ∀ z : Nat, (z : Int) < x3.toInt → (u.2.1 18 z).toInt = 4 → 0 ≤ (u.2.1 28 (u.2.1 19 z).toNatClampNeg).toInt
theorem kF_L127 : ∀ (n : Nat) {x2 x3 : Int32} {u : St} (I : IB u) (h0 : 0 ≤ x2.toInt) (h1 : x2.toInt ≤ 10) (hg : x2.toInt = 0 → IQ u ∧ S4 u x3) (h3 : 0 ≤ x3.toInt) (h4 : x3.toInt ≤ (u.1 5).toInt) (hm : (1200 - x3.toInt).toNat < n), okM (mM_SqlReaderModel_fault_L127 n x2 x3 u) (FP u) := by
  intro n
  induction n with
  | zero => intro x2 x3 u I h0 h1 hg h3 h4 hm; exact absurd hm (Nat.not_lt_zero _)
  | succ n ih =>
    intro x2 x3 u I h0 h1 hg h3 h4 hm
    have B := IB_b I
    have l0 : (0 : Int32).toInt = 0 := by decide
    have l1 : (1 : Int32).toInt = 1 := by decide
    rw [mM_SqlReaderModel_fault_L127]
    refine okM_le (fun c => kF_J151 I h0 h1 (fun q => (hg q).1)) (fun c => ?_)
    refine okM_eq (fun c2 _ => ?_) (fun c2 => kF_J151 I h0 h1 (fun q => by omega))
    obtain ⟨Q, S⟩ := hg (by omega)
    have c3 := cl_of h3
    have p5 : (ga u 18 x3).toInt ≠ 5 ∨ 0 ≤ (ga u 28 (ga u 19 x3)).toInt := by
      by_cases h : (ga u 18 x3).toInt = 5
      · refine Or.inr ?_
        obtain ⟨_, _, _, n4, _⟩ := (IK_al Q.1).2.1 x3.toNatClampNeg (by omega)
        rcases n4 with q | ⟨_, _, _, _, z, hz, z4, z9⟩
        · exact absurd h q
        · have s := S z (by omega) z4
          rw [z9] at s
          exact s
      · exact Or.inl h
    refine okM_bM (kQ_SqlReaderModel_checkOne Q h3 (by omega) p5) (fun r v hv => okM_seq (fun y hy => ?_))
    obtain ⟨Qv, F, r0, r8, s1, s2⟩ := hv
    have ey : (x3 + 1 : Int32).toInt = x3.toInt + (1 : Int32).toInt := add_i (by omega) (by omega)
    have ey' : y.toInt = x3.toInt + 1 := by rw [hy]; omega
    refine okM_mono (ih (IQ_IB Qv) r0 (by omega) (fun q => ⟨Qv, fun z hz z4 => ?_⟩) (by omega) (by rw [F.1 5 rfl]; omega) (by omega)) (fun s w hw => FP_tr (Kc_Fr F rfl rfl) hw)
    rw [F.2.1 18 rfl] at z4
    rw [F.2.1 19 rfl]
    by_cases h : z = x3.toNatClampNeg
    · rw [h]
      rw [h] at z4
      exact s2 q z4
    · exact s1 _ q (S z (by omega) z4)
theorem kF_J27 {u : St} (I : IP u) : okM (mM_SqlReaderModel_fault_J27 u) (FP u) := by
  have l0 : (0 : Int32).toInt = 0 := by decide
  have l1 : (1 : Int32).toInt = 1 := by decide
  have l2 : (2 : Int32).toInt = 2 := by decide
  have l3 : (3 : Int32).toInt = 3 := by decide
  have l4 : (4 : Int32).toInt = 4 := by decide
  have l8 : (8 : Int32).toInt = 8 := by decide
  have l200 : (200 : Int32).toInt = 200 := by decide
  have FUe : FU = 100000 := rfl
  rw [mM_SqlReaderModel_fault_J27]
  refine okM_bM (kP_SqlReaderModel_takes I (by decide)) (fun r v hv => ?_)
  obtain ⟨Iv, F, _⟩ := hv
  have K : Kc u v := Kc_Fr F rfl rfl
  have B := IP_IB Iv
  have no (k : Int32) (h0 : 0 < k.toInt) (h1 : k.toInt ≤ 10) : okM (some (k, v)) (FP u) := okM_some (FP_ne B K h0 h1)
  refine okM_eq (fun c2 _ => ?_) (fun _ => no 1 (by omega) (by omega))
  refine okM_eq (fun _ _ => ?_) (fun _ => no 1 (by omega) (by omega))
  refine okM_le (fun c4 => ?_) (fun _ => no 2 (by omega) (by omega))
  refine okM_lt (fun _ => no 3 (by omega) (by omega)) (fun c19 => ?_)
  refine okM_lt (fun _ => no 3 (by omega) (by omega)) (fun c16 => ?_)
  refine okM_lt (fun _ => no 3 (by omega) (by omega)) (fun c17 => ?_)
  refine okM_lt (fun _ => no 3 (by omega) (by omega)) (fun c18 => ?_)
  refine okM_lt (fun _ => no 3 (by omega) (by omega)) (fun c24 => ?_)
  refine okM_le (fun c20 => ?_) (fun _ => no 3 (by omega) (by omega))
  have Kv : IK v := ⟨Iv, by omega, by omega, by omega, by omega, by omega, by omega, by omega, by omega⟩
  refine okM_bM (kK_SqlReaderModel_checkTables Kv) (fun s w hw => ?_)
  obtain ⟨s0, s5, Kw, Qw, Fw⟩ := hw
  have Bw := IK_b Kw
  refine okM_mono (kF_L127 _ (IK_IB Kw) s0 (by omega) (fun q => ⟨Qw q, fun z hz => by omega⟩) (by omega) (by omega) (by omega)) (fun t x hx => FP_tr (Kc_tr K (Kc_Fr Fw rfl rfl)) hx)
theorem kF_J27b {u : St} (I : IX u) (hb : (u.1 2).toInt ≠ 0) (h30 : (u.1 30).toInt = 0) : okM (mM_SqlReaderModel_fault_J27 u) (FP u) := by
  have B := IX_b I
  have l0 : (0 : Int32).toInt = 0 := by decide
  have l1 : (1 : Int32).toInt = 1 := by decide
  have W : IW u := ⟨I.1, I.2.1, I.2.2.1⟩
  have t : okM (mM_SqlReaderModel_takes 81 u) (fun _ v => IB v ∧ Kc u v ∧ v.1 2 = u.1 2) := by
    rw [mM_SqlReaderModel_takes]
    refine okM_bP (kM_SqlReaderModel_is W (by decide) (by omega)) (fun r hr => ?_)
    have gz : zb r = true := zb_of (by omega) (by omega)
    have e : (u.1 30 + 1 : Int32).toInt = (u.1 30).toInt + (1 : Int32).toInt := add_i (by omega) (by omega)
    refine okM_eq (fun _ _ => okM_seq (fun w hw => okM_gd gz (okM_some ?_))) (fun _ => okM_seq (fun w hw => okM_gd gz (okM_some ?_)))
    · rw [hw]
      exact ⟨⟨MS_s30 I.1 (by omega) (by omega), I.2.1⟩, Kc_rfl u, rfl⟩
    · rw [hw]
      exact ⟨⟨MS_s30 I.1 (by omega) (by omega), I.2.1⟩, Kc_rfl u, rfl⟩
  rw [mM_SqlReaderModel_fault_J27]
  refine okM_bM t (fun r v hv => ?_)
  obtain ⟨Iv, K, e2⟩ := hv
  refine okM_eq (fun c _ => ?_) (fun _ => okM_some (FP_ne Iv K (by omega) (by omega)))
  rw [e2] at c
  exact absurd c (by omega)
theorem kF_SqlReaderModel_fault {u : St} (I : IB u) (Z : Zf u) : okM (mM_SqlReaderModel_fault u) (FP u) := by
  have l0 : (0 : Int32).toInt = 0 := by decide
  rw [mM_SqlReaderModel_fault]
  refine okM_bP (kM_SqlReaderModel_cut I) (fun u1 h1 => okM_seq (fun u2 e2 => ?_))
  obtain ⟨X1, K1⟩ := h1
  have B1 := IX_b X1
  have X2 : IX u2 := by rw [e2]; exact ⟨MS_s30 X1.1 (by omega) (by omega), X1.2⟩
  have Z1 : Zf u1 := by
    unfold Zf
    rw [K1.1 4 (by decide) (by decide), K1.1 5 (by decide) (by decide), K1.1 7 (by decide) (by decide), K1.1 8 (by decide) (by decide), K1.1 9 (by decide) (by decide), K1.1 10 (by decide) (by decide), K1.1 11 (by decide) (by decide), K1.1 12 (by decide) (by decide), K1.1 13 (by decide) (by decide), K1.1 14 (by decide) (by decide), K1.1 15 (by decide) (by decide), K1.1 16 (by decide) (by decide), K1.1 17 (by decide) (by decide), K1.1 18 (by decide) (by decide), K1.1 19 (by decide) (by decide), K1.1 20 (by decide) (by decide), K1.1 21 (by decide) (by decide), K1.1 22 (by decide) (by decide), K1.1 23 (by decide) (by decide), K1.1 24 (by decide) (by decide), K1.1 25 (by decide) (by decide), K1.1 26 (by decide) (by decide), K1.1 27 (by decide) (by decide), K1.1 28 (by decide) (by decide)]
    exact Z
  have Z2 : Zf u2 := by rw [e2]; exact Z1
  have K2 : Kc u u2 := by
    have q := Kc_Kf K1
    rw [e2]
    exact q
  have p30 : (u2.1 30).toInt = 0 := by rw [e2]; exact l0
  refine okM_eq (fun c _ => ?_) (fun c => okM_mono (kF_J27b X2 (by omega) p30) (fun r v hv => FP_tr K2 hv))
  have P2 : IP u2 := IP_start X2 (by omega) Z2
  have B2 := IP_b P2
  obtain ⟨z4, z5, z7, z8, z9, z10, z11, z12, z13, z14, z15, z16, z17, z18, z19, z20, z21, z22, z23, z24, z25, z26, z27, z28⟩ := Z2
  refine okM_bM (kP_SqlReaderModel_readDeed P2 (by omega) (by omega) (by omega) (by omega) (by omega) (by omega) (by omega) (by omega) (by omega) (by omega)) (fun r v hv => ?_)
  obtain ⟨Iv, F, r0, r1, q0, q1, q2, q3, q4, q5, q6⟩ := hv
  have Bv := IP_b Iv
  have Kv : Kc u v := Kc_tr K2 (Kc_Fr F rfl rfl)
  have e1 : v.1 1 = u2.1 1 := F.1 1 rfl
  refine okM_eq (fun cr _ => ?_) (fun cr => okM_mono (kF_J27 Iv) (fun r v hv => FP_tr Kv hv))
  have a := q5.resolve_left (fun q => by omega)
  obtain ⟨a30, a7, a16, a17, a18, a19, a20, a23, a24⟩ := a
  refine okM_bP (kP_SqlReaderModel_readOther Iv (by omega) (by rw [e1]; omega) (by omega) (by omega) (by omega) (by omega) (by omega) (by omega) (by omega) (by omega) (by omega)) (fun w hw => ?_)
  exact okM_mono (kF_J27 hw.1) (fun r v hv => FP_tr (Kc_tr Kv (Kc_Fr hw.2.1 rfl rfl)) hv)
