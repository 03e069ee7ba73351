/-! PARSING: constants, and nodes made again -/
theorem MA_17 {u : St} {i x : Int32} (I : MA u) (h0 : 0 ≤ x.toInt) (h1 : x.toInt ≤ 31) : MA (sa u 17 i x) := by
  obtain ⟨a, b, c, d, e⟩ := I
  refine ⟨a, b, c, fun j => ?_, e⟩
  show 0 ≤ (upd (u.2.1 17) i.toNatClampNeg x j).toInt ∧ (upd (u.2.1 17) i.toNatClampNeg x j).toInt ≤ 31
  by_cases h : j = i.toNatClampNeg
  · rw [h, pk_us]; exact ⟨h0, h1⟩
  · rw [pk_un h]; exact d j
theorem IPg_17 {u : St} {n d : Int} {i x : Int32} (I : IPg u n d) (h0 : 0 ≤ x.toInt) (h1 : x.toInt ≤ 31) : IPg (sa u 17 i x) n d := ⟨I.1, MA_17 I.2.1 h0 h1, I.2.2⟩
theorem IP_17 {u : St} {i x : Int32} (I : IP u) (h0 : 0 ≤ x.toInt) (h1 : x.toInt ≤ 31) : IP (sa u 17 i x) := IPg_17 I h0 h1
theorem IP_s28 {u : St} {x : Int32} (I : IP u) (h0 : 0 ≤ x.toInt) (h1 : x.toInt ≤ 9) : IP (ss u 28 x) := ⟨MS_s28 I.1 h0 h1, I.2⟩
theorem IP_s30 {u : St} {x : Int32} (I : IP u) (h0 : 0 ≤ x.toInt) (h1 : x.toInt ≤ 4000) : IP (ss u 30 x) := ⟨MS_s30 I.1 h0 h1, I.2⟩
theorem IP_bad {u : St} {x : Int32} (I : IP u) (h0 : 0 ≤ x.toInt) (h1 : x.toInt ≤ 1) (h2 : (u.1 2).toInt ≤ x.toInt) : IP (ss u 2 x) := by
  have B2 : 0 ≤ (u.1 2).toInt ∧ (u.1 2).toInt ≤ 1 := by obtain ⟨_, _, q, _⟩ := I.1; exact q
  refine ⟨MS_s2 I.1 h0 h1, I.2.1, I.2.2.1, fun A => ?_⟩
  have A1 : x.toInt = 0 := A.1
  exact I.2.2.2 ⟨by omega, A.2⟩
theorem kP_SqlReaderModel_constant_J307 {x1 x2 x4 : Int32} {u : St} (I : IP u) (h0 : 0 ≤ x1.toInt) (h1 : x1.toInt < (u.1 1).toInt) (h2 : x2.toInt = (ga u 1 x1).toInt) : okM (mM_SqlReaderModel_constant_J307 x1 x2 x4 u) (fun r v => IP v ∧ Fr [28] [] u v ∧ r.toInt = x4.toInt) := by
  have B := IP_b I
  have T := IT_tok (IP_IT I) x1
  have l1 : (1 : Int32).toInt = 1 := by decide
  have l5 : (5 : Int32).toInt = 5 := by decide
  have l48 : (48 : Int32).toInt = 48 := by decide
  rw [mM_SqlReaderModel_constant_J307]
  refine okM_eq (fun c c' => ?_) (fun c => ?_)
  · have g1 : inb x1 2001 = true := inb_of (by omega) (by omega)
    have e : (ga u 2 x1 + 1 : Int32).toInt = (ga u 2 x1).toInt + (1 : Int32).toInt := add_i (by omega) (by omega)
    have g2 : inb (ga u 2 x1 + 1) 2000 = true := inb_of (by omega) (by omega)
    have e2 : (ga u 0 (ga u 2 x1 + 1) - 48 : Int32).toInt = (ga u 0 (ga u 2 x1 + 1)).toInt - (48 : Int32).toInt := sub_i (by omega) (by omega)
    refine okM_gd g1 (okM_gd g2 ?_)
    refine okM_le (fun c => okM_seq (fun v hv => okM_some ?_)) (fun c => okM_gd g1 (okM_gd g2 (okM_seq (fun v hv => okM_some ?_))))
    · subst hv
      exact ⟨IP_s28 I (by omega) (by omega), Fr_ss (Fr_rfl u) rfl rfl, rfl⟩
    · subst hv
      exact ⟨IP_s28 I (by omega) (by omega), Fr_ss (Fr_rfl u) rfl rfl, rfl⟩
  · refine okM_seq (fun v hv => okM_some ?_)
    subst hv
    exact ⟨IP_s28 I (by omega) (by omega), Fr_ss (Fr_rfl u) rfl rfl, rfl⟩
theorem kP_SqlReaderModel_constant_L224 : ∀ (n : Nat) {x1 x2 x4 x5 : Int32} {u : St} (I : IP u) (h0 : 0 ≤ x1.toInt) (h1 : x1.toInt < (u.1 1).toInt) (h2 : x2.toInt = (ga u 1 x1).toInt) (h3 : 0 ≤ x4.toInt) (h4 : x4.toInt < 200) (h5 : 0 ≤ x5.toInt) (h6 : x5.toInt ≤ 2000) (hs : x2.toInt = 4 → ∃ c : Nat, stp (u.2.1 0) c x5.toInt.toNat ((ga u 3 x1).toInt.toNat - 1) ∧ (ga u 17 x4).toInt + c ≤ 31) (hm : (2003 - x5.toInt).toNat < n), okM (mM_SqlReaderModel_constant_L224 n x1 x2 x4 x5 u) (fun r v => IP v ∧ Fr [28] [16, 17] u v ∧ r.toInt = x4.toInt) := by
  intro n
  induction n with
  | zero => intro x1 x2 x4 x5 u I h0 h1 h2 h3 h4 h5 h6 hs hm; exact absurd hm (Nat.not_lt_zero _)
  | succ n ih =>
    intro x1 x2 x4 x5 u I h0 h1 h2 h3 h4 h5 h6 hs hm
    have B := IP_b I
    have T := IT_tok (IP_IT I) x1
    have l1 : (1 : Int32).toInt = 1 := by decide
    have l4 : (4 : Int32).toInt = 4 := by decide
    have l31 : (31 : Int32).toInt = 31 := by decide
    have L17 := IT_a17 (IP_IT I) x4
    have J := okM_mono (kP_SqlReaderModel_constant_J307 (x4 := x4) I h0 h1 h2) (fun r v hv => (⟨hv.1, Fr_tr (Fr_rfl u) hv.2.1 rfl rfl, hv.2.2⟩ : IP v ∧ Fr [28] [16, 17] u v ∧ r.toInt = x4.toInt))
    rw [mM_SqlReaderModel_constant_L224]
    refine okM_eq (fun c c' => ?_) (fun c => J)
    have g1 : inb x1 2001 = true := inb_of (by omega) (by omega)
    have e3 : (ga u 3 x1 - 1 : Int32).toInt = (ga u 3 x1).toInt - (1 : Int32).toInt := sub_i (by omega) (by omega)
    refine okM_gd g1 ?_
    refine okM_le (fun c => J) (fun c2 => ?_)
    obtain ⟨cn, hst, hle⟩ := hs (by omega)
    have gx : inb x4 200 = true := inb_of (by omega) (by omega)
    have g5 : inb x5 2000 = true := inb_of (by omega) (by omega)
    cases cn with
    | zero =>
      exfalso
      have q : x5.toInt.toNat = (ga u 3 x1).toInt.toNat - 1 := hst
      omega
    | succ cn =>
      have em : (31 * x4 : Int32).toInt = 31 * x4.toInt := cmu_i l31 (by omega) (by omega)
      have ea : (31 * x4 + ga u 17 x4 : Int32).toInt = (31 * x4 : Int32).toInt + (ga u 17 x4).toInt := add_i (by omega) (by omega)
      refine okM_gd gx (okM_gd g5 (okM_gd (inb_of (by omega) (by omega)) (okM_seq (fun u12 e12 => ?_))))
      subst e12
      refine okM_gd gx (okM_gd gx (okM_seq (fun u13 e13 => ?_)))
      have I12 : IP (sa u 16 (31 * x4 + ga u 17 x4) (i2b (ga u 0 x5))) := I
      have e17 : (ga u 17 x4 + 1 : Int32).toInt = (ga u 17 x4).toInt + (1 : Int32).toInt := add_i (by omega) (by omega)
      have I13 : IP u13 := by
        rw [e13]
        exact IP_17 I12 (show 0 ≤ (ga u 17 x4 + 1 : Int32).toInt by omega) (show (ga u 17 x4 + 1 : Int32).toInt ≤ 31 by omega)
      have F13 : Fr [28] [16, 17] u u13 := by
        rw [e13]
        exact Fr_sa (Fr_sa (Fr_rfl u) rfl rfl rfl) rfl rfl rfl
      have t0 : u13.2.1 0 = u.2.1 0 := by rw [e13]; rfl
      have t1 : u13.1 1 = u.1 1 := by rw [e13]; rfl
      have t2 : ga u13 1 x1 = ga u 1 x1 := by rw [e13]; rfl
      have t3 : ga u13 3 x1 = ga u 3 x1 := by rw [e13]; rfl
      have t17 : (ga u13 17 x4).toInt = (ga u 17 x4).toInt + 1 := by
        rw [e13]
        show (upd (u.2.1 17) x4.toNatClampNeg (ga u 17 x4 + 1) x4.toNatClampNeg).toInt = _
        rw [pk_us]
        omega
      have c5 := cl_of (i := x5) h5
      have c5' : x5.toNatClampNeg = x5.toInt.toNat := by omega
      have ga5 : ga u13 0 x5 = u.2.1 0 x5.toInt.toNat := by
        show u13.2.1 0 x5.toNatClampNeg = _
        rw [t0, c5']
      have e51 : (x5 + 1 : Int32).toInt = x5.toInt + (1 : Int32).toInt := add_i (by omega) (by omega)
      have hle2 := stp_le hst.2
      refine okM_gd g5 ?_
      refine okM_eq (fun c3 c3' => okM_seq (fun y hy => okM_seq (fun z hz => ?_))) (fun c3 => okM_seq (fun y hy => ?_))
      · have ey : y.toInt = x5.toInt + 1 := by rw [hy]; omega
        have ez0 : (y + 1 : Int32).toInt = y.toInt + (1 : Int32).toInt := add_i (by omega) (by omega)
        have ez : z.toInt = x5.toInt + 2 := by rw [hz]; omega
        have en : nx (u.2.1 0) x5.toInt.toNat = z.toInt.toNat := by
          unfold nx
          rw [if_pos (by rw [← ga5]; exact c3')]
          omega
        have hst2 := hst.2
        rw [en] at hst2 hle2
        refine okM_mono (ih I13 h0 (by rw [t1]; exact h1) (by rw [t2]; exact h2) h3 h4 (by omega) (by omega) (fun _ => ⟨cn, by rw [t0, t3]; exact hst2, by rw [t17]; omega⟩) (by omega)) (fun r v hv => ⟨hv.1, Fr_tr F13 hv.2.1 rfl rfl, hv.2.2⟩)
      · have ey : y.toInt = x5.toInt + 1 := by rw [hy]; omega
        have en : nx (u.2.1 0) x5.toInt.toNat = y.toInt.toNat := by
          unfold nx
          rw [if_neg (by rw [← ga5]; exact fun q => c3 (by rw [q]))]
          omega
        have hst2 := hst.2
        rw [en] at hst2 hle2
        refine okM_mono (ih I13 h0 (by rw [t1]; exact h1) (by rw [t2]; exact h2) h3 h4 (by omega) (by omega) (fun _ => ⟨cn, by rw [t0, t3]; exact hst2, by rw [t17]; omega⟩) (by omega)) (fun r v hv => ⟨hv.1, Fr_tr F13 hv.2.1 rfl rfl, hv.2.2⟩)
theorem kP_SqlReaderModel_constant_J205 {x1 x2 x4 s1 : Int32} {s2 : Int64} {u : St} (I : IP u) (h0 : 0 ≤ x1.toInt) (h1 : x1.toInt < (u.1 1).toInt) (h2 : x2.toInt = (ga u 1 x1).toInt) (h3 : 0 ≤ x4.toInt) (h4 : x4.toInt < 200) (h5 : s1 = x4) : okM (mM_SqlReaderModel_constant_J205 x1 x2 x4 s1 s2 u) (fun r v => IP v ∧ Fr [28] [16, 17] u v ∧ r.toInt = x4.toInt) := by
  have B := IP_b I
  have T := IT_tok (IP_IT I) x1
  have l0 : (0 : Int32).toInt = 0 := by decide
  have l1 : (1 : Int32).toInt = 1 := by decide
  have FUe : FU = 100000 := rfl
  subst h5
  have gx : inb s1 200 = true := inb_of (by omega) (by omega)
  have g1 : inb x1 2001 = true := inb_of (by omega) (by omega)
  rw [mM_SqlReaderModel_constant_J205]
  refine okM_gd gx (okM_seq (fun u9 e9 => okM_gd gx (okM_seq (fun u10 e10 => okM_gd g1 (okM_seq (fun y hy => ?_))))))
  subst e9
  have I9 : IP (sl u 0 s1 s2) := I
  have I10 : IP u10 := by rw [e10]; exact IP_17 I9 (by omega) (by omega)
  have F10 : Fr [28] [16, 17] u u10 := by rw [e10]; exact Fr_sa (Fr_sl (Fr_rfl u)) rfl rfl rfl
  have t0 : u10.2.1 0 = u.2.1 0 := by rw [e10]; rfl
  have t1 : u10.1 1 = u.1 1 := by rw [e10]; rfl
  have t2 : ga u10 1 x1 = ga u 1 x1 := by rw [e10]; rfl
  have t22 : ga u10 2 x1 = ga u 2 x1 := by rw [e10]; rfl
  have t3 : ga u10 3 x1 = ga u 3 x1 := by rw [e10]; rfl
  have t17 : (ga u10 17 s1).toInt = 0 := by
    rw [e10]
    show (upd (u.2.1 17) s1.toNatClampNeg 0 s1.toNatClampNeg).toInt = 0
    rw [pk_us]
    exact l0
  have e : (ga u 2 x1 + 1 : Int32).toInt = (ga u 2 x1).toInt + (1 : Int32).toInt := add_i (by omega) (by omega)
  have ey : y.toInt = (ga u 2 x1).toInt + 1 := by rw [hy, t22]; omega
  refine okM_mono (kP_SqlReaderModel_constant_L224 _ I10 h0 (by rw [t1]; exact h1) (by rw [t2]; exact h2) h3 h4 (by omega) (by omega) (fun q4 => ?_) (by omega)) (fun r v hv => ⟨hv.1, Fr_tr F10 hv.2.1 rfl rfl, hv.2.2⟩)
  have c1 := cl_of (i := x1) h0
  obtain ⟨_, _, _, k4⟩ := I.2.2.1 x1.toNatClampNeg (by omega)
  rcases k4 with k4 | ⟨c, hc, hst⟩
  · exfalso
    have q : (ga u 1 x1).toInt ≠ 4 := k4
    omega
  · refine ⟨c, ?_, by rw [t17]; omega⟩
    rw [t0, t3, ey]
    have en : ((ga u 2 x1).toInt + 1).toNat = (ga u 2 x1).toInt.toNat + 1 := by omega
    rw [en]
    exact hst
/-- again: the letters -/
theorem kP_SqlReaderModel_again_L230 {q62 : Int32 → Int32 → Int32 → St → Option (Int32 × St)} {Q : Int32 → St → Prop} {x2 x4 x5 x7 : Int32} (h5 : 0 ≤ x5.toInt) (h5' : x5.toInt < 200) (h7 : 0 ≤ x7.toInt) (h7' : x7.toInt < 200) : ∀ (n : Nat) {x8 : Int32} {u : St} (I : IP u) (h8 : 0 ≤ x8.toInt) (h8' : x8.toInt ≤ 31) (hq : ∀ {v : St}, IP v → Fr [] [16] u v → okM (q62 x2 x4 (x5 + 1) v) Q) (hm : (31 - x8.toInt).toNat < n), okM (mM_SqlReaderModel_again_L230 q62 n x2 x4 x5 x7 x8 u) Q := by
  intro n
  induction n with
  | zero => intro x8 u I h8 h8' hq hm; exact absurd hm (Nat.not_lt_zero _)
  | succ n ih =>
    intro x8 u I h8 h8' hq hm
    have l1 : (1 : Int32).toInt = 1 := by decide
    have l31 : (31 : Int32).toInt = 31 := by decide
    have L17 := IT_a17 (IP_IT I) x5
    rw [mM_SqlReaderModel_again_L230]
    refine okM_gd (inb_of (by omega) (by omega)) ?_
    refine okM_le (fun c => okM_seq (fun y hy => by subst hy; exact hq I (Fr_rfl u))) (fun c => ?_)
    have em : (31 * x5 : Int32).toInt = 31 * x5.toInt := cmu_i l31 (by omega) (by omega)
    have em7 : (31 * x7 : Int32).toInt = 31 * x7.toInt := cmu_i l31 (by omega) (by omega)
    have e5 : (31 * x5 + x8 : Int32).toInt = (31 * x5 : Int32).toInt + x8.toInt := add_i (by omega) (by omega)
    have e7 : (31 * x7 + x8 : Int32).toInt = (31 * x7 : Int32).toInt + x8.toInt := add_i (by omega) (by omega)
    have e8 : (x8 + 1 : Int32).toInt = x8.toInt + (1 : Int32).toInt := add_i (by omega) (by omega)
    refine okM_gd (inb_of (by omega) (by omega)) (okM_gd (inb_of (by omega) (by omega)) (okM_seq (fun u10 e10 => okM_seq (fun y hy => ?_))))
    have I10 : IP u10 := by rw [e10]; exact I
    have F10 : Fr [] [16] u u10 := by rw [e10]; exact Fr_sa (Fr_rfl u) rfl rfl rfl
    exact ih I10 (by rw [hy]; omega) (by rw [hy]; omega) (fun Iv Fv => hq Iv (Fr_tr F10 Fv rfl rfl)) (by rw [hy]; omega)
def AGk : List Nat := [4, 5]
def AGa : List Nat := [10, 11, 12, 13, 14, 15, 16, 17, 18, 19, 20]
theorem kP_SqlReaderModel_again_J166 {q62 : Int32 → Int32 → Int32 → St → Option (Int32 × St)} {Q : Int32 → St → Prop} {x2 x4 x5 s1 s2 s3 : Int32} {u : St} (I : IP u) (h5 : 0 ≤ x5.toInt) (h6 : x5.toInt < (u.1 4).toInt) (h7 : (u.1 4).toInt < 200) (hd : (u.1 2).toInt = 0 → NDv (u.1 1).toInt (u.1 4).toInt.toNat s1 s2 s3 (ga u 14 x5) (ga u 15 x5)) (hq : ∀ {v : St}, IP v → Fr [4, 5] [10, 11, 12, 13, 14, 15, 16, 17, 18, 19, 20] u v → (v.1 4).toInt = (u.1 4).toInt + 1 → okM (q62 x2 x4 (x5 + 1) v) Q) : okM (mM_SqlReaderModel_again_J166 q62 x2 x4 x5 s1 s2 s3 u) Q := by
  have B4 := IP_4 I
  have l0 : (0 : Int32).toInt = 0 := by decide
  have FUe : FU = 100000 := rfl
  have cc := cl_of (i := u.1 4) (by omega)
  have cn : (u.1 4).toNatClampNeg = (u.1 4).toInt.toNat := by omega
  rw [mM_SqlReaderModel_again_J166]
  refine okM_bM (kP_add_g I (by omega)) (fun r v hv => ?_)
  obtain ⟨a1, a2, a3, a4, a5⟩ := hv
  subst a3
  obtain ⟨b1, b2, b3⟩ := a5 (by omega)
  have gx : inb x5 200 = true := inb_of (by omega) (by omega)
  have gn : inb (u.1 4) 200 = true := inb_of (by omega) (by omega)
  have t14 : ga v 14 x5 = ga u 14 x5 := by show v.2.1 14 _ = _; rw [a2.2.1 14 rfl]; rfl
  have t15 : ga v 15 x5 = ga u 15 x5 := by show v.2.1 15 _ = _; rw [a2.2.1 15 rfl]; rfl
  refine okM_gd gx (okM_gd gn (okM_seq (fun u5 e5 => okM_gd gx (okM_gd gn (okM_seq (fun u6 e6 => okM_gd gx (okM_gd gn (okM_seq (fun u7 e7 => okM_gd gx (okM_gd gn (okM_seq (fun u8 e8 => ?_))))))))))))
  subst e5
  subst e6
  subst e7
  have FF : Fr [4, 5] [10, 11, 12, 13, 14, 15, 16, 17, 18, 19, 20] u v := Fr_tr (Fr_rfl u) a2 rfl rfl
  have IA : IP (sl (sa (sa v 14 (u.1 4) (ga v 14 x5)) 15 (u.1 4) (ga v 15 x5)) 0 (u.1 4) (gl (sa (sa v 14 (u.1 4) (ga v 14 x5)) 15 (u.1 4) (ga (sa v 14 (u.1 4) (ga v 14 x5)) 15 x5)) 0 x5)) := by
    refine IPg_fin (n := (u.1 4).toInt) ?_ a4 (by omega) (fun hb hn => ?_)
    · obtain ⟨ms, ma, tk, al⟩ := a1
      refine ⟨ms, ma, tk, fun A => ?_⟩
      obtain ⟨n1, n2, n3⟩ := al A
      refine ⟨fun j hj => ?_, n2, n3⟩
      have ne : j ≠ (u.1 4).toNatClampNeg := by omega
      show NDv (v.1 1).toInt j (v.2.1 10 j) (v.2.1 11 j) (v.2.1 12 j) (upd (v.2.1 14) (u.1 4).toNatClampNeg _ j) (upd (v.2.1 15) (u.1 4).toNatClampNeg _ j)
      rw [pk_un ne, pk_un ne]
      exact n1 j hj
    · show NDv (v.1 1).toInt (u.1 4).toInt.toNat (v.2.1 10 (u.1 4).toInt.toNat) (v.2.1 11 (u.1 4).toInt.toNat) (v.2.1 12 (u.1 4).toInt.toNat) (upd (v.2.1 14) (u.1 4).toNatClampNeg (ga v 14 x5) (u.1 4).toInt.toNat) (upd (v.2.1 15) (u.1 4).toNatClampNeg (ga v 15 x5) (u.1 4).toInt.toNat)
      rw [← cn, pk_us, pk_us, cn, b1, b2, b3, show v.1 1 = u.1 1 from a2.1 1 rfl, t14, t15]
      have hb' : (v.1 2).toInt = 0 := hb
      rw [show v.1 2 = u.1 2 from a2.1 2 rfl] at hb'
      exact hd hb'
  have L17 := IT_a17 (IP_IT I) x5
  have t17 : ga v 17 x5 = ga u 17 x5 := by show v.2.1 17 _ = _; rw [a2.2.1 17 rfl]; rfl
  have I8 : IP u8 := by
    rw [e8]
    exact IP_17 IA (show 0 ≤ (ga v 17 x5).toInt by rw [t17]; omega) (show (ga v 17 x5).toInt ≤ 31 by rw [t17]; omega)
  have F8 : Fr [4, 5] [10, 11, 12, 13, 14, 15, 16, 17, 18, 19, 20] u u8 := by
    rw [e8]
    exact Fr_sa (Fr_sl (Fr_sa (Fr_sa FF rfl rfl rfl) rfl rfl rfl)) rfl rfl rfl
  have g4 : (u8.1 4).toInt = (u.1 4).toInt + 1 := by rw [e8]; exact a4
  exact kP_SqlReaderModel_again_L230 h5 (by omega) (by omega) (by omega) _ I8 (by omega) (by omega) (fun Iv Fv => hq Iv (Fr_tr F8 Fv rfl rfl) (by rw [Fv.1 4 rfl]; exact g4)) (by omega)
theorem kP_SqlReaderModel_again_L62 : ∀ (n : Nat) {x2 x4 x5 : Int32} {u : St} (I : IP u) (h0 : 0 ≤ x5.toInt) (h1 : x5.toInt ≤ x2.toInt) (h2 : 0 ≤ x4.toInt) (h3 : (u.1 4).toInt = x5.toInt + x4.toInt) (h4 : x2.toInt + x4.toInt ≤ 200) (h6 : x5.toInt = x2.toInt ∨ 0 < x4.toInt) (hm : (200 - x5.toInt).toNat < n), okM (mM_SqlReaderModel_again_L62 n x2 x4 x5 u) (fun r v => IP v ∧ Fr [4, 5] [10, 11, 12, 13, 14, 15, 16, 17, 18, 19, 20] u v ∧ (v.1 4).toInt = x2.toInt + x4.toInt ∧ r.toInt = (v.1 4).toInt - 1) := by
  intro n
  induction n with
  | zero => intro x2 x4 x5 u I h0 h1 h2 h3 h4 h6 hm; exact absurd hm (Nat.not_lt_zero _)
  | succ n ih =>
    intro x2 x4 x5 u I h0 h1 h2 h3 h4 h6 hm
    have B4 := IP_4 I
    have l0 : (0 : Int32).toInt = 0 := by decide
    have l1 : (1 : Int32).toInt = 1 := by decide
    have l5 : (5 : Int32).toInt = 5 := by decide
    have l28 : (28 : Int32).toInt = 28 := by decide
    have es : (u.1 4 - 1 : Int32).toInt = (u.1 4).toInt - (1 : Int32).toInt := sub_i (by omega) (by omega)
    rw [mM_SqlReaderModel_again_L62]
    refine okM_le (fun c => okM_some ⟨I, Fr_rfl u, by omega, by omega⟩) (fun c => ?_)
    have gx : inb x5 200 = true := inb_of (by omega) (by omega)
    have e5 : (x5 + 1 : Int32).toInt = x5.toInt + (1 : Int32).toInt := add_i (by omega) (by omega)
    have c5 := cl_of (i := x5) h0
    have cn : (((u.1 4).toInt.toNat : Nat) : Int) = (u.1 4).toInt := by omega
    have nd : (u.1 2).toInt = 0 → NDv (u.1 1).toInt x5.toNatClampNeg (ga u 10 x5) (ga u 11 x5) (ga u 12 x5) (ga u 14 x5) (ga u 15 x5) := fun hb => (I.2.2.2 ⟨hb, by omega⟩).1 x5.toNatClampNeg (by omega)
    have next : ∀ {v : St}, IP v → Fr [4, 5] [10, 11, 12, 13, 14, 15, 16, 17, 18, 19, 20] u v → (v.1 4).toInt = (u.1 4).toInt + 1 → okM (mM_SqlReaderModel_again_L62 n x2 x4 (x5 + 1) v) (fun r w => IP w ∧ Fr [4, 5] [10, 11, 12, 13, 14, 15, 16, 17, 18, 19, 20] u w ∧ (w.1 4).toInt = x2.toInt + x4.toInt ∧ r.toInt = (w.1 4).toInt - 1) := by
      intro v Iv Fv ev
      exact okM_mono (ih Iv (by omega) (by omega) h2 (by omega) h4 (by omega) (by omega)) (fun r w hw => ⟨hw.1, Fr_tr Fv hw.2.1 rfl rfl, hw.2.2⟩)
    have keep : ((u.1 2).toInt = 0 → (ga u 10 x5).toInt < 6 ∨ (ga u 10 x5).toInt = 28) → okM (mM_SqlReaderModel_again_J96 (mM_SqlReaderModel_again_L62 n) x2 x4 x5 0 u) (fun r w => IP w ∧ Fr [4, 5] [10, 11, 12, 13, 14, 15, 16, 17, 18, 19, 20] u w ∧ (w.1 4).toInt = x2.toInt + x4.toInt ∧ r.toInt = (w.1 4).toInt - 1) := by
      intro hk
      rw [mM_SqlReaderModel_again_J96]
      refine okM_gd gx (okM_pos (by decide) (okM_gd gx ?_))
      rw [mM_SqlReaderModel_again_J131]
      refine okM_pos (by decide) (okM_gd gx ?_)
      refine kP_SqlReaderModel_again_J166 I h0 (by omega) (by omega) (fun hb => ?_) next
      obtain ⟨n1, n2, n3, n4, n5⟩ := nd hb
      have hk' := hk hb
      exact ⟨n1, n2, by omega, n4, n5⟩
    refine okM_gd gx ?_
    refine okM_le (fun k5 => keep (fun _ => Or.inl (by omega))) (fun k5 => okM_gd gx ?_)
    refine okM_le (fun k28 => keep (fun hb => by obtain ⟨n1, _⟩ := nd hb; omega)) (fun k28 => ?_)
    rw [mM_SqlReaderModel_again_J96]
    refine okM_gd gx (okM_neg (by decide) (okM_gd gx ?_))
    have el : (u.1 2).toInt = 0 → (ga u 11 x5 + x4 : Int32).toInt = (ga u 11 x5).toInt + x4.toInt := fun hb => by
      obtain ⟨n1, n2, n3, n4⟩ := nd hb
      exact add_i (by omega) (by omega)
    have er : (u.1 2).toInt = 0 → (ga u 12 x5 + x4 : Int32).toInt = (ga u 12 x5).toInt + x4.toInt := fun hb => by
      obtain ⟨n1, n2, n3, n4⟩ := nd hb
      exact add_i (by omega) (by omega)
    rw [mM_SqlReaderModel_again_J131]
    refine okM_neg (by decide) (okM_gd gx ?_)
    refine okM_lt (fun kr => okM_gd gx ?_) (fun kr => okM_gd gx ?_)
    · refine kP_SqlReaderModel_again_J166 I h0 (by omega) (by omega) (fun hb => ?_) next
      obtain ⟨n1, n2, n3, n4, n5⟩ := nd hb
      have e1 := el hb
      exact ⟨n1, by omega, Or.inr (Or.inr (by omega)), Or.inl (by omega), by omega⟩
    · refine kP_SqlReaderModel_again_J166 I h0 (by omega) (by omega) (fun hb => ?_) next
      obtain ⟨n1, n2, n3, n4, n5⟩ := nd hb
      have e1 := el hb
      have e2 := er hb
      exact ⟨n1, by omega, Or.inr (Or.inr (by omega)), Or.inl (by omega), by omega⟩
theorem IP_big {u : St} {x : Int32} (I : IP u) (h0 : 200 < x.toInt) (h1 : x.toInt ≤ 200000) : IP (ss u 4 x) := by
  refine ⟨MS_s4 I.1 (by omega) h1, I.2.1, I.2.2.1, fun A => ?_⟩
  have A2 : x.toInt ≤ 200 := A.2
  omega
theorem kP_SqlReaderModel_again {B : Int} {x1 x2 : Int32} {u : St} (I : IP u) (b0 : (u.1 4).toInt ≤ B) (b1 : 100000 ≤ B) (b2 : B ≤ 199000) (h0 : 0 ≤ x1.toInt) (h1 : x1.toInt ≤ x2.toInt ∨ 200 < x2.toInt) (h2 : x2.toInt ≤ (u.1 4).toInt ∨ 200 < (u.1 4).toInt) (h3 : x1.toInt ≤ 199000) (h4 : x2.toInt ≤ 199000) (h5 : 0 ≤ x2.toInt) (h6 : (u.1 4).toInt ≤ 199000) : okM (mM_SqlReaderModel_again x1 x2 u) (fun r v => IP v ∧ Fr [4, 5] [10, 11, 12, 13, 14, 15, 16, 17, 18, 19, 20] u v ∧ (v.1 4).toInt ≤ B ∧ ((u.1 4).toInt ≤ (v.1 4).toInt ∨ 200 < (v.1 4).toInt) ∧ r.toInt = (v.1 4).toInt - 1) := by
  have B4 := IP_4 I
  have l1 : (1 : Int32).toInt = 1 := by decide
  have l200 : (200 : Int32).toInt = 200 := by decide
  have lh : (100000 : Int32).toInt = 100000 := by decide
  have FUe : FU = 100000 := rfl
  have e1 : (x2 - x1 : Int32).toInt = x2.toInt - x1.toInt := sub_i (by omega) (by omega)
  rw [mM_SqlReaderModel_again]
  refine okM_seq (fun y hy => ?_)
  have ey : y.toInt = x2.toInt - x1.toInt := by rw [hy]; exact e1
  have e2 : (u.1 4 + y : Int32).toInt = (u.1 4).toInt + y.toInt := add_i (by omega) (by omega)
  have e3 : (u.1 4 - x1 : Int32).toInt = (u.1 4).toInt - x1.toInt := sub_i (by omega) (by omega)
  have e5 : (u.1 4 - 1 : Int32).toInt = (u.1 4).toInt - (1 : Int32).toInt := sub_i (by omega) (by omega)
  refine okM_le (fun c => okM_seq (fun y2 hy2 => ?_)) (fun c => ?_)
  · have ey2 : y2.toInt = (u.1 4).toInt - x1.toInt := by rw [hy2]; exact e3
    by_cases hx : x1.toInt ≤ x2.toInt
    · refine okM_mono (kP_SqlReaderModel_again_L62 _ I h0 hx (by omega) (by omega) (by omega) (by omega) (by omega)) (fun r v hv => ⟨hv.1, hv.2.1, by omega, by omega, hv.2.2.2⟩)
    · rw [show FU = 99999 + 1 from rfl, mM_SqlReaderModel_again_L62]
      exact okM_le (fun c2 => okM_some ⟨I, Fr_rfl u, by omega, by omega, by omega⟩) (fun c2 => by exfalso; omega)
  · refine okM_le (fun c2 => okM_seq (fun v hv => okM_some ?_)) (fun c2 => okM_seq (fun v hv => okM_some ?_))
    · subst hv
      have e4 : (u.1 4 + y - 1 : Int32).toInt = (u.1 4 + y : Int32).toInt - (1 : Int32).toInt := sub_i (by omega) (by omega)
      exact ⟨IP_big I (by omega) (by omega), Fr_ss (Fr_rfl u) rfl rfl, by show (u.1 4 + y : Int32).toInt ≤ _; omega, Or.inr (by show _ < (u.1 4 + y : Int32).toInt; omega), by show (u.1 4 + y - 1 : Int32).toInt = (u.1 4 + y : Int32).toInt - 1; omega⟩
    · subst hv
      exact ⟨IP_big I (by omega) (by omega), Fr_ss (Fr_rfl u) rfl rfl, by show (100000 : Int32).toInt ≤ _; omega, Or.inr (by show _ < (100000 : Int32).toInt; omega), by show (100000 - 1 : Int32).toInt = (100000 : Int32).toInt - 1; decide⟩
