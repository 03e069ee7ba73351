/-! THE CATALOG'S FRAME, AND WHAT HOLDS BEHIND THE CHECKS (IG) -/
def Kc (u v : St) : Prop := v.1 3 = u.1 3 ∧ v.2.1 4 = u.2.1 4 ∧ v.2.1 5 = u.2.1 5 ∧ v.2.1 6 = u.2.1 6 ∧ v.2.1 7 = u.2.1 7 ∧ v.2.1 8 = u.2.1 8 ∧ v.2.1 9 = u.2.1 9
theorem Kc_rfl (u : St) : Kc u u := ⟨rfl, rfl, rfl, rfl, rfl, rfl, rfl⟩
theorem Kc_tr {u v w : St} (h : Kc u v) (g : Kc v w) : Kc u w := by
  obtain ⟨h0, h1, h2, h3, h4, h5, h6⟩ := h
  obtain ⟨g0, g1, g2, g3, g4, g5, g6⟩ := g
  exact ⟨g0.trans h0, g1.trans h1, g2.trans h2, g3.trans h3, g4.trans h4, g5.trans h5, g6.trans h6⟩
def cat6 (as : List Nat) : Bool := !(inL as 4) && !(inL as 5) && !(inL as 6) && !(inL as 7) && !(inL as 8) && !(inL as 9)
theorem cat6_of {as : List Nat} (h : cat6 as = true) : inL as 4 = false ∧ inL as 5 = false ∧ inL as 6 = false ∧ inL as 7 = false ∧ inL as 8 = false ∧ inL as 9 = false := by
  unfold cat6 at h
  revert h
  cases inL as 4 <;> cases inL as 5 <;> cases inL as 6 <;> cases inL as 7 <;> cases inL as 8 <;> cases inL as 9 <;> decide
theorem Kc_Fr {ks as : List Nat} {u v : St} (F : Fr ks as u v) (h3 : inL ks 3 = false) (ha : cat6 as = true) : Kc u v := by
  obtain ⟨a, b, c, d, e, f⟩ := cat6_of ha
  exact ⟨F.1 3 h3, F.2.1 4 a, F.2.1 5 b, F.2.1 6 c, F.2.1 7 d, F.2.1 8 e, F.2.1 9 f⟩
theorem Kc_Kf {u v : St} (K : Kf u v) : Kc u v := ⟨K.1 3 (by decide) (by decide), K.2.1 4 (by decide) (by decide) (by decide), K.2.1 5 (by decide) (by decide) (by decide), K.2.1 6 (by decide) (by decide) (by decide), K.2.1 7 (by decide) (by decide) (by decide), K.2.1 8 (by decide) (by decide) (by decide), K.2.1 9 (by decide) (by decide) (by decide)⟩
def NWv (j : Nat) (k l r : Int32) : Prop := (0 ≤ k.toInt ∧ k.toInt ≤ 28) ∧ (k.toInt < 6 ∨ k.toInt = 28 ∨ (0 ≤ l.toInt ∧ l.toInt < j ∧ -1 ≤ r.toInt ∧ r.toInt < j)) ∧ (k.toInt ≠ 28 ∨ (1 ≤ l.toInt ∧ l.toInt ≤ 9))
def NW (u : St) (n : Int) : Prop := ∀ j : Nat, (j : Int) < n → NWv j (u.2.1 10 j) (u.2.1 11 j) (u.2.1 12 j)
def KG (u : St) : Prop := (u.1 2).toInt = 0 ∧ (u.1 4).toInt ≤ 200 ∧ (u.1 16).toInt ≤ 16 ∧ (u.1 17).toInt ≤ 4 ∧ (u.1 18).toInt ≤ 4 ∧ (u.1 19).toInt ≤ 3 ∧ (u.1 20).toInt ≤ 8 ∧ (u.1 24).toInt ≤ 8
def FTs (u : St) : Prop := ∀ j : Nat, (j : Int) < (u.1 19).toInt → 0 ≤ (u.2.1 24 j).toInt
def IG (u : St) : Prop := MS u ∧ MA u ∧ TK u ∧ KG u ∧ NW u (u.1 4).toInt ∧ RS u (u.1 4).toInt ∧ FTs u ∧ ((u.1 10).toInt < 0 ∨ 0 ≤ (u.1 9).toInt)
theorem IG_b {u : St} (I : IG u) : (((0 ≤ (u.1 0).toInt ∧ (u.1 0).toInt ≤ 2000) ∧ (0 ≤ (u.1 1).toInt ∧ (u.1 1).toInt ≤ 2000) ∧ (0 ≤ (u.1 2).toInt ∧ (u.1 2).toInt ≤ 1) ∧ (0 ≤ (u.1 3).toInt ∧ (u.1 3).toInt ≤ 8) ∧ (0 ≤ (u.1 4).toInt ∧ (u.1 4).toInt ≤ 200000) ∧ (0 ≤ (u.1 5).toInt ∧ (u.1 5).toInt ≤ 1200) ∧ (-1 ≤ (u.1 9).toInt ∧ (u.1 9).toInt ≤ 7) ∧ (-1 ≤ (u.1 10).toInt ∧ (u.1 10).toInt ≤ 4000) ∧ (-1 ≤ (u.1 12).toInt ∧ (u.1 12).toInt ≤ 4000) ∧ (0 ≤ (u.1 13).toInt ∧ (u.1 13).toInt ≤ 1) ∧ (0 ≤ (u.1 14).toInt ∧ (u.1 14).toInt ≤ 1) ∧ (0 ≤ (u.1 16).toInt ∧ (u.1 16).toInt ≤ 3000) ∧ (0 ≤ (u.1 17).toInt ∧ (u.1 17).toInt ≤ 3000) ∧ (0 ≤ (u.1 18).toInt ∧ (u.1 18).toInt ≤ 1000) ∧ (0 ≤ (u.1 19).toInt ∧ (u.1 19).toInt ≤ 1000) ∧ (0 ≤ (u.1 20).toInt ∧ (u.1 20).toInt ≤ 1000) ∧ (0 ≤ (u.1 22).toInt ∧ (u.1 22).toInt ≤ 1) ∧ (0 ≤ (u.1 23).toInt ∧ (u.1 23).toInt ≤ 1000) ∧ (0 ≤ (u.1 24).toInt ∧ (u.1 24).toInt ≤ 1000) ∧ (-1 ≤ (u.1 25).toInt ∧ (u.1 25).toInt ≤ 7) ∧ (-1 ≤ (u.1 26).toInt ∧ (u.1 26).toInt ≤ 4000) ∧ (0 ≤ (u.1 27).toInt ∧ (u.1 27).toInt ≤ 1) ∧ (0 ≤ (u.1 28).toInt ∧ (u.1 28).toInt ≤ 9) ∧ (0 ≤ (u.1 29).toInt ∧ (u.1 29).toInt ≤ 1) ∧ (0 ≤ (u.1 30).toInt ∧ (u.1 30).toInt ≤ 4000)) ∧ (u.1 2).toInt = 0 ∧ (u.1 4).toInt ≤ 200 ∧ (u.1 16).toInt ≤ 16 ∧ (u.1 17).toInt ≤ 4 ∧ (u.1 18).toInt ≤ 4 ∧ (u.1 19).toInt ≤ 3 ∧ (u.1 20).toInt ≤ 8 ∧ (u.1 24).toInt ≤ 8) ∧ ((u.1 10).toInt < 0 ∨ 0 ≤ (u.1 9).toInt) := ⟨⟨I.1, I.2.2.2.1⟩, I.2.2.2.2.2.2.2⟩
theorem IG_IT {u : St} (I : IG u) : IT u := ⟨I.1, I.2.1, I.2.2.1⟩
theorem IG_IB {u : St} (I : IG u) : IB u := ⟨I.1, I.2.1⟩
theorem IG_IW {u : St} (I : IG u) : IW u := IT_IW (IG_IT I)
theorem IQ_IG {u : St} (I : IQ u) : IG u := by
  obtain ⟨n1, n2, n3⟩ := IK_al I.1
  obtain ⟨k1, k2, k3, k4, k5, k6, k7, k8⟩ := I.1.2
  refine ⟨I.1.1.1, I.1.1.2.1, I.1.1.2.2.1, ⟨k1, k2, by omega, k4, k5, k6, k7, k8⟩, fun j hj => ?_, n3, I.2.1, I.2.2⟩
  obtain ⟨a, b, c, d, e⟩ := n1 j hj
  exact ⟨a, c, d⟩
theorem IG_nd {u : St} (I : IG u) (i : Int32) : i.toInt < 0 ∨ (u.1 4).toInt ≤ i.toInt ∨ ((0 ≤ (ga u 10 i).toInt ∧ (ga u 10 i).toInt ≤ 28) ∧ ((ga u 10 i).toInt < 6 ∨ (ga u 10 i).toInt = 28 ∨ (0 ≤ (ga u 11 i).toInt ∧ (ga u 11 i).toInt < i.toInt ∧ -1 ≤ (ga u 12 i).toInt ∧ (ga u 12 i).toInt < i.toInt)) ∧ ((ga u 10 i).toInt ≠ 28 ∨ (1 ≤ (ga u 11 i).toInt ∧ (ga u 11 i).toInt ≤ 9))) := by
  by_cases h0 : i.toInt < 0
  · exact Or.inl h0
  by_cases h1 : (u.1 4).toInt ≤ i.toInt
  · exact Or.inr (Or.inl h1)
  refine Or.inr (Or.inr ?_)
  have c := cl_of (i := i) (by omega)
  have n := I.2.2.2.2.1 i.toNatClampNeg (by omega)
  rw [show i.toInt = (i.toNatClampNeg : Int) from c.symm]
  exact n
theorem IG_it {u : St} (I : IG u) (i : Int32) : i.toInt < 0 ∨ (u.1 16).toInt ≤ i.toInt ∨ (0 ≤ (ga u 21 i).toInt ∧ (ga u 21 i).toInt < (u.1 4).toInt) := by
  have B := IG_b I
  by_cases h0 : i.toInt < 0
  · exact Or.inl h0
  by_cases h1 : (u.1 16).toInt ≤ i.toInt
  · exact Or.inr (Or.inl h1)
  have c := cl_of (i := i) (by omega)
  exact Or.inr (Or.inr (I.2.2.2.2.2.1.1 i.toNatClampNeg (by omega) (by omega)))
theorem IG_gr {u : St} (I : IG u) (i : Int32) : i.toInt < 0 ∨ (u.1 17).toInt ≤ i.toInt ∨ (0 ≤ (ga u 22 i).toInt ∧ (ga u 22 i).toInt < (u.1 4).toInt) := by
  have B := IG_b I
  by_cases h0 : i.toInt < 0
  · exact Or.inl h0
  by_cases h1 : (u.1 17).toInt ≤ i.toInt
  · exact Or.inr (Or.inl h1)
  have c := cl_of (i := i) (by omega)
  exact Or.inr (Or.inr (I.2.2.2.2.2.1.2.1 i.toNatClampNeg (by omega) (by omega)))
theorem IG_nt {u : St} (I : IG u) (i : Int32) : i.toInt < 0 ∨ (u.1 24).toInt ≤ i.toInt ∨ (0 ≤ (ga u 31 i).toInt ∧ (ga u 31 i).toInt < (u.1 1).toInt) := by
  by_cases h0 : i.toInt < 0
  · exact Or.inl h0
  by_cases h1 : (u.1 24).toInt ≤ i.toInt
  · exact Or.inr (Or.inl h1)
  have c := cl_of (i := i) (by omega)
  have n := I.2.2.2.2.2.1.2.2.2.1 i.toNatClampNeg (by omega)
  exact Or.inr (Or.inr ⟨n.1, n.2.1⟩)
theorem IG_ft {u : St} (I : IG u) (i : Int32) : i.toInt < 0 ∨ (u.1 19).toInt ≤ i.toInt ∨ (0 ≤ (ga u 24 i).toInt) := by
  have B := IG_b I
  by_cases h0 : i.toInt < 0
  · exact Or.inl h0
  by_cases h1 : (u.1 19).toInt ≤ i.toInt
  · exact Or.inr (Or.inl h1)
  have c := cl_of (i := i) (by omega)
  exact Or.inr (Or.inr (I.2.2.2.2.2.2.1 i.toNatClampNeg (by omega)))
theorem IG_tt {u : St} (I : IG u) : ((u.1 7).toInt ≠ 5 ∨ 0 ≤ (u.1 10).toInt) ∧ ((u.1 8).toInt ≠ 5 ∨ 0 ≤ (u.1 10).toInt) := I.2.2.2.2.2.1.2.2.2.2.2.2.2.2
theorem kK_checkTables_L67 {q30 : Int32 → St → Option (Int32 × St)} {Q : Int32 → St → Prop} {x1 : Int32} {u : St} (I : IK u) (h0 : 0 ≤ x1.toInt) (h1 : x1.toInt < (u.1 19).toInt) (hq : ∀ y : Int32, y.toInt = x1.toInt + 1 → okM (q30 y u) Q) (h5 : Q 5 u) : ∀ (n : Nat) {x2 : Int32} (h2 : 0 ≤ x2.toInt) (hm : (3 - x2.toInt).toNat < n), okM (mM_SqlReaderModel_checkTables_L67 q30 n x1 x2 u) Q := by
  intro n
  induction n with
  | zero => intro x2 h2 hm; exact absurd hm (Nat.not_lt_zero _)
  | succ n ih =>
    intro x2 h2 hm
    have B := IK_b I
    have l1 : (1 : Int32).toInt = 1 := by decide
    have l0 : (0 : Int32).toInt = 0 := by decide
    rw [mM_SqlReaderModel_checkTables_L67]
    refine okM_le (fun c => okM_seq (fun y hy => ?_)) (fun c => ?_)
    · have e : (x1 + 1 : Int32).toInt = x1.toInt + (1 : Int32).toInt := add_i (by omega) (by omega)
      exact hq y (by rw [hy]; omega)
    · have fa := (IK_fr I x2).resolve_left (by omega)
      have fa := fa.resolve_left (by omega)
      have fb := (IK_fr I x1).resolve_left (by omega)
      have fb := fb.resolve_left (by omega)
      refine okM_gd (inb_of (by omega) (by omega)) (okM_gd (inb_of (by omega) (by omega)) ?_)
      refine okM_bP (kM_SqlReaderModel_sameToken (IK_IT I) (by omega) (by omega) (by omega) (by omega)) (fun r hr => ?_)
      refine okM_eq (fun _ _ => okM_seq (fun y hy => ?_)) (fun _ => okM_some h5)
      have e : (x2 + 1 : Int32).toInt = x2.toInt + (1 : Int32).toInt := add_i (by omega) (by omega)
      exact ih (by rw [hy]; omega) (by rw [hy]; omega)
theorem IK_ft {u : St} {x1 r : Int32} (h0 : 0 ≤ x1.toInt) (hf : ∀ j : Nat, (j : Int) < x1.toInt → 0 ≤ (u.2.1 24 j).toInt) (hr : 0 ≤ r.toInt) {y : Int32} (hy : y.toInt = x1.toInt + 1) : ∀ j : Nat, (j : Int) < y.toInt → 0 ≤ ((sa u 24 x1 r).2.1 24 j).toInt := by
  intro j hj
  have c := cl_of (i := x1) h0
  show 0 ≤ (upd (u.2.1 24) x1.toNatClampNeg r j).toInt
  by_cases h : j = x1.toNatClampNeg
  · rw [h, pk_us]; exact hr
  · rw [pk_un h]; exact hf j (by omega)
theorem kK_checkTables_L30 : ∀ (n : Nat) {x1 : Int32} {u : St} (I : IK u) (h0 : 0 ≤ x1.toInt) (h1 : x1.toInt ≤ (u.1 19).toInt) (hf : ∀ j : Nat, (j : Int) < x1.toInt → 0 ≤ (u.2.1 24 j).toInt) (tg : (u.1 10).toInt < 0 ∨ 0 ≤ (u.1 9).toInt) (hm : (3 - x1.toInt).toNat < n), okM (mM_SqlReaderModel_checkTables_L30 n x1 u) (fun r v => 0 ≤ r.toInt ∧ r.toInt ≤ 5 ∧ IK v ∧ (r.toInt = 0 → IQ v) ∧ Fr [] [24] u v) := by
  intro n
  induction n with
  | zero => intro x1 u I h0 h1 hf tg hm; exact absurd hm (Nat.not_lt_zero _)
  | succ n ih =>
    intro x1 u I h0 h1 hf tg hm
    have B := IK_b I
    have l0 : (0 : Int32).toInt = 0 := by decide
    have l4 : (4 : Int32).toInt = 4 := by decide
    have l5 : (5 : Int32).toInt = 5 := by decide
    have FUe : FU = 100000 := rfl
    rw [mM_SqlReaderModel_checkTables_L30]
    refine okM_le (fun c => okM_some ⟨by omega, by omega, I, fun _ => ⟨I, fun j hj => hf j (by omega), tg⟩, Fr_rfl u⟩) (fun c => ?_)
    have fa := (IK_fr I x1).resolve_left (by omega)
    have fa := fa.resolve_left (by omega)
    have g : inb x1 1000 = true := inb_of (by omega) (by omega)
    refine okM_gd g (okM_bP (kM_SqlReaderModel_tableOf (IK_IT I) (by omega) (by omega)) (fun r hr => ?_))
    refine okM_gd g (okM_seq (fun u2 e2 => ?_))
    subst e2
    have I2 := IK_a24 (i := x1) (x := r) I (by omega) (by omega)
    have F2 : Fr [] [24] u (sa u 24 x1 r) := Fr_sa (Fr_rfl u) rfl rfl rfl
    have gr : ga (sa u 24 x1 r) 24 x1 = r := pk_us
    refine okM_gd g ?_
    rw [gr]
    refine okM_le (fun c2 => ?_) (fun c2 => okM_some ⟨by omega, by omega, I2, fun q => by omega, F2⟩)
    refine kK_checkTables_L67 I2 h0 (by show x1.toInt < (u.1 19).toInt; omega) (fun y hy => ?_) ⟨by omega, by omega, I2, fun q => by omega, F2⟩ _ (by omega) (by omega)
    refine okM_mono (ih I2 (by omega) (by show y.toInt ≤ (u.1 19).toInt; omega) (IK_ft h0 hf (by omega) hy) tg (by omega)) (fun s v hv => ?_)
    obtain ⟨a, b, c, d, e⟩ := hv
    exact ⟨a, b, c, d, Fr_tr F2 e rfl rfl⟩
theorem kK_SqlReaderModel_checkTables {u : St} (I : IK u) : okM (mM_SqlReaderModel_checkTables u) (fun r v => 0 ≤ r.toInt ∧ r.toInt ≤ 5 ∧ IK v ∧ (r.toInt = 0 → IQ v) ∧ Fr [9] [24] u v) := by
  have B := IK_b I
  have T := IK_tt I
  have l0 : (0 : Int32).toInt = 0 := by decide
  have l4 : (4 : Int32).toInt = 4 := by decide
  have FUe : FU = 100000 := rfl
  rw [mM_SqlReaderModel_checkTables]
  refine okM_lt (fun c => ?_) (fun c => ?_)
  · refine okM_mono (kK_checkTables_L30 _ I (by omega) (by omega) (fun j hj => by omega) (Or.inl (by omega)) (by omega)) (fun s v hv => ?_)
    obtain ⟨a, b, c, d, e⟩ := hv
    exact ⟨a, b, c, d, Fr_tr (Fr_rfl u) e rfl rfl⟩
  · refine okM_bP (kM_SqlReaderModel_tableOf (IK_IT I) (by omega) (by omega)) (fun r hr => okM_seq (fun u7 e7 => ?_))
    subst e7
    have I7 := IK_s9 (x := r) I (by omega) (by omega)
    have F7 : Fr [9] [24] u (ss u 9 r) := Fr_ss (Fr_rfl u) rfl rfl
    show okM (if 0 ≤ r then _ else _) _
    refine okM_le (fun c2 => ?_) (fun c2 => okM_some ⟨by omega, by omega, I7, fun q => by omega, F7⟩)
    refine okM_mono (kK_checkTables_L30 _ I7 (by omega) (by show (0 : Int32).toInt ≤ (u.1 19).toInt; omega) (fun j hj => by omega) (Or.inr (by show 0 ≤ r.toInt; omega)) (by omega)) (fun s v hv => ?_)
    obtain ⟨a, b, c, d, e⟩ := hv
    exact ⟨a, b, c, d, Fr_tr F7 e rfl rfl⟩
theorem kB_note {x1 x2 x3 : Int32} {u : St} (h0 : 0 ≤ (u.1 5).toInt) (h1 : (u.1 5).toInt ≤ 1200) : ok (mM_SqlReaderModel_note x1 x2 x3 u) (fun v => Fr [5] [18, 19, 20] u v ∧ 0 ≤ (v.1 5).toInt ∧ (v.1 5).toInt ≤ 1200) := by
  have l : (1200 : Int32).toInt = 1200 := by decide
  have l1 : (1 : Int32).toInt = 1 := by decide
  rw [mM_SqlReaderModel_note]
  refine ok_le (fun c => ok_some ⟨Fr_rfl u, h0, h1⟩) (fun c => ?_)
  have g : inb (u.1 5) 1200 = true := inb_of (by omega) (by omega)
  refine ok_gd g (ok_seq (fun u1 e1 => ?_))
  subst e1
  refine ok_gd g (ok_seq (fun u2 e2 => ?_))
  subst e2
  refine ok_gd g (ok_seq (fun u3 e3 => ok_seq (fun u4 e4 => ok_some ?_)))
  subst e3
  subst e4
  have e : (u.1 5 + 1 : Int32).toInt = (u.1 5).toInt + (1 : Int32).toInt := add_i (by omega) (by omega)
  refine ⟨noteS_fr (by omega) (by omega), ?_, ?_⟩
  · show 0 ≤ (u.1 5 + 1 : Int32).toInt
    omega
  · show (u.1 5 + 1 : Int32).toInt ≤ 1200
    omega
def addG (u : St) (x2 x3 : Int32) (r : Int32) (v : St) : Prop := r = u.1 4 ∧ Fr [4, 5] [10, 11, 12, 13, 18, 19, 20] u v ∧ (v.1 4).toInt = (u.1 4).toInt + 1 ∧ (0 ≤ (v.1 5).toInt ∧ (v.1 5).toInt ≤ 1200) ∧ v.2.1 10 = upd (u.2.1 10) (u.1 4).toNatClampNeg 4 ∧ v.2.1 11 = upd (u.2.1 11) (u.1 4).toNatClampNeg x2 ∧ v.2.1 12 = upd (u.2.1 12) (u.1 4).toNatClampNeg x3
theorem kG_add {x2 x3 : Int32} {u : St} (I : IG u) (h : (u.1 4).toInt < 200) : okM (mM_SqlReaderModel_add 4 x2 x3 u) (addG u x2 x3) := by
  have B := IG_b I
  have l : (200 : Int32).toInt = 200 := by decide
  have l1 : (1 : Int32).toInt = 1 := by decide
  have e : (u.1 4 + 1 : Int32).toInt = (u.1 4).toInt + (1 : Int32).toInt := add_i (by omega) (by omega)
  have s1 : u.1 4 + 1 - 1 = u.1 4 := Int32.add_sub_cancel _ _
  rw [mM_SqlReaderModel_add]
  refine okM_le (fun c => by exfalso; omega) (fun c => ?_)
  have g : inb (u.1 4) 200 = true := inb_of (by omega) (by omega)
  refine okM_gd g (okM_seq (fun u2 e2 => ?_))
  subst e2
  refine okM_gd g (okM_seq (fun u3 e3 => ?_))
  subst e3
  refine okM_gd g (okM_seq (fun u4 e4 => ?_))
  subst e4
  refine okM_gd g (okM_seq (fun u5 e5 => ?_))
  have F5 : Fr [4, 5] [10, 11, 12, 13, 18, 19, 20] u u5 := by
    rw [e5]
    exact Fr_sa (Fr_sa (Fr_sa (Fr_sa (Fr_rfl u) rfl rfl rfl) rfl rfl rfl) rfl rfl rfl) rfl rfl rfl
  have v10 : u5.2.1 10 = upd (u.2.1 10) (u.1 4).toNatClampNeg 4 := by rw [e5]; rfl
  have v11 : u5.2.1 11 = upd (u.2.1 11) (u.1 4).toNatClampNeg x2 := by rw [e5]; rfl
  have v12 : u5.2.1 12 = upd (u.2.1 12) (u.1 4).toNatClampNeg x3 := by rw [e5]; rfl
  have g4 : u5.1 4 = u.1 4 := by rw [e5]; rfl
  have g5 : u5.1 5 = u.1 5 := by rw [e5]; rfl
  refine okM_bP (kB_note (by rw [g5]; omega) (by rw [g5]; omega)) (fun u6 h6 => ?_)
  obtain ⟨F6, p0, p1⟩ := h6
  have g6 : u6.1 4 = u.1 4 := (F6.1 4 rfl).trans g4
  rw [mM_SqlReaderModel_add_J60]
  refine okM_seq (fun u7 e7 => okM_some ?_)
  subst e7
  have FF : Fr [4, 5] [10, 11, 12, 13, 18, 19, 20] u u6 := Fr_tr F5 F6 rfl rfl
  refine ⟨by rw [← s1, ← g6]; rfl, Fr_ss FF rfl rfl, by show (u6.1 4 + 1 : Int32).toInt = _; rw [g6]; omega, ⟨p0, p1⟩, ?_, ?_, ?_⟩
  · show u6.2.1 10 = _
    rw [F6.2.1 10 rfl]; exact v10
  · show u6.2.1 11 = _
    rw [F6.2.1 11 rfl]; exact v11
  · show u6.2.1 12 = _
    rw [F6.2.1 12 rfl]; exact v12
theorem MS_add {u v : St} (I : MS u) (F : Fr [4, 5] [10, 11, 12, 13, 18, 19, 20] u v) (h4 : (v.1 4).toInt = (u.1 4).toInt + 1) (hh : (u.1 4).toInt < 200) (p5 : 0 ≤ (v.1 5).toInt ∧ (v.1 5).toInt ≤ 1200) : MS v := by
  obtain ⟨a0, a1, a2, a3, a4, a5, a6, a7, a8, a9, a10, a11, a12, a13, a14, a15, a16, a17, a18, a19, a20, a21, a22, a23, a24⟩ := I
  exact ⟨by rw [F.1 0 rfl]; exact a0, by rw [F.1 1 rfl]; exact a1, by rw [F.1 2 rfl]; exact a2, by rw [F.1 3 rfl]; exact a3, ⟨by omega, by omega⟩, p5, by rw [F.1 9 rfl]; exact a6, by rw [F.1 10 rfl]; exact a7, by rw [F.1 12 rfl]; exact a8, by rw [F.1 13 rfl]; exact a9, by rw [F.1 14 rfl]; exact a10, by rw [F.1 16 rfl]; exact a11, by rw [F.1 17 rfl]; exact a12, by rw [F.1 18 rfl]; exact a13, by rw [F.1 19 rfl]; exact a14, by rw [F.1 20 rfl]; exact a15, by rw [F.1 22 rfl]; exact a16, by rw [F.1 23 rfl]; exact a17, by rw [F.1 24 rfl]; exact a18, by rw [F.1 25 rfl]; exact a19, by rw [F.1 26 rfl]; exact a20, by rw [F.1 27 rfl]; exact a21, by rw [F.1 28 rfl]; exact a22, by rw [F.1 29 rfl]; exact a23, by rw [F.1 30 rfl]; exact a24⟩
theorem MA_add {u v : St} (I : MA u) (F : Fr [4, 5] [10, 11, 12, 13, 18, 19, 20] u v) : MA v := by
  obtain ⟨b0, b1, b2, b3, b4, b5, b6⟩ := I
  exact ⟨by rw [F.2.1 5 rfl]; exact b0, by rw [F.2.1 6 rfl]; exact b1, by rw [F.2.1 8 rfl]; exact b2, by rw [F.2.1 17 rfl]; exact b3, by rw [F.2.1 36 rfl]; exact b4, by rw [F.2.1 24 rfl]; exact b5, by rw [F.2.1 28 rfl]; exact b6⟩
theorem IG_more {u v : St} {x2 x3 i y r : Int32} (I : IG u) (h4 : (u.1 4).toInt < 200) (h16 : (u.1 16).toInt ≤ 15) (G : addG u x2 x3 r v) : IG (ss (sa (sa v 13 i y) 21 (v.1 16) r) 16 (v.1 16 + 1)) := by
  have B := IG_b I
  have l1 : (1 : Int32).toInt = 1 := by decide
  obtain ⟨er, F, g4, p5, v10, v11, v12⟩ := G
  subst er
  obtain ⟨ms, ma, tk, kg, nw, rs, ft, tg⟩ := I
  have msv := MS_add ms F g4 h4 p5
  have mav := MA_add ma F
  have e16 : v.1 16 = u.1 16 := F.1 16 rfl
  have s16 : (v.1 16 + 1 : Int32).toInt = (u.1 16).toInt + (1 : Int32).toInt := by rw [e16]; exact add_i (by omega) (by omega)
  have c4 := cl_of (i := u.1 4) (by omega)
  have c16 := cl_of (i := v.1 16) (by rw [e16]; omega)
  have c16' : ((v.1 16).toNatClampNeg : Int) = (u.1 16).toInt := by rw [c16, e16]
  refine ⟨MS_s16 (u := sa (sa v 13 i y) 21 (v.1 16) (u.1 4)) msv (by omega) (by omega), mav, ?_, ?_, ?_, ?_, ?_, ?_⟩
  · show ∀ j : Nat, (j : Int) < (v.1 1).toInt → TKv (v.2.1 0) (v.2.1 1 j) (v.2.1 2 j) (v.2.1 3 j)
    rw [F.1 1 rfl, F.2.1 0 rfl, F.2.1 1 rfl, F.2.1 2 rfl, F.2.1 3 rfl]
    exact tk
  · show (v.1 2).toInt = 0 ∧ (v.1 4).toInt ≤ 200 ∧ (v.1 16 + 1 : Int32).toInt ≤ 16 ∧ (v.1 17).toInt ≤ 4 ∧ (v.1 18).toInt ≤ 4 ∧ (v.1 19).toInt ≤ 3 ∧ (v.1 20).toInt ≤ 8 ∧ (v.1 24).toInt ≤ 8
    obtain ⟨k1, k2, k3, k4, k5, k6, k7, k8⟩ := kg
    rw [F.1 2 rfl, F.1 17 rfl, F.1 18 rfl, F.1 19 rfl, F.1 20 rfl, F.1 24 rfl]
    exact ⟨k1, by omega, by omega, k4, k5, k6, k7, k8⟩
  · show ∀ j : Nat, (j : Int) < (v.1 4).toInt → NWv j (v.2.1 10 j) (v.2.1 11 j) (v.2.1 12 j)
    intro j hj
    rw [v10, v11, v12]
    by_cases h : j = (u.1 4).toNatClampNeg
    · rw [h, pk_us, pk_us, pk_us]
      have lf : (4 : Int32).toInt = 4 := by decide
      exact ⟨by omega, Or.inl (by omega), Or.inl (by omega)⟩
    · rw [pk_un h, pk_un h, pk_un h]
      exact nw j (by omega)
  · obtain ⟨r1, r2, r3, r4, r5⟩ := rs
    refine ⟨fun j hj hj2 => ?_, fun j hj hj2 => ?_, fun j hj => ?_, fun j hj => ?_, ?_⟩
    · have hj' : (j : Int) < (v.1 16 + 1 : Int32).toInt := hj
      show 0 ≤ (upd (v.2.1 21) (v.1 16).toNatClampNeg (u.1 4) j).toInt ∧ (upd (v.2.1 21) (v.1 16).toNatClampNeg (u.1 4) j).toInt < (v.1 4).toInt
      by_cases h : j = (v.1 16).toNatClampNeg
      · rw [h, pk_us]; exact ⟨by omega, by omega⟩
      · rw [pk_un h, F.2.1 21 rfl]
        have q := r1 j (by omega) hj2
        exact ⟨q.1, by omega⟩
    · have hj' : (j : Int) < (v.1 17).toInt := hj
      show 0 ≤ (v.2.1 22 j).toInt ∧ (v.2.1 22 j).toInt < (v.1 4).toInt
      rw [F.1 17 rfl] at hj'
      rw [F.2.1 22 rfl]
      have q := r2 j hj' hj2
      exact ⟨q.1, by omega⟩
    · have hj' : (j : Int) < (v.1 19).toInt := hj
      show 0 ≤ (v.2.1 25 j).toInt ∧ (v.2.1 25 j).toInt < (v.1 1).toInt ∧ 0 ≤ (v.2.1 26 j).toInt ∧ (v.2.1 26 j).toInt < (v.1 1).toInt
      rw [F.1 19 rfl] at hj'
      rw [F.2.1 25 rfl, F.2.1 26 rfl, F.1 1 rfl]
      exact r3 j hj'
    · have hj' : (j : Int) < (v.1 24).toInt := hj
      show 0 ≤ (v.2.1 31 j).toInt ∧ (v.2.1 31 j).toInt < (v.1 1).toInt ∧ (v.2.1 1 (v.2.1 31 j).toInt.toNat).toInt = 2
      rw [F.1 24 rfl] at hj'
      rw [F.2.1 31 rfl, F.1 1 rfl, F.2.1 1 rfl]
      exact r4 j hj'
    · show (v.1 10).toInt < (v.1 1).toInt ∧ (v.1 12).toInt < (v.1 1).toInt ∧ (v.1 26).toInt < (v.1 1).toInt ∧ ((v.1 12).toInt = -1 ∨ (v.2.1 1 (v.1 12).toInt.toNat).toInt = 2) ∧ ((v.1 7).toInt ≠ 5 ∨ 0 ≤ (v.1 10).toInt) ∧ ((v.1 8).toInt ≠ 5 ∨ 0 ≤ (v.1 10).toInt)
      rw [F.1 10 rfl, F.1 1 rfl, F.1 12 rfl, F.1 26 rfl, F.1 7 rfl, F.1 8 rfl, F.2.1 1 rfl]
      exact r5
  · show ∀ j : Nat, (j : Int) < (v.1 19).toInt → 0 ≤ (v.2.1 24 j).toInt
    rw [F.1 19 rfl, F.2.1 24 rfl]
    exact ft
  · show (v.1 10).toInt < 0 ∨ 0 ≤ (v.1 9).toInt
    rw [F.1 10 rfl, F.1 9 rfl]
    exact tg
def wd (u : St) (f : Nat) : Int := (u.2.1 6 (u.2.1 24 f).toNatClampNeg).toInt
def SW (u : St) : Nat → Nat → Int
  | 0, _ => 0
  | k + 1, f => wd u f + SW u k (f + 1)
theorem wd_b {u : St} (I : IG u) (f : Nat) : 0 ≤ wd u f ∧ wd u f ≤ 8 := I.2.1.2.1 _
theorem wd_fr {u v : St} (h6 : v.2.1 6 = u.2.1 6) (h24 : v.2.1 24 = u.2.1 24) (f : Nat) : wd v f = wd u f := by
  unfold wd
  rw [h6, h24]
theorem SW_fr {u v : St} (h6 : v.2.1 6 = u.2.1 6) (h24 : v.2.1 24 = u.2.1 24) : ∀ k f : Nat, SW v k f = SW u k f := by
  intro k
  induction k with
  | zero => intro f; rfl
  | succ k ih =>
    intro f
    show wd v f + SW v k (f + 1) = wd u f + SW u k (f + 1)
    rw [wd_fr h6 h24, ih]
theorem SW_nn {u : St} (I : IG u) : ∀ k f : Nat, 0 ≤ SW u k f ∧ SW u k f ≤ 8 * (k : Int) := by
  intro k
  induction k with
  | zero => intro f; exact ⟨Int.le_refl _, Int.le_refl _⟩
  | succ k ih =>
    intro f
    have a := wd_b I f
    have b := ih (f + 1)
    show 0 ≤ wd u f + SW u k (f + 1) ∧ wd u f + SW u k (f + 1) ≤ 8 * ((k + 1 : Nat) : Int)
    omega
theorem kG_spread_L66 {q56 : Int32 → St → Option (Int32 × St)} {Q : Int32 → St → Prop} {x2 : Int32} {T : Int} (h2 : 0 ≤ x2.toInt) (hT : 0 ≤ T) : ∀ (n : Nat) {x3 : Int32} {u : St} (I : IG u) (hx : x2.toInt < (u.1 19).toInt) (h3 : 0 ≤ x3.toInt) (h3' : x3.toInt ≤ wd u x2.toNatClampNeg) (h4 : (u.1 4).toInt + (wd u x2.toNatClampNeg - x3.toInt) + T ≤ 200) (h16 : (u.1 16).toInt + (wd u x2.toNatClampNeg - x3.toInt) + T ≤ 16) (hq : ∀ {v : St} {y : Int32}, IG v → v.1 19 = u.1 19 → v.2.1 6 = u.2.1 6 → v.2.1 24 = u.2.1 24 → Kc u v → y.toInt = x2.toInt + 1 → (v.1 4).toInt + T ≤ 200 → (v.1 16).toInt + T ≤ 16 → okM (q56 y v) Q) (hm : (9 - x3.toInt).toNat < n), okM (mM_SqlReaderModel_spread_L66 q56 n x2 x3 u) Q := by
  intro n
  induction n with
  | zero => intro x3 u I hx h3 h3' h4 h16 hq hm; exact absurd hm (Nat.not_lt_zero _)
  | succ n ih =>
    intro x3 u I hx h3 h3' h4 h16 hq hm
    have B := IG_b I
    have W := wd_b I x2.toNatClampNeg
    have l1 : (1 : Int32).toInt = 1 := by decide
    have l8 : (8 : Int32).toInt = 8 := by decide
    have ft := (IG_ft I x2).resolve_left (by omega)
    have ft := ft.resolve_left (by omega)
    have f7 := IT_a24 (IG_IT I) x2
    have we : (ga u 6 (ga u 24 x2)).toInt = wd u x2.toNatClampNeg := rfl
    have g2 : inb x2 1000 = true := inb_of (by omega) (by omega)
    rw [mM_SqlReaderModel_spread_L66]
    refine okM_gd g2 (okM_gd (inb_of (by omega) (by omega)) ?_)
    refine okM_le (fun c => okM_seq (fun y hy => ?_)) (fun c => ?_)
    · have e : (x2 + 1 : Int32).toInt = x2.toInt + (1 : Int32).toInt := add_i (by omega) (by omega)
      exact hq I rfl rfl rfl (Kc_rfl u) (by rw [hy]; omega) (by omega) (by omega)
    · refine okM_bM (kG_add I (by omega)) (fun r v G => ?_)
      have F := G.2.1
      have er : r = u.1 4 := G.1
      have a24 : ga v 24 x2 = ga u 24 x2 := by show v.2.1 24 _ = _; rw [F.2.1 24 rfl]; rfl
      have e8 : (8 * ga u 24 x2 : Int32).toInt = 8 * (ga u 24 x2).toInt := cmu_i l8 (by omega) (by omega)
      have e9 : (8 * ga u 24 x2 + x3 : Int32).toInt = (8 * ga u 24 x2 : Int32).toInt + x3.toInt := add_i (by omega) (by omega)
      have e16 : v.1 16 = u.1 16 := F.1 16 rfl
      refine okM_gd g2 (okM_gd (by rw [a24]; exact inb_of (by omega) (by omega)) ?_)
      refine okM_gd (by rw [er]; exact inb_of (by omega) (by omega)) (okM_seq (fun u4 h4' => ?_))
      have d16 : u4.1 16 = u.1 16 := by rw [h4']; exact e16
      refine okM_gd (by rw [d16]; exact inb_of (by omega) (by omega)) (okM_seq (fun u5 h5' => okM_seq (fun u6 h6' => okM_seq (fun y hy => ?_))))
      have I6 : IG u6 := by rw [h6', h5', h4']; exact IG_more I (by omega) (by omega) G
      have a6 : u6.2.1 6 = u.2.1 6 := by rw [h6', h5', h4']; exact F.2.1 6 rfl
      have a24' : u6.2.1 24 = u.2.1 24 := by rw [h6', h5', h4']; exact F.2.1 24 rfl
      have b19 : u6.1 19 = u.1 19 := by rw [h6', h5', h4']; exact F.1 19 rfl
      have b4 : (u6.1 4).toInt = (u.1 4).toInt + 1 := by rw [h6', h5', h4']; exact G.2.2.1
      have ea : (u.1 16 + 1 : Int32).toInt = (u.1 16).toInt + (1 : Int32).toInt := add_i (by omega) (by omega)
      have b16 : (u6.1 16).toInt = (u.1 16).toInt + 1 := by
        have q : u6.1 16 = v.1 16 + 1 := by rw [h6', h5', h4']; rfl
        rw [q, e16]; omega
      have kv : Kc u v := Kc_Fr F rfl rfl
      have kc : Kc u u6 := by rw [h6', h5', h4']; exact kv
      have we6 : wd u6 x2.toNatClampNeg = wd u x2.toNatClampNeg := wd_fr a6 a24' _
      have ey : (x3 + 1 : Int32).toInt = x3.toInt + (1 : Int32).toInt := add_i (by omega) (by omega)
      refine ih I6 (by rw [b19]; exact hx) (by rw [hy]; omega) (by rw [hy, we6]; omega) (by rw [hy, we6, b4]; omega) (by rw [hy, we6, b16]; omega) (fun {w z} Iw q19 q6 q24 qk qy qa qb => ?_) (by rw [hy]; omega)
      exact hq Iw (q19.trans b19) (q6.trans a6) (q24.trans a24') (Kc_tr kc qk) qy qa qb
theorem kG_spread_L56 : ∀ (n : Nat) {x2 : Int32} {u : St} (I : IG u) (h2 : 0 ≤ x2.toInt) (hx : x2.toInt ≤ (u.1 19).toInt) (h4 : (u.1 4).toInt + SW u ((u.1 19).toInt - x2.toInt).toNat x2.toNatClampNeg ≤ 200) (h16 : (u.1 16).toInt + SW u ((u.1 19).toInt - x2.toInt).toNat x2.toNatClampNeg ≤ 16) (hm : (4 - x2.toInt).toNat < n), okM (mM_SqlReaderModel_spread_L56 n x2 u) (fun r v => r.toInt = 0 ∧ IG v ∧ Kc u v) := by
  intro n
  induction n with
  | zero => intro x2 u I h2 hx h4 h16 hm; exact absurd hm (Nat.not_lt_zero _)
  | succ n ih =>
    intro x2 u I h2 hx h4 h16 hm
    have B := IG_b I
    have l0 : (0 : Int32).toInt = 0 := by decide
    have FUe : FU = 100000 := rfl
    rw [mM_SqlReaderModel_spread_L56]
    refine okM_le (fun c => okM_some ⟨l0, I, Kc_rfl u⟩) (fun c => ?_)
    obtain ⟨k, hk⟩ : ∃ k, ((u.1 19).toInt - x2.toInt).toNat = k + 1 := ⟨((u.1 19).toInt - x2.toInt).toNat - 1, by omega⟩
    have W := wd_b I x2.toNatClampNeg
    have T := SW_nn I k (x2.toNatClampNeg + 1)
    have c2 := cl_of h2
    rw [hk] at h4 h16
    have h4' : (u.1 4).toInt + (wd u x2.toNatClampNeg + SW u k (x2.toNatClampNeg + 1)) ≤ 200 := h4
    have h16' : (u.1 16).toInt + (wd u x2.toNatClampNeg + SW u k (x2.toNatClampNeg + 1)) ≤ 16 := h16
    refine kG_spread_L66 (T := SW u k (x2.toNatClampNeg + 1)) h2 T.1 _ I (by omega) (by omega) (by omega) (by omega) (by omega) (fun {v y} Iv e19 e6 e24 kc ey ha hb => ?_) (by omega)
    have cy := cl_of (i := y) (by omega)
    have ky : ((v.1 19).toInt - y.toInt).toNat = k := by rw [e19]; omega
    have fy : y.toNatClampNeg = x2.toNatClampNeg + 1 := by omega
    refine okM_mono (ih Iv (by omega) (by rw [e19]; omega) (by rw [ky, fy, SW_fr e6 e24]; exact ha) (by rw [ky, fy, SW_fr e6 e24]; exact hb) (by omega)) (fun r w hw => ?_)
    exact ⟨hw.1, hw.2.1, Kc_tr kc hw.2.2⟩
theorem kG_spread_L4 : ∀ (n : Nat) {x1 x2 : Int32} {u : St} (I : IG u) (h8 : (u.1 16).toInt ≤ 8) (h2 : 0 ≤ x2.toInt) (hx : x2.toInt ≤ (u.1 19).toInt) (h0 : 0 ≤ x1.toInt) (hs : x1.toInt + SW u ((u.1 19).toInt - x2.toInt).toNat x2.toNatClampNeg = SW u (u.1 19).toInt.toNat 0) (hm : (4 - x2.toInt).toNat < n), okM (mM_SqlReaderModel_spread_L4 n x1 x2 u) (fun r v => 0 ≤ r.toInt ∧ r.toInt ≤ 3 ∧ IG v ∧ Kc u v) := by
  intro n
  induction n with
  | zero => intro x1 x2 u I h8 h2 hx h0 hs hm; exact absurd hm (Nat.not_lt_zero _)
  | succ n ih =>
    intro x1 x2 u I h8 h2 hx h0 hs hm
    have B := IG_b I
    have l0 : (0 : Int32).toInt = 0 := by decide
    have l1 : (1 : Int32).toInt = 1 := by decide
    have l2 : (2 : Int32).toInt = 2 := by decide
    have l3 : (3 : Int32).toInt = 3 := by decide
    have l8 : (8 : Int32).toInt = 8 := by decide
    have l200 : (200 : Int32).toInt = 200 := by decide
    have FUe : FU = 100000 := rfl
    have S0 := SW_nn I (u.1 19).toInt.toNat 0
    have S1 := SW_nn I ((u.1 19).toInt - x2.toInt).toNat x2.toNatClampNeg
    rw [mM_SqlReaderModel_spread_L4]
    refine okM_le (fun c => ?_) (fun c => ?_)
    · have z : ((u.1 19).toInt - x2.toInt).toNat = 0 := by omega
      rw [z] at hs
      have hs' : x1.toInt + 0 = SW u (u.1 19).toInt.toNat 0 := hs
      refine okM_le (fun c1 => ?_) (fun c1 => okM_some ⟨by omega, by omega, I, Kc_rfl u⟩)
      have e : (u.1 4 + x1 : Int32).toInt = (u.1 4).toInt + x1.toInt := add_i (by omega) (by omega)
      refine okM_le (fun c3 => ?_) (fun c3 => okM_some ⟨by omega, by omega, I, Kc_rfl u⟩)
      have z2 : ((u.1 19).toInt - (0 : Int32).toInt).toNat = (u.1 19).toInt.toNat := by omega
      have z3 : (0 : Int32).toNatClampNeg = 0 := by decide
      refine okM_mono (kG_spread_L56 _ I (by omega) (by omega) (by rw [z2, z3]; omega) (by rw [z2, z3]; omega) (by omega)) (fun r v hv => ?_)
      exact ⟨by omega, by omega, hv.2.1, hv.2.2⟩
    · have ft := (IG_ft I x2).resolve_left (by omega)
      have ft := ft.resolve_left (by omega)
      have f7 := IT_a24 (IG_IT I) x2
      have W := wd_b I x2.toNatClampNeg
      have we : (ga u 6 (ga u 24 x2)).toInt = wd u x2.toNatClampNeg := rfl
      refine okM_gd (inb_of (by omega) (by omega)) (okM_gd (inb_of (by omega) (by omega)) (okM_seq (fun y hy => okM_seq (fun z hz => ?_))))
      obtain ⟨k, hk⟩ : ∃ k, ((u.1 19).toInt - x2.toInt).toNat = k + 1 := ⟨((u.1 19).toInt - x2.toInt).toNat - 1, by omega⟩
      rw [hk] at hs S1
      have hs' : x1.toInt + (wd u x2.toNatClampNeg + SW u k (x2.toNatClampNeg + 1)) = SW u (u.1 19).toInt.toNat 0 := hs
      have T := SW_nn I k (x2.toNatClampNeg + 1)
      have ey : (x1 + ga u 6 (ga u 24 x2) : Int32).toInt = x1.toInt + (ga u 6 (ga u 24 x2)).toInt := add_i (by omega) (by omega)
      have ez : (x2 + 1 : Int32).toInt = x2.toInt + (1 : Int32).toInt := add_i (by omega) (by omega)
      have ez' : z.toInt = x2.toInt + 1 := by rw [hz]; omega
      have c2 := cl_of h2
      have cz := cl_of (i := z) (by omega)
      have kz : ((u.1 19).toInt - z.toInt).toNat = k := by omega
      have fz : z.toNatClampNeg = x2.toNatClampNeg + 1 := by omega
      exact ih I h8 (by omega) (by omega) (by rw [hy]; omega) (by rw [kz, fz, hy]; omega) (by omega)
theorem kG_SqlReaderModel_spread {u : St} (I : IG u) (h8 : (u.1 16).toInt ≤ 8) : okM (mM_SqlReaderModel_spread u) (fun r v => 0 ≤ r.toInt ∧ r.toInt ≤ 3 ∧ IG v ∧ Kc u v) := by
  have B := IG_b I
  have l0 : (0 : Int32).toInt = 0 := by decide
  have FUe : FU = 100000 := rfl
  have z2 : ((u.1 19).toInt - (0 : Int32).toInt).toNat = (u.1 19).toInt.toNat := by omega
  have z3 : (0 : Int32).toNatClampNeg = 0 := by decide
  rw [mM_SqlReaderModel_spread]
  exact kG_spread_L4 _ I h8 (by omega) (by omega) (by omega) (by rw [z2, z3]; omega) (by omega)
