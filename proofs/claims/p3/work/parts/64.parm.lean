/-! PARSING: frames, and what note, add, place, again, constant do -/
def Cf (u v : St) : Prop := (u.1 5).toInt ≤ (v.1 5).toInt ∧ ∀ c : Nat, (c : Int) < (u.1 5).toInt → v.2.1 18 c = u.2.1 18 c ∧ v.2.1 19 c = u.2.1 19 c
def Fr (ks as : List Nat) (u v : St) : Prop := (∀ j, inL ks j = false → v.1 j = u.1 j) ∧ (∀ j, inL as j = false → v.2.1 j = u.2.1 j) ∧ Cf u v
theorem Fr_rfl {ks as : List Nat} (u : St) : Fr ks as u u := ⟨fun _ _ => rfl, fun _ _ => rfl, Int.le_refl _, fun _ _ => ⟨rfl, rfl⟩⟩
theorem Fr_ss {ks as : List Nat} {u v : St} {k : Nat} {x : Int32} (F : Fr ks as u v) (h : inL ks k = true) (h5 : Nat.beq 5 k = false) : Fr ks as u (ss v k x) := by
  have e : (ss v k x).1 5 = v.1 5 := us_ne (fun q => by rw [← q] at h5; exact absurd h5 (by decide))
  refine ⟨fun j hj => ?_, F.2.1, ?_, F.2.2.2⟩
  · show us v.1 k x j = _
    rw [us_ne (inL_ne h hj)]
    exact F.1 j hj
  · rw [e]; exact F.2.2.1
theorem Fr_sa {ks as : List Nat} {u v : St} {k : Nat} {i x : Int32} (F : Fr ks as u v) (h : inL as k = true) (h8 : Nat.beq 18 k = false) (h9 : Nat.beq 19 k = false) : Fr ks as u (sa v k i x) := by
  have e8 : (sa v k i x).2.1 18 = v.2.1 18 := us_ne (fun q => by rw [← q] at h8; exact absurd h8 (by decide))
  have e9 : (sa v k i x).2.1 19 = v.2.1 19 := us_ne (fun q => by rw [← q] at h9; exact absurd h9 (by decide))
  refine ⟨F.1, fun j hj => ?_, F.2.2.1, fun c hc => ?_⟩
  · show us v.2.1 k _ j = _
    rw [us_ne (inL_ne h hj)]
    exact F.2.1 j hj
  · rw [e8, e9]; exact F.2.2.2 c hc
theorem Fr_sl {ks as : List Nat} {u v : St} {k : Nat} {i : Int32} {x : Int64} (F : Fr ks as u v) : Fr ks as u (sl v k i x) := F
theorem Fr_sL {ks as : List Nat} {u v : St} {k : Nat} {x : Int64} (F : Fr ks as u v) : Fr ks as u (sL v k x) := F
theorem Fr_tr {ks as ks' as' : List Nat} {u v w : St} (F : Fr ks as u v) (G : Fr ks' as' v w) (hk : subL ks' ks = true) (ha : subL as' as = true) : Fr ks as u w := by
  have nk : ∀ j, inL ks j = false → inL ks' j = false := fun j hj => by
    cases q : inL ks' j
    · rfl
    · rw [subL_in hk q] at hj; cases hj
  have na : ∀ j, inL as j = false → inL as' j = false := fun j hj => by
    cases q : inL as' j
    · rfl
    · rw [subL_in ha q] at hj; cases hj
  refine ⟨fun j hj => (G.1 j (nk j hj)).trans (F.1 j hj), fun j hj => (G.2.1 j (na j hj)).trans (F.2.1 j hj), Int.le_trans F.2.2.1 G.2.2.1, fun c hc => ?_⟩
  have g := G.2.2.2 c (Int.lt_of_lt_of_le hc F.2.2.1)
  have f := F.2.2.2 c hc
  exact ⟨g.1.trans f.1, g.2.trans f.2⟩
theorem CHv_ext {t d g x t' d' g' x' : Int} {f27 f29 f18 f19 h27 h29 h18 h19 : Nat → Int32} {c : Nat} {s a b : Int32} (h : CHv t d g x f27 f29 f18 f19 c s a b) (ht : t ≤ t') (hd : d ≤ d') (hg : 0 ≤ g → 0 ≤ g') (hx : 0 ≤ x → 0 ≤ x') (h7 : s.toInt = 4 → 0 ≤ (f27 a.toInt.toNat).toInt ∧ (f27 a.toInt.toNat).toInt < t → 0 ≤ (h27 a.toInt.toNat).toInt ∧ (h27 a.toInt.toNat).toInt < t') (h9 : s.toInt = 5 → 0 ≤ (f29 a.toInt.toNat).toInt ∧ (f29 a.toInt.toNat).toInt < d → 0 ≤ (h29 a.toInt.toNat).toInt ∧ (h29 a.toInt.toNat).toInt < d') (h8 : ∀ z, z < c → h18 z = f18 z ∧ h19 z = f19 z) : CHv t' d' g' x' h27 h29 h18 h19 c s a b := by
  obtain ⟨a1, a2, a3, a4, a5, a6, a7⟩ := h
  refine ⟨a1, ?_, ?_, ?_, ?_, ?_, a7⟩
  · rcases a2 with q | q
    · exact Or.inl q
    · exact Or.inr ⟨q.1, Int.lt_of_lt_of_le q.2 hd⟩
  · rcases a3 with q | ⟨q1, q2, q3, q4⟩
    · exact Or.inl q
    · by_cases q : s.toInt = 4
      · exact Or.inr ⟨q1, q2, h7 q ⟨q3, q4⟩⟩
      · exact Or.inl q
  · rcases a4 with q | ⟨q1, q2, q3, q4, z, hz, q5, q6⟩
    · exact Or.inl q
    · by_cases q : s.toInt = 5
      · have w := h9 q ⟨q3, q4⟩
        exact Or.inr ⟨q1, q2, w.1, w.2, z, hz, by rw [(h8 z hz).1]; exact q5, by rw [(h8 z hz).2]; exact q6⟩
      · exact Or.inl q
  · rcases a5 with q | q
    · exact Or.inl q
    · exact Or.inr (hg q)
  · rcases a6 with q | q
    · exact Or.inl q
    · exact Or.inr (hx q)
def CHo (u : St) (d : Int) (s a b : Int32) : Prop := CHv (u.1 1).toInt d (u.1 10).toInt (u.1 26).toInt (u.2.1 27) (u.2.1 29) (u.2.1 18) (u.2.1 19) (u.1 5).toInt.toNat s a b
/-- a check of sort 4 for a is noted, or none is noted any more -/
def Hc (u : St) (a : Int32) : Prop := 1200 ≤ (u.1 5).toInt ∨ ∃ z : Nat, (z : Int) < (u.1 5).toInt ∧ (u.2.1 18 z).toInt = 4 ∧ u.2.1 19 z = a
theorem Hc_fr {ks as : List Nat} {u v : St} {a : Int32} (h : Hc u a) (F : Fr ks as u v) : Hc v a := by
  rcases h with h | ⟨z, hz, h1, h2⟩
  · exact Or.inl (Int.le_trans h F.2.2.1)
  · have f := F.2.2.2 z hz
    exact Or.inr ⟨z, Int.lt_of_lt_of_le hz F.2.2.1, by rw [f.1]; exact h1, by rw [f.2]; exact h2⟩
theorem IPg_fin {u : St} {n : Int} (I : IPg u n (n + 1)) (hn : (u.1 4).toInt = n + 1) (h0 : 0 ≤ n) (hd : (u.1 2).toInt = 0 → n < 200 → NDv (u.1 1).toInt n.toNat (u.2.1 10 n.toNat) (u.2.1 11 n.toNat) (u.2.1 12 n.toNat) (u.2.1 14 n.toNat) (u.2.1 15 n.toNat)) : IP u := by
  obtain ⟨a, b, c, d⟩ := I
  unfold IP
  rw [hn]
  refine ⟨a, b, c, fun A => ?_⟩
  obtain ⟨d1, d2, d3⟩ := d A
  refine ⟨fun j hj => ?_, d2, d3⟩
  by_cases h : (j : Int) < n
  · exact d1 j h
  · have e : j = n.toNat := by omega
    rw [e]
    exact hd A.1 (by omega)
def noteS (u : St) (a b c : Int32) : St := ss (sa (sa (sa u 18 (u.1 5) a) 19 (u.1 5) b) 20 (u.1 5) c) 5 (u.1 5 + 1)
theorem noteS_fr {u : St} {a b c : Int32} (h0 : 0 ≤ (u.1 5).toInt) (h1 : (u.1 5).toInt < 1200) : Fr [5] [18, 19, 20] u (noteS u a b c) := by
  have l1 : (1 : Int32).toInt = 1 := by decide
  have e : (u.1 5 + 1 : Int32).toInt = (u.1 5).toInt + (1 : Int32).toInt := add_i (by omega) (by omega)
  have cc := cl_of (i := u.1 5) h0
  refine ⟨fun j hj => us_ne (inL_ne (l := [5]) (k := 5) rfl hj), fun j hj => ?_, ?_, fun z hz => ?_⟩
  · show us (us (us u.2.1 18 _) 19 _) 20 _ j = _
    rw [us_ne (inL_ne (l := [18, 19, 20]) (k := 20) rfl hj), us_ne (inL_ne (l := [18, 19, 20]) (k := 19) rfl hj), us_ne (inL_ne (l := [18, 19, 20]) (k := 18) rfl hj)]
  · show (u.1 5).toInt ≤ (u.1 5 + 1 : Int32).toInt
    omega
  · have ne : z ≠ (u.1 5).toNatClampNeg := by omega
    exact ⟨pk_un ne, pk_un ne⟩
theorem IPg_note {u : St} {n d : Int} {a b c : Int32} (I : IPg u n d) (h1 : (u.1 5).toInt < 1200) (hc : (u.1 2).toInt = 0 ∧ d ≤ 200 → CHo u d a b c) : IPg (noteS u a b c) n d := by
  have B5 : 0 ≤ (u.1 5).toInt ∧ (u.1 5).toInt ≤ 1200 := by obtain ⟨_, _, _, _, _, q, _⟩ := I.1; exact q
  have l1 : (1 : Int32).toInt = 1 := by decide
  have e : (u.1 5 + 1 : Int32).toInt = (u.1 5).toInt + (1 : Int32).toInt := add_i (by omega) (by omega)
  have cc := cl_of (i := u.1 5) (by omega)
  obtain ⟨ms, ma, tk, al⟩ := I
  refine ⟨MS_s5 (u := sa (sa (sa u 18 (u.1 5) a) 19 (u.1 5) b) 20 (u.1 5) c) ms (by omega) (by omega), ma, tk, fun A => ?_⟩
  obtain ⟨n1, n2, n3⟩ := al A
  refine ⟨n1, fun z hz => ?_, n3⟩
  have hz' : (z : Int) < (u.1 5 + 1 : Int32).toInt := hz
  show CHv (u.1 1).toInt d (u.1 10).toInt (u.1 26).toInt (u.2.1 27) (u.2.1 29) (upd (u.2.1 18) (u.1 5).toNatClampNeg a) (upd (u.2.1 19) (u.1 5).toNatClampNeg b) z (upd (u.2.1 18) (u.1 5).toNatClampNeg a z) (upd (u.2.1 19) (u.1 5).toNatClampNeg b z) (upd (u.2.1 20) (u.1 5).toNatClampNeg c z)
  by_cases h : z = (u.1 5).toNatClampNeg
  · have ez : z = (u.1 5).toInt.toNat := by omega
    have k := hc A
    rw [show upd (u.2.1 18) (u.1 5).toNatClampNeg a z = a from by rw [h, pk_us], show upd (u.2.1 19) (u.1 5).toNatClampNeg b z = b from by rw [h, pk_us], show upd (u.2.1 20) (u.1 5).toNatClampNeg c z = c from by rw [h, pk_us], ez]
    exact CHv_ext k (Int.le_refl _) (Int.le_refl _) id id (fun _ q => q) (fun _ q => q) (fun y hy => ⟨pk_un (by omega), pk_un (by omega)⟩)
  · rw [pk_un h, pk_un h, pk_un h]
    exact CHv_ext (n2 z (by omega)) (Int.le_refl _) (Int.le_refl _) id id (fun _ q => q) (fun _ q => q) (fun y hy => ⟨pk_un (by omega), pk_un (by omega)⟩)
theorem kP_note_g {x1 x2 x3 : Int32} {u : St} {n d : Int} (I : IPg u n d) (hc : (u.1 2).toInt = 0 ∧ d ≤ 200 → CHo u d x1 x2 x3) : ok (mM_SqlReaderModel_note x1 x2 x3 u) (fun v => IPg v n d ∧ Fr [5] [18, 19, 20] u v ∧ (x1.toInt = 4 → Hc v x2)) := by
  have B5 : 0 ≤ (u.1 5).toInt ∧ (u.1 5).toInt ≤ 1200 := by obtain ⟨_, _, _, _, _, q, _⟩ := I.1; exact q
  have l : (1200 : Int32).toInt = 1200 := by decide
  have l1 : (1 : Int32).toInt = 1 := by decide
  rw [mM_SqlReaderModel_note]
  refine ok_le (fun c => ok_some ⟨I, Fr_rfl u, fun _ => Or.inl (by omega)⟩) (fun c => ?_)
  have g : inb (u.1 5) 1200 = true := inb_of (by omega) (by omega)
  refine ok_gd g (ok_seq (fun u1 e1 => ?_))
  subst e1
  refine ok_gd g (ok_seq (fun u2 e2 => ?_))
  subst e2
  refine ok_gd g (ok_seq (fun u3 e3 => ok_seq (fun u4 e4 => ok_some ?_)))
  subst e3
  subst e4
  have e : (u.1 5 + 1 : Int32).toInt = (u.1 5).toInt + (1 : Int32).toInt := add_i (by omega) (by omega)
  have cc := cl_of (i := u.1 5) (by omega)
  refine ⟨IPg_note I (by omega) hc, noteS_fr (by omega) (by omega), fun h4 => Or.inr ⟨(u.1 5).toNatClampNeg, ?_, ?_, pk_us⟩⟩
  · show ((u.1 5).toNatClampNeg : Int) < (u.1 5 + 1 : Int32).toInt
    omega
  · show (upd (u.2.1 18) (u.1 5).toNatClampNeg x1 (u.1 5).toNatClampNeg).toInt = 4
    rw [pk_us]
    exact h4
theorem kP_note {x1 x2 x3 : Int32} {u : St} (I : IP u) (hc : (u.1 2).toInt = 0 ∧ (u.1 4).toInt ≤ 200 → CHo u (u.1 4).toInt x1 x2 x3) : ok (mM_SqlReaderModel_note x1 x2 x3 u) (fun v => IP v ∧ Fr [5] [18, 19, 20] u v ∧ (x1.toInt = 4 → Hc v x2)) := by
  refine ok_mono (kP_note_g (n := (u.1 4).toInt) (d := (u.1 4).toInt) I hc) (fun v hv => ⟨?_, hv.2⟩)
  have e : v.1 4 = u.1 4 := hv.2.1.1 4 rfl
  show IPg v (v.1 4).toInt (v.1 4).toInt
  rw [e]
  exact hv.1
/-- one node more: RS, CH go on -/
theorem IPg_up {u : St} {n d : Int} (I : IPg u n d) (e : Int) (he : d ≤ e) : IPg u n e := by
  obtain ⟨a, b, c, k⟩ := I
  refine ⟨a, b, c, fun A => ?_⟩
  obtain ⟨k1, k2, k3⟩ := k ⟨A.1, by omega⟩
  refine ⟨k1, fun z hz => CHv_ext (k2 z hz) (Int.le_refl _) he id id (fun _ q => q) (fun _ q => ⟨q.1, by omega⟩) (fun _ _ => ⟨rfl, rfl⟩), ?_⟩
  obtain ⟨r1, r2, r3⟩ := k3
  exact ⟨fun j h1 h2 => ⟨(r1 j h1 h2).1, by have := (r1 j h1 h2).2; omega⟩, fun j h1 h2 => ⟨(r2 j h1 h2).1, by have := (r2 j h1 h2).2; omega⟩, r3⟩
theorem IP_4 {u : St} (I : IP u) : 0 ≤ (u.1 4).toInt ∧ (u.1 4).toInt ≤ 200000 := by obtain ⟨_, _, _, _, q, _⟩ := I.1; exact q
def addP (u : St) (x1 x2 x3 : Int32) (r : Int32) (v : St) : Prop := IPg v (u.1 4).toInt ((u.1 4).toInt + 1) ∧ Fr [4, 5] [10, 11, 12, 13, 18, 19, 20] u v ∧ r = u.1 4 ∧ (v.1 4).toInt = (u.1 4).toInt + 1 ∧ ((u.1 4).toInt < 200 → v.2.1 10 (u.1 4).toInt.toNat = x1 ∧ v.2.1 11 (u.1 4).toInt.toNat = x2 ∧ v.2.1 12 (u.1 4).toInt.toNat = x3)
theorem kP_add_g {x1 x2 x3 : Int32} {u : St} (I : IP u) (h4 : (u.1 4).toInt ≤ 199000) : okM (mM_SqlReaderModel_add x1 x2 x3 u) (addP u x1 x2 x3) := by
  have B4 := IP_4 I
  have l : (200 : Int32).toInt = 200 := by decide
  have l0 : (0 : Int32).toInt = 0 := by decide
  have l1 : (1 : Int32).toInt = 1 := by decide
  have e : (u.1 4 + 1 : Int32).toInt = (u.1 4).toInt + (1 : Int32).toInt := add_i (by omega) (by omega)
  have s1 : u.1 4 + 1 - 1 = u.1 4 := Int32.add_sub_cancel _ _
  have cc := cl_of (i := u.1 4) (by omega)
  have cn : (u.1 4).toNatClampNeg = (u.1 4).toInt.toNat := by omega
  rw [mM_SqlReaderModel_add]
  refine okM_le (fun c => ?_) (fun c => ?_)
  · rw [mM_SqlReaderModel_add_J60]
    refine okM_seq (fun u1 e1 => okM_some ?_)
    subst e1
    refine ⟨⟨MS_s4 I.1 (by omega) (by omega), I.2.1, I.2.2.1, fun A => by omega⟩, Fr_ss (Fr_rfl u) rfl rfl, s1, by show (u.1 4 + 1 : Int32).toInt = _; omega, fun q => by omega⟩
  · have g : inb (u.1 4) 200 = true := inb_of (by omega) (by omega)
    refine okM_gd g (okM_seq (fun u2 e2 => ?_))
    subst e2
    refine okM_gd g (okM_seq (fun u3 e3 => ?_))
    subst e3
    refine okM_gd g (okM_seq (fun u4 e4 => ?_))
    subst e4
    refine okM_gd g (okM_seq (fun u5 e5 => ?_))
    have F5 : Fr [4, 5] [10, 11, 12, 13, 18, 19, 20] u u5 := by
      rw [e5]
      exact Fr_sa (Fr_sa (Fr_sa (Fr_sa (Fr_rfl u) rfl rfl rfl) rfl rfl rfl) rfl rfl rfl) rfl rfl rfl
    have v10 : u5.2.1 10 (u.1 4).toInt.toNat = x1 := by rw [e5, ← cn]; exact pk_us
    have v11 : u5.2.1 11 (u.1 4).toInt.toNat = x2 := by rw [e5, ← cn]; exact pk_us
    have v12 : u5.2.1 12 (u.1 4).toInt.toNat = x3 := by rw [e5, ← cn]; exact pk_us
    have I5 : IPg u5 (u.1 4).toInt ((u.1 4).toInt + 1) := by
      obtain ⟨ms, ma, tk, al⟩ := IPg_up I ((u.1 4).toInt + 1) (by omega)
      rw [e5]
      refine ⟨ms, ma, tk, fun A => ?_⟩
      obtain ⟨n1, n2, n3⟩ := al A
      refine ⟨fun j hj => ?_, n2, n3⟩
      have ne : j ≠ (u.1 4).toNatClampNeg := by omega
      show NDv (u.1 1).toInt j (upd (u.2.1 10) (u.1 4).toNatClampNeg x1 j) (upd (u.2.1 11) (u.1 4).toNatClampNeg x2 j) (upd (u.2.1 12) (u.1 4).toNatClampNeg x3 j) (u.2.1 14 j) (u.2.1 15 j)
      rw [pk_un ne, pk_un ne, pk_un ne]
      exact n1 j hj
    have g4 : u5.1 4 = u.1 4 := by rw [e5]; rfl
    refine okM_bP (kP_note_g I5 (fun A => ?_)) (fun u6 h6 => ?_)
    · rw [g4]
      exact ⟨by omega, Or.inr ⟨by omega, by omega⟩, Or.inl (by omega), Or.inl (by omega), Or.inl (by omega), Or.inl (by omega), Or.inl (by omega)⟩
    · obtain ⟨I6, F6, _⟩ := h6
      have g6 : u6.1 4 = u.1 4 := (F6.1 4 rfl).trans g4
      rw [mM_SqlReaderModel_add_J60]
      refine okM_seq (fun u7 e7 => okM_some ?_)
      subst e7
      have FF : Fr [4, 5] [10, 11, 12, 13, 18, 19, 20] u u6 := Fr_tr F5 F6 rfl rfl
      refine ⟨⟨MS_s4 I6.1 (by rw [g6]; omega) (by rw [g6]; omega), I6.2.1, I6.2.2.1, I6.2.2.2⟩, Fr_ss FF rfl rfl, by rw [← s1, ← g6]; rfl, by show (u6.1 4 + 1 : Int32).toInt = _; rw [g6]; omega, fun _ => ⟨?_, ?_, ?_⟩⟩
      · show u6.2.1 10 _ = _
        rw [F6.2.1 10 rfl]; exact v10
      · show u6.2.1 11 _ = _
        rw [F6.2.1 11 rfl]; exact v11
      · show u6.2.1 12 _ = _
        rw [F6.2.1 12 rfl]; exact v12
/-- add: a node that is no place -/
theorem kP_SqlReaderModel_add {x1 x2 x3 : Int32} {u : St} (I : IP u) (h0 : (u.1 4).toInt ≤ 199000) (h1 : 0 ≤ x1.toInt) (h2 : x1.toInt ≤ 28) (h3 : x1.toInt ≠ 4) (h4 : (u.1 2).toInt = 1 ∨ 200 ≤ (u.1 4).toInt ∨ x1.toInt < 6 ∨ x1.toInt = 28 ∨ (0 ≤ x2.toInt ∧ x2.toInt < (u.1 4).toInt ∧ -1 ≤ x3.toInt ∧ x3.toInt < (u.1 4).toInt)) (h5 : (u.1 2).toInt = 1 ∨ x1.toInt ≠ 28 ∨ (1 ≤ x2.toInt ∧ x2.toInt ≤ 9)) (h6 : (u.1 2).toInt = 1 ∨ 200 ≤ (u.1 4).toInt ∨ x1.toInt < 17 ∨ 22 < x1.toInt ∨ 0 ≤ x3.toInt) : okM (mM_SqlReaderModel_add x1 x2 x3 u) (fun r v => IP v ∧ Fr [4, 5] [10, 11, 12, 13, 18, 19, 20] u v ∧ r.toInt = (u.1 4).toInt ∧ (v.1 4).toInt = (u.1 4).toInt + 1 ∧ 0 ≤ r.toInt) := by
  have B4 := IP_4 I
  refine okM_mono (kP_add_g I h0) (fun r v hv => ?_)
  obtain ⟨a1, a2, a3, a4, a5⟩ := hv
  refine ⟨IPg_fin a1 a4 (by omega) (fun hb hn => ?_), a2, by rw [a3], a4, by rw [a3]; omega⟩
  obtain ⟨b1, b2, b3⟩ := a5 hn
  rw [b1, b2, b3]
  have e2 : v.1 2 = u.1 2 := a2.1 2 rfl
  rw [e2] at hb
  have ec : (((u.1 4).toInt.toNat : Nat) : Int) = (u.1 4).toInt := by omega
  exact ⟨⟨h1, h2⟩, Or.inl h3, by omega, by omega, by omega⟩
/-- place: a node that is one -/
theorem kP_SqlReaderModel_place {x1 x2 : Int32} {u : St} (I : IP u) (h0 : (u.1 4).toInt ≤ 199000) (h1 : -1 ≤ x1.toInt) (h2 : x1.toInt < (u.1 1).toInt) (h3 : 0 ≤ x2.toInt) (h4 : x2.toInt < (u.1 1).toInt) : okM (mM_SqlReaderModel_place x1 x2 u) (fun r v => IP v ∧ Fr [4, 5] [10, 11, 12, 13, 14, 15, 18, 19, 20] u v ∧ r.toInt = (u.1 4).toInt ∧ (v.1 4).toInt = (u.1 4).toInt + 1 ∧ 0 ≤ r.toInt) := by
  have B4 := IP_4 I
  have l : (200 : Int32).toInt = 200 := by decide
  have l4 : (4 : Int32).toInt = 4 := by decide
  have cc := cl_of (i := u.1 4) (by omega)
  have cn : (u.1 4).toNatClampNeg = (u.1 4).toInt.toNat := by omega
  rw [mM_SqlReaderModel_place]
  refine okM_bM (kP_add_g I h0) (fun r v hv => ?_)
  obtain ⟨a1, a2, a3, a4, a5⟩ := hv
  have FF : Fr [4, 5] [10, 11, 12, 13, 14, 15, 18, 19, 20] u v := Fr_tr (Fr_rfl u) a2 rfl rfl
  subst a3
  refine okM_le (fun c => okM_some ⟨IPg_fin a1 a4 (by omega) (fun hb hn => by omega), FF, rfl, a4, B4.1⟩) (fun c => ?_)
  refine okM_gd (inb_of (by omega) (by omega)) (okM_seq (fun u3 e3 => ?_))
  refine okM_gd (inb_of (by omega) (by omega)) (okM_seq (fun u4 e4 => okM_some ?_))
  subst e3
  subst e4
  obtain ⟨b1, b2, b3⟩ := a5 (by omega)
  refine ⟨IPg_fin (n := (u.1 4).toInt) ?_ a4 (by omega) (fun hb hn => ?_), Fr_sa (Fr_sa FF rfl rfl rfl) rfl rfl rfl, rfl, a4, B4.1⟩
  · obtain ⟨ms, ma, tk, al⟩ := a1
    refine ⟨ms, ma, tk, fun A => ?_⟩
    obtain ⟨n1, n2, n3⟩ := al A
    refine ⟨fun j hj => ?_, n2, n3⟩
    have ne : j ≠ (u.1 4).toNatClampNeg := by omega
    show NDv (v.1 1).toInt j (v.2.1 10 j) (v.2.1 11 j) (v.2.1 12 j) (upd (v.2.1 14) (u.1 4).toNatClampNeg x1 j) (upd (v.2.1 15) (u.1 4).toNatClampNeg x2 j)
    rw [pk_un ne, pk_un ne]
    exact n1 j hj
  · show NDv (v.1 1).toInt (u.1 4).toInt.toNat (v.2.1 10 (u.1 4).toInt.toNat) (v.2.1 11 (u.1 4).toInt.toNat) (v.2.1 12 (u.1 4).toInt.toNat) (upd (v.2.1 14) (u.1 4).toNatClampNeg x1 (u.1 4).toInt.toNat) (upd (v.2.1 15) (u.1 4).toNatClampNeg x2 (u.1 4).toInt.toNat)
    rw [← cn, pk_us, pk_us, cn, b1, show v.1 1 = u.1 1 from a2.1 1 rfl]
    exact ⟨by omega, Or.inr ⟨h1, h2, h3, h4⟩, Or.inl (by omega), Or.inl (by omega), Or.inl (by omega)⟩
