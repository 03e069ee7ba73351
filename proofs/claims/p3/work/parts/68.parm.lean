/-! PARSING: what statements write -/
theorem IP_s13 {u : St} {x : Int32} (I : IP u) (h0 : 0 ≤ x.toInt) (h1 : x.toInt ≤ 1) : IP (ss u 13 x) := ⟨MS_s13 I.1 h0 h1, I.2⟩
theorem IP_s14 {u : St} {x : Int32} (I : IP u) (h0 : 0 ≤ x.toInt) (h1 : x.toInt ≤ 1) : IP (ss u 14 x) := ⟨MS_s14 I.1 h0 h1, I.2⟩
theorem IP_s18 {u : St} {x : Int32} (I : IP u) (h0 : 0 ≤ x.toInt) (h1 : x.toInt ≤ 1000) : IP (ss u 18 x) := ⟨MS_s18 I.1 h0 h1, I.2⟩
theorem IP_s20 {u : St} {x : Int32} (I : IP u) (h0 : 0 ≤ x.toInt) (h1 : x.toInt ≤ 1000) : IP (ss u 20 x) := ⟨MS_s20 I.1 h0 h1, I.2⟩
theorem IP_s22 {u : St} {x : Int32} (I : IP u) (h0 : 0 ≤ x.toInt) (h1 : x.toInt ≤ 1) : IP (ss u 22 x) := ⟨MS_s22 I.1 h0 h1, I.2⟩
theorem IP_s23 {u : St} {x : Int32} (I : IP u) (h0 : 0 ≤ x.toInt) (h1 : x.toInt ≤ 1000) : IP (ss u 23 x) := ⟨MS_s23 I.1 h0 h1, I.2⟩
theorem IP_s27 {u : St} {x : Int32} (I : IP u) (h0 : 0 ≤ x.toInt) (h1 : x.toInt ≤ 1) : IP (ss u 27 x) := ⟨MS_s27 I.1 h0 h1, I.2⟩
theorem IP_s29 {u : St} {x : Int32} (I : IP u) (h0 : 0 ≤ x.toInt) (h1 : x.toInt ≤ 1) : IP (ss u 29 x) := ⟨MS_s29 I.1 h0 h1, I.2⟩
theorem IP_s7 {u : St} {x : Int32} (I : IP u) (h : x.toInt ≠ 5 ∨ 0 ≤ (u.1 10).toInt) : IP (ss u 7 x) := by
  refine ⟨I.1, I.2.1, I.2.2.1, fun A => ?_⟩
  obtain ⟨n1, n2, n3, n4, n5, n6, n7, n8, n9, n10, n11, n12⟩ := I.2.2.2 A
  exact ⟨n1, n2, n3, n4, n5, n6, n7, n8, n9, n10, h, n12⟩
theorem IP_s8 {u : St} {x : Int32} (I : IP u) (h : x.toInt ≠ 5 ∨ 0 ≤ (u.1 10).toInt) : IP (ss u 8 x) := by
  refine ⟨I.1, I.2.1, I.2.2.1, fun A => ?_⟩
  obtain ⟨n1, n2, n3, n4, n5, n6, n7, n8, n9, n10, n11, n12⟩ := I.2.2.2 A
  exact ⟨n1, n2, n3, n4, n5, n6, n7, n8, n9, n10, n11, h⟩
theorem IP_s10 {u : St} {x : Int32} (I : IP u) (h0 : 0 ≤ x.toInt) (h1 : x.toInt ≤ 4000) (h : (u.1 2).toInt = 1 ∨ x.toInt < (u.1 1).toInt) : IP (ss u 10 x) := by
  refine ⟨MS_s10 I.1 (by omega) h1, I.2.1, I.2.2.1, fun A => ?_⟩
  have A1 : (u.1 2).toInt = 0 := A.1
  obtain ⟨n1, n2, n3, n4, n5, n6, n7, n8, n9, n10, n11, n12⟩ := I.2.2.2 A
  refine ⟨n1, fun c hc => CHv_ext (n2 c hc) (Int.le_refl _) (Int.le_refl _) (fun _ => h0) id (fun _ q => q) (fun _ q => q) (fun _ _ => ⟨rfl, rfl⟩), n3, n4, n5, n6, by show x.toInt < (u.1 1).toInt; omega, n8, n9, n10, Or.inr h0, Or.inr h0⟩
theorem IP_s12 {u : St} {x : Int32} (I : IP u) (h0 : -1 ≤ x.toInt) (h1 : x.toInt ≤ 4000) (h : (u.1 2).toInt = 1 ∨ (x.toInt < (u.1 1).toInt ∧ (ga u 1 x).toInt = 2)) : IP (ss u 12 x) := by
  refine ⟨MS_s12 I.1 h0 h1, I.2.1, I.2.2.1, fun A => ?_⟩
  have A1 : (u.1 2).toInt = 0 := A.1
  obtain ⟨n1, n2, n3, n4, n5, n6, n7, n8, n9, n10, n11, n12⟩ := I.2.2.2 A
  have h' : x.toInt < (u.1 1).toInt ∧ (ga u 1 x).toInt = 2 := by
    rcases h with h | h
    · omega
    · exact h
  exact ⟨n1, n2, n3, n4, n5, n6, n7, h'.1, n9, Or.inr h'.2, n11, n12⟩
theorem IP_s26 {u : St} {x : Int32} (I : IP u) (h0 : 0 ≤ x.toInt) (h1 : x.toInt ≤ 4000) (h : (u.1 2).toInt = 1 ∨ x.toInt < (u.1 1).toInt) : IP (ss u 26 x) := by
  refine ⟨MS_s26 I.1 (by omega) h1, I.2.1, I.2.2.1, fun A => ?_⟩
  have A1 : (u.1 2).toInt = 0 := A.1
  obtain ⟨n1, n2, n3, n4, n5, n6, n7, n8, n9, n10, n11, n12⟩ := I.2.2.2 A
  exact ⟨n1, fun c hc => CHv_ext (n2 c hc) (Int.le_refl _) (Int.le_refl _) id (fun _ => h0) (fun _ q => q) (fun _ q => q) (fun _ _ => ⟨rfl, rfl⟩), n3, n4, n5, n6, n7, n8, by show x.toInt < (u.1 1).toInt; omega, n10, n11, n12⟩
theorem IP_a21 {u : St} {i x : Int32} (I : IP u) (h : (u.1 2).toInt = 1 ∨ 200 < (u.1 4).toInt ∨ (0 ≤ x.toInt ∧ x.toInt < (u.1 4).toInt)) : IP (sa u 21 i x) := by
  refine ⟨I.1, I.2.1, I.2.2.1, fun A => ?_⟩
  have A1 : (u.1 2).toInt = 0 := A.1
  have A2 : (u.1 4).toInt ≤ 200 := A.2
  obtain ⟨n1, n2, n3, n4, n5⟩ := I.2.2.2 A
  refine ⟨n1, n2, ?_, n4, n5⟩
  intro j hj hj2
  show 0 ≤ (upd (u.2.1 21) i.toNatClampNeg x j).toInt ∧ (upd (u.2.1 21) i.toNatClampNeg x j).toInt < (u.1 4).toInt
  by_cases e : j = i.toNatClampNeg
  · rw [e, pk_us]; omega
  · rw [pk_un e]; exact n3 j hj hj2
theorem IP_s16 {u : St} (I : IP u) (h0 : (u.1 16).toInt < 3000) (h : (u.1 2).toInt = 1 ∨ 200 < (u.1 4).toInt ∨ 200 ≤ (u.1 16).toInt ∨ (0 ≤ (ga u 21 (u.1 16)).toInt ∧ (ga u 21 (u.1 16)).toInt < (u.1 4).toInt)) : IP (ss u 16 (u.1 16 + 1)) := by
  have B := IP_b I
  have l1 : (1 : Int32).toInt = 1 := by decide
  have e : (u.1 16 + 1 : Int32).toInt = (u.1 16).toInt + (1 : Int32).toInt := add_i (by omega) (by omega)
  have c := cl_of (i := u.1 16) (by omega)
  refine ⟨MS_s16 I.1 (by omega) (by omega), I.2.1, I.2.2.1, fun A => ?_⟩
  have A1 : (u.1 2).toInt = 0 := A.1
  have A2 : (u.1 4).toInt ≤ 200 := A.2
  obtain ⟨n1, n2, n3, n4, n5⟩ := I.2.2.2 A
  refine ⟨n1, n2, ?_, n4, n5⟩
  intro j hj hj2
  have hj' : (j : Int) < (u.1 16 + 1 : Int32).toInt := hj
  by_cases q : (j : Int) < (u.1 16).toInt
  · exact n3 j q hj2
  · have ej : j = (u.1 16).toNatClampNeg := by omega
    rw [ej]
    show 0 ≤ (ga u 21 (u.1 16)).toInt ∧ (ga u 21 (u.1 16)).toInt < (u.1 4).toInt
    omega
theorem IP_a22 {u : St} {i x : Int32} (I : IP u) (h : (u.1 2).toInt = 1 ∨ 200 < (u.1 4).toInt ∨ (0 ≤ x.toInt ∧ x.toInt < (u.1 4).toInt)) : IP (sa u 22 i x) := by
  refine ⟨I.1, I.2.1, I.2.2.1, fun A => ?_⟩
  have A1 : (u.1 2).toInt = 0 := A.1
  have A2 : (u.1 4).toInt ≤ 200 := A.2
  obtain ⟨n1, n2, n3, n4, n5⟩ := I.2.2.2 A
  refine ⟨n1, n2, n3, ?_, n5⟩
  intro j hj hj2
  show 0 ≤ (upd (u.2.1 22) i.toNatClampNeg x j).toInt ∧ (upd (u.2.1 22) i.toNatClampNeg x j).toInt < (u.1 4).toInt
  by_cases e : j = i.toNatClampNeg
  · rw [e, pk_us]; omega
  · rw [pk_un e]; exact n4 j hj hj2
theorem IP_s17 {u : St} (I : IP u) (h0 : (u.1 17).toInt < 3000) (h : (u.1 2).toInt = 1 ∨ 200 < (u.1 4).toInt ∨ 200 ≤ (u.1 17).toInt ∨ (0 ≤ (ga u 22 (u.1 17)).toInt ∧ (ga u 22 (u.1 17)).toInt < (u.1 4).toInt)) : IP (ss u 17 (u.1 17 + 1)) := by
  have B := IP_b I
  have l1 : (1 : Int32).toInt = 1 := by decide
  have e : (u.1 17 + 1 : Int32).toInt = (u.1 17).toInt + (1 : Int32).toInt := add_i (by omega) (by omega)
  have c := cl_of (i := u.1 17) (by omega)
  refine ⟨MS_s17 I.1 (by omega) (by omega), I.2.1, I.2.2.1, fun A => ?_⟩
  have A1 : (u.1 2).toInt = 0 := A.1
  have A2 : (u.1 4).toInt ≤ 200 := A.2
  obtain ⟨n1, n2, n3, n4, n5⟩ := I.2.2.2 A
  refine ⟨n1, n2, n3, ?_, n5⟩
  intro j hj hj2
  have hj' : (j : Int) < (u.1 17 + 1 : Int32).toInt := hj
  by_cases q : (j : Int) < (u.1 17).toInt
  · exact n4 j q hj2
  · have ej : j = (u.1 17).toNatClampNeg := by omega
    rw [ej]
    show 0 ≤ (ga u 22 (u.1 17)).toInt ∧ (ga u 22 (u.1 17)).toInt < (u.1 4).toInt
    omega
/-- from: a table's token and its name -/
theorem kP_SqlReaderModel_from {x1 x2 : Int32} {u : St} (I : IP u) (h0 : (u.1 19).toInt ≤ 999) (h1 : (u.1 2).toInt = 1 ∨ (0 ≤ x1.toInt ∧ x1.toInt < (u.1 1).toInt ∧ 0 ≤ x2.toInt ∧ x2.toInt < (u.1 1).toInt)) : ok (mM_SqlReaderModel_from x1 x2 u) (fun v => IP v ∧ Fr [19] [25, 26] u v ∧ (v.1 19).toInt = (u.1 19).toInt + 1) := by
  have B := IP_b I
  have l1 : (1 : Int32).toInt = 1 := by decide
  have e : (u.1 19 + 1 : Int32).toInt = (u.1 19).toInt + (1 : Int32).toInt := add_i (by omega) (by omega)
  have c := cl_of (i := u.1 19) (by omega)
  have g : inb (u.1 19) 1000 = true := inb_of (by omega) (by omega)
  rw [mM_SqlReaderModel_from]
  refine ok_gd g (ok_seq (fun u1 e1 => ?_))
  subst e1
  refine ok_gd g (ok_seq (fun u2 e2 => ok_seq (fun u3 e3 => ok_some ?_)))
  subst e2
  subst e3
  refine ⟨⟨MS_s19 (u := sa (sa u 25 (u.1 19) x1) 26 (u.1 19) x2) I.1 (by show 0 ≤ (u.1 19 + 1 : Int32).toInt; omega) (by show (u.1 19 + 1 : Int32).toInt ≤ 1000; omega), I.2.1, I.2.2.1, fun A => ?_⟩, Fr_ss (Fr_sa (Fr_sa (Fr_rfl u) rfl rfl rfl) rfl rfl rfl) rfl rfl, by show (u.1 19 + 1 : Int32).toInt = _; omega⟩
  have A1 : (u.1 2).toInt = 0 := A.1
  obtain ⟨n1, n2, n3, n4, n5, n6⟩ := I.2.2.2 A
  refine ⟨n1, n2, n3, n4, fun j hj => ?_, n6⟩
  have hj' : (j : Int) < (u.1 19 + 1 : Int32).toInt := hj
  show 0 ≤ (upd (u.2.1 25) (u.1 19).toNatClampNeg x1 j).toInt ∧ (upd (u.2.1 25) (u.1 19).toNatClampNeg x1 j).toInt < (u.1 1).toInt ∧ 0 ≤ (upd (u.2.1 26) (u.1 19).toNatClampNeg x2 j).toInt ∧ (upd (u.2.1 26) (u.1 19).toNatClampNeg x2 j).toInt < (u.1 1).toInt
  by_cases q : j = (u.1 19).toNatClampNeg
  · rw [q, pk_us, pk_us]; omega
  · rw [pk_un q, pk_un q]; exact n5 j (by omega)
/-- setToken, setNode -/
theorem IP_a27 {u : St} {i x : Int32} (I : IP u) (h : (u.1 2).toInt = 1 ∨ (0 ≤ x.toInt ∧ x.toInt < (u.1 1).toInt)) : IP (sa u 27 i x) := by
  refine ⟨I.1, I.2.1, I.2.2.1, fun A => ?_⟩
  have A1 : (u.1 2).toInt = 0 := A.1
  obtain ⟨n1, n2, n3⟩ := I.2.2.2 A
  refine ⟨n1, fun c hc => CHv_ext (n2 c hc) (Int.le_refl _) (Int.le_refl _) id id (fun _ q => ?_) (fun _ q => q) (fun _ _ => ⟨rfl, rfl⟩), n3⟩
  show 0 ≤ (upd (u.2.1 27) i.toNatClampNeg x (u.2.1 19 c).toInt.toNat).toInt ∧ (upd (u.2.1 27) i.toNatClampNeg x (u.2.1 19 c).toInt.toNat).toInt < (u.1 1).toInt
  by_cases e : (u.2.1 19 c).toInt.toNat = i.toNatClampNeg
  · rw [e, pk_us]; omega
  · rw [pk_un e]; exact q
theorem IP_a29 {u : St} {i x : Int32} (I : IP u) (h : (u.1 2).toInt = 1 ∨ 200 < (u.1 4).toInt ∨ (0 ≤ x.toInt ∧ x.toInt < (u.1 4).toInt)) : IP (sa u 29 i x) := by
  refine ⟨I.1, I.2.1, I.2.2.1, fun A => ?_⟩
  have A1 : (u.1 2).toInt = 0 := A.1
  have A2 : (u.1 4).toInt ≤ 200 := A.2
  obtain ⟨n1, n2, n3⟩ := I.2.2.2 A
  refine ⟨n1, fun c hc => CHv_ext (n2 c hc) (Int.le_refl _) (Int.le_refl _) id id (fun _ q => q) (fun _ q => ?_) (fun _ _ => ⟨rfl, rfl⟩), n3⟩
  show 0 ≤ (upd (u.2.1 29) i.toNatClampNeg x (u.2.1 19 c).toInt.toNat).toInt ∧ (upd (u.2.1 29) i.toNatClampNeg x (u.2.1 19 c).toInt.toNat).toInt < (u.1 4).toInt
  by_cases e : (u.2.1 19 c).toInt.toNat = i.toNatClampNeg
  · rw [e, pk_us]; omega
  · rw [pk_un e]; exact q
theorem IP_a31 {u : St} {i x : Int32} (I : IP u) (h : (u.1 2).toInt = 1 ∨ (0 ≤ x.toInt ∧ x.toInt < (u.1 1).toInt ∧ (ga u 1 x).toInt = 2)) : IP (sa u 31 i x) := by
  refine ⟨I.1, I.2.1, I.2.2.1, fun A => ?_⟩
  have A1 : (u.1 2).toInt = 0 := A.1
  have h' : 0 ≤ x.toInt ∧ x.toInt < (u.1 1).toInt ∧ (ga u 1 x).toInt = 2 := by
    rcases h with h | h
    · omega
    · exact h
  obtain ⟨n1, n2, n3, n4, n5, n6, n7⟩ := I.2.2.2 A
  refine ⟨n1, n2, n3, n4, n5, fun j hj => ?_, n7⟩
  show 0 ≤ (upd (u.2.1 31) i.toNatClampNeg x j).toInt ∧ (upd (u.2.1 31) i.toNatClampNeg x j).toInt < (u.1 1).toInt ∧ (u.2.1 1 (upd (u.2.1 31) i.toNatClampNeg x j).toInt.toNat).toInt = 2
  by_cases e : j = i.toNatClampNeg
  · rw [e, pk_us]; exact h'
  · rw [pk_un e]; exact n6 j hj
theorem IP_s24 {u : St} (I : IP u) (h0 : (u.1 24).toInt < 1000) (h : (u.1 2).toInt = 1 ∨ (0 ≤ (ga u 31 (u.1 24)).toInt ∧ (ga u 31 (u.1 24)).toInt < (u.1 1).toInt ∧ (ga u 1 (ga u 31 (u.1 24))).toInt = 2)) : IP (ss u 24 (u.1 24 + 1)) := by
  have B := IP_b I
  have l1 : (1 : Int32).toInt = 1 := by decide
  have e : (u.1 24 + 1 : Int32).toInt = (u.1 24).toInt + (1 : Int32).toInt := add_i (by omega) (by omega)
  have c := cl_of (i := u.1 24) (by omega)
  refine ⟨MS_s24 I.1 (by omega) (by omega), I.2.1, I.2.2.1, fun A => ?_⟩
  have A1 : (u.1 2).toInt = 0 := A.1
  have h' : 0 ≤ (ga u 31 (u.1 24)).toInt ∧ (ga u 31 (u.1 24)).toInt < (u.1 1).toInt ∧ (ga u 1 (ga u 31 (u.1 24))).toInt = 2 := by
    rcases h with h | h
    · omega
    · exact h
  obtain ⟨n1, n2, n3, n4, n5, n6, n7⟩ := I.2.2.2 A
  refine ⟨n1, n2, n3, n4, n5, fun j hj => ?_, n7⟩
  have hj' : (j : Int) < (u.1 24 + 1 : Int32).toInt := hj
  by_cases q : (j : Int) < (u.1 24).toInt
  · exact n6 j q
  · have ej : j = (u.1 24).toNatClampNeg := by omega
    rw [ej]
    exact h'
theorem kP_note4 {x2 : Int32} {u : St} (I : IP u) (h0 : 0 ≤ x2.toInt) (h1 : x2.toInt ≤ 999) (h2 : (u.1 2).toInt = 1 ∨ (0 ≤ (ga u 27 x2).toInt ∧ (ga u 27 x2).toInt < (u.1 1).toInt)) (h3 : 0 ≤ (u.1 10).toInt) : ok (mM_SqlReaderModel_note 4 x2 0 u) (fun v => IP v ∧ Fr [5] [18, 19, 20] u v ∧ Hc v x2) := by
  have l4 : (4 : Int32).toInt = 4 := by decide
  refine ok_mono (kP_note I (fun A => ?_)) (fun v hv => ⟨hv.1, hv.2.1, hv.2.2 l4⟩)
  have h2' : 0 ≤ (ga u 27 x2).toInt ∧ (ga u 27 x2).toInt < (u.1 1).toInt := by
    rcases h2 with h | h
    · omega
    · exact h
  exact ⟨by omega, by omega, Or.inr ⟨h0, h1, h2'⟩, Or.inl (by omega), by omega, by omega, by omega⟩
theorem kP_note5 {x2 : Int32} {u : St} (I : IP u) (h0 : 0 ≤ x2.toInt) (h1 : x2.toInt ≤ 999) (h2 : (u.1 2).toInt = 1 ∨ 200 < (u.1 4).toInt ∨ (0 ≤ (ga u 29 x2).toInt ∧ (ga u 29 x2).toInt < (u.1 4).toInt)) (h3 : 0 ≤ (u.1 10).toInt) (H : Hc u x2) : ok (mM_SqlReaderModel_note 5 x2 0 u) (fun v => IP v ∧ Fr [5] [18, 19, 20] u v) := by
  have l5 : (5 : Int32).toInt = 5 := by decide
  have l12 : (1200 : Int32).toInt = 1200 := by decide
  rcases H with H | ⟨z, hz, z1, z2⟩
  · rw [mM_SqlReaderModel_note]
    exact ok_le (fun c => ok_some ⟨I, Fr_rfl u⟩) (fun c => by exfalso; omega)
  · refine ok_mono (kP_note I (fun A => ?_)) (fun v hv => ⟨hv.1, hv.2.1⟩)
    have h2' : 0 ≤ (ga u 29 x2).toInt ∧ (ga u 29 x2).toInt < (u.1 4).toInt := by
      rcases h2 with h | h | h
      · omega
      · omega
      · exact h
    exact ⟨by omega, by omega, Or.inl (by omega), Or.inr ⟨h0, h1, h2'.1, h2'.2, z, by omega, z1, z2⟩, by omega, by omega, by omega⟩
/-- a check of the sorts that need no other check -/
theorem kP_SqlReaderModel_note {x1 x2 x3 : Int32} {u : St} (I : IP u) (h0 : x1.toInt = 2 ∨ x1.toInt = 3 ∨ x1.toInt = 6 ∨ x1.toInt = 7 ∨ x1.toInt = 9 ∨ x1.toInt = 10) (h1 : (x1.toInt ≠ 2 ∧ x1.toInt ≠ 3 ∧ x1.toInt ≠ 6) ∨ (u.1 2).toInt = 1 ∨ 200 < (u.1 4).toInt ∨ (0 ≤ x2.toInt ∧ x2.toInt < (u.1 4).toInt)) (h2 : (x1.toInt ≠ 2 ∧ x1.toInt ≠ 9 ∧ x1.toInt ≠ 10) ∨ 0 ≤ (u.1 10).toInt) (h3 : x1.toInt ≠ 9 ∨ 0 ≤ (u.1 26).toInt) (h4 : (x1.toInt ≠ 2 ∧ x1.toInt ≠ 6) ∨ 0 ≤ x3.toInt) : ok (mM_SqlReaderModel_note x1 x2 x3 u) (fun v => IP v ∧ Fr [5] [18, 19, 20] u v) := by
  refine ok_mono (kP_note I (fun A => ?_)) (fun v hv => ⟨hv.1, hv.2.1⟩)
  exact ⟨by omega, by omega, Or.inl (by omega), Or.inl (by omega), by omega, by omega, by omega⟩
