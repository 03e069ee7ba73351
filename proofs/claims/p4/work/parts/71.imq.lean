/-! CHECKING: what holds when a statement is parsed -/
def KSz (u : St) : Prop := (u.1 2).toInt = 0 ∧ (u.1 4).toInt ≤ 200 ∧ (u.1 16).toInt ≤ 8 ∧ (u.1 17).toInt ≤ 4 ∧ (u.1 18).toInt ≤ 4 ∧ (u.1 19).toInt ≤ 3 ∧ (u.1 20).toInt ≤ 8 ∧ (u.1 24).toInt ≤ 8
def IK (u : St) : Prop := IP u ∧ KSz u
def IQ (u : St) : Prop := IK u ∧ (∀ j : Nat, (j : Int) < (u.1 19).toInt → 0 ≤ (u.2.1 24 j).toInt) ∧ ((u.1 10).toInt < 0 ∨ 0 ≤ (u.1 9).toInt)
theorem IK_b {u : St} (I : IK u) : ((0 ≤ (u.1 0).toInt ∧ (u.1 0).toInt ≤ 2000) ∧ (0 ≤ (u.1 1).toInt ∧ (u.1 1).toInt ≤ 2000) ∧ (0 ≤ (u.1 2).toInt ∧ (u.1 2).toInt ≤ 1) ∧ (0 ≤ (u.1 3).toInt ∧ (u.1 3).toInt ≤ 8) ∧ (0 ≤ (u.1 4).toInt ∧ (u.1 4).toInt ≤ 200000) ∧ (0 ≤ (u.1 5).toInt ∧ (u.1 5).toInt ≤ 1200) ∧ (-1 ≤ (u.1 9).toInt ∧ (u.1 9).toInt ≤ 7) ∧ (-1 ≤ (u.1 10).toInt ∧ (u.1 10).toInt ≤ 4000) ∧ (-1 ≤ (u.1 12).toInt ∧ (u.1 12).toInt ≤ 4000) ∧ (0 ≤ (u.1 13).toInt ∧ (u.1 13).toInt ≤ 1) ∧ (0 ≤ (u.1 14).toInt ∧ (u.1 14).toInt ≤ 1) ∧ (0 ≤ (u.1 16).toInt ∧ (u.1 16).toInt ≤ 3000) ∧ (0 ≤ (u.1 17).toInt ∧ (u.1 17).toInt ≤ 3000) ∧ (0 ≤ (u.1 18).toInt ∧ (u.1 18).toInt ≤ 1000) ∧ (0 ≤ (u.1 19).toInt ∧ (u.1 19).toInt ≤ 1000) ∧ (0 ≤ (u.1 20).toInt ∧ (u.1 20).toInt ≤ 1000) ∧ (0 ≤ (u.1 22).toInt ∧ (u.1 22).toInt ≤ 1) ∧ (0 ≤ (u.1 23).toInt ∧ (u.1 23).toInt ≤ 1000) ∧ (0 ≤ (u.1 24).toInt ∧ (u.1 24).toInt ≤ 1000) ∧ (-1 ≤ (u.1 25).toInt ∧ (u.1 25).toInt ≤ 7) ∧ (-1 ≤ (u.1 26).toInt ∧ (u.1 26).toInt ≤ 4000) ∧ (0 ≤ (u.1 27).toInt ∧ (u.1 27).toInt ≤ 1) ∧ (0 ≤ (u.1 28).toInt ∧ (u.1 28).toInt ≤ 9) ∧ (0 ≤ (u.1 29).toInt ∧ (u.1 29).toInt ≤ 1) ∧ (0 ≤ (u.1 30).toInt ∧ (u.1 30).toInt ≤ 4000)) ∧ (u.1 2).toInt = 0 ∧ (u.1 4).toInt ≤ 200 ∧ (u.1 16).toInt ≤ 8 ∧ (u.1 17).toInt ≤ 4 ∧ (u.1 18).toInt ≤ 4 ∧ (u.1 19).toInt ≤ 3 ∧ (u.1 20).toInt ≤ 8 ∧ (u.1 24).toInt ≤ 8 := ⟨I.1.1, I.2⟩
theorem IQ_b {u : St} (I : IQ u) : (((0 ≤ (u.1 0).toInt ∧ (u.1 0).toInt ≤ 2000) ∧ (0 ≤ (u.1 1).toInt ∧ (u.1 1).toInt ≤ 2000) ∧ (0 ≤ (u.1 2).toInt ∧ (u.1 2).toInt ≤ 1) ∧ (0 ≤ (u.1 3).toInt ∧ (u.1 3).toInt ≤ 8) ∧ (0 ≤ (u.1 4).toInt ∧ (u.1 4).toInt ≤ 200000) ∧ (0 ≤ (u.1 5).toInt ∧ (u.1 5).toInt ≤ 1200) ∧ (-1 ≤ (u.1 9).toInt ∧ (u.1 9).toInt ≤ 7) ∧ (-1 ≤ (u.1 10).toInt ∧ (u.1 10).toInt ≤ 4000) ∧ (-1 ≤ (u.1 12).toInt ∧ (u.1 12).toInt ≤ 4000) ∧ (0 ≤ (u.1 13).toInt ∧ (u.1 13).toInt ≤ 1) ∧ (0 ≤ (u.1 14).toInt ∧ (u.1 14).toInt ≤ 1) ∧ (0 ≤ (u.1 16).toInt ∧ (u.1 16).toInt ≤ 3000) ∧ (0 ≤ (u.1 17).toInt ∧ (u.1 17).toInt ≤ 3000) ∧ (0 ≤ (u.1 18).toInt ∧ (u.1 18).toInt ≤ 1000) ∧ (0 ≤ (u.1 19).toInt ∧ (u.1 19).toInt ≤ 1000) ∧ (0 ≤ (u.1 20).toInt ∧ (u.1 20).toInt ≤ 1000) ∧ (0 ≤ (u.1 22).toInt ∧ (u.1 22).toInt ≤ 1) ∧ (0 ≤ (u.1 23).toInt ∧ (u.1 23).toInt ≤ 1000) ∧ (0 ≤ (u.1 24).toInt ∧ (u.1 24).toInt ≤ 1000) ∧ (-1 ≤ (u.1 25).toInt ∧ (u.1 25).toInt ≤ 7) ∧ (-1 ≤ (u.1 26).toInt ∧ (u.1 26).toInt ≤ 4000) ∧ (0 ≤ (u.1 27).toInt ∧ (u.1 27).toInt ≤ 1) ∧ (0 ≤ (u.1 28).toInt ∧ (u.1 28).toInt ≤ 9) ∧ (0 ≤ (u.1 29).toInt ∧ (u.1 29).toInt ≤ 1) ∧ (0 ≤ (u.1 30).toInt ∧ (u.1 30).toInt ≤ 4000)) ∧ (u.1 2).toInt = 0 ∧ (u.1 4).toInt ≤ 200 ∧ (u.1 16).toInt ≤ 8 ∧ (u.1 17).toInt ≤ 4 ∧ (u.1 18).toInt ≤ 4 ∧ (u.1 19).toInt ≤ 3 ∧ (u.1 20).toInt ≤ 8 ∧ (u.1 24).toInt ≤ 8) ∧ ((u.1 10).toInt < 0 ∨ 0 ≤ (u.1 9).toInt) := ⟨IK_b I.1, I.2.2⟩
theorem IK_IT {u : St} (I : IK u) : IT u := IP_IT I.1
theorem IK_IB {u : St} (I : IK u) : IB u := IP_IB I.1
theorem IK_IW {u : St} (I : IK u) : IW u := IP_IW I.1
theorem IQ_IT {u : St} (I : IQ u) : IT u := IP_IT I.1.1
theorem IQ_IB {u : St} (I : IQ u) : IB u := IP_IB I.1.1
theorem IQ_IW {u : St} (I : IQ u) : IW u := IP_IW I.1.1
theorem IQ_IK {u : St} (I : IQ u) : IK u := I.1
theorem IK_al {u : St} (I : IK u) : ND u (u.1 4).toInt ∧ CH u (u.1 4).toInt ∧ RS u (u.1 4).toInt := I.1.2.2.2 ⟨I.2.1, I.2.2.1⟩
theorem IK_nd {u : St} (I : IK u) (i : Int32) : i.toInt < 0 ∨ (u.1 4).toInt ≤ i.toInt ∨ ((0 ≤ (ga u 10 i).toInt ∧ (ga u 10 i).toInt ≤ 28) ∧ ((ga u 10 i).toInt ≠ 4 ∨ (-1 ≤ (ga u 14 i).toInt ∧ (ga u 14 i).toInt < (u.1 1).toInt ∧ 0 ≤ (ga u 15 i).toInt ∧ (ga u 15 i).toInt < (u.1 1).toInt)) ∧ ((ga u 10 i).toInt < 6 ∨ (ga u 10 i).toInt = 28 ∨ (0 ≤ (ga u 11 i).toInt ∧ (ga u 11 i).toInt < i.toInt ∧ -1 ≤ (ga u 12 i).toInt ∧ (ga u 12 i).toInt < i.toInt)) ∧ ((ga u 10 i).toInt ≠ 28 ∨ (1 ≤ (ga u 11 i).toInt ∧ (ga u 11 i).toInt ≤ 9)) ∧ ((ga u 10 i).toInt < 17 ∨ 22 < (ga u 10 i).toInt ∨ 0 ≤ (ga u 12 i).toInt)) := by
  by_cases h0 : i.toInt < 0
  · exact Or.inl h0
  by_cases h1 : (u.1 4).toInt ≤ i.toInt
  · exact Or.inr (Or.inl h1)
  refine Or.inr (Or.inr ?_)
  have c := cl_of (i := i) (by omega)
  have n := (IK_al I).1 i.toNatClampNeg (by omega)
  rw [show i.toInt = (i.toNatClampNeg : Int) from c.symm]
  exact n
theorem IK_ch {u : St} (I : IK u) (i : Int32) : i.toInt < 0 ∨ (u.1 5).toInt ≤ i.toInt ∨ (((1 ≤ (ga u 18 i).toInt ∧ (ga u 18 i).toInt ≤ 7) ∨ (ga u 18 i).toInt = 9 ∨ (ga u 18 i).toInt = 10) ∧ (((ga u 18 i).toInt ≠ 1 ∧ (ga u 18 i).toInt ≠ 2 ∧ (ga u 18 i).toInt ≠ 3 ∧ (ga u 18 i).toInt ≠ 6) ∨ (0 ≤ (ga u 19 i).toInt ∧ (ga u 19 i).toInt < (u.1 4).toInt)) ∧ ((ga u 18 i).toInt ≠ 4 ∨ (0 ≤ (ga u 19 i).toInt ∧ (ga u 19 i).toInt ≤ 999 ∧ 0 ≤ (ga u 27 (ga u 19 i)).toInt ∧ (ga u 27 (ga u 19 i)).toInt < (u.1 1).toInt)) ∧ ((ga u 18 i).toInt ≠ 5 ∨ (0 ≤ (ga u 19 i).toInt ∧ (ga u 19 i).toInt ≤ 999 ∧ 0 ≤ (ga u 29 (ga u 19 i)).toInt ∧ (ga u 29 (ga u 19 i)).toInt < (u.1 4).toInt)) ∧ (((ga u 18 i).toInt ≠ 2 ∧ (ga u 18 i).toInt ≠ 4 ∧ (ga u 18 i).toInt ≠ 5 ∧ (ga u 18 i).toInt ≠ 9 ∧ (ga u 18 i).toInt ≠ 10) ∨ 0 ≤ (u.1 10).toInt) ∧ ((ga u 18 i).toInt ≠ 9 ∨ 0 ≤ (u.1 26).toInt) ∧ (((ga u 18 i).toInt ≠ 2 ∧ (ga u 18 i).toInt ≠ 6) ∨ 0 ≤ (ga u 20 i).toInt)) := by
  by_cases h0 : i.toInt < 0
  · exact Or.inl h0
  by_cases h1 : (u.1 5).toInt ≤ i.toInt
  · exact Or.inr (Or.inl h1)
  refine Or.inr (Or.inr ?_)
  have c := cl_of (i := i) (by omega)
  obtain ⟨n1, n2, n3, n4, n5, n6, n7⟩ := (IK_al I).2.1 i.toNatClampNeg (by omega)
  refine ⟨n1, n2, n3, ?_, n5, n6, n7⟩
  rcases n4 with q | ⟨q1, q2, q3, q4, _⟩
  · exact Or.inl q
  · exact Or.inr ⟨q1, q2, q3, q4⟩
theorem IK_it {u : St} (I : IK u) (i : Int32) : i.toInt < 0 ∨ (u.1 16).toInt ≤ i.toInt ∨ (0 ≤ (ga u 21 i).toInt ∧ (ga u 21 i).toInt < (u.1 4).toInt) := by
  have B := IK_b I
  by_cases h0 : i.toInt < 0
  · exact Or.inl h0
  by_cases h1 : (u.1 16).toInt ≤ i.toInt
  · exact Or.inr (Or.inl h1)
  have c := cl_of (i := i) (by omega)
  exact Or.inr (Or.inr ((IK_al I).2.2.1 i.toNatClampNeg (by omega) (by omega)))
theorem IK_gr {u : St} (I : IK u) (i : Int32) : i.toInt < 0 ∨ (u.1 17).toInt ≤ i.toInt ∨ (0 ≤ (ga u 22 i).toInt ∧ (ga u 22 i).toInt < (u.1 4).toInt) := by
  have B := IK_b I
  by_cases h0 : i.toInt < 0
  · exact Or.inl h0
  by_cases h1 : (u.1 17).toInt ≤ i.toInt
  · exact Or.inr (Or.inl h1)
  have c := cl_of (i := i) (by omega)
  exact Or.inr (Or.inr ((IK_al I).2.2.2.1 i.toNatClampNeg (by omega) (by omega)))
theorem IK_fr {u : St} (I : IK u) (i : Int32) : i.toInt < 0 ∨ (u.1 19).toInt ≤ i.toInt ∨ (0 ≤ (ga u 25 i).toInt ∧ (ga u 25 i).toInt < (u.1 1).toInt ∧ 0 ≤ (ga u 26 i).toInt ∧ (ga u 26 i).toInt < (u.1 1).toInt) := by
  have B := IK_b I
  by_cases h0 : i.toInt < 0
  · exact Or.inl h0
  by_cases h1 : (u.1 19).toInt ≤ i.toInt
  · exact Or.inr (Or.inl h1)
  have c := cl_of (i := i) (by omega)
  exact Or.inr (Or.inr ((IK_al I).2.2.2.2.1 i.toNatClampNeg (by omega)))
theorem IK_nt {u : St} (I : IK u) (i : Int32) : i.toInt < 0 ∨ (u.1 24).toInt ≤ i.toInt ∨ (0 ≤ (ga u 31 i).toInt ∧ (ga u 31 i).toInt < (u.1 1).toInt ∧ (ga u 1 (ga u 31 i)).toInt = 2) := by
  have B := IK_b I
  by_cases h0 : i.toInt < 0
  · exact Or.inl h0
  by_cases h1 : (u.1 24).toInt ≤ i.toInt
  · exact Or.inr (Or.inl h1)
  have c := cl_of (i := i) (by omega)
  exact Or.inr (Or.inr ((IK_al I).2.2.2.2.2.1 i.toNatClampNeg (by omega)))
theorem IK_tt {u : St} (I : IK u) : (u.1 10).toInt < (u.1 1).toInt ∧ (u.1 12).toInt < (u.1 1).toInt ∧ (u.1 26).toInt < (u.1 1).toInt ∧ ((u.1 12).toInt = -1 ∨ (ga u 1 (u.1 12)).toInt = 2) ∧ ((u.1 7).toInt ≠ 5 ∨ 0 ≤ (u.1 10).toInt) ∧ ((u.1 8).toInt ≠ 5 ∨ 0 ≤ (u.1 10).toInt) := (IK_al I).2.2.2.2.2.2
theorem IQ_ft {u : St} (I : IQ u) (i : Int32) : i.toInt < 0 ∨ (u.1 19).toInt ≤ i.toInt ∨ 0 ≤ (ga u 24 i).toInt := by
  by_cases h0 : i.toInt < 0
  · exact Or.inl h0
  by_cases h1 : (u.1 19).toInt ≤ i.toInt
  · exact Or.inr (Or.inl h1)
  have c := cl_of (i := i) (by omega)
  exact Or.inr (Or.inr (I.2.1 i.toNatClampNeg (by omega)))
theorem IK_s9 {u : St} {x : Int32} (I : IK u) (h0 : -1 ≤ x.toInt) (h1 : x.toInt ≤ 7) : IK (ss u 9 x) := ⟨⟨MS_s9 I.1.1 h0 h1, I.1.2⟩, I.2⟩
theorem MA_24 {u : St} {i x : Int32} (I : MA u) (h0 : -1 ≤ x.toInt) (h1 : x.toInt ≤ 7) : MA (sa u 24 i x) := by
  obtain ⟨a, b, c, d, e, f, g⟩ := I
  refine ⟨a, b, c, d, e, fun j => ?_, g⟩
  show -1 ≤ (upd (u.2.1 24) i.toNatClampNeg x j).toInt ∧ (upd (u.2.1 24) i.toNatClampNeg x j).toInt ≤ 7
  by_cases h : j = i.toNatClampNeg
  · rw [h, pk_us]; exact ⟨h0, h1⟩
  · rw [pk_un h]; exact f j
theorem MA_28 {u : St} {i x : Int32} (I : MA u) (h0 : -1 ≤ x.toInt) (h1 : x.toInt ≤ 7) : MA (sa u 28 i x) := by
  obtain ⟨a, b, c, d, e, f, g⟩ := I
  refine ⟨a, b, c, d, e, f, fun j => ?_⟩
  show -1 ≤ (upd (u.2.1 28) i.toNatClampNeg x j).toInt ∧ (upd (u.2.1 28) i.toNatClampNeg x j).toInt ≤ 7
  by_cases h : j = i.toNatClampNeg
  · rw [h, pk_us]; exact ⟨h0, h1⟩
  · rw [pk_un h]; exact g j
theorem IK_a24 {u : St} {i x : Int32} (I : IK u) (h0 : -1 ≤ x.toInt) (h1 : x.toInt ≤ 7) : IK (sa u 24 i x) := ⟨⟨I.1.1, MA_24 I.1.2.1 h0 h1, I.1.2.2⟩, I.2⟩
theorem IQ_a28 {u : St} {i x : Int32} (I : IQ u) (h0 : -1 ≤ x.toInt) (h1 : x.toInt ≤ 7) : IQ (sa u 28 i x) := ⟨⟨⟨I.1.1.1, MA_28 I.1.1.2.1 h0 h1, I.1.1.2.2⟩, I.1.2⟩, I.2⟩
theorem IQ_s25 {u : St} {x : Int32} (I : IQ u) (h0 : -1 ≤ x.toInt) (h1 : x.toInt ≤ 7) : IQ (ss u 25 x) := ⟨⟨⟨MS_s25 I.1.1.1 h0 h1, I.1.1.2⟩, I.1.2⟩, I.2⟩
theorem IQ_s22 {u : St} {x : Int32} (I : IQ u) (h0 : 0 ≤ x.toInt) (h1 : x.toInt ≤ 1) : IQ (ss u 22 x) := ⟨⟨⟨MS_s22 I.1.1.1 h0 h1, I.1.1.2⟩, I.1.2⟩, I.2⟩
/-- a place's table and column -/
theorem IK_a11 {u : St} {i x : Int32} (I : IK u) (h0 : 0 ≤ i.toInt) (hk : (ga u 10 i).toInt = 4) : IK (sa u 11 i x) := by
  refine ⟨⟨I.1.1, I.1.2.1, I.1.2.2.1, fun A => ?_⟩, I.2⟩
  obtain ⟨n1, n2, n3⟩ := IK_al I
  refine ⟨fun j hj => ?_, n2, n3⟩
  show NDv (u.1 1).toInt j (u.2.1 10 j) (upd (u.2.1 11) i.toNatClampNeg x j) (u.2.1 12 j) (u.2.1 14 j) (u.2.1 15 j)
  by_cases e : j = i.toNatClampNeg
  · obtain ⟨a, b, c, d, f⟩ := n1 j hj
    have k4 : (u.2.1 10 j).toInt = 4 := by rw [e]; exact hk
    exact ⟨a, b, Or.inl (by omega), Or.inl (by omega), f⟩
  · rw [pk_un e]; exact n1 j hj
theorem IK_a12 {u : St} {i x : Int32} (I : IK u) (h0 : 0 ≤ i.toInt) (hk : (ga u 10 i).toInt = 4) : IK (sa u 12 i x) := by
  refine ⟨⟨I.1.1, I.1.2.1, I.1.2.2.1, fun A => ?_⟩, I.2⟩
  obtain ⟨n1, n2, n3⟩ := IK_al I
  refine ⟨fun j hj => ?_, n2, n3⟩
  show NDv (u.1 1).toInt j (u.2.1 10 j) (u.2.1 11 j) (upd (u.2.1 12) i.toNatClampNeg x j) (u.2.1 14 j) (u.2.1 15 j)
  by_cases e : j = i.toNatClampNeg
  · obtain ⟨a, b, c, d, f⟩ := n1 j hj
    have k4 : (u.2.1 10 j).toInt = 4 := by rw [e]; exact hk
    exact ⟨a, b, Or.inl (by omega), d, Or.inl (by omega)⟩
  · rw [pk_un e]; exact n1 j hj
theorem IQ_a11 {u : St} {i x : Int32} (I : IQ u) (h0 : 0 ≤ i.toInt) (hk : (ga u 10 i).toInt = 4) : IQ (sa u 11 i x) := ⟨IK_a11 I.1 h0 hk, I.2⟩
theorem IQ_a12 {u : St} {i x : Int32} (I : IQ u) (h0 : 0 ≤ i.toInt) (hk : (ga u 10 i).toInt = 4) : IQ (sa u 12 i x) := ⟨IK_a12 I.1 h0 hk, I.2⟩
