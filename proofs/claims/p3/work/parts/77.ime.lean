/-! BETWEEN CALLS: what holds of the reference -/
def IE (u : St) : Prop := IB u ∧ ((u.1 4).toInt ≤ 200 ∧ (u.1 16).toInt ≤ 200 ∧ (u.1 17).toInt ≤ 200) ∧ (∀ j : Nat, (j : Int) < (u.1 4).toInt → (u.2.1 10 j).toInt ≠ 28 ∨ (0 ≤ (u.2.1 11 j).toInt ∧ (u.2.1 11 j).toInt ≤ 9))
def IEt (u : St) : Prop := IE u ∧ TK u
theorem IE_b {u : St} (I : IE u) : ((0 ≤ (u.1 0).toInt ∧ (u.1 0).toInt ≤ 2000) ∧ (0 ≤ (u.1 1).toInt ∧ (u.1 1).toInt ≤ 2000) ∧ (0 ≤ (u.1 2).toInt ∧ (u.1 2).toInt ≤ 1) ∧ (0 ≤ (u.1 3).toInt ∧ (u.1 3).toInt ≤ 8) ∧ (0 ≤ (u.1 4).toInt ∧ (u.1 4).toInt ≤ 200000) ∧ (0 ≤ (u.1 5).toInt ∧ (u.1 5).toInt ≤ 1200) ∧ (-1 ≤ (u.1 9).toInt ∧ (u.1 9).toInt ≤ 7) ∧ (-1 ≤ (u.1 10).toInt ∧ (u.1 10).toInt ≤ 4000) ∧ (-1 ≤ (u.1 12).toInt ∧ (u.1 12).toInt ≤ 4000) ∧ (0 ≤ (u.1 13).toInt ∧ (u.1 13).toInt ≤ 1) ∧ (0 ≤ (u.1 14).toInt ∧ (u.1 14).toInt ≤ 1) ∧ (0 ≤ (u.1 16).toInt ∧ (u.1 16).toInt ≤ 3000) ∧ (0 ≤ (u.1 17).toInt ∧ (u.1 17).toInt ≤ 3000) ∧ (0 ≤ (u.1 18).toInt ∧ (u.1 18).toInt ≤ 1000) ∧ (0 ≤ (u.1 19).toInt ∧ (u.1 19).toInt ≤ 1000) ∧ (0 ≤ (u.1 20).toInt ∧ (u.1 20).toInt ≤ 1000) ∧ (0 ≤ (u.1 22).toInt ∧ (u.1 22).toInt ≤ 1) ∧ (0 ≤ (u.1 23).toInt ∧ (u.1 23).toInt ≤ 1000) ∧ (0 ≤ (u.1 24).toInt ∧ (u.1 24).toInt ≤ 1000) ∧ (-1 ≤ (u.1 25).toInt ∧ (u.1 25).toInt ≤ 7) ∧ (-1 ≤ (u.1 26).toInt ∧ (u.1 26).toInt ≤ 4000) ∧ (0 ≤ (u.1 27).toInt ∧ (u.1 27).toInt ≤ 1) ∧ (0 ≤ (u.1 28).toInt ∧ (u.1 28).toInt ≤ 9) ∧ (0 ≤ (u.1 29).toInt ∧ (u.1 29).toInt ≤ 1) ∧ (0 ≤ (u.1 30).toInt ∧ (u.1 30).toInt ≤ 4000)) ∧ (u.1 4).toInt ≤ 200 ∧ (u.1 16).toInt ≤ 200 ∧ (u.1 17).toInt ≤ 200 := ⟨I.1.1, I.2.1⟩
theorem IEt_b {u : St} (I : IEt u) : ((0 ≤ (u.1 0).toInt ∧ (u.1 0).toInt ≤ 2000) ∧ (0 ≤ (u.1 1).toInt ∧ (u.1 1).toInt ≤ 2000) ∧ (0 ≤ (u.1 2).toInt ∧ (u.1 2).toInt ≤ 1) ∧ (0 ≤ (u.1 3).toInt ∧ (u.1 3).toInt ≤ 8) ∧ (0 ≤ (u.1 4).toInt ∧ (u.1 4).toInt ≤ 200000) ∧ (0 ≤ (u.1 5).toInt ∧ (u.1 5).toInt ≤ 1200) ∧ (-1 ≤ (u.1 9).toInt ∧ (u.1 9).toInt ≤ 7) ∧ (-1 ≤ (u.1 10).toInt ∧ (u.1 10).toInt ≤ 4000) ∧ (-1 ≤ (u.1 12).toInt ∧ (u.1 12).toInt ≤ 4000) ∧ (0 ≤ (u.1 13).toInt ∧ (u.1 13).toInt ≤ 1) ∧ (0 ≤ (u.1 14).toInt ∧ (u.1 14).toInt ≤ 1) ∧ (0 ≤ (u.1 16).toInt ∧ (u.1 16).toInt ≤ 3000) ∧ (0 ≤ (u.1 17).toInt ∧ (u.1 17).toInt ≤ 3000) ∧ (0 ≤ (u.1 18).toInt ∧ (u.1 18).toInt ≤ 1000) ∧ (0 ≤ (u.1 19).toInt ∧ (u.1 19).toInt ≤ 1000) ∧ (0 ≤ (u.1 20).toInt ∧ (u.1 20).toInt ≤ 1000) ∧ (0 ≤ (u.1 22).toInt ∧ (u.1 22).toInt ≤ 1) ∧ (0 ≤ (u.1 23).toInt ∧ (u.1 23).toInt ≤ 1000) ∧ (0 ≤ (u.1 24).toInt ∧ (u.1 24).toInt ≤ 1000) ∧ (-1 ≤ (u.1 25).toInt ∧ (u.1 25).toInt ≤ 7) ∧ (-1 ≤ (u.1 26).toInt ∧ (u.1 26).toInt ≤ 4000) ∧ (0 ≤ (u.1 27).toInt ∧ (u.1 27).toInt ≤ 1) ∧ (0 ≤ (u.1 28).toInt ∧ (u.1 28).toInt ≤ 9) ∧ (0 ≤ (u.1 29).toInt ∧ (u.1 29).toInt ≤ 1) ∧ (0 ≤ (u.1 30).toInt ∧ (u.1 30).toInt ≤ 4000)) ∧ (u.1 4).toInt ≤ 200 ∧ (u.1 16).toInt ≤ 200 ∧ (u.1 17).toInt ≤ 200 := ⟨I.1.1.1, I.1.2.1⟩
theorem IE_IB {u : St} (I : IE u) : IB u := I.1
theorem IEt_IB {u : St} (I : IEt u) : IB u := I.1.1
theorem IEt_IE {u : St} (I : IEt u) : IE u := I.1
theorem IEt_IT {u : St} (I : IEt u) : IT u := ⟨I.1.1.1, I.1.1.2, I.2⟩
theorem IB_a {u : St} (I : IB u) (i : Int32) : (0 ≤ (ga u 5 i).toInt ∧ (ga u 5 i).toInt ≤ 16) ∧ (0 ≤ (ga u 6 i).toInt ∧ (ga u 6 i).toInt ≤ 8) ∧ (0 ≤ (ga u 17 i).toInt ∧ (ga u 17 i).toInt ≤ 31) ∧ (0 ≤ (ga u 36 i).toInt ∧ (ga u 36 i).toInt ≤ 16) := ⟨I.2.1 _, I.2.2.1 _, I.2.2.2.2.1 _, I.2.2.2.2.2.1 _⟩
theorem IE_par {u : St} (I : IE u) (i : Int32) : i.toInt < 0 ∨ (u.1 4).toInt ≤ i.toInt ∨ (ga u 10 i).toInt ≠ 28 ∨ (0 ≤ (ga u 11 i).toInt ∧ (ga u 11 i).toInt ≤ 9) := by
  by_cases h0 : i.toInt < 0
  · exact Or.inl h0
  by_cases h1 : (u.1 4).toInt ≤ i.toInt
  · exact Or.inr (Or.inl h1)
  have c := cl_of (i := i) (by omega)
  exact Or.inr (Or.inr (I.2.2 i.toNatClampNeg (by omega)))
theorem IE_s0 {u : St} {x : Int32} (I : IE u) (h0 : 0 ≤ x.toInt) (h1 : x.toInt ≤ 2000) : IE (ss u 0 x) := ⟨⟨MS_s0 I.1.1 h0 h1, I.1.2⟩, I.2⟩
theorem IEt_s0 {u : St} {x : Int32} (I : IEt u) (h0 : 0 ≤ x.toInt) (h1 : x.toInt ≤ 2000) : IEt (ss u 0 x) := ⟨IE_s0 I.1 h0 h1, I.2⟩
theorem IEt_s3 {u : St} {x : Int32} (I : IEt u) (h0 : 0 ≤ x.toInt) (h1 : x.toInt ≤ 8) : IEt (ss u 3 x) := ⟨⟨⟨MS_s3 I.1.1.1 h0 h1, I.1.1.2⟩, I.1.2⟩, I.2⟩
theorem MA_5 {u : St} {i x : Int32} (I : MA u) (h0 : 0 ≤ x.toInt) (h1 : x.toInt ≤ 16) : MA (sa u 5 i x) := by
  obtain ⟨a0, a1, a2, a3⟩ := I
  refine ⟨fun j => ?_, a1, a2, a3⟩
  show 0 ≤ (upd (u.2.1 5) i.toNatClampNeg x j).toInt ∧ (upd (u.2.1 5) i.toNatClampNeg x j).toInt ≤ 16
  by_cases h : j = i.toNatClampNeg
  · rw [h, pk_us]; exact ⟨h0, h1⟩
  · rw [pk_un h]; exact a0 j
theorem IEt_a5 {u : St} {i x : Int32} (I : IEt u) (h0 : 0 ≤ x.toInt) (h1 : x.toInt ≤ 16) : IEt (sa u 5 i x) := ⟨⟨⟨I.1.1.1, MA_5 I.1.1.2 h0 h1⟩, I.1.2⟩, I.2⟩
theorem MA_6 {u : St} {i x : Int32} (I : MA u) (h0 : 0 ≤ x.toInt) (h1 : x.toInt ≤ 8) : MA (sa u 6 i x) := by
  obtain ⟨a0, a1, a2, a3⟩ := I
  refine ⟨a0, fun j => ?_, a2, a3⟩
  show 0 ≤ (upd (u.2.1 6) i.toNatClampNeg x j).toInt ∧ (upd (u.2.1 6) i.toNatClampNeg x j).toInt ≤ 8
  by_cases h : j = i.toNatClampNeg
  · rw [h, pk_us]; exact ⟨h0, h1⟩
  · rw [pk_un h]; exact a1 j
theorem IEt_a6 {u : St} {i x : Int32} (I : IEt u) (h0 : 0 ≤ x.toInt) (h1 : x.toInt ≤ 8) : IEt (sa u 6 i x) := ⟨⟨⟨I.1.1.1, MA_6 I.1.1.2 h0 h1⟩, I.1.2⟩, I.2⟩
theorem MA_8 {u : St} {i x : Int32} (I : MA u) (h0 : 0 ≤ x.toInt) (h1 : x.toInt ≤ 16) : MA (sa u 8 i x) := by
  obtain ⟨a0, a1, a2, a3⟩ := I
  refine ⟨a0, a1, fun j => ?_, a3⟩
  show 0 ≤ (upd (u.2.1 8) i.toNatClampNeg x j).toInt ∧ (upd (u.2.1 8) i.toNatClampNeg x j).toInt ≤ 16
  by_cases h : j = i.toNatClampNeg
  · rw [h, pk_us]; exact ⟨h0, h1⟩
  · rw [pk_un h]; exact a2 j
theorem IEt_a8 {u : St} {i x : Int32} (I : IEt u) (h0 : 0 ≤ x.toInt) (h1 : x.toInt ≤ 16) : IEt (sa u 8 i x) := ⟨⟨⟨I.1.1.1, MA_8 I.1.1.2 h0 h1⟩, I.1.2⟩, I.2⟩
theorem IE_cut {u v : St} (I : IE u) (X : IX v) (K : Kf u v) : IE v := by
  have e4 : v.1 4 = u.1 4 := K.1 4 (by decide) (by decide)
  have e16 : v.1 16 = u.1 16 := K.1 16 (by decide) (by decide)
  have e17 : v.1 17 = u.1 17 := K.1 17 (by decide) (by decide)
  have a10 : v.2.1 10 = u.2.1 10 := K.2.1 10 (by decide) (by decide) (by decide)
  have a11 : v.2.1 11 = u.2.1 11 := K.2.1 11 (by decide) (by decide) (by decide)
  refine ⟨⟨X.1, X.2.1⟩, ?_, ?_⟩
  · rw [e4, e16, e17]; exact I.2.1
  · rw [e4, a10, a11]; exact I.2.2
theorem kE_SqlReaderModel_takesName {u : St} (I : IE u) : okM (mM_SqlReaderModel_takesName u) (fun r v => IE v ∧ (v.1 0).toInt = 0 ∧ v.1 3 = u.1 3 ∧ 0 ≤ r.toInt ∧ r.toInt ≤ 1 ∧ (r.toInt = 1 → TK v ∧ (v.1 1).toInt = 1 ∧ (ga v 1 0).toInt = 2 ∧ (ga v 2 0).toInt = 0)) := by
  have l0 : (0 : Int32).toInt = 0 := by decide
  have l1 : (1 : Int32).toInt = 1 := by decide
  have l2 : (2 : Int32).toInt = 2 := by decide
  have g0 : inb 0 2001 = true := inb_of (by omega) (by omega)
  rw [mM_SqlReaderModel_takesName]
  refine okM_bP (kM_SqlReaderModel_cut I.1) (fun v hv => ?_)
  obtain ⟨X, K⟩ := hv
  have Iv := IE_cut I X K
  have e3 : v.1 3 = u.1 3 := K.1 3 (by decide) (by decide)
  have no : okM (seq (ss v 0 0) fun w => some ((0 : Int32), w)) (fun r v => IE v ∧ (v.1 0).toInt = 0 ∧ v.1 3 = u.1 3 ∧ 0 ≤ r.toInt ∧ r.toInt ≤ 1 ∧ (r.toInt = 1 → TK v ∧ (v.1 1).toInt = 1 ∧ (ga v 1 0).toInt = 2 ∧ (ga v 2 0).toInt = 0)) := by
    refine okM_seq (fun w hw => okM_some ?_)
    subst hw
    exact ⟨IE_s0 Iv (by omega) (by omega), l0, e3, by omega, by omega, fun q => by omega⟩
  refine okM_eq (fun b b' => ?_) (fun b => no)
  refine okM_eq (fun t t' => okM_gd g0 ?_) (fun t => no)
  refine okM_eq (fun k k' => okM_gd g0 ?_) (fun k => no)
  refine okM_eq (fun f f' => okM_gd g0 ?_) (fun f => no)
  refine okM_eq (fun s s' => ?_) (fun s => no)
  refine okM_seq (fun w hw => okM_some ?_)
  subst hw
  exact ⟨IE_s0 Iv (by omega) (by omega), l0, e3, by omega, by omega, fun _ => ⟨X.2.2.2 (by omega), by show (v.1 1).toInt = 1; omega, by show (ga v 1 0).toInt = 2; omega, by show (ga v 2 0).toInt = 0; omega⟩⟩
