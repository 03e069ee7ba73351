/-! FORGETTING -/
def zeroS (u : St) : St := ss (ss (ss (ss (ss (ss (ss (ss (ss (ss (ss (ss (ss (ss (sL (ss (ss (ss (ss (ss (ss (ss (ss (ss (ss u 4 0) 5 0) 7 0) 8 0) 9 (-1)) 10 (-1)) 11 0) 12 (-1)) 13 0) 14 0) 0 (-1)) 15 (-1)) 16 0) 17 0) 18 0) 19 0) 20 0) 21 0) 22 0) 23 0) 24 0) 25 (-1)) 26 (-1)) 27 0) 28 0
def Zf (v : St) : Prop := (v.1 4).toInt = 0 ∧ (v.1 5).toInt = 0 ∧ (v.1 7).toInt = 0 ∧ (v.1 8).toInt = 0 ∧ (v.1 9).toInt = -1 ∧ (v.1 10).toInt = -1 ∧ (v.1 11).toInt = 0 ∧ (v.1 12).toInt = -1 ∧ (v.1 13).toInt = 0 ∧ (v.1 14).toInt = 0 ∧ (v.1 15).toInt = -1 ∧ (v.1 16).toInt = 0 ∧ (v.1 17).toInt = 0 ∧ (v.1 18).toInt = 0 ∧ (v.1 19).toInt = 0 ∧ (v.1 20).toInt = 0 ∧ (v.1 21).toInt = 0 ∧ (v.1 22).toInt = 0 ∧ (v.1 23).toInt = 0 ∧ (v.1 24).toInt = 0 ∧ (v.1 25).toInt = -1 ∧ (v.1 26).toInt = -1 ∧ (v.1 27).toInt = 0 ∧ (v.1 28).toInt = 0
theorem kB_forget_L129 : ∀ (n : Nat) {x1 : Int32} {u : St} (h0 : 0 ≤ x1.toInt) (h1 : x1.toInt ≤ 10) (hm : (10 - x1.toInt).toNat < n), ok (mM_SqlReaderModel_forget_L129 n x1 u) (fun v => v.1 = u.1 ∧ ∀ j, j ≠ 33 → v.2.1 j = u.2.1 j) := by
  intro n
  induction n with
  | zero => intro x1 u h0 h1 hm; exact absurd hm (Nat.not_lt_zero _)
  | succ n ih =>
    intro x1 u h0 h1 hm
    have l10 : (10 : Int32).toInt = 10 := by decide
    have l1 : (1 : Int32).toInt = 1 := by decide
    rw [mM_SqlReaderModel_forget_L129]
    refine ok_le (fun c => ok_some ⟨rfl, fun _ _ => rfl⟩) (fun c => ?_)
    have e : (x1 + 1 : Int32).toInt = x1.toInt + (1 : Int32).toInt := add_i (by omega) (by omega)
    refine ok_gd (inb_of (by omega) (by omega)) (ok_seq (fun w hw => ok_seq (fun y hy => ?_)))
    refine ok_mono (ih (u := w) (by rw [hy]; omega) (by rw [hy]; omega) (by rw [hy]; omega)) (fun v hv => ?_)
    rw [hw] at hv
    exact ⟨hv.1, fun j hj => (hv.2 j hj).trans (us_ne hj)⟩
theorem MS_zero {u : St} (I : MS u) : MS (zeroS u) := by
  have l0 : (0 : Int32).toInt = 0 := by decide
  have m1 : (-1 : Int32).toInt = -1 := by decide
  obtain ⟨a0, a1, a2, a3, a4, a5, a6, a7, a8, a9, a10, a11, a12, a13, a14, a15, a16, a17, a18, a19, a20, a21, a22, a23, a24⟩ := I
  exact ⟨a0, a1, a2, a3, ⟨by show 0 ≤ (0 : Int32).toInt; omega, by show (0 : Int32).toInt ≤ 200000; omega⟩, ⟨by show 0 ≤ (0 : Int32).toInt; omega, by show (0 : Int32).toInt ≤ 1200; omega⟩, ⟨by show -1 ≤ ((-1) : Int32).toInt; omega, by show ((-1) : Int32).toInt ≤ 7; omega⟩, ⟨by show -1 ≤ ((-1) : Int32).toInt; omega, by show ((-1) : Int32).toInt ≤ 4000; omega⟩, ⟨by show -1 ≤ ((-1) : Int32).toInt; omega, by show ((-1) : Int32).toInt ≤ 4000; omega⟩, ⟨by show 0 ≤ (0 : Int32).toInt; omega, by show (0 : Int32).toInt ≤ 1; omega⟩, ⟨by show 0 ≤ (0 : Int32).toInt; omega, by show (0 : Int32).toInt ≤ 1; omega⟩, ⟨by show 0 ≤ (0 : Int32).toInt; omega, by show (0 : Int32).toInt ≤ 3000; omega⟩, ⟨by show 0 ≤ (0 : Int32).toInt; omega, by show (0 : Int32).toInt ≤ 3000; omega⟩, ⟨by show 0 ≤ (0 : Int32).toInt; omega, by show (0 : Int32).toInt ≤ 1000; omega⟩, ⟨by show 0 ≤ (0 : Int32).toInt; omega, by show (0 : Int32).toInt ≤ 1000; omega⟩, ⟨by show 0 ≤ (0 : Int32).toInt; omega, by show (0 : Int32).toInt ≤ 1000; omega⟩, ⟨by show 0 ≤ (0 : Int32).toInt; omega, by show (0 : Int32).toInt ≤ 1; omega⟩, ⟨by show 0 ≤ (0 : Int32).toInt; omega, by show (0 : Int32).toInt ≤ 1000; omega⟩, ⟨by show 0 ≤ (0 : Int32).toInt; omega, by show (0 : Int32).toInt ≤ 1000; omega⟩, ⟨by show -1 ≤ ((-1) : Int32).toInt; omega, by show ((-1) : Int32).toInt ≤ 7; omega⟩, ⟨by show -1 ≤ ((-1) : Int32).toInt; omega, by show ((-1) : Int32).toInt ≤ 4000; omega⟩, ⟨by show 0 ≤ (0 : Int32).toInt; omega, by show (0 : Int32).toInt ≤ 1; omega⟩, ⟨by show 0 ≤ (0 : Int32).toInt; omega, by show (0 : Int32).toInt ≤ 9; omega⟩, a23, a24⟩
theorem kB_SqlReaderModel_forget {u : St} (I : IB u) : ok (mM_SqlReaderModel_forget u) (fun v => IB v ∧ Zf v ∧ (∀ j, j ≠ 33 → v.2.1 j = u.2.1 j) ∧ v.1 0 = u.1 0 ∧ v.1 1 = u.1 1 ∧ v.1 2 = u.1 2 ∧ v.1 3 = u.1 3 ∧ v.1 29 = u.1 29 ∧ v.1 30 = u.1 30) := by
  have l0 : (0 : Int32).toInt = 0 := by decide
  have m1 : (-1 : Int32).toInt = -1 := by decide
  have FUe : FU = 100000 := rfl
  rw [mM_SqlReaderModel_forget]
  show ok (mM_SqlReaderModel_forget_L129 FU 0 (zeroS u)) _
  refine ok_mono (kB_forget_L129 _ (by omega) (by omega) (by omega)) (fun v hv => ?_)
  obtain ⟨e1, e2⟩ := hv
  have ar : ∀ j, j ≠ 33 → v.2.1 j = u.2.1 j := fun j hj => e2 j hj
  have ms : MS v := by
    have q := MS_zero I.1
    unfold MS at q ⊢
    rw [e1]
    exact q
  have ma : MA v := by
    have q := I.2
    unfold MA at q ⊢
    rw [ar 5 (by decide), ar 6 (by decide), ar 8 (by decide), ar 17 (by decide), ar 36 (by decide), ar 24 (by decide), ar 28 (by decide)]
    exact q
  refine ⟨⟨ms, ma⟩, ?_, ar, ?_⟩
  · unfold Zf
    rw [e1]
    exact ⟨l0, l0, l0, l0, m1, m1, l0, m1, l0, l0, m1, l0, l0, l0, l0, l0, l0, l0, l0, l0, m1, m1, l0, l0⟩
  · rw [e1]
    exact ⟨rfl, rfl, rfl, rfl, rfl, rfl⟩
theorem IP_start {v : St} (X : IX v) (hb : (v.1 2).toInt = 0) (z : Zf v) : IP v := by
  have B := IX_b X
  obtain ⟨z4, z5, z7, z8, z9, z10, z11, z12, z13, z14, z15, z16, z17, z18, z19, z20, z21, z22, z23, z24, z25, z26, z27, z28⟩ := z
  refine ⟨X.1, X.2.1, X.2.2.2 hb, fun _ => ⟨fun j hj => ?_, fun c hc => ?_, fun j hj _ => ?_, fun j hj _ => ?_, fun j hj => ?_, fun j hj => ?_, by omega, by omega, by omega, Or.inl (by omega), Or.inl (by omega), Or.inl (by omega)⟩⟩
  · exfalso; omega
  · exfalso; omega
  · exfalso; omega
  · exfalso; omega
  · exfalso; omega
  · exfalso; omega
