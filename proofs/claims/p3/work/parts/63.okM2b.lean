theorem kM_SqlReaderModel_cut {u : St} (I : IB u) : ok (mM_SqlReaderModel_cut u) (fun v => IX v ∧ Kf u v) := by
  have B := IB_b I
  have l0 : (0 : Int32).toInt = 0 := by decide
  have FUe : FU = 100000 := rfl
  rw [mM_SqlReaderModel_cut]
  refine ok_seq (fun u1 e1 => ok_seq (fun u2 e2 => ?_))
  subst e1
  subst e2
  have I2 : IX (ss (ss u 1 0) 2 0) := ⟨MS_s2 (MS_s1 I.1 (by omega) (by omega)) (by omega) (by omega), I.2, fun j hj => by have q : (j : Int) < (0 : Int32).toInt := hj; omega, fun _ j hj => by have q : (j : Int) < (0 : Int32).toInt := hj; omega⟩
  refine ok_mono (kM_SqlReaderModel_cut_L12 _ I2 (Or.inr ⟨by omega, by omega, show (0 : Int32).toInt ≤ (0 : Int32).toInt by omega⟩) ?_) (fun v hv => ⟨hv.1, Kf_tr (Kf_tr Kf_s1 Kf_bad) hv.2⟩)
  show (2003 - (0 : Int32).toInt - 5000 * (0 : Int32).toInt).toNat < FU
  omega
