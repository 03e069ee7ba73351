/-! ONE CALL ON A FRESH OBJECT (what p1 speaks of): both models answer alike -/
theorem o_num {n : Int32} (h1 : ¬ n < 1) (h2 : ¬ 8 < n) : n = 1 ∨ n = 2 ∨ n = 3 ∨ n = 4 ∨ n = 5 ∨ n = 6 ∨ n = 7 ∨ n = 8 := by
  have a1 : (1 : Int) ≤ n.toInt := by
    have := Int32.not_lt.mp h1
    simpa using Int32.le_iff_toInt_le.mp this
  have a2 : n.toInt ≤ 8 := by
    have := Int32.not_lt.mp h2
    simpa using Int32.le_iff_toInt_le.mp this
  have inj : ∀ k : Int32, n.toInt = k.toInt → n = k := fun k h => Int32.toInt_inj.mp h
  rcases (show n.toInt = 1 ∨ n.toInt = 2 ∨ n.toInt = 3 ∨ n.toInt = 4 ∨ n.toInt = 5 ∨ n.toInt = 6 ∨ n.toInt = 7 ∨ n.toInt = 8 by omega) with h | h | h | h | h | h | h | h
  · exact Or.inl (inj 1 h)
  · exact Or.inr (Or.inl (inj 2 h))
  · exact Or.inr (Or.inr (Or.inl (inj 3 h)))
  · exact Or.inr (Or.inr (Or.inr (Or.inl (inj 4 h))))
  · exact Or.inr (Or.inr (Or.inr (Or.inr (Or.inl (inj 5 h)))))
  · exact Or.inr (Or.inr (Or.inr (Or.inr (Or.inr (Or.inl (inj 6 h))))))
  · exact Or.inr (Or.inr (Or.inr (Or.inr (Or.inr (Or.inr (Or.inl (inj 7 h)))))))
  · exact Or.inr (Or.inr (Or.inr (Or.inr (Or.inr (Or.inr (Or.inr (inj 8 h)))))))
theorem o_table : ∃ (a b : St), mC_SqlReader_table uC0 = some (-1, a) ∧ mM_SqlReaderModel_table uM0 = some (-1, b) := ⟨_, _, rfl, rfl⟩
theorem o_read : ∃ (a b : St), mC_SqlReader_read uC0 = some (-1, a) ∧ mM_SqlReaderModel_read uM0 = some (-1, b) := ⟨_, _, rfl, rfl⟩
theorem o_column (x y : Int32) : ∃ (a b : St), mC_SqlReader_column x y uC0 = some (-1, a) ∧ mM_SqlReaderModel_column x y uM0 = some (-1, b) := ⟨_, _, rfl, rfl⟩
