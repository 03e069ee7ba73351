/-! ONE CALL ON A FRESH OBJECT (what p1 speaks of): both models answer alike -/
theorem o_num {n : Int32} (h1 : ¬ n < 1) (h2 : ¬ 8 < n) : n = 1 ∨ n = 2 ∨ n = 3 ∨ n = 4 ∨ n = 5 ∨ n = 6 ∨ n = 7 ∨ n = 8 := by
  have a1 : (1 : Int) ≤ n.toInt := by
    have := Int32.not_lt.mp h1
    simpa using Int32.le_iff_toInt_le.mp this
  have a2 : n.toInt ≤ 8 := by
    have := Int32.not_lt.mp h2
    simpa using Int32.le_iff_toInt_le.mp this
  have inj : ∀ k : Int32, n.toInt = k.toInt → n = k := fun k h => Int32.toInt_inj.mp h
  rcases (show n.toInt = 1 ∨ n.toInt = 2 ∨ n.toInt = 3 ∨ n.toInt = 4 ∨ n.toInt = 5 ∨ n.toInt = 6 ∨ n.toInt = 7 ∨ n.toInt = 8 by omega) with h | h | h | h | h | h | h | h
  · exact Or.inl (inj 1 h)
  · exact Or.inr (Or.inl (inj 2 h))
  · exact Or.inr (Or.inr (Or.inl (inj 3 h)))
  · exact Or.inr (Or.inr (Or.inr (Or.inl (inj 4 h))))
  · exact Or.inr (Or.inr (Or.inr (Or.inr (Or.inl (inj 5 h)))))
  · exact Or.inr (Or.inr (Or.inr (Or.inr (Or.inr (Or.inl (inj 6 h))))))
  · exact Or.inr (Or.inr (Or.inr (Or.inr (Or.inr (Or.inr (Or.inl (inj 7 h)))))))
  · exact Or.inr (Or.inr (Or.inr (Or.inr (Or.inr (Or.inr (Or.inr (inj 8 h)))))))
theorem o_table : ∃ (a b : St), mC_SqlReader_table uC0 = some (-1, a) ∧ mM_SqlReaderModel_table uM0 = some (-1, b) := ⟨_, _, rfl, rfl⟩
theorem o_read : ∃ (a b : St), mC_SqlReader_read uC0 = some (-1, a) ∧ mM_SqlReaderModel_read uM0 = some (-1, b) := ⟨_, _, rfl, rfl⟩
theorem o_column (x y : Int32) : ∃ (a b : St), mC_SqlReader_column x y uC0 = some (-1, a) ∧ mM_SqlReaderModel_column x y uM0 = some (-1, b) := ⟨_, _, rfl, rfl⟩
theorem i_add1 {x : Int32} (h0 : 0 ≤ x.toInt) (h1 : x.toInt < 100000) : (x + 1).toInt = x.toInt + 1 := by
  have hn : ¬ x < 0 := fun q => by
    have := Int32.lt_iff_toInt_lt.mp q
    simp at this
    omega
  obtain ⟨j, hj, rfl⟩ := nI_of hn
  rw [nI_toInt hj] at h1
  rw [nI_1, nI_toInt (by omega), nI_toInt hj]
  omega
/-- type's loop in the class: k bytes come behind the text -/
theorem ap_C : ∀ (k n : Nat) (v : Int64) (u : St), k < n → k ≤ 8 → 0 ≤ (u.1 0).toInt → (u.1 0).toInt + k ≤ 2000 → ∃ u', mC_Text_append_L30 n v (nI k - 1) u = some (1, u') ∧ (u'.1 0).toInt = (u.1 0).toInt + k := by
  intro k
  induction k with
  | zero =>
    intro n v u hn _ _ _
    obtain ⟨n, rfl⟩ : ∃ m, n = m + 1 := ⟨n - 1, by omega⟩
    exact ⟨u, by rw [mC_Text_append_L30, if_pos (by decide)], by simp⟩
  | succ k ih =>
    intro n v u hn hk h0 h1
    obtain ⟨n, rfl⟩ : ∃ m, n = m + 1 := ⟨n - 1, by omega⟩
    have ha := i_add1 h0 (by omega)
    obtain ⟨u', e1, e2⟩ := ih n v (ss (sa u 0 (u.1 0) (i2b (i2b (Int64.toInt32 (ushrL v (8 * nI k)))))) 0 ((u.1 0) + 1)) (by omega) (by omega) (by show 0 ≤ ((u.1 0) + 1).toInt; omega) (by show ((u.1 0) + 1).toInt + k ≤ 2000; omega)
    refine ⟨u', ?_, ?_⟩
    · rw [nI_pred, mC_Text_append_L30, if_neg (nI_pos (by omega)), show inb (u.1 0) 2000 = true from decide_eq_true ⟨h0, by omega⟩]
      rw [Int32.sub_eq_add_neg] at e1
      exact e1
    · rw [e2]
      show ((u.1 0) + 1).toInt + k = _
      omega
/-- and in the reference -/
theorem ap_M : ∀ (k n : Nat) (v : Int64) (u : St), k < n → k ≤ 8 → 0 ≤ (u.1 0).toInt → (u.1 0).toInt + k ≤ 2000 → ∃ u', mM_SqlReaderModel_type_L30 n v (nI k - 1) u = some (1, u') ∧ (u'.1 0).toInt = (u.1 0).toInt + k := by
  intro k
  induction k with
  | zero =>
    intro n v u hn _ _ _
    obtain ⟨n, rfl⟩ : ∃ m, n = m + 1 := ⟨n - 1, by omega⟩
    exact ⟨u, by rw [mM_SqlReaderModel_type_L30, if_pos (by decide)], by simp⟩
  | succ k ih =>
    intro n v u hn hk h0 h1
    obtain ⟨n, rfl⟩ : ∃ m, n = m + 1 := ⟨n - 1, by omega⟩
    have ha := i_add1 h0 (by omega)
    obtain ⟨u', e1, e2⟩ := ih n v (ss (sa u 0 (u.1 0) (i2b (i2b (Int64.toInt32 (shrL v (8 * nI k)))))) 0 ((u.1 0) + 1)) (by omega) (by omega) (by show 0 ≤ ((u.1 0) + 1).toInt; omega) (by show ((u.1 0) + 1).toInt + k ≤ 2000; omega)
    refine ⟨u', ?_, ?_⟩
    · rw [nI_pred, mM_SqlReaderModel_type_L30, if_neg (nI_pos (by omega)), show inb (u.1 0) 2000 = true from decide_eq_true ⟨h0, by omega⟩]
      rw [Int32.sub_eq_add_neg] at e1
      exact e1
    · rw [e2]
      show ((u.1 0) + 1).toInt + k = _
      omega
theorem o_c1 : ∀ k, k < 9 → (0 : Int32) ≤ 2000 - nI k := by decide +kernel
theorem o_c2 : ∀ k, k < 9 → (0 : Int32) + nI k ≤ 2000 := by decide +kernel
theorem o_type (v : Int64) (n : Int32) : ∃ (r : Int32) (a b : St), mC_SqlReader_type v n uC0 = some (r, a) ∧ mM_SqlReaderModel_type v n uM0 = some (r, b) := by
  by_cases h1 : n < 1
  · refine ⟨0, uC0, uM0, ?_, ?_⟩
    · rw [mC_SqlReader_type, mC_Text_append, if_pos h1]; rfl
    · rw [mM_SqlReaderModel_type, if_pos h1]
  · by_cases h2 : 8 < n
    · refine ⟨0, uC0, uM0, ?_, ?_⟩
      · rw [mC_SqlReader_type, mC_Text_append, if_neg h1, if_pos h2]; rfl
      · rw [mM_SqlReaderModel_type, if_neg h1, if_pos h2]
    · obtain ⟨k, hk, rfl⟩ : ∃ k : Nat, k ≤ 8 ∧ n = nI k := by
        rcases o_num h1 h2 with rfl | rfl | rfl | rfl | rfl | rfl | rfl | rfl
        · exact ⟨1, by decide, rfl⟩
        · exact ⟨2, by decide, rfl⟩
        · exact ⟨3, by decide, rfl⟩
        · exact ⟨4, by decide, rfl⟩
        · exact ⟨5, by decide, rfl⟩
        · exact ⟨6, by decide, rfl⟩
        · exact ⟨7, by decide, rfl⟩
        · exact ⟨8, by decide, rfl⟩
      have z : ((0 : Int32)).toInt = 0 := by decide
      obtain ⟨a, ea, -⟩ := ap_C k FU v uC0 (by show k < 100000; omega) hk (by show 0 ≤ ((0 : Int32)).toInt; omega) (by show ((0 : Int32)).toInt + k ≤ 2000; omega)
      obtain ⟨b, eb, -⟩ := ap_M k FU v uM0 (by show k < 100000; omega) hk (by show 0 ≤ ((0 : Int32)).toInt; omega) (by show ((0 : Int32)).toInt + k ≤ 2000; omega)
      have c1 : uC0.1 0 ≤ 2000 - nI k := o_c1 k (by omega)
      have c2 : uM0.1 0 + nI k ≤ 2000 := o_c2 k (by omega)
      refine ⟨1, a, b, ?_, ?_⟩
      · rw [mC_SqlReader_type, mC_Text_append, if_neg h1, if_neg h2, if_pos c1]
        show bM (mC_Text_append_L30 FU v (nI k - 1) uC0) _ = _
        rw [ea]
        rfl
      · rw [mM_SqlReaderModel_type, if_neg h1, if_neg h2, if_pos c2]
        exact eb
theorem o_kind (x : Int32) : mC_Nodes_kindOf x uC0 = some (-1) ∧ mC_Nodes_firstOf x uC0 = some (-1) ∧ mC_Nodes_secondOf x uC0 = some (-1) ∧ mC_Nodes_typeOf x uC0 = some (-1) := by
  by_cases h : x < 0
  · rw [mC_Nodes_kindOf, mC_Nodes_firstOf, mC_Nodes_secondOf, mC_Nodes_typeOf, if_pos h, if_pos h, if_pos h, if_pos h]
    exact ⟨rfl, rfl, rfl, rfl⟩
  · have h0 : uC0.1 6 ≤ x := Int32.not_lt.mp h
    rw [mC_Nodes_kindOf, mC_Nodes_firstOf, mC_Nodes_secondOf, mC_Nodes_typeOf, if_neg h, if_neg h, if_neg h, if_neg h, if_pos h0, if_pos h0, if_pos h0, if_pos h0]
    exact ⟨rfl, rfl, rfl, rfl⟩
theorem o_n0 {x : Int32} (h : ¬ x < 0) : ¬ x < uM0.1 4 := h
theorem o_node (x y : Int32) : mC_SqlReader_node x y uC0 = some (-1) ∧ mM_SqlReaderModel_node x y uM0 = some (-1) := by
  obtain ⟨k1, k2, k3, k4⟩ := o_kind x
  constructor
  · rw [mC_SqlReader_node, k1, k2, k3, k4]
    repeat' split
    all_goals rfl
  · rw [mM_SqlReaderModel_node]
    by_cases h : x < 0
    · rw [if_pos h]
    · rw [if_neg h, if_neg (o_n0 h)]
theorem o_value (x : Int32) : mC_SqlReader_value x uC0 = some 0 ∧ mM_SqlReaderModel_value x uM0 = some 0 := by
  constructor
  · rw [mC_SqlReader_value, (o_kind x).1]
    rfl
  · rw [mM_SqlReaderModel_value]
    by_cases h : x < 0
    · rw [if_pos h]
    · rw [if_neg h, if_neg (o_n0 h)]
theorem o_letter (x y : Int32) : mC_SqlReader_letter x y uC0 = some (-1) ∧ mM_SqlReaderModel_letter x y uM0 = some (-1) := by
  constructor
  · rw [mC_SqlReader_letter, (o_kind x).1]
    rfl
  · rw [mM_SqlReaderModel_letter]
    by_cases h : x < 0
    · rw [if_pos h]
    · rw [if_neg h, if_pos (show uM0.1 4 ≤ x from Int32.not_lt.mp h)]
theorem o_in {x : Int32} {k : Int32} {n : Nat} (hk : k.toInt = n) (h1 : ¬ x < 0) (h2 : ¬ k ≤ x) : inb x n = true := by
  refine decide_eq_true ⟨?_, ?_⟩
  · have := Int32.not_lt.mp h1
    simpa using Int32.le_iff_toInt_le.mp this
  · have h3 : x < k := Int32.not_le.mp h2
    rw [← hk]
    exact Int32.lt_iff_toInt_lt.mp h3
theorem o_size (x : Int32) : mM_SqlReaderModel_sizeOf x uM0 = some 0 := by
  have j26 : ∀ a, mM_SqlReaderModel_sizeOf_J26 x a uM0 = some 0 := by
    intro a
    rw [mM_SqlReaderModel_sizeOf_J26]
    repeat' split
    all_goals rfl
  have j12 : mM_SqlReaderModel_sizeOf_J12 x uM0 = some 0 := by
    rw [mM_SqlReaderModel_sizeOf_J12, j26, j26]
    split <;> rfl
  rw [mM_SqlReaderModel_sizeOf, j12]
  repeat' split
  all_goals rfl
theorem o_list (x y : Int32) : mC_SqlReader_list x y uC0 = some (-1) ∧ mM_SqlReaderModel_list x y uM0 = some (-1) := by
  constructor
  · have h9 : ∀ z : Int32, mC_Lists_at_J29 x y 0 uC0 = some (-1) := fun _ => rfl
    have hat : mC_Lists_at x y uC0 = some (-1) := by
      rw [mC_Lists_at]
      by_cases h1 : x < 0
      · rw [if_pos h1]; rfl
      · by_cases h2 : 14 ≤ x
        · rw [if_neg h1, if_pos h2]; rfl
        · by_cases h3 : y < 0
          · rw [if_neg h1, if_neg h2, if_pos h3]; rfl
          · rw [if_neg h1, if_neg h2, if_neg h3, o_in (k := 14) (n := 14) (by decide) h1 h2, if_pos (show ga uC0 17 x ≤ y from Int32.not_lt.mp h3)]; rfl
    rw [mC_SqlReader_list, hat]
    split <;> rfl
  · rw [mM_SqlReaderModel_list, o_size]
    by_cases h : y < 0
    · rw [if_pos h]
    · rw [if_neg h]
      show (if y < 0 then _ else some (-1)) = some (-1)
      rw [if_neg h]
theorem o_num9 {n : Int32} (h1 : ¬ n < (-1)) (h2 : ¬ 8 ≤ n) : n = -1 ∨ n = 0 ∨ n = 1 ∨ n = 2 ∨ n = 3 ∨ n = 4 ∨ n = 5 ∨ n = 6 ∨ n = 7 := by
  have a1 : (-1 : Int) ≤ n.toInt := by
    have := Int32.not_lt.mp h1
    simpa using Int32.le_iff_toInt_le.mp this
  have a2 : n.toInt < 8 := by
    have := Int32.not_le.mp h2
    simpa using Int32.lt_iff_toInt_lt.mp this
  have inj : ∀ k : Int32, n.toInt = k.toInt → n = k := fun k h => Int32.toInt_inj.mp h
  rcases (show n.toInt = -1 ∨ n.toInt = 0 ∨ n.toInt = 1 ∨ n.toInt = 2 ∨ n.toInt = 3 ∨ n.toInt = 4 ∨ n.toInt = 5 ∨ n.toInt = 6 ∨ n.toInt = 7 by omega) with h | h | h | h | h | h | h | h | h
  · exact Or.inl (inj (-1) h)
  · exact Or.inr (Or.inl (inj 0 h))
  · exact Or.inr (Or.inr (Or.inl (inj 1 h)))
  · exact Or.inr (Or.inr (Or.inr (Or.inl (inj 2 h))))
  · exact Or.inr (Or.inr (Or.inr (Or.inr (Or.inl (inj 3 h)))))
  · exact Or.inr (Or.inr (Or.inr (Or.inr (Or.inr (Or.inl (inj 4 h))))))
  · exact Or.inr (Or.inr (Or.inr (Or.inr (Or.inr (Or.inr (Or.inl (inj 5 h)))))))
  · exact Or.inr (Or.inr (Or.inr (Or.inr (Or.inr (Or.inr (Or.inr (Or.inl (inj 6 h))))))))
  · exact Or.inr (Or.inr (Or.inr (Or.inr (Or.inr (Or.inr (Or.inr (Or.inr (inj 7 h))))))))
theorem o_name (x y : Int32) : mC_SqlReader_name x y uC0 = some (-1) ∧ mM_SqlReaderModel_name x y uM0 = some (-1) := by
  constructor
  · rw [mC_SqlReader_name]
    by_cases h : x = -1
    · rw [if_pos h]
      have hl : mC_Text_letterAt (uC0.1 11) y uC0 = some (-1) := by
        rw [mC_Text_letterAt]
        by_cases h1 : y < 0
        · rw [if_pos h1]
        · rw [if_neg h1]
          show (if y < 0 then _ else some (-1)) = some (-1)
          rw [if_neg h1]
      rw [hl]
      rfl
    · rw [if_neg h]
      rfl
  · rw [mM_SqlReaderModel_name]
    by_cases h1 : x < (-1)
    · rw [if_pos h1]; rfl
    · by_cases h2 : 8 ≤ x
      · rw [if_neg h1, if_pos h2]; rfl
      · by_cases h3 : y < 0
        · rw [if_neg h1, if_neg h2, if_pos h3]; rfl
        · rw [if_neg h1, if_neg h2, if_neg h3, if_pos (show ga uM0 36 (x + 1) ≤ y from Int32.not_lt.mp h3)]
          have hb : inb (x + 1) 9 = true := by
            rcases o_num9 h1 h2 with rfl | rfl | rfl | rfl | rfl | rfl | rfl | rfl | rfl <;> decide
          rw [hb]
          rfl
theorem o_count (x : Int32) : ∃ r, mC_SqlReader_count x uC0 = some r ∧ mM_SqlReaderModel_count x uM0 = some r := by
  by_cases h : ∃ k : Nat, k < 18 ∧ x = nI k
  · obtain ⟨k, hk, rfl⟩ := h
    match k, hk with
    | 0, _ => exact ⟨_, rfl, rfl⟩
    | 1, _ => exact ⟨_, rfl, rfl⟩
    | 2, _ => exact ⟨_, rfl, rfl⟩
    | 3, _ => exact ⟨_, rfl, rfl⟩
    | 4, _ => exact ⟨_, rfl, rfl⟩
    | 5, _ => exact ⟨_, rfl, rfl⟩
    | 6, _ => exact ⟨_, rfl, rfl⟩
    | 7, _ => exact ⟨_, rfl, rfl⟩
    | 8, _ => exact ⟨_, rfl, rfl⟩
    | 9, _ => exact ⟨_, rfl, rfl⟩
    | 10, _ => exact ⟨_, rfl, rfl⟩
    | 11, _ => exact ⟨_, rfl, rfl⟩
    | 12, _ => exact ⟨_, rfl, rfl⟩
    | 13, _ => exact ⟨_, rfl, rfl⟩
    | 14, _ => exact ⟨_, rfl, rfl⟩
    | 15, _ => exact ⟨_, rfl, rfl⟩
    | 16, _ => exact ⟨_, rfl, rfl⟩
    | 17, _ => exact ⟨_, rfl, rfl⟩
    | k + 18, hk => omega
  · have no : ∀ k : Nat, k < 18 → ¬ x = nI k := fun k hk e => h ⟨k, hk, e⟩
    have hne : ∀ k : Nat, k < 18 → ¬ x.toInt = (k : Int) := by
      intro k hk e
      refine no k hk (Int32.toInt_inj.mp ?_)
      rw [e, nI_toInt (by omega)]
    refine ⟨-1, ?_, ?_⟩
    · rw [mC_SqlReader_count, if_neg (show ¬ x = 0 from no 0 (by decide)), if_neg (show ¬ x = 1 from no 1 (by decide)), if_neg (show ¬ x = 2 from no 2 (by decide)), if_neg (show ¬ x = 3 from no 3 (by decide)), if_neg (show ¬ x = 4 from no 4 (by decide)), if_neg (show ¬ x = 5 from no 5 (by decide)), if_neg (show ¬ x = 6 from no 6 (by decide)), if_neg (show ¬ x = 7 from no 7 (by decide)), if_neg (show ¬ x = 8 from no 8 (by decide)), if_neg (show ¬ x = 9 from no 9 (by decide)), if_neg (show ¬ x = 10 from no 10 (by decide)), if_neg (show ¬ x = 11 from no 11 (by decide)), if_neg (show ¬ x = 12 from no 12 (by decide)), if_neg (show ¬ x = 13 from no 13 (by decide)), if_neg (show ¬ x = 14 from no 14 (by decide)), if_neg (show ¬ x = 15 from no 15 (by decide)), if_neg (show ¬ x = 16 from no 16 (by decide)), if_neg (show ¬ x = 17 from no 17 (by decide))]
    · rw [mM_SqlReaderModel_count]
      by_cases h9 : 9 ≤ x
      · have g9 : (9 : Int) ≤ x.toInt := by simpa using Int32.le_iff_toInt_le.mp h9
        have h14 : 14 ≤ x := by
          refine Int32.le_iff_toInt_le.mpr ?_
          have e9 := hne 9 (by decide)
          have e10 := hne 10 (by decide)
          have e11 := hne 11 (by decide)
          have e12 := hne 12 (by decide)
          have e13 := hne 13 (by decide)
          show (14 : Int) ≤ x.toInt
          omega
        rw [if_pos h9, if_pos h14, if_neg (show ¬ x = 14 from no 14 (by decide)), if_neg (show ¬ x = 15 from no 15 (by decide)), if_neg (show ¬ x = 16 from no 16 (by decide)), if_neg (show ¬ x = 17 from no 17 (by decide))]
      · rw [if_neg h9, if_neg (show ¬ x = 0 from no 0 (by decide)), if_neg (show ¬ x = 1 from no 1 (by decide)), if_neg (show ¬ x = 2 from no 2 (by decide)), if_neg (show ¬ x = 3 from no 3 (by decide)), if_neg (show ¬ x = 4 from no 4 (by decide)), if_neg (show ¬ x = 5 from no 5 (by decide)), if_neg (show ¬ x = 6 from no 6 (by decide)), if_neg (show ¬ x = 7 from no 7 (by decide)), if_neg (show ¬ x = 8 from no 8 (by decide))]
section One
variable {xv : Nat → Int32}
theorem o_fin (u : St × St) : mL_law_L18 xv 4 1 4 u = some 1 := by
  rw [mL_law_L18, if_pos (by decide)]
theorem o_stepI {f : Option (Int32 × St)} {g : St → Option (Int32 × St)} {r : Int32} {a b u2 : St} (hf : f = some (r, a)) (hg : g u2 = some (r, b)) : bM (lfL f u2) (fun r1 u => bM (lfR (g u.2) u.1) (fun r3 u4 => if r1 = r3 then seq (0 + 4 : Int32) (fun y => mL_law_L18 xv 4 1 y u4) else some 0)) = some 1 := by
  subst hf
  show bM (lfR (g u2) a) (fun r3 u4 => if r = r3 then seq (0 + 4 : Int32) (fun y => mL_law_L18 xv 4 1 y u4) else some 0) = some 1
  rw [hg]
  show (if r = r then mL_law_L18 xv 4 1 4 (a, b) else some 0) = some 1
  rw [if_pos rfl, o_fin]
theorem o_stepi {f g : Option Int32} {r : Int32} {u : St × St} (hf : f = some r) (hg : g = some r) : bP f (fun r1 => bP g (fun r3 => if r1 = r3 then seq (0 + 4 : Int32) (fun y => mL_law_L18 xv 4 1 y u) else some 0)) = some 1 := by
  subst hf; subst hg
  show (if r = r then mL_law_L18 xv 4 1 4 u else some 0) = some 1
  rw [if_pos rfl, o_fin]
theorem o_stepj {f g : Option Int64} {u : St × St} (hf : f = some 0) (hg : g = some 0) : bP f (fun r1 => bP g (fun r3 => if (lg_cmp r1 r3) = 0 then seq (0 + 4 : Int32) (fun y => mL_law_L18 xv 4 1 y u) else some 0)) = some 1 := by
  subst hf; subst hg
  show (if (lg_cmp 0 0) = 0 then mL_law_L18 xv 4 1 4 u else some 0) = some 1
  rw [if_pos (by decide), o_fin]
theorem gd_t {β : Type} (o : Option β) : gd true o = o := rfl
theorem o_four : mL_law_L18 xv 4 2 0 (uC0, uM0) = some 1 := by
  rw [mL_law_L18, if_neg (show ¬ (nI 4 - 4 < 0) by decide)]
  simp only [show inb 0 4 = true by decide, show inb (0 + 1) 4 = true by decide, show inb (0 + 2) 4 = true by decide, show inb (0 + 3) 4 = true by decide, gd_t]
  by_cases h0 : (xv (Int32.toNatClampNeg 0) &&& 15) = 0
  · rw [if_pos h0]
    obtain ⟨r, a, b, hc, hm⟩ := o_type ((shlL (Int32.toInt64 (xv (Int32.toNatClampNeg (0 + 1)))) 32) ||| ((Int32.toInt64 (xv (Int32.toNatClampNeg (0 + 2)))) &&& 4294967295)) (xv (Int32.toNatClampNeg (0 + 3)))
    exact o_stepI (g := fun z => mM_SqlReaderModel_type ((shlL (Int32.toInt64 (xv (Int32.toNatClampNeg (0 + 1)))) 32) ||| ((Int32.toInt64 (xv (Int32.toNatClampNeg (0 + 2)))) &&& 4294967295)) (xv (Int32.toNatClampNeg (0 + 3))) z) hc hm
  rw [if_neg h0]
  by_cases h1 : (xv (Int32.toNatClampNeg 0) &&& 15) = 1
  · rw [if_pos h1]
    obtain ⟨a, b, hc, hm⟩ := o_table
    exact o_stepI (g := fun z => mM_SqlReaderModel_table z) hc hm
  rw [if_neg h1]
  by_cases h2 : (xv (Int32.toNatClampNeg 0) &&& 15) = 2
  · rw [if_pos h2]
    obtain ⟨a, b, hc, hm⟩ := o_column (xv (Int32.toNatClampNeg (0 + 1))) (xv (Int32.toNatClampNeg (0 + 2)))
    exact o_stepI (g := fun z => mM_SqlReaderModel_column (xv (Int32.toNatClampNeg (0 + 1))) (xv (Int32.toNatClampNeg (0 + 2))) z) hc hm
  rw [if_neg h2]
  by_cases h3 : (xv (Int32.toNatClampNeg 0) &&& 15) = 3
  · rw [if_pos h3]
    obtain ⟨a, b, hc, hm⟩ := o_read
    exact o_stepI (g := fun z => mM_SqlReaderModel_read z) hc hm
  rw [if_neg h3]
  by_cases h4 : (xv (Int32.toNatClampNeg 0) &&& 15) = 4
  · rw [if_pos h4]
    exact o_stepi (o_node _ _).1 (o_node _ _).2
  rw [if_neg h4]
  by_cases h5 : (xv (Int32.toNatClampNeg 0) &&& 15) = 5
  · rw [if_pos h5]
    exact o_stepj (o_value _).1 (o_value _).2
  rw [if_neg h5]
  by_cases h6 : (xv (Int32.toNatClampNeg 0) &&& 15) = 6
  · rw [if_pos h6]
    exact o_stepi (o_letter _ _).1 (o_letter _ _).2
  rw [if_neg h6]
  by_cases h7 : (xv (Int32.toNatClampNeg 0) &&& 15) = 7
  · rw [if_pos h7]
    obtain ⟨r, hc, hm⟩ := o_count (xv (Int32.toNatClampNeg (0 + 1)))
    exact o_stepi hc hm
  rw [if_neg h7]
  by_cases h8 : (xv (Int32.toNatClampNeg 0) &&& 15) = 8
  · rw [if_pos h8]
    exact o_stepi (o_list _ _).1 (o_list _ _).2
  rw [if_neg h8]
  by_cases h9 : (xv (Int32.toNatClampNeg 0) &&& 15) = 9
  · rw [if_pos h9]
    exact o_stepi (o_name _ _).1 (o_name _ _).2
  rw [if_neg h9]
  exact o_fin _
theorem o_one {L : Nat} (hL : L ≤ 4) : ∃ n, mL_law_L18 xv L n 0 (uC0, uM0) = some 1 := by
  match L, hL with
  | 0, _ => exact ⟨1, by rw [mL_law_L18, if_pos (by decide)]⟩
  | 1, _ => exact ⟨1, by rw [mL_law_L18, if_pos (by decide)]⟩
  | 2, _ => exact ⟨1, by rw [mL_law_L18, if_pos (by decide)]⟩
  | 3, _ => exact ⟨1, by rw [mL_law_L18, if_pos (by decide)]⟩
  | 4, _ => exact ⟨2, o_four⟩
  | k + 5, h => omega
end One
