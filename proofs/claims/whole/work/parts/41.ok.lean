/-! NO MODEL ANSWERS none: 'ok o P': o is some x with P x. Path conditions come as facts of Int, for omega -/
def ok {α : Type} (o : Option α) (P : α → Prop) : Prop := ∃ x, o = some x ∧ P x
section Ok
variable {α β σ : Type} {P : α → Prop} {A B : Option α} {x y : Int32}
theorem ok_some {a : α} (h : P a) : ok (some a) P := ⟨a, rfl, h⟩
theorem ok_mono {Q : α → Prop} {o : Option α} (h : ok o Q) (hq : ∀ a, Q a → P a) : ok o P := by
  obtain ⟨a, e, q⟩ := h
  exact ⟨a, e, hq a q⟩
theorem ok_lt {d : Decidable (x < y)} (h1 : x.toInt < y.toInt → ok A P) (h2 : y.toInt ≤ x.toInt → ok B P) : ok (@ite _ (x < y) d A B) P := by
  by_cases h : x < y
  · rw [if_pos h]; exact h1 (Int32.lt_iff_toInt_lt.mp h)
  · rw [if_neg h]; exact h2 (Int32.le_iff_toInt_le.mp (Int32.not_lt.mp h))
theorem ok_le {d : Decidable (x ≤ y)} (h1 : x.toInt ≤ y.toInt → ok A P) (h2 : y.toInt < x.toInt → ok B P) : ok (@ite _ (x ≤ y) d A B) P := by
  by_cases h : x ≤ y
  · rw [if_pos h]; exact h1 (Int32.le_iff_toInt_le.mp h)
  · rw [if_neg h]; exact h2 (Int32.lt_iff_toInt_lt.mp (Int32.not_le.mp h))
theorem ok_eq {d : Decidable (x = y)} (h1 : x.toInt = y.toInt → x = y → ok A P) (h2 : x.toInt ≠ y.toInt → ok B P) : ok (@ite _ (x = y) d A B) P := by
  by_cases h : x = y
  · rw [if_pos h]; exact h1 (by rw [h]) h
  · rw [if_neg h]; exact h2 (fun e => h (Int32.toInt_inj.mp e))
theorem ok_gd {b : Bool} (hb : b = true) (h : ok A P) : ok (gd b A) P := by subst hb; exact h
theorem ok_seq {K : β → Option α} {v : β} (h : ∀ z, z = v → ok (K z) P) : ok (seq v K) P := h v rfl
theorem ok_bP {o : Option β} {Q : β → Prop} {K : β → Option α} (h : ok o Q) (k : ∀ z, Q z → ok (K z) P) : ok (bP o K) P := by
  obtain ⟨z, rfl, q⟩ := h
  exact k z q
theorem ok_bM {o : Option (β × σ)} {Q : β × σ → Prop} {K : β → σ → Option α} (h : ok o Q) (k : ∀ z v, Q (z, v) → ok (K z v) P) : ok (bM o K) P := by
  obtain ⟨⟨z, v⟩, rfl, q⟩ := h
  exact k z v q
theorem inb_of {i : Int32} {n : Nat} (h0 : 0 ≤ i.toInt) (h1 : i.toInt < n) : inb i n = true := decide_eq_true ⟨h0, h1⟩
theorem add_i {a b : Int32} (h0 : -2147483648 ≤ a.toInt + b.toInt) (h1 : a.toInt + b.toInt < 2147483648) : (a + b).toInt = a.toInt + b.toInt := by
  rw [Int32.toInt_add]
  exact Int.bmod_eq_of_le (by omega) (by omega)
theorem sub_i {a b : Int32} (h0 : -2147483648 ≤ a.toInt - b.toInt) (h1 : a.toInt - b.toInt < 2147483648) : (a - b).toInt = a.toInt - b.toInt := by
  rw [Int32.toInt_sub]
  exact Int.bmod_eq_of_le (by omega) (by omega)
end Ok
/-- Text.at on the tokens' text -/
theorem s_at11 {i : Int32} {u : St} (h0 : 0 ≤ (u.1 5).toInt) (h1 : (u.1 5).toInt ≤ 2000) : ok (mC_Text_at_11 i u) (fun r => -1 ≤ r.toInt ∧ r.toInt ≤ 255) := by
  have m1 : ((-1 : Int32)).toInt = -1 := by decide
  have z0 : ((0 : Int32)).toInt = 0 := by decide
  rw [mC_Text_at_11]
  refine ok_lt (fun h => ok_some ⟨by omega, by omega⟩) (fun h => ?_)
  refine ok_lt (fun h => ?_) (fun h => ok_some ⟨by omega, by omega⟩)
  refine ok_gd (inb_of (by omega) (by omega)) (ok_some ?_)
  obtain ⟨j, hj, e⟩ := pk_andE (ga u 6 i) (m := 255) 8 (by decide)
  rw [e, nI_toInt (by omega)]
  omega
