/-! THE REFERENCE'S INVARIANTS -/
def nx (f : Nat → Int32) (i : Nat) : Nat := if f i = 39 then i + 2 else i + 1
def stp (f : Nat → Int32) : Nat → Nat → Nat → Prop
  | 0, i, e => i = e
  | c + 1, i, e => i < e ∧ stp f c (nx f i) e
theorem nx_lt {f : Nat → Int32} {i : Nat} : i < nx f i := by
  unfold nx
  split <;> omega
theorem stp_le {f : Nat → Int32} : ∀ {c i e : Nat}, stp f c i e → i ≤ e := by
  intro c
  induction c with
  | zero => intro i e h; exact Nat.le_of_eq h
  | succ c ih => intro i e h; exact Nat.le_of_lt h.1
theorem stp_snoc {f : Nat → Int32} : ∀ {c i e : Nat}, stp f c i e → stp f (c + 1) i (nx f e) := by
  intro c
  induction c with
  | zero => intro i e h; have h' : i = e := h; subst h'; exact ⟨nx_lt, rfl⟩
  | succ c ih => intro i e h; exact ⟨Nat.lt_trans h.1 nx_lt, ih h.2⟩
def MS (u : St) : Prop := (0 ≤ (u.1 0).toInt ∧ (u.1 0).toInt ≤ 2000) ∧ (0 ≤ (u.1 1).toInt ∧ (u.1 1).toInt ≤ 2000) ∧ (0 ≤ (u.1 2).toInt ∧ (u.1 2).toInt ≤ 1) ∧ (0 ≤ (u.1 3).toInt ∧ (u.1 3).toInt ≤ 8) ∧ (0 ≤ (u.1 4).toInt ∧ (u.1 4).toInt ≤ 200000) ∧ (0 ≤ (u.1 5).toInt ∧ (u.1 5).toInt ≤ 1200) ∧ (-1 ≤ (u.1 9).toInt ∧ (u.1 9).toInt ≤ 7) ∧ (-1 ≤ (u.1 10).toInt ∧ (u.1 10).toInt ≤ 4000) ∧ (-1 ≤ (u.1 12).toInt ∧ (u.1 12).toInt ≤ 4000) ∧ (0 ≤ (u.1 13).toInt ∧ (u.1 13).toInt ≤ 1) ∧ (0 ≤ (u.1 14).toInt ∧ (u.1 14).toInt ≤ 1) ∧ (0 ≤ (u.1 16).toInt ∧ (u.1 16).toInt ≤ 3000) ∧ (0 ≤ (u.1 17).toInt ∧ (u.1 17).toInt ≤ 3000) ∧ (0 ≤ (u.1 18).toInt ∧ (u.1 18).toInt ≤ 1000) ∧ (0 ≤ (u.1 19).toInt ∧ (u.1 19).toInt ≤ 1000) ∧ (0 ≤ (u.1 20).toInt ∧ (u.1 20).toInt ≤ 1000) ∧ (0 ≤ (u.1 22).toInt ∧ (u.1 22).toInt ≤ 1) ∧ (0 ≤ (u.1 23).toInt ∧ (u.1 23).toInt ≤ 1000) ∧ (0 ≤ (u.1 24).toInt ∧ (u.1 24).toInt ≤ 1000) ∧ (-1 ≤ (u.1 25).toInt ∧ (u.1 25).toInt ≤ 7) ∧ (-1 ≤ (u.1 26).toInt ∧ (u.1 26).toInt ≤ 4000) ∧ (0 ≤ (u.1 27).toInt ∧ (u.1 27).toInt ≤ 1) ∧ (0 ≤ (u.1 28).toInt ∧ (u.1 28).toInt ≤ 9) ∧ (0 ≤ (u.1 29).toInt ∧ (u.1 29).toInt ≤ 1) ∧ (0 ≤ (u.1 30).toInt ∧ (u.1 30).toInt ≤ 4000)
def MA (u : St) : Prop := (∀ j : Nat, 0 ≤ (u.2.1 5 j).toInt ∧ (u.2.1 5 j).toInt ≤ 16) ∧ (∀ j : Nat, 0 ≤ (u.2.1 6 j).toInt ∧ (u.2.1 6 j).toInt ≤ 8) ∧ (∀ j : Nat, 0 ≤ (u.2.1 8 j).toInt ∧ (u.2.1 8 j).toInt ≤ 16) ∧ (∀ j : Nat, 0 ≤ (u.2.1 17 j).toInt ∧ (u.2.1 17 j).toInt ≤ 31) ∧ (∀ j : Nat, 0 ≤ (u.2.1 36 j).toInt ∧ (u.2.1 36 j).toInt ≤ 16) ∧ (∀ j : Nat, -1 ≤ (u.2.1 24 j).toInt ∧ (u.2.1 24 j).toInt ≤ 7) ∧ (∀ j : Nat, -1 ≤ (u.2.1 28 j).toInt ∧ (u.2.1 28 j).toInt ≤ 7)
def TKv (f : Nat → Int32) (k b e : Int32) : Prop := (0 ≤ b.toInt ∧ b.toInt < e.toInt ∧ e.toInt ≤ 2000) ∧ (k.toInt ≠ 2 ∨ e.toInt - b.toInt ≤ 16) ∧ (k.toInt ≠ 5 ∨ (b.toInt + 1 < 2000 ∧ 49 ≤ (f (b.toInt.toNat + 1)).toInt ∧ (f (b.toInt.toNat + 1)).toInt ≤ 57)) ∧ (k.toInt ≠ 4 ∨ ∃ c : Nat, c ≤ 31 ∧ stp f c (b.toInt.toNat + 1) (e.toInt.toNat - 1))
def TK (u : St) : Prop := ∀ j : Nat, (j : Int) < (u.1 1).toInt → TKv (u.2.1 0) (u.2.1 1 j) (u.2.1 2 j) (u.2.1 3 j)
/-- a node: its kind, left, right, before, named; t tokens -/
def NDv (t : Int) (j : Nat) (k l r b n : Int32) : Prop := (0 ≤ k.toInt ∧ k.toInt ≤ 28) ∧ (k.toInt ≠ 4 ∨ (-1 ≤ b.toInt ∧ b.toInt < t ∧ 0 ≤ n.toInt ∧ n.toInt < t)) ∧ (k.toInt < 6 ∨ k.toInt = 28 ∨ (0 ≤ l.toInt ∧ l.toInt < j ∧ -1 ≤ r.toInt ∧ r.toInt < j)) ∧ (k.toInt ≠ 28 ∨ (1 ≤ l.toInt ∧ l.toInt ≤ 9)) ∧ (k.toInt < 17 ∨ 22 < k.toInt ∨ 0 ≤ r.toInt)
def ND (u : St) (n : Int) : Prop := ∀ j : Nat, (j : Int) < n → NDv (u.1 1).toInt j (u.2.1 10 j) (u.2.1 11 j) (u.2.1 12 j) (u.2.1 14 j) (u.2.1 15 j)
/-- a check: its sort, first, second; t tokens, d nodes, the target's and the index's token; the tokens and nodes of SET -/
def CHv (t d g x : Int) (f27 f29 f18 f19 : Nat → Int32) (c : Nat) (s a b : Int32) : Prop := ((1 ≤ s.toInt ∧ s.toInt ≤ 7) ∨ s.toInt = 9 ∨ s.toInt = 10) ∧ ((s.toInt ≠ 1 ∧ s.toInt ≠ 2 ∧ s.toInt ≠ 3 ∧ s.toInt ≠ 6) ∨ (0 ≤ a.toInt ∧ a.toInt < d)) ∧ (s.toInt ≠ 4 ∨ (0 ≤ a.toInt ∧ a.toInt ≤ 999 ∧ 0 ≤ (f27 a.toInt.toNat).toInt ∧ (f27 a.toInt.toNat).toInt < t)) ∧ (s.toInt ≠ 5 ∨ (0 ≤ a.toInt ∧ a.toInt ≤ 999 ∧ 0 ≤ (f29 a.toInt.toNat).toInt ∧ (f29 a.toInt.toNat).toInt < d ∧ ∃ z : Nat, z < c ∧ (f18 z).toInt = 4 ∧ f19 z = a)) ∧ ((s.toInt ≠ 2 ∧ s.toInt ≠ 4 ∧ s.toInt ≠ 5 ∧ s.toInt ≠ 9 ∧ s.toInt ≠ 10) ∨ 0 ≤ g) ∧ (s.toInt ≠ 9 ∨ 0 ≤ x) ∧ ((s.toInt ≠ 2 ∧ s.toInt ≠ 6) ∨ 0 ≤ b.toInt)
def CH (u : St) (d : Int) : Prop := ∀ c : Nat, (c : Int) < (u.1 5).toInt → CHv (u.1 1).toInt d (u.1 10).toInt (u.1 26).toInt (u.2.1 27) (u.2.1 29) (u.2.1 18) (u.2.1 19) c (u.2.1 18 c) (u.2.1 19 c) (u.2.1 20 c)
def RS (u : St) (d : Int) : Prop := (∀ j : Nat, (j : Int) < (u.1 16).toInt → j < 200 → 0 ≤ (u.2.1 21 j).toInt ∧ (u.2.1 21 j).toInt < d) ∧ (∀ j : Nat, (j : Int) < (u.1 17).toInt → j < 200 → 0 ≤ (u.2.1 22 j).toInt ∧ (u.2.1 22 j).toInt < d) ∧ (∀ j : Nat, (j : Int) < (u.1 19).toInt → 0 ≤ (u.2.1 25 j).toInt ∧ (u.2.1 25 j).toInt < (u.1 1).toInt ∧ 0 ≤ (u.2.1 26 j).toInt ∧ (u.2.1 26 j).toInt < (u.1 1).toInt) ∧ (∀ j : Nat, (j : Int) < (u.1 24).toInt → 0 ≤ (u.2.1 31 j).toInt ∧ (u.2.1 31 j).toInt < (u.1 1).toInt ∧ (u.2.1 1 (u.2.1 31 j).toInt.toNat).toInt = 2) ∧ ((u.1 10).toInt < (u.1 1).toInt ∧ (u.1 12).toInt < (u.1 1).toInt ∧ (u.1 26).toInt < (u.1 1).toInt ∧ ((u.1 12).toInt = -1 ∨ (u.2.1 1 (u.1 12).toInt.toNat).toInt = 2) ∧ ((u.1 7).toInt ≠ 5 ∨ 0 ≤ (u.1 10).toInt) ∧ ((u.1 8).toInt ≠ 5 ∨ 0 ≤ (u.1 10).toInt))
def TW (u : St) : Prop := ∀ j : Nat, (j : Int) < (u.1 1).toInt → ((u.2.1 1 j).toInt ≠ 1 ∧ (u.2.1 1 j).toInt ≠ 6) ∨ (0 ≤ (u.2.1 2 j).toInt ∧ (u.2.1 2 j).toInt ≤ 2000 ∧ -1 ≤ (u.2.1 3 j).toInt ∧ (u.2.1 3 j).toInt ≤ 2000)
def IB (u : St) : Prop := MS u ∧ MA u
def IW (u : St) : Prop := MS u ∧ MA u ∧ TW u
theorem IB_b {u : St} (I : IB u) : (0 ≤ (u.1 0).toInt ∧ (u.1 0).toInt ≤ 2000) ∧ (0 ≤ (u.1 1).toInt ∧ (u.1 1).toInt ≤ 2000) ∧ (0 ≤ (u.1 2).toInt ∧ (u.1 2).toInt ≤ 1) ∧ (0 ≤ (u.1 3).toInt ∧ (u.1 3).toInt ≤ 8) ∧ (0 ≤ (u.1 4).toInt ∧ (u.1 4).toInt ≤ 200000) ∧ (0 ≤ (u.1 5).toInt ∧ (u.1 5).toInt ≤ 1200) ∧ (-1 ≤ (u.1 9).toInt ∧ (u.1 9).toInt ≤ 7) ∧ (-1 ≤ (u.1 10).toInt ∧ (u.1 10).toInt ≤ 4000) ∧ (-1 ≤ (u.1 12).toInt ∧ (u.1 12).toInt ≤ 4000) ∧ (0 ≤ (u.1 13).toInt ∧ (u.1 13).toInt ≤ 1) ∧ (0 ≤ (u.1 14).toInt ∧ (u.1 14).toInt ≤ 1) ∧ (0 ≤ (u.1 16).toInt ∧ (u.1 16).toInt ≤ 3000) ∧ (0 ≤ (u.1 17).toInt ∧ (u.1 17).toInt ≤ 3000) ∧ (0 ≤ (u.1 18).toInt ∧ (u.1 18).toInt ≤ 1000) ∧ (0 ≤ (u.1 19).toInt ∧ (u.1 19).toInt ≤ 1000) ∧ (0 ≤ (u.1 20).toInt ∧ (u.1 20).toInt ≤ 1000) ∧ (0 ≤ (u.1 22).toInt ∧ (u.1 22).toInt ≤ 1) ∧ (0 ≤ (u.1 23).toInt ∧ (u.1 23).toInt ≤ 1000) ∧ (0 ≤ (u.1 24).toInt ∧ (u.1 24).toInt ≤ 1000) ∧ (-1 ≤ (u.1 25).toInt ∧ (u.1 25).toInt ≤ 7) ∧ (-1 ≤ (u.1 26).toInt ∧ (u.1 26).toInt ≤ 4000) ∧ (0 ≤ (u.1 27).toInt ∧ (u.1 27).toInt ≤ 1) ∧ (0 ≤ (u.1 28).toInt ∧ (u.1 28).toInt ≤ 9) ∧ (0 ≤ (u.1 29).toInt ∧ (u.1 29).toInt ≤ 1) ∧ (0 ≤ (u.1 30).toInt ∧ (u.1 30).toInt ≤ 4000) := I.1
theorem IW_b {u : St} (I : IW u) : (0 ≤ (u.1 0).toInt ∧ (u.1 0).toInt ≤ 2000) ∧ (0 ≤ (u.1 1).toInt ∧ (u.1 1).toInt ≤ 2000) ∧ (0 ≤ (u.1 2).toInt ∧ (u.1 2).toInt ≤ 1) ∧ (0 ≤ (u.1 3).toInt ∧ (u.1 3).toInt ≤ 8) ∧ (0 ≤ (u.1 4).toInt ∧ (u.1 4).toInt ≤ 200000) ∧ (0 ≤ (u.1 5).toInt ∧ (u.1 5).toInt ≤ 1200) ∧ (-1 ≤ (u.1 9).toInt ∧ (u.1 9).toInt ≤ 7) ∧ (-1 ≤ (u.1 10).toInt ∧ (u.1 10).toInt ≤ 4000) ∧ (-1 ≤ (u.1 12).toInt ∧ (u.1 12).toInt ≤ 4000) ∧ (0 ≤ (u.1 13).toInt ∧ (u.1 13).toInt ≤ 1) ∧ (0 ≤ (u.1 14).toInt ∧ (u.1 14).toInt ≤ 1) ∧ (0 ≤ (u.1 16).toInt ∧ (u.1 16).toInt ≤ 3000) ∧ (0 ≤ (u.1 17).toInt ∧ (u.1 17).toInt ≤ 3000) ∧ (0 ≤ (u.1 18).toInt ∧ (u.1 18).toInt ≤ 1000) ∧ (0 ≤ (u.1 19).toInt ∧ (u.1 19).toInt ≤ 1000) ∧ (0 ≤ (u.1 20).toInt ∧ (u.1 20).toInt ≤ 1000) ∧ (0 ≤ (u.1 22).toInt ∧ (u.1 22).toInt ≤ 1) ∧ (0 ≤ (u.1 23).toInt ∧ (u.1 23).toInt ≤ 1000) ∧ (0 ≤ (u.1 24).toInt ∧ (u.1 24).toInt ≤ 1000) ∧ (-1 ≤ (u.1 25).toInt ∧ (u.1 25).toInt ≤ 7) ∧ (-1 ≤ (u.1 26).toInt ∧ (u.1 26).toInt ≤ 4000) ∧ (0 ≤ (u.1 27).toInt ∧ (u.1 27).toInt ≤ 1) ∧ (0 ≤ (u.1 28).toInt ∧ (u.1 28).toInt ≤ 9) ∧ (0 ≤ (u.1 29).toInt ∧ (u.1 29).toInt ≤ 1) ∧ (0 ≤ (u.1 30).toInt ∧ (u.1 30).toInt ≤ 4000) := I.1
theorem IW_tok {u : St} (I : IW u) (i : Int32) : i.toInt < 0 ∨ (u.1 1).toInt ≤ i.toInt ∨ ((ga u 1 i).toInt ≠ 1 ∧ (ga u 1 i).toInt ≠ 6) ∨ (0 ≤ (ga u 2 i).toInt ∧ (ga u 2 i).toInt ≤ 2000 ∧ -1 ≤ (ga u 3 i).toInt ∧ (ga u 3 i).toInt ≤ 2000) := by
  by_cases h0 : i.toInt < 0
  · exact Or.inl h0
  by_cases h1 : (u.1 1).toInt ≤ i.toInt
  · exact Or.inr (Or.inl h1)
  have c := cl_of (i := i) (by omega)
  exact Or.inr (Or.inr (I.2.2 i.toNatClampNeg (by omega)))
def IT (u : St) : Prop := MS u ∧ MA u ∧ TK u
/-- the nodes below n are told, d counts as their number -/
def IPg (u : St) (n d : Int) : Prop := MS u ∧ MA u ∧ TK u ∧ ((u.1 2).toInt = 0 ∧ d ≤ 200 → ND u n ∧ CH u d ∧ RS u d)
def IP (u : St) : Prop := IPg u (u.1 4).toInt (u.1 4).toInt
def IX (u : St) : Prop := MS u ∧ MA u ∧ TW u ∧ ((u.1 2).toInt = 0 → TK u)
theorem IX_IB {u : St} (I : IX u) : IB u := ⟨I.1, I.2.1⟩
theorem IX_b {u : St} (I : IX u) : (0 ≤ (u.1 0).toInt ∧ (u.1 0).toInt ≤ 2000) ∧ (0 ≤ (u.1 1).toInt ∧ (u.1 1).toInt ≤ 2000) ∧ (0 ≤ (u.1 2).toInt ∧ (u.1 2).toInt ≤ 1) ∧ (0 ≤ (u.1 3).toInt ∧ (u.1 3).toInt ≤ 8) ∧ (0 ≤ (u.1 4).toInt ∧ (u.1 4).toInt ≤ 200000) ∧ (0 ≤ (u.1 5).toInt ∧ (u.1 5).toInt ≤ 1200) ∧ (-1 ≤ (u.1 9).toInt ∧ (u.1 9).toInt ≤ 7) ∧ (-1 ≤ (u.1 10).toInt ∧ (u.1 10).toInt ≤ 4000) ∧ (-1 ≤ (u.1 12).toInt ∧ (u.1 12).toInt ≤ 4000) ∧ (0 ≤ (u.1 13).toInt ∧ (u.1 13).toInt ≤ 1) ∧ (0 ≤ (u.1 14).toInt ∧ (u.1 14).toInt ≤ 1) ∧ (0 ≤ (u.1 16).toInt ∧ (u.1 16).toInt ≤ 3000) ∧ (0 ≤ (u.1 17).toInt ∧ (u.1 17).toInt ≤ 3000) ∧ (0 ≤ (u.1 18).toInt ∧ (u.1 18).toInt ≤ 1000) ∧ (0 ≤ (u.1 19).toInt ∧ (u.1 19).toInt ≤ 1000) ∧ (0 ≤ (u.1 20).toInt ∧ (u.1 20).toInt ≤ 1000) ∧ (0 ≤ (u.1 22).toInt ∧ (u.1 22).toInt ≤ 1) ∧ (0 ≤ (u.1 23).toInt ∧ (u.1 23).toInt ≤ 1000) ∧ (0 ≤ (u.1 24).toInt ∧ (u.1 24).toInt ≤ 1000) ∧ (-1 ≤ (u.1 25).toInt ∧ (u.1 25).toInt ≤ 7) ∧ (-1 ≤ (u.1 26).toInt ∧ (u.1 26).toInt ≤ 4000) ∧ (0 ≤ (u.1 27).toInt ∧ (u.1 27).toInt ≤ 1) ∧ (0 ≤ (u.1 28).toInt ∧ (u.1 28).toInt ≤ 9) ∧ (0 ≤ (u.1 29).toInt ∧ (u.1 29).toInt ≤ 1) ∧ (0 ≤ (u.1 30).toInt ∧ (u.1 30).toInt ≤ 4000) := I.1
theorem IP_IT {u : St} (I : IP u) : IT u := ⟨I.1, I.2.1, I.2.2.1⟩
theorem TK_TW {u : St} (T : TK u) : TW u := fun j h => Or.inr (by obtain ⟨t, _⟩ := T j h; omega)
theorem IT_IB {u : St} (I : IT u) : IB u := ⟨I.1, I.2.1⟩
theorem IW_IB {u : St} (I : IW u) : IB u := ⟨I.1, I.2.1⟩
theorem IT_IW {u : St} (I : IT u) : IW u := ⟨I.1, I.2.1, TK_TW I.2.2⟩
theorem IP_IB {u : St} (I : IP u) : IB u := ⟨I.1, I.2.1⟩
theorem IP_IW {u : St} (I : IP u) : IW u := IT_IW (IP_IT I)
theorem IT_b {u : St} (I : IT u) : (0 ≤ (u.1 0).toInt ∧ (u.1 0).toInt ≤ 2000) ∧ (0 ≤ (u.1 1).toInt ∧ (u.1 1).toInt ≤ 2000) ∧ (0 ≤ (u.1 2).toInt ∧ (u.1 2).toInt ≤ 1) ∧ (0 ≤ (u.1 3).toInt ∧ (u.1 3).toInt ≤ 8) ∧ (0 ≤ (u.1 4).toInt ∧ (u.1 4).toInt ≤ 200000) ∧ (0 ≤ (u.1 5).toInt ∧ (u.1 5).toInt ≤ 1200) ∧ (-1 ≤ (u.1 9).toInt ∧ (u.1 9).toInt ≤ 7) ∧ (-1 ≤ (u.1 10).toInt ∧ (u.1 10).toInt ≤ 4000) ∧ (-1 ≤ (u.1 12).toInt ∧ (u.1 12).toInt ≤ 4000) ∧ (0 ≤ (u.1 13).toInt ∧ (u.1 13).toInt ≤ 1) ∧ (0 ≤ (u.1 14).toInt ∧ (u.1 14).toInt ≤ 1) ∧ (0 ≤ (u.1 16).toInt ∧ (u.1 16).toInt ≤ 3000) ∧ (0 ≤ (u.1 17).toInt ∧ (u.1 17).toInt ≤ 3000) ∧ (0 ≤ (u.1 18).toInt ∧ (u.1 18).toInt ≤ 1000) ∧ (0 ≤ (u.1 19).toInt ∧ (u.1 19).toInt ≤ 1000) ∧ (0 ≤ (u.1 20).toInt ∧ (u.1 20).toInt ≤ 1000) ∧ (0 ≤ (u.1 22).toInt ∧ (u.1 22).toInt ≤ 1) ∧ (0 ≤ (u.1 23).toInt ∧ (u.1 23).toInt ≤ 1000) ∧ (0 ≤ (u.1 24).toInt ∧ (u.1 24).toInt ≤ 1000) ∧ (-1 ≤ (u.1 25).toInt ∧ (u.1 25).toInt ≤ 7) ∧ (-1 ≤ (u.1 26).toInt ∧ (u.1 26).toInt ≤ 4000) ∧ (0 ≤ (u.1 27).toInt ∧ (u.1 27).toInt ≤ 1) ∧ (0 ≤ (u.1 28).toInt ∧ (u.1 28).toInt ≤ 9) ∧ (0 ≤ (u.1 29).toInt ∧ (u.1 29).toInt ≤ 1) ∧ (0 ≤ (u.1 30).toInt ∧ (u.1 30).toInt ≤ 4000) := I.1
theorem IP_p {u : St} (I : IP u) : (0 ≤ (u.1 1).toInt ∧ (u.1 1).toInt ≤ 2000) ∧ (0 ≤ (u.1 2).toInt ∧ (u.1 2).toInt ≤ 1) ∧ (0 ≤ (u.1 4).toInt ∧ (u.1 4).toInt ≤ 200000) := by
  obtain ⟨_, a, b, _, c, _⟩ := I.1
  exact ⟨a, b, c⟩
theorem IP_b {u : St} (I : IP u) : (0 ≤ (u.1 0).toInt ∧ (u.1 0).toInt ≤ 2000) ∧ (0 ≤ (u.1 1).toInt ∧ (u.1 1).toInt ≤ 2000) ∧ (0 ≤ (u.1 2).toInt ∧ (u.1 2).toInt ≤ 1) ∧ (0 ≤ (u.1 3).toInt ∧ (u.1 3).toInt ≤ 8) ∧ (0 ≤ (u.1 4).toInt ∧ (u.1 4).toInt ≤ 200000) ∧ (0 ≤ (u.1 5).toInt ∧ (u.1 5).toInt ≤ 1200) ∧ (-1 ≤ (u.1 9).toInt ∧ (u.1 9).toInt ≤ 7) ∧ (-1 ≤ (u.1 10).toInt ∧ (u.1 10).toInt ≤ 4000) ∧ (-1 ≤ (u.1 12).toInt ∧ (u.1 12).toInt ≤ 4000) ∧ (0 ≤ (u.1 13).toInt ∧ (u.1 13).toInt ≤ 1) ∧ (0 ≤ (u.1 14).toInt ∧ (u.1 14).toInt ≤ 1) ∧ (0 ≤ (u.1 16).toInt ∧ (u.1 16).toInt ≤ 3000) ∧ (0 ≤ (u.1 17).toInt ∧ (u.1 17).toInt ≤ 3000) ∧ (0 ≤ (u.1 18).toInt ∧ (u.1 18).toInt ≤ 1000) ∧ (0 ≤ (u.1 19).toInt ∧ (u.1 19).toInt ≤ 1000) ∧ (0 ≤ (u.1 20).toInt ∧ (u.1 20).toInt ≤ 1000) ∧ (0 ≤ (u.1 22).toInt ∧ (u.1 22).toInt ≤ 1) ∧ (0 ≤ (u.1 23).toInt ∧ (u.1 23).toInt ≤ 1000) ∧ (0 ≤ (u.1 24).toInt ∧ (u.1 24).toInt ≤ 1000) ∧ (-1 ≤ (u.1 25).toInt ∧ (u.1 25).toInt ≤ 7) ∧ (-1 ≤ (u.1 26).toInt ∧ (u.1 26).toInt ≤ 4000) ∧ (0 ≤ (u.1 27).toInt ∧ (u.1 27).toInt ≤ 1) ∧ (0 ≤ (u.1 28).toInt ∧ (u.1 28).toInt ≤ 9) ∧ (0 ≤ (u.1 29).toInt ∧ (u.1 29).toInt ≤ 1) ∧ (0 ≤ (u.1 30).toInt ∧ (u.1 30).toInt ≤ 4000) := I.1
theorem IT_tok {u : St} (I : IT u) (i : Int32) : i.toInt < 0 ∨ (u.1 1).toInt ≤ i.toInt ∨ ((0 ≤ (ga u 2 i).toInt ∧ (ga u 2 i).toInt < (ga u 3 i).toInt ∧ (ga u 3 i).toInt ≤ 2000) ∧ ((ga u 1 i).toInt ≠ 2 ∨ (ga u 3 i).toInt - (ga u 2 i).toInt ≤ 16) ∧ ((ga u 1 i).toInt ≠ 5 ∨ ((ga u 2 i).toInt + 1 < 2000 ∧ 49 ≤ (ga u 0 (ga u 2 i + 1)).toInt ∧ (ga u 0 (ga u 2 i + 1)).toInt ≤ 57))) := by
  by_cases h0 : i.toInt < 0
  · exact Or.inl h0
  by_cases h1 : (u.1 1).toInt ≤ i.toInt
  · exact Or.inr (Or.inl h1)
  refine Or.inr (Or.inr ?_)
  have c := cl_of (i := i) (by omega)
  obtain ⟨t1, t2, t3, _⟩ := I.2.2 i.toNatClampNeg (by omega)
  refine ⟨t1, t2, ?_⟩
  rcases t3 with t3 | t3
  · exact Or.inl t3
  · refine Or.inr ⟨t3.1, ?_⟩
    have l1 : (1 : Int32).toInt = 1 := by decide
    have e : (ga u 2 i + 1 : Int32).toInt = (ga u 2 i).toInt + (1 : Int32).toInt := add_i (by have := t1.1; show _ ≤ (u.2.1 2 i.toNatClampNeg).toInt + _; omega) (by show (u.2.1 2 i.toNatClampNeg).toInt + _ < _; omega)
    have e2 : (ga u 2 i + 1 : Int32).toNatClampNeg = (u.2.1 2 i.toNatClampNeg).toInt.toNat + 1 := by
      have t := t1.1
      have q : 0 ≤ (ga u 2 i).toInt := t
      have c2 := cl_of (i := ga u 2 i + 1) (by omega)
      have e' : (ga u 2 i).toInt = (u.2.1 2 i.toNatClampNeg).toInt := rfl
      omega
    show 49 ≤ (u.2.1 0 (ga u 2 i + 1 : Int32).toNatClampNeg).toInt ∧ (u.2.1 0 (ga u 2 i + 1 : Int32).toNatClampNeg).toInt ≤ 57
    rw [e2]
    exact t3.2
theorem MS_s0 {u : St} {x : Int32} (I : MS u) (h0 : 0 ≤ x.toInt) (h1 : x.toInt ≤ 2000) : MS (ss u 0 x) := by
  obtain ⟨a0, a1, a2, a3, a4, a5, a6, a7, a8, a9, a10, a11, a12, a13, a14, a15, a16, a17, a18, a19, a20, a21, a22, a23, a24⟩ := I
  exact ⟨⟨h0, h1⟩, a1, a2, a3, a4, a5, a6, a7, a8, a9, a10, a11, a12, a13, a14, a15, a16, a17, a18, a19, a20, a21, a22, a23, a24⟩
theorem MS_s1 {u : St} {x : Int32} (I : MS u) (h0 : 0 ≤ x.toInt) (h1 : x.toInt ≤ 2000) : MS (ss u 1 x) := by
  obtain ⟨a0, a1, a2, a3, a4, a5, a6, a7, a8, a9, a10, a11, a12, a13, a14, a15, a16, a17, a18, a19, a20, a21, a22, a23, a24⟩ := I
  exact ⟨a0, ⟨h0, h1⟩, a2, a3, a4, a5, a6, a7, a8, a9, a10, a11, a12, a13, a14, a15, a16, a17, a18, a19, a20, a21, a22, a23, a24⟩
theorem MS_s2 {u : St} {x : Int32} (I : MS u) (h0 : 0 ≤ x.toInt) (h1 : x.toInt ≤ 1) : MS (ss u 2 x) := by
  obtain ⟨a0, a1, a2, a3, a4, a5, a6, a7, a8, a9, a10, a11, a12, a13, a14, a15, a16, a17, a18, a19, a20, a21, a22, a23, a24⟩ := I
  exact ⟨a0, a1, ⟨h0, h1⟩, a3, a4, a5, a6, a7, a8, a9, a10, a11, a12, a13, a14, a15, a16, a17, a18, a19, a20, a21, a22, a23, a24⟩
theorem MS_s3 {u : St} {x : Int32} (I : MS u) (h0 : 0 ≤ x.toInt) (h1 : x.toInt ≤ 8) : MS (ss u 3 x) := by
  obtain ⟨a0, a1, a2, a3, a4, a5, a6, a7, a8, a9, a10, a11, a12, a13, a14, a15, a16, a17, a18, a19, a20, a21, a22, a23, a24⟩ := I
  exact ⟨a0, a1, a2, ⟨h0, h1⟩, a4, a5, a6, a7, a8, a9, a10, a11, a12, a13, a14, a15, a16, a17, a18, a19, a20, a21, a22, a23, a24⟩
theorem MS_s4 {u : St} {x : Int32} (I : MS u) (h0 : 0 ≤ x.toInt) (h1 : x.toInt ≤ 200000) : MS (ss u 4 x) := by
  obtain ⟨a0, a1, a2, a3, a4, a5, a6, a7, a8, a9, a10, a11, a12, a13, a14, a15, a16, a17, a18, a19, a20, a21, a22, a23, a24⟩ := I
  exact ⟨a0, a1, a2, a3, ⟨h0, h1⟩, a5, a6, a7, a8, a9, a10, a11, a12, a13, a14, a15, a16, a17, a18, a19, a20, a21, a22, a23, a24⟩
theorem MS_s5 {u : St} {x : Int32} (I : MS u) (h0 : 0 ≤ x.toInt) (h1 : x.toInt ≤ 1200) : MS (ss u 5 x) := by
  obtain ⟨a0, a1, a2, a3, a4, a5, a6, a7, a8, a9, a10, a11, a12, a13, a14, a15, a16, a17, a18, a19, a20, a21, a22, a23, a24⟩ := I
  exact ⟨a0, a1, a2, a3, a4, ⟨h0, h1⟩, a6, a7, a8, a9, a10, a11, a12, a13, a14, a15, a16, a17, a18, a19, a20, a21, a22, a23, a24⟩
theorem MS_s9 {u : St} {x : Int32} (I : MS u) (h0 : -1 ≤ x.toInt) (h1 : x.toInt ≤ 7) : MS (ss u 9 x) := by
  obtain ⟨a0, a1, a2, a3, a4, a5, a6, a7, a8, a9, a10, a11, a12, a13, a14, a15, a16, a17, a18, a19, a20, a21, a22, a23, a24⟩ := I
  exact ⟨a0, a1, a2, a3, a4, a5, ⟨h0, h1⟩, a7, a8, a9, a10, a11, a12, a13, a14, a15, a16, a17, a18, a19, a20, a21, a22, a23, a24⟩
theorem MS_s10 {u : St} {x : Int32} (I : MS u) (h0 : -1 ≤ x.toInt) (h1 : x.toInt ≤ 4000) : MS (ss u 10 x) := by
  obtain ⟨a0, a1, a2, a3, a4, a5, a6, a7, a8, a9, a10, a11, a12, a13, a14, a15, a16, a17, a18, a19, a20, a21, a22, a23, a24⟩ := I
  exact ⟨a0, a1, a2, a3, a4, a5, a6, ⟨h0, h1⟩, a8, a9, a10, a11, a12, a13, a14, a15, a16, a17, a18, a19, a20, a21, a22, a23, a24⟩
theorem MS_s12 {u : St} {x : Int32} (I : MS u) (h0 : -1 ≤ x.toInt) (h1 : x.toInt ≤ 4000) : MS (ss u 12 x) := by
  obtain ⟨a0, a1, a2, a3, a4, a5, a6, a7, a8, a9, a10, a11, a12, a13, a14, a15, a16, a17, a18, a19, a20, a21, a22, a23, a24⟩ := I
  exact ⟨a0, a1, a2, a3, a4, a5, a6, a7, ⟨h0, h1⟩, a9, a10, a11, a12, a13, a14, a15, a16, a17, a18, a19, a20, a21, a22, a23, a24⟩
theorem MS_s13 {u : St} {x : Int32} (I : MS u) (h0 : 0 ≤ x.toInt) (h1 : x.toInt ≤ 1) : MS (ss u 13 x) := by
  obtain ⟨a0, a1, a2, a3, a4, a5, a6, a7, a8, a9, a10, a11, a12, a13, a14, a15, a16, a17, a18, a19, a20, a21, a22, a23, a24⟩ := I
  exact ⟨a0, a1, a2, a3, a4, a5, a6, a7, a8, ⟨h0, h1⟩, a10, a11, a12, a13, a14, a15, a16, a17, a18, a19, a20, a21, a22, a23, a24⟩
theorem MS_s14 {u : St} {x : Int32} (I : MS u) (h0 : 0 ≤ x.toInt) (h1 : x.toInt ≤ 1) : MS (ss u 14 x) := by
  obtain ⟨a0, a1, a2, a3, a4, a5, a6, a7, a8, a9, a10, a11, a12, a13, a14, a15, a16, a17, a18, a19, a20, a21, a22, a23, a24⟩ := I
  exact ⟨a0, a1, a2, a3, a4, a5, a6, a7, a8, a9, ⟨h0, h1⟩, a11, a12, a13, a14, a15, a16, a17, a18, a19, a20, a21, a22, a23, a24⟩
theorem MS_s16 {u : St} {x : Int32} (I : MS u) (h0 : 0 ≤ x.toInt) (h1 : x.toInt ≤ 3000) : MS (ss u 16 x) := by
  obtain ⟨a0, a1, a2, a3, a4, a5, a6, a7, a8, a9, a10, a11, a12, a13, a14, a15, a16, a17, a18, a19, a20, a21, a22, a23, a24⟩ := I
  exact ⟨a0, a1, a2, a3, a4, a5, a6, a7, a8, a9, a10, ⟨h0, h1⟩, a12, a13, a14, a15, a16, a17, a18, a19, a20, a21, a22, a23, a24⟩
theorem MS_s17 {u : St} {x : Int32} (I : MS u) (h0 : 0 ≤ x.toInt) (h1 : x.toInt ≤ 3000) : MS (ss u 17 x) := by
  obtain ⟨a0, a1, a2, a3, a4, a5, a6, a7, a8, a9, a10, a11, a12, a13, a14, a15, a16, a17, a18, a19, a20, a21, a22, a23, a24⟩ := I
  exact ⟨a0, a1, a2, a3, a4, a5, a6, a7, a8, a9, a10, a11, ⟨h0, h1⟩, a13, a14, a15, a16, a17, a18, a19, a20, a21, a22, a23, a24⟩
theorem MS_s18 {u : St} {x : Int32} (I : MS u) (h0 : 0 ≤ x.toInt) (h1 : x.toInt ≤ 1000) : MS (ss u 18 x) := by
  obtain ⟨a0, a1, a2, a3, a4, a5, a6, a7, a8, a9, a10, a11, a12, a13, a14, a15, a16, a17, a18, a19, a20, a21, a22, a23, a24⟩ := I
  exact ⟨a0, a1, a2, a3, a4, a5, a6, a7, a8, a9, a10, a11, a12, ⟨h0, h1⟩, a14, a15, a16, a17, a18, a19, a20, a21, a22, a23, a24⟩
theorem MS_s19 {u : St} {x : Int32} (I : MS u) (h0 : 0 ≤ x.toInt) (h1 : x.toInt ≤ 1000) : MS (ss u 19 x) := by
  obtain ⟨a0, a1, a2, a3, a4, a5, a6, a7, a8, a9, a10, a11, a12, a13, a14, a15, a16, a17, a18, a19, a20, a21, a22, a23, a24⟩ := I
  exact ⟨a0, a1, a2, a3, a4, a5, a6, a7, a8, a9, a10, a11, a12, a13, ⟨h0, h1⟩, a15, a16, a17, a18, a19, a20, a21, a22, a23, a24⟩
theorem MS_s20 {u : St} {x : Int32} (I : MS u) (h0 : 0 ≤ x.toInt) (h1 : x.toInt ≤ 1000) : MS (ss u 20 x) := by
  obtain ⟨a0, a1, a2, a3, a4, a5, a6, a7, a8, a9, a10, a11, a12, a13, a14, a15, a16, a17, a18, a19, a20, a21, a22, a23, a24⟩ := I
  exact ⟨a0, a1, a2, a3, a4, a5, a6, a7, a8, a9, a10, a11, a12, a13, a14, ⟨h0, h1⟩, a16, a17, a18, a19, a20, a21, a22, a23, a24⟩
theorem MS_s22 {u : St} {x : Int32} (I : MS u) (h0 : 0 ≤ x.toInt) (h1 : x.toInt ≤ 1) : MS (ss u 22 x) := by
  obtain ⟨a0, a1, a2, a3, a4, a5, a6, a7, a8, a9, a10, a11, a12, a13, a14, a15, a16, a17, a18, a19, a20, a21, a22, a23, a24⟩ := I
  exact ⟨a0, a1, a2, a3, a4, a5, a6, a7, a8, a9, a10, a11, a12, a13, a14, a15, ⟨h0, h1⟩, a17, a18, a19, a20, a21, a22, a23, a24⟩
theorem MS_s23 {u : St} {x : Int32} (I : MS u) (h0 : 0 ≤ x.toInt) (h1 : x.toInt ≤ 1000) : MS (ss u 23 x) := by
  obtain ⟨a0, a1, a2, a3, a4, a5, a6, a7, a8, a9, a10, a11, a12, a13, a14, a15, a16, a17, a18, a19, a20, a21, a22, a23, a24⟩ := I
  exact ⟨a0, a1, a2, a3, a4, a5, a6, a7, a8, a9, a10, a11, a12, a13, a14, a15, a16, ⟨h0, h1⟩, a18, a19, a20, a21, a22, a23, a24⟩
theorem MS_s24 {u : St} {x : Int32} (I : MS u) (h0 : 0 ≤ x.toInt) (h1 : x.toInt ≤ 1000) : MS (ss u 24 x) := by
  obtain ⟨a0, a1, a2, a3, a4, a5, a6, a7, a8, a9, a10, a11, a12, a13, a14, a15, a16, a17, a18, a19, a20, a21, a22, a23, a24⟩ := I
  exact ⟨a0, a1, a2, a3, a4, a5, a6, a7, a8, a9, a10, a11, a12, a13, a14, a15, a16, a17, ⟨h0, h1⟩, a19, a20, a21, a22, a23, a24⟩
theorem MS_s25 {u : St} {x : Int32} (I : MS u) (h0 : -1 ≤ x.toInt) (h1 : x.toInt ≤ 7) : MS (ss u 25 x) := by
  obtain ⟨a0, a1, a2, a3, a4, a5, a6, a7, a8, a9, a10, a11, a12, a13, a14, a15, a16, a17, a18, a19, a20, a21, a22, a23, a24⟩ := I
  exact ⟨a0, a1, a2, a3, a4, a5, a6, a7, a8, a9, a10, a11, a12, a13, a14, a15, a16, a17, a18, ⟨h0, h1⟩, a20, a21, a22, a23, a24⟩
theorem MS_s26 {u : St} {x : Int32} (I : MS u) (h0 : -1 ≤ x.toInt) (h1 : x.toInt ≤ 4000) : MS (ss u 26 x) := by
  obtain ⟨a0, a1, a2, a3, a4, a5, a6, a7, a8, a9, a10, a11, a12, a13, a14, a15, a16, a17, a18, a19, a20, a21, a22, a23, a24⟩ := I
  exact ⟨a0, a1, a2, a3, a4, a5, a6, a7, a8, a9, a10, a11, a12, a13, a14, a15, a16, a17, a18, a19, ⟨h0, h1⟩, a21, a22, a23, a24⟩
theorem MS_s27 {u : St} {x : Int32} (I : MS u) (h0 : 0 ≤ x.toInt) (h1 : x.toInt ≤ 1) : MS (ss u 27 x) := by
  obtain ⟨a0, a1, a2, a3, a4, a5, a6, a7, a8, a9, a10, a11, a12, a13, a14, a15, a16, a17, a18, a19, a20, a21, a22, a23, a24⟩ := I
  exact ⟨a0, a1, a2, a3, a4, a5, a6, a7, a8, a9, a10, a11, a12, a13, a14, a15, a16, a17, a18, a19, a20, ⟨h0, h1⟩, a22, a23, a24⟩
theorem MS_s28 {u : St} {x : Int32} (I : MS u) (h0 : 0 ≤ x.toInt) (h1 : x.toInt ≤ 9) : MS (ss u 28 x) := by
  obtain ⟨a0, a1, a2, a3, a4, a5, a6, a7, a8, a9, a10, a11, a12, a13, a14, a15, a16, a17, a18, a19, a20, a21, a22, a23, a24⟩ := I
  exact ⟨a0, a1, a2, a3, a4, a5, a6, a7, a8, a9, a10, a11, a12, a13, a14, a15, a16, a17, a18, a19, a20, a21, ⟨h0, h1⟩, a23, a24⟩
theorem MS_s29 {u : St} {x : Int32} (I : MS u) (h0 : 0 ≤ x.toInt) (h1 : x.toInt ≤ 1) : MS (ss u 29 x) := by
  obtain ⟨a0, a1, a2, a3, a4, a5, a6, a7, a8, a9, a10, a11, a12, a13, a14, a15, a16, a17, a18, a19, a20, a21, a22, a23, a24⟩ := I
  exact ⟨a0, a1, a2, a3, a4, a5, a6, a7, a8, a9, a10, a11, a12, a13, a14, a15, a16, a17, a18, a19, a20, a21, a22, ⟨h0, h1⟩, a24⟩
theorem MS_s30 {u : St} {x : Int32} (I : MS u) (h0 : 0 ≤ x.toInt) (h1 : x.toInt ≤ 4000) : MS (ss u 30 x) := by
  obtain ⟨a0, a1, a2, a3, a4, a5, a6, a7, a8, a9, a10, a11, a12, a13, a14, a15, a16, a17, a18, a19, a20, a21, a22, a23, a24⟩ := I
  exact ⟨a0, a1, a2, a3, a4, a5, a6, a7, a8, a9, a10, a11, a12, a13, a14, a15, a16, a17, a18, a19, a20, a21, a22, a23, ⟨h0, h1⟩⟩
theorem IT_a5 {u : St} (I : IT u) (i : Int32) : 0 ≤ (ga u 5 i).toInt ∧ (ga u 5 i).toInt ≤ 16 := I.2.1.1 _
theorem IT_a6 {u : St} (I : IT u) (i : Int32) : 0 ≤ (ga u 6 i).toInt ∧ (ga u 6 i).toInt ≤ 8 := I.2.1.2.1 _
theorem IT_a8 {u : St} (I : IT u) (i : Int32) : 0 ≤ (ga u 8 i).toInt ∧ (ga u 8 i).toInt ≤ 16 := I.2.1.2.2.1 _
theorem IT_a17 {u : St} (I : IT u) (i : Int32) : 0 ≤ (ga u 17 i).toInt ∧ (ga u 17 i).toInt ≤ 31 := I.2.1.2.2.2.1 _
theorem IT_a36 {u : St} (I : IT u) (i : Int32) : 0 ≤ (ga u 36 i).toInt ∧ (ga u 36 i).toInt ≤ 16 := I.2.1.2.2.2.2.1 _
theorem IT_a24 {u : St} (I : IT u) (i : Int32) : -1 ≤ (ga u 24 i).toInt ∧ (ga u 24 i).toInt ≤ 7 := I.2.1.2.2.2.2.2.1 _
theorem IT_a28 {u : St} (I : IT u) (i : Int32) : -1 ≤ (ga u 28 i).toInt ∧ (ga u 28 i).toInt ≤ 7 := I.2.1.2.2.2.2.2.2 _
