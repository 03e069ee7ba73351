/-! NO MODEL ANSWERS none: 'ok o P': o is some x with P x; 'okM': o is some (z, v) with Q z v. Path conditions come as facts of Int, for omega -/
def ok {α : Type} (o : Option α) (P : α → Prop) : Prop := ∃ x, o = some x ∧ P x
def okM {α σ : Type} (o : Option (α × σ)) (Q : α → σ → Prop) : Prop := ∃ z v, o = some (z, v) ∧ Q z v
section
variable {α β τ : Type} {Q : α → Prop} {A B : Option α} {x y : Int32}
theorem ok_some {a : α} (h : Q a) : ok (some a) Q := ⟨a, rfl, h⟩
theorem ok_mono {R : α → Prop} {o : Option α} (h : ok o R) (hq : ∀ a, R a → Q a) : ok o Q := by
  obtain ⟨a, e, q⟩ := h
  exact ⟨a, e, hq a q⟩
theorem ok_lt {d : Decidable (x < y)} (h1 : x.toInt < y.toInt → ok A Q) (h2 : y.toInt ≤ x.toInt → ok B Q) : ok (@ite _ (x < y) d A B) Q := by
  by_cases h : x < y
  · rw [if_pos h]; exact h1 (Int32.lt_iff_toInt_lt.mp h)
  · rw [if_neg h]; exact h2 (Int32.le_iff_toInt_le.mp (Int32.not_lt.mp h))
theorem ok_le {d : Decidable (x ≤ y)} (h1 : x.toInt ≤ y.toInt → ok A Q) (h2 : y.toInt < x.toInt → ok B Q) : ok (@ite _ (x ≤ y) d A B) Q := by
  by_cases h : x ≤ y
  · rw [if_pos h]; exact h1 (Int32.le_iff_toInt_le.mp h)
  · rw [if_neg h]; exact h2 (Int32.lt_iff_toInt_lt.mp (Int32.not_le.mp h))
theorem ok_eq {d : Decidable (x = y)} (h1 : x.toInt = y.toInt → x = y → ok A Q) (h2 : x.toInt ≠ y.toInt → ok B Q) : ok (@ite _ (x = y) d A B) Q := by
  by_cases h : x = y
  · rw [if_pos h]; exact h1 (by rw [h]) h
  · rw [if_neg h]; exact h2 (fun e => h (Int32.toInt_inj.mp e))
theorem ok_pos {c : Prop} {d : Decidable c} (h : c) (k : ok A Q) : ok (@ite _ c d A B) Q := by rw [if_pos h]; exact k
theorem ok_neg {c : Prop} {d : Decidable c} (h : ¬ c) (k : ok B Q) : ok (@ite _ c d A B) Q := by rw [if_neg h]; exact k
theorem ok_gd {b : Bool} (hb : b = true) (h : ok A Q) : ok (gd b A) Q := by subst hb; exact h
theorem ok_seq {K : β → Option α} {v : β} (h : ∀ z, z = v → ok (K z) Q) : ok (seq v K) Q := h v rfl
theorem ok_bP {o : Option β} {R : β → Prop} {K : β → Option α} (h : ok o R) (k : ∀ z, R z → ok (K z) Q) : ok (bP o K) Q := by
  obtain ⟨z, rfl, q⟩ := h
  exact k z q
theorem ok_bM {o : Option (β × τ)} {R : β → τ → Prop} {K : β → τ → Option α} (h : okM o R) (k : ∀ z v, R z v → ok (K z v) Q) : ok (bM o K) Q := by
  obtain ⟨z, v, rfl, q⟩ := h
  exact k z v q
end
section
variable {α σ β τ : Type} {Q : α → σ → Prop} {A B : Option (α × σ)} {x y : Int32}
theorem okM_some {z : α} {v : σ} (h : Q z v) : okM (some (z, v)) Q := ⟨z, v, rfl, h⟩
theorem okM_mono {R : α → σ → Prop} {o : Option (α × σ)} (h : okM o R) (hq : ∀ z v, R z v → Q z v) : okM o Q := by
  obtain ⟨z, v, e, q⟩ := h
  exact ⟨z, v, e, hq z v q⟩
theorem okM_lt {d : Decidable (x < y)} (h1 : x.toInt < y.toInt → okM A Q) (h2 : y.toInt ≤ x.toInt → okM B Q) : okM (@ite _ (x < y) d A B) Q := by
  by_cases h : x < y
  · rw [if_pos h]; exact h1 (Int32.lt_iff_toInt_lt.mp h)
  · rw [if_neg h]; exact h2 (Int32.le_iff_toInt_le.mp (Int32.not_lt.mp h))
theorem okM_le {d : Decidable (x ≤ y)} (h1 : x.toInt ≤ y.toInt → okM A Q) (h2 : y.toInt < x.toInt → okM B Q) : okM (@ite _ (x ≤ y) d A B) Q := by
  by_cases h : x ≤ y
  · rw [if_pos h]; exact h1 (Int32.le_iff_toInt_le.mp h)
  · rw [if_neg h]; exact h2 (Int32.lt_iff_toInt_lt.mp (Int32.not_le.mp h))
theorem okM_eq {d : Decidable (x = y)} (h1 : x.toInt = y.toInt → x = y → okM A Q) (h2 : x.toInt ≠ y.toInt → okM B Q) : okM (@ite _ (x = y) d A B) Q := by
  by_cases h : x = y
  · rw [if_pos h]; exact h1 (by rw [h]) h
  · rw [if_neg h]; exact h2 (fun e => h (Int32.toInt_inj.mp e))
theorem okM_pos {c : Prop} {d : Decidable c} (h : c) (k : okM A Q) : okM (@ite _ c d A B) Q := by rw [if_pos h]; exact k
theorem okM_neg {c : Prop} {d : Decidable c} (h : ¬ c) (k : okM B Q) : okM (@ite _ c d A B) Q := by rw [if_neg h]; exact k
theorem okM_gd {b : Bool} (hb : b = true) (h : okM A Q) : okM (gd b A) Q := by subst hb; exact h
theorem okM_seq {K : β → Option (α × σ)} {v : β} (h : ∀ z, z = v → okM (K z) Q) : okM (seq v K) Q := h v rfl
theorem okM_bP {o : Option β} {R : β → Prop} {K : β → Option (α × σ)} (h : ok o R) (k : ∀ z, R z → okM (K z) Q) : okM (bP o K) Q := by
  obtain ⟨z, rfl, q⟩ := h
  exact k z q
theorem okM_bM {o : Option (β × τ)} {R : β → τ → Prop} {K : β → τ → Option (α × σ)} (h : okM o R) (k : ∀ z v, R z v → okM (K z v) Q) : okM (bM o K) Q := by
  obtain ⟨z, v, rfl, q⟩ := h
  exact k z v q
end
theorem inb_of {i : Int32} {n : Nat} (h0 : 0 ≤ i.toInt) (h1 : i.toInt < n) : inb i n = true := decide_eq_true ⟨h0, h1⟩
theorem zb_of {x : Int32} (h0 : 0 ≤ x.toInt) (h1 : x.toInt ≤ 1) : zb x = true := by
  have inj : ∀ k : Int32, x.toInt = k.toInt → x = k := fun k h => Int32.toInt_inj.mp h
  rcases (show x.toInt = 0 ∨ x.toInt = 1 by omega) with h | h
  · exact decide_eq_true (Or.inl (inj 0 h))
  · exact decide_eq_true (Or.inr (inj 1 h))
theorem add_i {a b : Int32} (h0 : -2147483648 ≤ a.toInt + b.toInt) (h1 : a.toInt + b.toInt < 2147483648) : (a + b).toInt = a.toInt + b.toInt := by
  rw [Int32.toInt_add]
  exact Int.bmod_eq_of_le (by omega) (by omega)
theorem sub_i {a b : Int32} (h0 : -2147483648 ≤ a.toInt - b.toInt) (h1 : a.toInt - b.toInt < 2147483648) : (a - b).toInt = a.toInt - b.toInt := by
  rw [Int32.toInt_sub]
  exact Int.bmod_eq_of_le (by omega) (by omega)
theorem dec_i {a : Int32} (h0 : -2147483647 ≤ a.toInt) : (a + (-1)).toInt = a.toInt - 1 := by
  have l : (-1 : Int32).toInt = -1 := by decide
  have h1 := a.toInt_lt
  rw [Int32.toInt_add, l]
  generalize a.toInt = z at h0 h1
  exact Int.bmod_eq_of_le (by omega) (by omega)
theorem muc_i {a c : Int32} {k : Int} (hc : c.toInt = k) (h0 : -2147483648 ≤ a.toInt * k) (h1 : a.toInt * k < 2147483648) : (a * c).toInt = a.toInt * k := by
  rw [Int32.toInt_mul, hc]
  exact Int.bmod_eq_of_le (by omega) (by omega)
theorem cmu_i {a c : Int32} {k : Int} (hc : c.toInt = k) (h0 : -2147483648 ≤ k * a.toInt) (h1 : k * a.toInt < 2147483648) : (c * a).toInt = k * a.toInt := by
  rw [Int32.toInt_mul, hc]
  exact Int.bmod_eq_of_le (by omega) (by omega)
theorem cl_of {i : Int32} (h0 : 0 ≤ i.toInt) : (i.toNatClampNeg : Int) = i.toInt := (nn_of h0).2
theorem cl_nI {i : Int32} {n : Nat} (h0 : 0 ≤ i.toInt) (h1 : i.toInt < n) : ∃ j : Nat, j < n ∧ i.toNatClampNeg = j ∧ i.toInt = j := ⟨i.toNatClampNeg, by have := cl_of h0; omega, rfl, (cl_of h0).symm⟩
theorem us_same {α : Type} {f : Nat → α} {k : Nat} {x : α} : us f k x k = x := by
  unfold us
  rw [Nat.beq_refl]
theorem us_ne {α : Type} {f : Nat → α} {k j : Nat} {x : α} (h : j ≠ k) : us f k x j = f j := by
  have e : Nat.beq j k = false := by
    cases q : Nat.beq j k
    · rfl
    · exact absurd (Nat.eq_of_beq_eq_true q) h
  show (match Nat.beq j k with | true => x | false => f j) = f j
  rw [e]
def inL : List Nat → Nat → Bool
  | [], _ => false
  | x :: l, j => Nat.beq x j || inL l j
def subL : List Nat → List Nat → Bool
  | [], _ => true
  | x :: l, m => inL m x && subL l m
theorem subL_in {m : List Nat} {j : Nat} : ∀ {l : List Nat}, subL l m = true → inL l j = true → inL m j = true := by
  intro l
  induction l with
  | nil => intro _ h; cases h
  | cons x l ih =>
    intro h1 h2
    have a : inL m x = true ∧ subL l m = true := by
      have h : (inL m x && subL l m) = true := h1
      revert h
      cases inL m x <;> cases subL l m <;> decide
    have b : Nat.beq x j = true ∨ inL l j = true := by
      have h : (Nat.beq x j || inL l j) = true := h2
      revert h
      cases Nat.beq x j <;> cases inL l j <;> decide
    rcases b with b | b
    · rw [← Nat.eq_of_beq_eq_true b]; exact a.1
    · exact ih a.2 b
theorem inL_ne {l : List Nat} {k j : Nat} (h : inL l k = true) (g : inL l j = false) : j ≠ k := fun e => by
  rw [e, h] at g
  cases g
def Fq (ks as : List Nat) (u v : St) : Prop := (∀ j, inL ks j = false → v.1 j = u.1 j) ∧ (∀ j, inL as j = false → v.2.1 j = u.2.1 j)
theorem Fq_rfl {ks as : List Nat} (u : St) : Fq ks as u u := ⟨fun _ _ => rfl, fun _ _ => rfl⟩
theorem Fq_ss {ks as : List Nat} {u v : St} {k : Nat} {x : Int32} (F : Fq ks as u v) (h : inL ks k = true) : Fq ks as u (ss v k x) := by
  refine ⟨fun j hj => ?_, F.2⟩
  show us v.1 k x j = _
  rw [us_ne (inL_ne h hj)]
  exact F.1 j hj
theorem Fq_sa {ks as : List Nat} {u v : St} {k : Nat} {i x : Int32} (F : Fq ks as u v) (h : inL as k = true) : Fq ks as u (sa v k i x) := by
  refine ⟨F.1, fun j hj => ?_⟩
  show us v.2.1 k _ j = _
  rw [us_ne (inL_ne h hj)]
  exact F.2 j hj
theorem Fq_sA {ks as : List Nat} {u v : St} {k : Nat} {f : Nat → Int32} (F : Fq ks as u v) (h : inL as k = true) : Fq ks as u (sA v k f) := by
  refine ⟨F.1, fun j hj => ?_⟩
  show us v.2.1 k _ j = _
  rw [us_ne (inL_ne h hj)]
  exact F.2 j hj
theorem Fq_tr {ks as ks' as' : List Nat} {u v w : St} (F : Fq ks as u v) (G : Fq ks' as' v w) (hk : subL ks' ks = true) (ha : subL as' as = true) : Fq ks as u w := by
  have nk : ∀ j, inL ks j = false → inL ks' j = false := fun j hj => by
    cases q : inL ks' j
    · rfl
    · rw [subL_in hk q] at hj; cases hj
  have na : ∀ j, inL as j = false → inL as' j = false := fun j hj => by
    cases q : inL as' j
    · rfl
    · rw [subL_in ha q] at hj; cases hj
  exact ⟨fun j hj => (G.1 j (nk j hj)).trans (F.1 j hj), fun j hj => (G.2 j (na j hj)).trans (F.2 j hj)⟩
theorem mx_i {x y : Int32} (h : y = if x < 0 then 0 else x) : 0 ≤ y.toInt ∧ ((x.toInt < 0 ∧ y.toInt = 0) ∨ y.toInt = x.toInt) := by
  have l0 : (0 : Int32).toInt = 0 := by decide
  by_cases c : x < 0
  · rw [if_pos c] at h
    have c' := Int32.lt_iff_toInt_lt.mp c
    rw [h]
    omega
  · rw [if_neg c] at h
    have c' := Int32.le_iff_toInt_le.mp (Int32.not_lt.mp c)
    rw [h]
    omega
theorem ga_sa {u : St} {k : Nat} {i j x : Int32} : ga (sa u k i x) k j = if j.toNatClampNeg = i.toNatClampNeg then x else ga u k j := by
  show us u.2.1 k (upd (u.2.1 k) i.toNatClampNeg x) k j.toNatClampNeg = _
  rw [us_same]
  rfl
theorem or_n {a b : Nat} (k : Nat) (hb : b < 2 ^ k) (h : a * 2 ^ k + b < 2 ^ 32) : nI (a * 2 ^ k) ||| nI b = nI (a * 2 ^ k + b) := by
  apply Int32.toBitVec_inj.mp
  apply BitVec.eq_of_toNat_eq
  have h1 : a * 2 ^ k ||| b = a * 2 ^ k + b := by rw [← Nat.shiftLeft_eq, Nat.shiftLeft_add_eq_or_of_lt hb]
  rw [Int32.toBitVec_or, BitVec.toNat_or, pk_tn (by omega), pk_tn (by omega), pk_tn h, h1]
