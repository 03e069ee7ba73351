/-! THE CLASS'S INVARIANT: sizes within their arrays, bytes in the typed text, parameters' numbers small, lists within their rooms -/
def tkq (e : Int32) : Prop := (e >>> (16 &&& 31)) = 4 → ((e &&& 65535) &&& 31).toInt = 1
def IA (u : St) : Prop := (∀ j : Nat, fits .byte (.int (u.2.1 0 j)) = true) ∧ (∀ j : Nat, 0 ≤ (u.2.1 3 j).toInt ∧ (u.2.1 3 j).toInt ≤ 8) ∧ (∀ j : Nat, (u.2.1 8 j).toInt ≠ 28 ∨ (u.2.1 9 j).toInt ≤ 300) ∧ (∀ j : Nat, tkq (u.2.1 7 j)) ∧ (∀ j : Nat, 0 ≤ (u.2.1 17 j).toInt ∧ (j < 14 → (u.2.1 17 j).toInt ≤ (gst 0 (nI j)).toInt)) ∧ (∀ j : Nat, (j < 8 ∨ 27 ≤ j ∧ j < 35 ∨ 458 ≤ j ∧ j < 658) → -1 ≤ (u.2.1 18 j).toInt ∧ (u.2.1 18 j).toInt ≤ 200)
def IS (u : St) : Prop := (0 ≤ (u.1 0).toInt ∧ (u.1 0).toInt ≤ 2000) ∧ (0 ≤ (u.1 1).toInt ∧ (u.1 1).toInt ≤ 8) ∧ (0 ≤ (u.1 2).toInt ∧ (u.1 2).toInt ≤ 2000) ∧ (0 ≤ (u.1 3).toInt ∧ (u.1 3).toInt ≤ 2000) ∧ (0 ≤ (u.1 4).toInt ∧ (u.1 4).toInt ≤ 2000) ∧ (0 ≤ (u.1 5).toInt ∧ (u.1 5).toInt ≤ 2000) ∧ (0 ≤ (u.1 6).toInt ∧ (u.1 6).toInt ≤ 200) ∧ (0 ≤ (u.1 7).toInt ∧ (u.1 7).toInt ≤ 1) ∧ (0 ≤ (u.1 8).toInt ∧ (u.1 8).toInt ≤ 1) ∧ (0 ≤ (u.1 24).toInt ∧ (u.1 24).toInt ≤ 300)
def IC (u : St) : Prop := IS u ∧ IA u
theorem IC_b {u : St} (I : IC u) : (0 ≤ (u.1 0).toInt ∧ (u.1 0).toInt ≤ 2000) ∧ (0 ≤ (u.1 1).toInt ∧ (u.1 1).toInt ≤ 8) ∧ (0 ≤ (u.1 2).toInt ∧ (u.1 2).toInt ≤ 2000) ∧ (0 ≤ (u.1 3).toInt ∧ (u.1 3).toInt ≤ 2000) ∧ (0 ≤ (u.1 4).toInt ∧ (u.1 4).toInt ≤ 2000) ∧ (0 ≤ (u.1 5).toInt ∧ (u.1 5).toInt ≤ 2000) ∧ (0 ≤ (u.1 6).toInt ∧ (u.1 6).toInt ≤ 200) ∧ (0 ≤ (u.1 7).toInt ∧ (u.1 7).toInt ≤ 1) ∧ (0 ≤ (u.1 8).toInt ∧ (u.1 8).toInt ≤ 1) ∧ (0 ≤ (u.1 24).toInt ∧ (u.1 24).toInt ≤ 300) := I.1
theorem IC_s0 {u : St} {x : Int32} (I : IC u) (h0 : 0 ≤ x.toInt) (h1 : x.toInt ≤ 2000) : IC (ss u 0 x) := by
  obtain ⟨⟨a0, a1, a2, a3, a4, a5, a6, a7, a8, a9⟩, b⟩ := I
  exact ⟨⟨⟨h0, h1⟩, a1, a2, a3, a4, a5, a6, a7, a8, a9⟩, b⟩
theorem IC_s1 {u : St} {x : Int32} (I : IC u) (h0 : 0 ≤ x.toInt) (h1 : x.toInt ≤ 8) : IC (ss u 1 x) := by
  obtain ⟨⟨a0, a1, a2, a3, a4, a5, a6, a7, a8, a9⟩, b⟩ := I
  exact ⟨⟨a0, ⟨h0, h1⟩, a2, a3, a4, a5, a6, a7, a8, a9⟩, b⟩
theorem IC_s2 {u : St} {x : Int32} (I : IC u) (h0 : 0 ≤ x.toInt) (h1 : x.toInt ≤ 2000) : IC (ss u 2 x) := by
  obtain ⟨⟨a0, a1, a2, a3, a4, a5, a6, a7, a8, a9⟩, b⟩ := I
  exact ⟨⟨a0, a1, ⟨h0, h1⟩, a3, a4, a5, a6, a7, a8, a9⟩, b⟩
theorem IC_s3 {u : St} {x : Int32} (I : IC u) (h0 : 0 ≤ x.toInt) (h1 : x.toInt ≤ 2000) : IC (ss u 3 x) := by
  obtain ⟨⟨a0, a1, a2, a3, a4, a5, a6, a7, a8, a9⟩, b⟩ := I
  exact ⟨⟨a0, a1, a2, ⟨h0, h1⟩, a4, a5, a6, a7, a8, a9⟩, b⟩
theorem IC_s4 {u : St} {x : Int32} (I : IC u) (h0 : 0 ≤ x.toInt) (h1 : x.toInt ≤ 2000) : IC (ss u 4 x) := by
  obtain ⟨⟨a0, a1, a2, a3, a4, a5, a6, a7, a8, a9⟩, b⟩ := I
  exact ⟨⟨a0, a1, a2, a3, ⟨h0, h1⟩, a5, a6, a7, a8, a9⟩, b⟩
theorem IC_s5 {u : St} {x : Int32} (I : IC u) (h0 : 0 ≤ x.toInt) (h1 : x.toInt ≤ 2000) : IC (ss u 5 x) := by
  obtain ⟨⟨a0, a1, a2, a3, a4, a5, a6, a7, a8, a9⟩, b⟩ := I
  exact ⟨⟨a0, a1, a2, a3, a4, ⟨h0, h1⟩, a6, a7, a8, a9⟩, b⟩
theorem IC_s6 {u : St} {x : Int32} (I : IC u) (h0 : 0 ≤ x.toInt) (h1 : x.toInt ≤ 200) : IC (ss u 6 x) := by
  obtain ⟨⟨a0, a1, a2, a3, a4, a5, a6, a7, a8, a9⟩, b⟩ := I
  exact ⟨⟨a0, a1, a2, a3, a4, a5, ⟨h0, h1⟩, a7, a8, a9⟩, b⟩
theorem IC_s7 {u : St} {x : Int32} (I : IC u) (h0 : 0 ≤ x.toInt) (h1 : x.toInt ≤ 1) : IC (ss u 7 x) := by
  obtain ⟨⟨a0, a1, a2, a3, a4, a5, a6, a7, a8, a9⟩, b⟩ := I
  exact ⟨⟨a0, a1, a2, a3, a4, a5, a6, ⟨h0, h1⟩, a8, a9⟩, b⟩
theorem IC_s8 {u : St} {x : Int32} (I : IC u) (h0 : 0 ≤ x.toInt) (h1 : x.toInt ≤ 1) : IC (ss u 8 x) := by
  obtain ⟨⟨a0, a1, a2, a3, a4, a5, a6, a7, a8, a9⟩, b⟩ := I
  exact ⟨⟨a0, a1, a2, a3, a4, a5, a6, a7, ⟨h0, h1⟩, a9⟩, b⟩
theorem IC_s24 {u : St} {x : Int32} (I : IC u) (h0 : 0 ≤ x.toInt) (h1 : x.toInt ≤ 300) : IC (ss u 24 x) := by
  obtain ⟨⟨a0, a1, a2, a3, a4, a5, a6, a7, a8, a9⟩, b⟩ := I
  exact ⟨⟨a0, a1, a2, a3, a4, a5, a6, a7, a8, ⟨h0, h1⟩⟩, b⟩
theorem IC_a0 {u : St} {i x : Int32} (I : IC u) (hx : fits .byte (.int x) = true) : IC (sa u 0 i x) := by
  obtain ⟨s, b0, b1, b2, b3, b4, b5⟩ := I
  refine ⟨s, ?_, b1, b2, b3, b4, b5⟩
  intro j
  show fits .byte (.int (upd (u.2.1 0) i.toNatClampNeg x j)) = true
  by_cases h : j = i.toNatClampNeg
  · rw [h, pk_us]; exact hx
  · rw [pk_un h]; exact b0 j
theorem IC_a3 {u : St} {i x : Int32} (I : IC u) (h0 : 0 ≤ x.toInt) (h1 : x.toInt ≤ 8) : IC (sa u 3 i x) := by
  obtain ⟨s, b0, b1, b2, b3, b4, b5⟩ := I
  refine ⟨s, b0, ?_, b2, b3, b4, b5⟩
  intro j
  show 0 ≤ (upd (u.2.1 3) i.toNatClampNeg x j).toInt ∧ (upd (u.2.1 3) i.toNatClampNeg x j).toInt ≤ 8
  by_cases h : j = i.toNatClampNeg
  · rw [h, pk_us]; exact ⟨h0, h1⟩
  · rw [pk_un h]; exact b1 j
theorem IC_a9 {u : St} {i x : Int32} (I : IC u) (hx : x.toInt ≤ 300) : IC (sa u 9 i x) := by
  obtain ⟨s, b0, b1, b2, b3, b4, b5⟩ := I
  refine ⟨s, b0, b1, ?_, b3, b4, b5⟩
  intro j
  show (u.2.1 8 j).toInt ≠ 28 ∨ (upd (u.2.1 9) i.toNatClampNeg x j).toInt ≤ 300
  by_cases h : j = i.toNatClampNeg
  · rw [h, pk_us]; exact Or.inr hx
  · rw [pk_un h]; exact b2 j
theorem IC_a7 {u : St} {i x : Int32} (I : IC u) (hx : tkq x) : IC (sa u 7 i x) := by
  obtain ⟨s, b0, b1, b2, b3, b4, b5⟩ := I
  refine ⟨s, b0, b1, b2, ?_, b4, b5⟩
  intro j
  show tkq (upd (u.2.1 7) i.toNatClampNeg x j)
  by_cases h : j = i.toNatClampNeg
  · rw [h, pk_us]; exact hx
  · rw [pk_un h]; exact b3 j
theorem IC_a89 {u : St} {i x y : Int32} (I : IC u) (hx : x.toInt ≠ 28 ∨ y.toInt ≤ 300) : IC (sa (sa u 8 i x) 9 i y) := by
  obtain ⟨s, b0, b1, b2, b3, b4, b5⟩ := I
  refine ⟨s, b0, b1, ?_, b3, b4, b5⟩
  intro j
  show (upd (u.2.1 8) i.toNatClampNeg x j).toInt ≠ 28 ∨ (upd (u.2.1 9) i.toNatClampNeg y j).toInt ≤ 300
  by_cases h : j = i.toNatClampNeg
  · rw [h, pk_us, pk_us]; exact hx
  · rw [pk_un h, pk_un h]; exact b2 j
theorem IC_a17 {u : St} {i x : Int32} (I : IC u) (h0 : 0 ≤ x.toInt) (hi : 0 ≤ i.toInt) (h1 : x.toInt ≤ (gst 0 i).toInt) : IC (sa u 17 i x) := by
  obtain ⟨s, b0, b1, b2, b3, b4, b5⟩ := I
  refine ⟨s, b0, b1, b2, b3, ?_, b5⟩
  intro j
  show 0 ≤ (upd (u.2.1 17) i.toNatClampNeg x j).toInt ∧ (j < 14 → (upd (u.2.1 17) i.toNatClampNeg x j).toInt ≤ (gst 0 (nI j)).toInt)
  by_cases h : j = i.toNatClampNeg
  · rw [h, pk_us]
    refine ⟨h0, fun _ => ?_⟩
    have e : nI i.toNatClampNeg = i := by
      obtain ⟨k, hk, ek⟩ := nI_of (nn_of hi).1
      rw [ek, nI_clamp hk]
    rw [e]; exact h1
  · rw [pk_un h]; exact b4 j
theorem IC_a18 {u : St} {i x : Int32} (I : IC u) (h : (i.toNatClampNeg < 8 ∨ 27 ≤ i.toNatClampNeg ∧ i.toNatClampNeg < 35 ∨ 458 ≤ i.toNatClampNeg ∧ i.toNatClampNeg < 658) → -1 ≤ x.toInt ∧ x.toInt ≤ 200) : IC (sa u 18 i x) := by
  obtain ⟨s, b0, b1, b2, b3, b4, b5⟩ := I
  refine ⟨s, b0, b1, b2, b3, b4, ?_⟩
  intro j hj
  show -1 ≤ (upd (u.2.1 18) i.toNatClampNeg x j).toInt ∧ (upd (u.2.1 18) i.toNatClampNeg x j).toInt ≤ 200
  by_cases e : j = i.toNatClampNeg
  · rw [e, pk_us]; exact h (e ▸ hj)
  · rw [pk_un e]; exact b5 j hj
theorem IC_col {u : St} (I : IC u) (i : Int32) : 0 ≤ (ga u 3 i).toInt ∧ (ga u 3 i).toInt ≤ 8 := I.2.2.1 _
theorem IC_par {u : St} (I : IC u) (i : Int32) : (ga u 8 i).toInt ≠ 28 ∨ (ga u 9 i).toInt ≤ 300 := I.2.2.2.1 _
theorem IC_tok {u : St} (I : IC u) (i : Int32) : tkq (ga u 7 i) := I.2.2.2.2.1 _
theorem gst_t : ∀ j : Fin 14, 0 ≤ (gst 0 (nI j.val)).toInt ∧ (gst 0 (nI j.val)).toInt ≤ 200 ∧ 0 ≤ (gst 1 (nI j.val)).toInt ∧ (gst 1 (nI j.val)).toInt + (gst 0 (nI j.val)).toInt ≤ 666 ∧ ((j.val = 0 ∧ (gst 1 (nI j.val)).toInt = 0 ∧ (gst 0 (nI j.val)).toInt = 8) ∨ (j.val = 5 ∧ (gst 1 (nI j.val)).toInt = 27 ∧ (gst 0 (nI j.val)).toInt = 8) ∨ (j.val = 12 ∧ (gst 1 (nI j.val)).toInt = 458 ∧ (gst 0 (nI j.val)).toInt = 200) ∨ (j.val ≠ 0 ∧ j.val ≠ 5 ∧ j.val ≠ 12 ∧ (8 ≤ (gst 1 (nI j.val)).toInt ∧ (gst 1 (nI j.val)).toInt + (gst 0 (nI j.val)).toInt ≤ 27 ∨ 35 ≤ (gst 1 (nI j.val)).toInt ∧ (gst 1 (nI j.val)).toInt + (gst 0 (nI j.val)).toInt ≤ 458 ∨ 658 ≤ (gst 1 (nI j.val)).toInt))) := by decide +kernel
theorem gst_f {i : Int32} (h0 : 0 ≤ i.toInt) (h1 : i.toInt < 14) : 0 ≤ (gst 0 i).toInt ∧ (gst 0 i).toInt ≤ 200 ∧ 0 ≤ (gst 1 i).toInt ∧ (gst 1 i).toInt + (gst 0 i).toInt ≤ 666 ∧ ((i.toInt = 0 ∧ (gst 1 i).toInt = 0 ∧ (gst 0 i).toInt = 8) ∨ (i.toInt = 5 ∧ (gst 1 i).toInt = 27 ∧ (gst 0 i).toInt = 8) ∨ (i.toInt = 12 ∧ (gst 1 i).toInt = 458 ∧ (gst 0 i).toInt = 200) ∨ (i.toInt ≠ 0 ∧ i.toInt ≠ 5 ∧ i.toInt ≠ 12 ∧ (8 ≤ (gst 1 i).toInt ∧ (gst 1 i).toInt + (gst 0 i).toInt ≤ 27 ∨ 35 ≤ (gst 1 i).toInt ∧ (gst 1 i).toInt + (gst 0 i).toInt ≤ 458 ∨ 658 ≤ (gst 1 i).toInt))) := by
  obtain ⟨k, hk, rfl⟩ := nI_of (nn_of h0).1
  rw [nI_toInt hk] at h1
  have t := gst_t ⟨k, by omega⟩
  rw [nI_toInt hk]
  simp only at t
  omega
theorem IC_siz {u : St} (I : IC u) {i : Int32} (h0 : 0 ≤ i.toInt) (h1 : i.toInt < 14) : 0 ≤ (ga u 17 i).toInt ∧ (ga u 17 i).toInt ≤ (gst 0 i).toInt := by
  obtain ⟨k, hk, rfl⟩ := nI_of (nn_of h0).1
  rw [nI_toInt hk] at h1
  have t := I.2.2.2.2.2.1 k
  show 0 ≤ (u.2.1 17 (nI k).toNatClampNeg).toInt ∧ (u.2.1 17 (nI k).toNatClampNeg).toInt ≤ _
  rw [nI_clamp hk]
  exact ⟨t.1, t.2 (by omega)⟩
theorem IC_ent {u : St} (I : IC u) {i : Int32} (h0 : 0 ≤ i.toInt) (h1 : i.toInt < 8 ∨ 27 ≤ i.toInt ∧ i.toInt < 35 ∨ 458 ≤ i.toInt ∧ i.toInt < 658) : -1 ≤ (ga u 18 i).toInt ∧ (ga u 18 i).toInt ≤ 200 := by
  have c := cl_of h0
  exact I.2.2.2.2.2.2 _ (by omega)
theorem tkq_of {k a z : Nat} (hk : k < 5) (ha : a < 2048) (hz : z < 32) (h4 : k = 4 → z = 1) : tkq ((nI k <<< (16 &&& 31)) ||| ((nI a <<< (5 &&& 31)) ||| nI z)) := by
  have e1 : nI a <<< (5 &&& 31) = nI (a * 2 ^ 5) := pk_shlN _ 5 (by decide) (by omega)
  have e2 : nI k <<< (16 &&& 31) = nI (k * 2 ^ 16) := pk_shlN _ 16 (by decide) (by omega)
  have e3 : nI (a * 2 ^ 5) ||| nI z = nI (a * 2 ^ 5 + z) := or_n 5 (by omega) (by omega)
  have e4 : nI (k * 2 ^ 16) ||| nI (a * 2 ^ 5 + z) = nI (k * 2 ^ 16 + (a * 2 ^ 5 + z)) := or_n 16 (by omega) (by omega)
  rw [e1, e2, e3, e4]
  intro h
  rw [pk_shrN (by omega) _ 16 (by decide)] at h
  have h' := congrArg Int32.toInt h
  rw [nI_toInt (by omega)] at h'
  have l4 : (4 : Int32).toInt = 4 := by decide
  have hk4 : k = 4 := by omega
  have hz1 := h4 hk4
  rw [pk_andN (by omega) 16 (by decide), pk_andN (by omega) 5 (by decide), nI_toInt (by omega)]
  omega
