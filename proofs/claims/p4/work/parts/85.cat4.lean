/-! THE TWO SIDES -/
def sC (f : Nat → Int32) : Int := (f 0).toInt + (f 1).toInt + (f 2).toInt + (f 3).toInt + (f 4).toInt + (f 5).toInt + (f 6).toInt + (f 7).toInt
theorem sC_upd {f : Nat → Int32} {t : Nat} {x : Int32} (h : t < 8) : sC (upd f t x) = sC f - (f t).toInt + x.toInt := by
  unfold sC
  rcases (show t = 0 ∨ t = 1 ∨ t = 2 ∨ t = 3 ∨ t = 4 ∨ t = 5 ∨ t = 6 ∨ t = 7 by omega) with rfl | rfl | rfl | rfl | rfl | rfl | rfl | rfl
  · rw [pk_us, pk_un (show (1 : Nat) ≠ 0 by decide), pk_un (show (2 : Nat) ≠ 0 by decide), pk_un (show (3 : Nat) ≠ 0 by decide), pk_un (show (4 : Nat) ≠ 0 by decide), pk_un (show (5 : Nat) ≠ 0 by decide), pk_un (show (6 : Nat) ≠ 0 by decide), pk_un (show (7 : Nat) ≠ 0 by decide)]
    omega
  · rw [pk_us, pk_un (show (0 : Nat) ≠ 1 by decide), pk_un (show (2 : Nat) ≠ 1 by decide), pk_un (show (3 : Nat) ≠ 1 by decide), pk_un (show (4 : Nat) ≠ 1 by decide), pk_un (show (5 : Nat) ≠ 1 by decide), pk_un (show (6 : Nat) ≠ 1 by decide), pk_un (show (7 : Nat) ≠ 1 by decide)]
    omega
  · rw [pk_us, pk_un (show (0 : Nat) ≠ 2 by decide), pk_un (show (1 : Nat) ≠ 2 by decide), pk_un (show (3 : Nat) ≠ 2 by decide), pk_un (show (4 : Nat) ≠ 2 by decide), pk_un (show (5 : Nat) ≠ 2 by decide), pk_un (show (6 : Nat) ≠ 2 by decide), pk_un (show (7 : Nat) ≠ 2 by decide)]
    omega
  · rw [pk_us, pk_un (show (0 : Nat) ≠ 3 by decide), pk_un (show (1 : Nat) ≠ 3 by decide), pk_un (show (2 : Nat) ≠ 3 by decide), pk_un (show (4 : Nat) ≠ 3 by decide), pk_un (show (5 : Nat) ≠ 3 by decide), pk_un (show (6 : Nat) ≠ 3 by decide), pk_un (show (7 : Nat) ≠ 3 by decide)]
    omega
  · rw [pk_us, pk_un (show (0 : Nat) ≠ 4 by decide), pk_un (show (1 : Nat) ≠ 4 by decide), pk_un (show (2 : Nat) ≠ 4 by decide), pk_un (show (3 : Nat) ≠ 4 by decide), pk_un (show (5 : Nat) ≠ 4 by decide), pk_un (show (6 : Nat) ≠ 4 by decide), pk_un (show (7 : Nat) ≠ 4 by decide)]
    omega
  · rw [pk_us, pk_un (show (0 : Nat) ≠ 5 by decide), pk_un (show (1 : Nat) ≠ 5 by decide), pk_un (show (2 : Nat) ≠ 5 by decide), pk_un (show (3 : Nat) ≠ 5 by decide), pk_un (show (4 : Nat) ≠ 5 by decide), pk_un (show (6 : Nat) ≠ 5 by decide), pk_un (show (7 : Nat) ≠ 5 by decide)]
    omega
  · rw [pk_us, pk_un (show (0 : Nat) ≠ 6 by decide), pk_un (show (1 : Nat) ≠ 6 by decide), pk_un (show (2 : Nat) ≠ 6 by decide), pk_un (show (3 : Nat) ≠ 6 by decide), pk_un (show (4 : Nat) ≠ 6 by decide), pk_un (show (5 : Nat) ≠ 6 by decide), pk_un (show (7 : Nat) ≠ 6 by decide)]
    omega
  · rw [pk_us, pk_un (show (0 : Nat) ≠ 7 by decide), pk_un (show (1 : Nat) ≠ 7 by decide), pk_un (show (2 : Nat) ≠ 7 by decide), pk_un (show (3 : Nat) ≠ 7 by decide), pk_un (show (4 : Nat) ≠ 7 by decide), pk_un (show (5 : Nat) ≠ 7 by decide), pk_un (show (6 : Nat) ≠ 7 by decide)]
    omega
def CT (c m : St) : Prop := (c.1 1).toInt = (m.1 3).toInt ∧ (c.1 2).toInt ≤ 16 * ((c.1 1).toInt + sC (c.2.1 3)) ∧ (∀ t : Nat, (t : Int) < (c.1 1).toInt → NM c (c.2.1 2 t) (m.2.1 4) (16 * t) (m.2.1 5 t) ∧ (c.2.1 3 t).toInt = (m.2.1 6 t).toInt ∧ ∀ k : Nat, (k : Int) < (c.2.1 3 t).toInt → NM c (c.2.1 4 (8 * t + k)) (m.2.1 7) (16 * (8 * t + k)) (m.2.1 8 (8 * t + k))) ∧ (∀ t : Nat, (c.1 1).toInt ≤ t → t < 8 → (c.2.1 3 t).toInt = 0)
def TX (c m : St) : Prop := (c.1 0).toInt = (m.1 0).toInt ∧ ∀ i : Nat, (i : Int) < (c.1 0).toInt → c.2.1 0 i = m.2.1 0 i
def RL (u : St × St) : Prop := IC u.1 ∧ IE u.2 ∧ TX u.1 u.2 ∧ CT u.1 u.2
theorem RL_un {c m : St} (R : RL (c, m)) : IC c ∧ IE m ∧ TX c m ∧ CT c m := R
theorem NM_ext {c c' : St} {s : Int32} {g g' : Nat → Int32} {off : Nat} {len : Int32} (h : NM c s g off len) (hs : (c.1 2).toInt ≤ (c'.1 2).toInt) (hn : ∀ j : Nat, (j : Int) < (c.1 2).toInt → c'.2.1 1 j = c.2.1 1 j) (hg : ∀ i, i < 16 → g' (off + i) = g (off + i)) : NM c' s g' off len := by
  obtain ⟨a, l, h1, h2, h3, h4, h5⟩ := h
  refine ⟨a, l, h1, by omega, h3, h4, fun i hi => ?_⟩
  rw [hn (a + i) (by omega), hg i (by omega)]
  exact h5 i hi
theorem CT_ext {c c' m m' : St} (C : CT c m) (h1 : c'.1 1 = c.1 1) (h2 : c'.1 2 = c.1 2) (a1 : c'.2.1 1 = c.2.1 1) (a2 : c'.2.1 2 = c.2.1 2) (a3 : c'.2.1 3 = c.2.1 3) (a4 : c'.2.1 4 = c.2.1 4) (K : Kc m m') : CT c' m' := by
  obtain ⟨k3, k4, k5, k6, k7, k8, k9⟩ := K
  unfold CT NM at C ⊢
  rw [h1, h2, a1, a2, a3, a4, k3, k4, k5, k6, k7, k8]
  exact C
theorem sC_le {c : St} (I : IC c) : sC (c.2.1 3) ≤ 64 := by
  have a := fun j => I.2.2.1 j
  have a0 := a 0
  have a1 := a 1
  have a2 := a 2
  have a3 := a 3
  have a4 := a 4
  have a5 := a 5
  have a6 := a 6
  have a7 := a 7
  unfold sC
  omega
theorem IC_byt {c : St} (I : IC c) (i : Nat) : byt (c.2.1 0 i) := byt_of (I.2.1 i)
theorem MT_ext {g : Nat → Int32} {off : Nat} {len : Int32} {f f' : Nat → Int32} {n : Nat} (h : ∀ i, i < n → f i = f' i) (M : MT g off len f n) : MT g off len f' n := ⟨M.1, fun i hi => by rw [← h i hi]; exact M.2 i hi⟩
/-! type -/
theorem RL_type {c m : St} {x1 : Int64} {x3 : Int32} (R : RL (c, m)) : okM (mC_SqlReader_type x1 x3 c) (fun r v => okM (mM_SqlReaderModel_type x1 x3 m) (fun s w => r = s ∧ RL (v, w))) := by
  obtain ⟨I, E, T, C⟩ := RL_un R
  have B := IC_b I
  have D := IE_b E
  have ts : (c.1 0).toInt = (m.1 0).toInt := T.1
  refine okM_mono (okM_and (kC_SqlReader_type I) (tyC (x1 := x1) (x3 := x3) (by omega) (by omega))) (fun r v hv => okM_mono (okM_and (kE_SqlReaderModel_type E) (tym (x1 := x1) (x3 := x3) (by omega) (by omega))) (fun s w hw => ?_))
  obtain ⟨⟨Iv, _, _⟩, hv⟩ := hv
  obtain ⟨⟨Ew, _⟩, hw⟩ := hw
  rcases hv with ⟨r1, cv, tv⟩ | ⟨r0, cv, ev⟩
  · rcases hw with ⟨s1, cw, tw⟩ | ⟨s0, cw, ew⟩
    · refine ⟨Int32.toInt_inj.mp (by omega), Iv, Ew, ?_, ?_⟩
      · obtain ⟨v0, v1, v2, v3, v4⟩ := tv
        obtain ⟨w0, w1, w2, w3, w4⟩ := tw
        refine ⟨by show (v.1 0).toInt = (w.1 0).toInt; omega, fun i hi => ?_⟩
        have hi' : (i : Int) < (v.1 0).toInt := hi
        show v.2.1 0 i = w.2.1 0 i
        by_cases h : (i : Int) < (c.1 0).toInt
        · rw [v3 i h, w3 i (by omega)]
          exact T.2 i h
        · have ei : i = (c.1 0).toInt.toNat + (i - (c.1 0).toInt.toNat) := by omega
          have ej : i = (m.1 0).toInt.toNat + (i - (c.1 0).toInt.toNat) := by omega
          have p := v4 (i - (c.1 0).toInt.toNat) (by omega)
          have q := w4 (i - (c.1 0).toInt.toNat) (by omega)
          rw [← ei] at p
          rw [← ej] at q
          rw [p, q]
          exact congrArg i2b (byte_sh x1 (by omega)).symm
      · obtain ⟨_, v1, v2, _⟩ := tv
        obtain ⟨_, w1, w2, _⟩ := tw
        exact CT_ext C (v1 1 (by decide)) (v1 2 (by decide)) (v2 1 (by decide)) (v2 2 (by decide)) (v2 3 (by decide)) (v2 4 (by decide)) ⟨w1 3 (by decide), w2 4 (by decide), w2 5 (by decide), w2 6 (by decide), w2 7 (by decide), w2 8 (by decide), w2 9 (by decide)⟩
    · exfalso
      omega
  · rcases hw with ⟨s1, cw, tw⟩ | ⟨s0, cw, ew⟩
    · exfalso
      omega
    · refine ⟨Int32.toInt_inj.mp (by omega), Iv, Ew, ?_, ?_⟩
      · rw [ev, ew]; exact T
      · rw [ev, ew]; exact C
/-! read, and what shows without changing -/
theorem RL_read {c m : St} (R : RL (c, m)) : okM (mC_SqlReader_read c) (fun _ v => okM (mM_SqlReaderModel_read m) (fun _ w => RL (v, w))) := by
  obtain ⟨I, E, T, C⟩ := RL_un R
  refine okM_mono (kC_SqlReader_read I) (fun r v hv => okM_mono (kE_SqlReaderModel_read E) (fun s w hw => ?_))
  obtain ⟨Iv, F, z⟩ := hv
  obtain ⟨Ew, z', K⟩ := hw
  refine ⟨Iv, Ew, ⟨by show (v.1 0).toInt = (w.1 0).toInt; omega, fun i hi => ?_⟩, CT_ext C (F.1 1 rfl) (F.1 2 rfl) (F.2 1 rfl) (F.2 2 rfl) (F.2 3 rfl) (F.2 4 rfl) K⟩
  have hi' : (i : Int) < (v.1 0).toInt := hi
  omega
/-! table -/
def newT (c : St) (w : St) : St := ss (ss (sa w 2 (c.1 1) (nI (32 * (c.1 2).toInt.toNat + (c.1 0).toInt.toNat))) 1 (w.1 1 + 1)) 0 0
theorem cT_table {c : St} {g : Nat → Int32} {lens : Nat → Int32} (I : IC c) (hN : ∀ t : Nat, (t : Int) < (c.1 1).toInt → NM c (c.2.1 2 t) g (16 * t) (lens t)) (hs : (c.1 2).toInt + 16 ≤ 2000) : okM (mC_SqlReader_table c) (fun r v => (¬ (nameB (c.2.1 0) (c.1 0).toInt ∧ (c.1 1).toInt < 8) ∧ r.toInt = -1 ∧ v = ss c 0 0) ∨ ((nameB (c.2.1 0) (c.1 0).toInt ∧ (c.1 1).toInt < 8) ∧ (∃ t : Nat, (t : Int) < (c.1 1).toInt ∧ MT g (16 * t) (lens t) (c.2.1 0) (c.1 0).toInt.toNat) ∧ r.toInt = -2 ∧ v = ss c 0 0) ∨ ((nameB (c.2.1 0) (c.1 0).toInt ∧ (c.1 1).toInt < 8) ∧ (∀ t : Nat, (t : Int) < (c.1 1).toInt → ¬ MT g (16 * t) (lens t) (c.2.1 0) (c.1 0).toInt.toNat) ∧ r.toInt = (c.1 1).toInt ∧ ∃ w : St, KpP c (c.1 2).toInt.toNat (c.1 0).toInt.toNat w ∧ v = newT c w)) := by
  have B := IC_b I
  have l0 : (0 : Int32).toInt = 0 := by decide
  have l8 : (8 : Int32).toInt = 8 := by decide
  have l1 : (1 : Int32).toInt = 1 := by decide
  have lm1 : (-1 : Int32).toInt = -1 := by decide
  have lm2 : (-2 : Int32).toInt = -2 := by decide
  have FUe : FU = 100000 := rfl
  have cl : ∀ {v : St}, ok (mC_Text_clear v) (fun w => w = ss v 0 0) := fun {v} => by
    rw [mC_Text_clear]
    exact ok_seq (fun w hw => ok_some hw)
  have e1 : (c.1 1 + 1 : Int32).toInt = (c.1 1).toInt + (1 : Int32).toInt := add_i (by omega) (by omega)
  have n0 : c.1 0 = nI (c.1 0).toInt.toNat := Int32.toInt_inj.mp (by rw [nI_toInt (by omega)]; omega)
  rw [mC_SqlReader_table]
  have ad : okM (mC_Catalog_addTable c) (fun r v => (¬ (nameB (c.2.1 0) (c.1 0).toInt ∧ (c.1 1).toInt < 8) ∧ r.toInt = -1 ∧ v = c) ∨ ((nameB (c.2.1 0) (c.1 0).toInt ∧ (c.1 1).toInt < 8) ∧ (∃ t : Nat, (t : Int) < (c.1 1).toInt ∧ MT g (16 * t) (lens t) (c.2.1 0) (c.1 0).toInt.toNat) ∧ r.toInt = -2 ∧ v = c) ∨ ((nameB (c.2.1 0) (c.1 0).toInt ∧ (c.1 1).toInt < 8) ∧ (∀ t : Nat, (t : Int) < (c.1 1).toInt → ¬ MT g (16 * t) (lens t) (c.2.1 0) (c.1 0).toInt.toNat) ∧ r.toInt = (c.1 1).toInt ∧ ∃ w : St, KpP c (c.1 2).toInt.toNat (c.1 0).toInt.toNat w ∧ v = ss (sa w 2 (c.1 1) (nI (32 * (c.1 2).toInt.toNat + (c.1 0).toInt.toNat))) 1 (w.1 1 + 1))) := by
    rw [mC_Catalog_addTable]
    refine okM_bP (cN_isName I) (fun r1 h1 => okM_eq (fun q _ => okM_some (Or.inl ⟨fun h => ?_, lm1, rfl⟩)) (fun q => ?_))
    · rcases h1 with w | w
      · omega
      · exact w.2 h.1
    have nb : nameB (c.2.1 0) (c.1 0).toInt := by
      rcases h1 with w | w
      · exact w.2
      · omega
    have nb1 := nb.1
    refine okM_lt (fun q8 => ?_) (fun q8 => okM_some (Or.inl ⟨fun h => by have := h.2; omega, lm1, rfl⟩))
    refine okM_bP (show ok (mC_Text_size_1 c) (fun r => r = nI (c.1 0).toInt.toNat) from ok_some n0) (fun r2 h2 => ?_)
    subst h2
    have sp : (0 : Int32) <<< (5 &&& 31) ||| nI (c.1 0).toInt.toNat = nI (c.1 0).toInt.toNat := by
      have z : (0 : Int32) <<< (5 &&& 31) = nI (0 * 2 ^ 5) := pk_shlN (n := 0) _ 5 (by decide) (by decide)
      rw [z, or_n 5 (by omega) (by omega), Nat.zero_mul, Nat.zero_add]
    refine okM_bP (show ok (mC_Text_span 0 _ c) (fun r => r = nI (c.1 0).toInt.toNat) from ok_some sp) (fun r3 h3 => ?_)
    subst h3
    have fd : ok (mC_Catalog_findTable_3_1 (nI (c.1 0).toInt.toNat) c) _ := cN_findTable (n := (c.1 0).toInt.toNat) hN (by omega) (by omega) (by omega) (by omega) (fun i _ => IC_byt I i) FU (x3 := 0) (by omega) (fun t ht => by omega) (by omega)
    refine okM_bP fd (fun r4 h4 => okM_lt (fun q4 => ?_) (fun q4 => okM_some (Or.inr (Or.inl ⟨⟨nb, by omega⟩, ?_, lm2, rfl⟩))))
    · refine okM_bM (cN_keep (s0 := (c.1 2).toInt.toNat) (n := (c.1 0).toInt.toNat) (by omega) (by omega) (by omega) (by omega) (fun i _ => IC_byt I i)) (fun r5 w hw => ?_)
      obtain ⟨e5, K⟩ := hw
      subst e5
      refine okM_gd (inb_of (by omega) (by omega)) (okM_seq (fun u7 e7 => okM_seq (fun u8 e8 => okM_some (Or.inr (Or.inr ⟨⟨nb, by omega⟩, ?_, ?_, w, K, by rw [e8, e7]; rfl⟩)))))
      · rcases h4 with z | z
        · exact z.2
        · omega
      · have w1 : w.1 1 = c.1 1 := K.2.1 1 (by decide)
        have s1 : c.1 1 + 1 - 1 = c.1 1 := Int32.add_sub_cancel _ _
        have q : u8.1 1 = c.1 1 + 1 := by rw [e8, e7, ← w1]; rfl
        rw [q, s1]
    · rcases h4 with z | z
      · omega
      · exact z.2
  refine okM_bM ad (fun r v hv => okM_bP cl (fun w hw => okM_some ?_))
  rcases hv with h | h | h
  · refine Or.inl ⟨h.1, h.2.1, ?_⟩
    rw [hw, h.2.2]
  · refine Or.inr (Or.inl ⟨h.1, h.2.1, h.2.2.1, ?_⟩)
    rw [hw, h.2.2.2]
  · obtain ⟨a, b, d, x, K, e⟩ := h
    refine Or.inr (Or.inr ⟨a, b, d, x, K, ?_⟩)
    rw [hw, e]
    rfl
/-- a new table's marks, in the reference -/
def TbR (m : St) (T n : Nat) (v : St) : Prop := (v.1 3).toInt = T + 1 ∧ (∃ x : Int32, x.toInt = n ∧ v.2.1 5 = upd (m.2.1 5) T x) ∧ v.2.1 6 = upd (m.2.1 6) T 0 ∧ v.2.1 7 = m.2.1 7 ∧ v.2.1 8 = m.2.1 8 ∧ (∀ j, (j < 16 * T ∨ 16 * T + n ≤ j) → v.2.1 4 j = m.2.1 4 j) ∧ (∀ i, i < n → v.2.1 4 (16 * T + i) = m.2.1 0 i)
theorem mT_table {m : St} (E : IE m) (b0 : ∀ i : Nat, (i : Int) < (m.1 0).toInt → byt (m.2.1 0 i)) : okM (mM_SqlReaderModel_table m) (fun r v => (¬ (nameB (m.2.1 0) (m.1 0).toInt ∧ (m.1 3).toInt < 8) ∧ r.toInt = -1 ∧ Kc m v) ∨ ((nameB (m.2.1 0) (m.1 0).toInt ∧ (m.1 3).toInt < 8) ∧ (∃ t : Nat, (t : Int) < (m.1 3).toInt ∧ MT (m.2.1 4) (16 * t) (m.2.1 5 t) (m.2.1 0) (m.1 0).toInt.toNat) ∧ r.toInt = -2 ∧ Kc m v) ∨ ((nameB (m.2.1 0) (m.1 0).toInt ∧ (m.1 3).toInt < 8) ∧ (∀ t : Nat, (t : Int) < (m.1 3).toInt → ¬ MT (m.2.1 4) (16 * t) (m.2.1 5 t) (m.2.1 0) (m.1 0).toInt.toNat) ∧ r.toInt = (m.1 3).toInt ∧ TbR m (m.1 3).toInt.toNat (m.1 0).toInt.toNat v)) := by
  have B := IE_b E
  have l0 : (0 : Int32).toInt = 0 := by decide
  have l8 : (8 : Int32).toInt = 8 := by decide
  have lm1 : (-1 : Int32).toInt = -1 := by decide
  have lm2 : (-2 : Int32).toInt = -2 := by decide
  have FUe : FU = 100000 := rfl
  rw [mM_SqlReaderModel_table]
  refine okM_bM (mN_takesName E) (fun r v hv => ?_)
  obtain ⟨yn, s, a, t⟩ := hv
  have s3 : v.1 3 = m.1 3 := s 3 (by decide) (by decide) (by decide)
  have a0 : v.2.1 0 = m.2.1 0 := a 0 (by decide) (by decide) (by decide)
  have a4 : v.2.1 4 = m.2.1 4 := a 4 (by decide) (by decide) (by decide)
  have a5 : v.2.1 5 = m.2.1 5 := a 5 (by decide) (by decide) (by decide)
  have a6 : v.2.1 6 = m.2.1 6 := a 6 (by decide) (by decide) (by decide)
  have a7 : v.2.1 7 = m.2.1 7 := a 7 (by decide) (by decide) (by decide)
  have a8 : v.2.1 8 = m.2.1 8 := a 8 (by decide) (by decide) (by decide)
  have a9 : v.2.1 9 = m.2.1 9 := a 9 (by decide) (by decide) (by decide)
  have K : Kc m v := ⟨s3, a4, a5, a6, a7, a8, a9⟩
  refine okM_eq (fun q _ => okM_some (Or.inl ⟨fun h => ?_, lm1, K⟩)) (fun q => ?_)
  · rcases yn with w | w
    · omega
    · exact w.2 h.1
  have nb : nameB (m.2.1 0) (m.1 0).toInt ∧ r.toInt = 1 := by
    rcases yn with w | w
    · exact ⟨w.2, w.1⟩
    · omega
  obtain ⟨nb, r1⟩ := nb
  obtain ⟨f0, t0⟩ := t r1
  have nb1 := nb.1
  have nb2 := nb.2.1
  rw [s3]
  refine okM_eq (fun q8 _ => okM_some (Or.inl ⟨fun h => by have := h.2; omega, lm1, K⟩)) (fun q8 => ?_)
  have td : ok (mM_SqlReaderModel_tableOf 0 v) _ := mN_tableOf_L4 (u := v) (n := (m.1 0).toInt.toNat) f0 (by omega) (by omega) (by rw [s3]; omega) FU (x2 := -1) (x3 := 0) (by omega) (Or.inl ⟨by omega, fun t ht => by omega⟩) (by omega)
  rw [s3, a4, a5, a0] at td
  refine okM_bP td (fun r4 h4 => okM_lt (fun q4 => ?_) (fun q4 => okM_some (Or.inr (Or.inl ⟨⟨nb, by omega⟩, ?_, lm2, K⟩))))
  · refine okM_mono (mN_table_L31 (n := (m.1 0).toInt.toNat) (T := (m.1 3).toInt.toNat) (by omega) (by omega) FU 0 (x1 := 0) (w := v) (by omega) (by omega) (by omega) (by rw [s3]; omega) (fun i hi => by rw [a0]; exact b0 i (by omega)) (by omega)) (fun r w hw => ?_)
    obtain ⟨p0, ⟨p1, p2, p3, p4, p5⟩, p6, p7⟩ := hw
    refine Or.inr (Or.inr ⟨⟨nb, by omega⟩, ?_, by omega, p1, ⟨ga v 3 0, by omega, by rw [p4, a5]⟩, by rw [p5, a6], ?_, ?_, fun j hj => ?_, fun i hi => ?_⟩)
    · rcases h4 with z | z
      · exact z.2
      · omega
    · rw [p3 7 (by decide) (by decide) (by decide), a7]
    · rw [p3 8 (by decide) (by decide) (by decide), a8]
    · rw [p6 j (by omega), a4]
    · rw [p7 i (by omega) hi, a0]
  · rcases h4 with z | z
    · omega
    · exact z.2
theorem RL_table {c m : St} (R : RL (c, m)) : okM (mC_SqlReader_table c) (fun r v => okM (mM_SqlReaderModel_table m) (fun s w => r = s ∧ RL (v, w))) := by
  obtain ⟨I, E, T, C⟩ := RL_un R
  have B := IC_b I
  have sc := sC_le I
  obtain ⟨ct, cb, cn, cz⟩ := id C
  have ts : (c.1 0).toInt = (m.1 0).toInt := T.1
  have tx : ∀ i : Nat, (i : Int) < (c.1 0).toInt → c.2.1 0 i = m.2.1 0 i := T.2
  have ct' : (c.1 1).toInt = (m.1 3).toInt := ct
  have cb' : (c.1 2).toInt ≤ 16 * ((c.1 1).toInt + sC (c.2.1 3)) := cb
  have nbi : nameB (c.2.1 0) (c.1 0).toInt ↔ nameB (m.2.1 0) (m.1 0).toInt := by
    rw [← ts]
    exact ⟨nameB_ext tx, nameB_ext (fun i hi => (tx i hi).symm)⟩
  have mt : ∀ t : Nat, MT (m.2.1 4) (16 * t) (m.2.1 5 t) (c.2.1 0) (c.1 0).toInt.toNat ↔ MT (m.2.1 4) (16 * t) (m.2.1 5 t) (m.2.1 0) (m.1 0).toInt.toNat := fun t => by
    rw [← ts]
    exact ⟨MT_ext (fun i hi => tx i (by omega)), MT_ext (fun i hi => (tx i (by omega)).symm)⟩
  refine okM_mono (okM_and (kC_SqlReader_table I) (cT_table (g := m.2.1 4) (lens := m.2.1 5) I (fun t ht => (cn t ht).1) (by omega))) (fun r v hv => okM_mono (okM_and (kE_SqlReaderModel_table E) (mT_table E (fun i hi => by rw [← tx i (by omega)]; exact IC_byt I i))) (fun s w hw => ?_))
  obtain ⟨⟨Iv, _, zv⟩, hv⟩ := hv
  obtain ⟨⟨Ew, zw⟩, hw⟩ := hw
  have tv : TX v w := ⟨by omega, fun i hi => by omega⟩
  rw [nbi, ct'] at hv
  simp only [mt] at hv
  have same : v = ss c 0 0 → Kc m w → CT v w := fun ev K => by
    rw [ev]
    exact CT_ext C rfl rfl rfl rfl rfl rfl K
  rcases hv with hv | hv | hv
  · rcases hw with hw | hw | hw
    · exact ⟨Int32.toInt_inj.mp (by omega), Iv, Ew, tv, same hv.2.2 hw.2.2⟩
    · exact absurd hw.1 hv.1
    · exact absurd hw.1 hv.1
  · rcases hw with hw | hw | hw
    · exact absurd hv.1 hw.1
    · exact ⟨Int32.toInt_inj.mp (by omega), Iv, Ew, tv, same hv.2.2.2 hw.2.2.2⟩
    · obtain ⟨t, ht, mm⟩ := hv.2.1
      exact absurd mm (hw.2.1 t ht)
  · rcases hw with hw | hw | hw
    · exact absurd hv.1 hw.1
    · obtain ⟨t, ht, mm⟩ := hw.2.1
      exact absurd mm (hv.2.1 t ht)
    · obtain ⟨⟨nb, q8⟩, _, r1, k, K, ev⟩ := hv
      obtain ⟨_, _, s1, p1, ⟨x, px, p5⟩, p6, p7, p8, p4, p4'⟩ := hw
      have n16 := nb.1
      have n1 := nb.2.1
      refine ⟨Int32.toInt_inj.mp (by omega), Iv, Ew, tv, ?_⟩
      obtain ⟨k2, ks, ka, kn, kn'⟩ := K
      have l1 : (1 : Int32).toInt = 1 := by decide
      have l0 : (0 : Int32).toInt = 0 := by decide
      have e1 : (c.1 1 + 1 : Int32).toInt = (c.1 1).toInt + (1 : Int32).toInt := add_i (by omega) (by omega)
      have cc := cl_of (i := c.1 1) (by omega)
      have v1 : (v.1 1).toInt = (c.1 1).toInt + 1 := by
        have q : v.1 1 = c.1 1 + 1 := by rw [ev, ← ks 1 (by decide)]; rfl
        rw [q]; omega
      have v2 : (v.1 2).toInt = (((c.1 2).toInt.toNat + (c.1 0).toInt.toNat : Nat) : Int) := by rw [ev]; exact k2
      have b1 : v.2.1 1 = k.2.1 1 := by rw [ev]; rfl
      have b2 : v.2.1 2 = upd (c.2.1 2) (c.1 1).toNatClampNeg (nI (32 * (c.1 2).toInt.toNat + (c.1 0).toInt.toNat)) := by rw [ev, ← ka 2 (by decide)]; rfl
      have b3 : v.2.1 3 = c.2.1 3 := by rw [ev, ← ka 3 (by decide)]; rfl
      have b4 : v.2.1 4 = c.2.1 4 := by rw [ev, ← ka 4 (by decide)]; rfl
      have ext : ∀ {s g g' off len}, NM c s g off len → (∀ i, i < 16 → g' (off + i) = g (off + i)) → NM v s g' off len := fun {s g g' off len} h hg => NM_ext h (by omega) (fun j hj => by rw [b1]; exact kn j (by omega)) hg
      refine ⟨by show (v.1 1).toInt = (w.1 3).toInt; omega, by show (v.1 2).toInt ≤ 16 * ((v.1 1).toInt + sC (v.2.1 3)); rw [b3]; omega, fun t ht => ?_, fun t ht ht8 => ?_⟩
      · have ht' : (t : Int) < (v.1 1).toInt := ht
        show NM v (v.2.1 2 t) (w.2.1 4) (16 * t) (w.2.1 5 t) ∧ (v.2.1 3 t).toInt = (w.2.1 6 t).toInt ∧ ∀ k : Nat, (k : Int) < (v.2.1 3 t).toInt → NM v (v.2.1 4 (8 * t + k)) (w.2.1 7) (16 * (8 * t + k)) (w.2.1 8 (8 * t + k))
        by_cases h : t = (m.1 3).toInt.toNat
        · have hc : t = (c.1 1).toNatClampNeg := by omega
          rw [b2, b3, p5, p6, hc, pk_us]
          rw [show (m.1 3).toInt.toNat = (c.1 1).toNatClampNeg by omega, pk_us, pk_us]
          have z := cz (c.1 1).toNatClampNeg (by show (c.1 1).toInt ≤ _; omega) (by omega)
          have z' : (c.2.1 3 (c.1 1).toNatClampNeg).toInt = 0 := z
          refine ⟨⟨(c.1 2).toInt.toNat, (c.1 0).toInt.toNat, rfl, by omega, by omega, by omega, fun i hi => ?_⟩, by omega, fun k hk => by omega⟩
          have q := p4' i (by omega)
          rw [show (m.1 3).toInt.toNat = (c.1 1).toNatClampNeg by omega] at q
          rw [b1, kn' i hi, q, ← tx i (by omega)]
          exact ⟨rfl, IC_byt I i⟩
        · have hc : t ≠ (c.1 1).toNatClampNeg := by omega
          obtain ⟨o1, o2, o3⟩ := cn t (by show (t : Int) < (c.1 1).toInt; omega)
          rw [b2, b3, b4, p5, p6, p7, p8, pk_un hc, pk_un h, pk_un h]
          refine ⟨ext o1 (fun i hi => p4 _ (by omega)), o2, fun k hk => ext (o3 k hk) (fun i hi => rfl)⟩
      · have ht' : (v.1 1).toInt ≤ (t : Int) := ht
        show (v.2.1 3 t).toInt = 0
        rw [b3]
        exact cz t (by show (c.1 1).toInt ≤ (t : Int); omega) ht8
/-! column -/
def newC (c : St) (x1 x2 : Int32) (w : St) : St := ss (sa (sa (sa w 4 (x1 * 8 + ga c 3 x1) (nI (32 * (c.1 2).toInt.toNat + (c.1 0).toInt.toNat))) 5 (x1 * 8 + ga c 3 x1) x2) 3 x1 (ga c 3 x1 + 1)) 0 0
def colC (c : St) (x1 x2 : Int32) : Prop := nameB (c.2.1 0) (c.1 0).toInt ∧ (0 ≤ x1.toInt ∧ x1.toInt < (c.1 1).toInt) ∧ (1 ≤ x2.toInt ∧ x2.toInt ≤ 3) ∧ (ga c 3 x1).toInt < 8
theorem cT_column {c : St} {g : Nat → Int32} {lens : Nat → Int32} {x1 x2 : Int32} (I : IC c) (hN : 0 ≤ x1.toInt → x1.toInt < (c.1 1).toInt → ∀ k : Nat, (k : Int) < (ga c 3 x1).toInt → NM c (c.2.1 4 (8 * x1.toNatClampNeg + k)) g (16 * (8 * x1.toNatClampNeg + k)) (lens (8 * x1.toNatClampNeg + k))) (hs : (c.1 2).toInt + 16 ≤ 2000) : okM (mC_SqlReader_column x1 x2 c) (fun r v => (¬ colC c x1 x2 ∧ r.toInt = -1 ∧ v = ss c 0 0) ∨ (colC c x1 x2 ∧ (∃ k : Nat, (k : Int) < (ga c 3 x1).toInt ∧ MT g (16 * (8 * x1.toNatClampNeg + k)) (lens (8 * x1.toNatClampNeg + k)) (c.2.1 0) (c.1 0).toInt.toNat) ∧ r.toInt = -2 ∧ v = ss c 0 0) ∨ (colC c x1 x2 ∧ (∀ k : Nat, (k : Int) < (ga c 3 x1).toInt → ¬ MT g (16 * (8 * x1.toNatClampNeg + k)) (lens (8 * x1.toNatClampNeg + k)) (c.2.1 0) (c.1 0).toInt.toNat) ∧ r.toInt = (ga c 3 x1).toInt ∧ ∃ w : St, KpP c (c.1 2).toInt.toNat (c.1 0).toInt.toNat w ∧ v = newC c x1 x2 w)) := by
  have B := IC_b I
  have W := IC_col I x1
  have l0 : (0 : Int32).toInt = 0 := by decide
  have l8 : (8 : Int32).toInt = 8 := by decide
  have l1 : (1 : Int32).toInt = 1 := by decide
  have l3 : (3 : Int32).toInt = 3 := by decide
  have lm1 : (-1 : Int32).toInt = -1 := by decide
  have lm2 : (-2 : Int32).toInt = -2 := by decide
  have FUe : FU = 100000 := rfl
  have cl : ∀ {v : St}, ok (mC_Text_clear v) (fun w => w = ss v 0 0) := fun {v} => by
    rw [mC_Text_clear]
    exact ok_seq (fun w hw => ok_some hw)
  have n0 : c.1 0 = nI (c.1 0).toInt.toNat := Int32.toInt_inj.mp (by rw [nI_toInt (by omega)]; omega)
  rw [mC_SqlReader_column]
  have ad : okM (mC_Catalog_addColumn x1 x2 c) (fun r v => (¬ colC c x1 x2 ∧ r.toInt = -1 ∧ v = c) ∨ (colC c x1 x2 ∧ (∃ k : Nat, (k : Int) < (ga c 3 x1).toInt ∧ MT g (16 * (8 * x1.toNatClampNeg + k)) (lens (8 * x1.toNatClampNeg + k)) (c.2.1 0) (c.1 0).toInt.toNat) ∧ r.toInt = -2 ∧ v = c) ∨ (colC c x1 x2 ∧ (∀ k : Nat, (k : Int) < (ga c 3 x1).toInt → ¬ MT g (16 * (8 * x1.toNatClampNeg + k)) (lens (8 * x1.toNatClampNeg + k)) (c.2.1 0) (c.1 0).toInt.toNat) ∧ r.toInt = (ga c 3 x1).toInt ∧ ∃ w : St, KpP c (c.1 2).toInt.toNat (c.1 0).toInt.toNat w ∧ v = sa (sa (sa w 4 (x1 * 8 + ga c 3 x1) (nI (32 * (c.1 2).toInt.toNat + (c.1 0).toInt.toNat))) 5 (x1 * 8 + ga c 3 x1) x2) 3 x1 (ga c 3 x1 + 1))) := by
    rw [mC_Catalog_addColumn]
    have no (h : ¬ colC c x1 x2) : okM (some ((-1 : Int32), c)) (fun r v => (¬ colC c x1 x2 ∧ r.toInt = -1 ∧ v = c) ∨ (colC c x1 x2 ∧ (∃ k : Nat, (k : Int) < (ga c 3 x1).toInt ∧ MT g (16 * (8 * x1.toNatClampNeg + k)) (lens (8 * x1.toNatClampNeg + k)) (c.2.1 0) (c.1 0).toInt.toNat) ∧ r.toInt = -2 ∧ v = c) ∨ (colC c x1 x2 ∧ (∀ k : Nat, (k : Int) < (ga c 3 x1).toInt → ¬ MT g (16 * (8 * x1.toNatClampNeg + k)) (lens (8 * x1.toNatClampNeg + k)) (c.2.1 0) (c.1 0).toInt.toNat) ∧ r.toInt = (ga c 3 x1).toInt ∧ ∃ w : St, KpP c (c.1 2).toInt.toNat (c.1 0).toInt.toNat w ∧ v = sa (sa (sa w 4 (x1 * 8 + ga c 3 x1) (nI (32 * (c.1 2).toInt.toNat + (c.1 0).toInt.toNat))) 5 (x1 * 8 + ga c 3 x1) x2) 3 x1 (ga c 3 x1 + 1))) := okM_some (Or.inl ⟨h, lm1, rfl⟩)
    refine okM_bP (cN_isName I) (fun r1 h1 => okM_eq (fun q _ => no (fun h => ?_)) (fun q => ?_))
    · rcases h1 with w | w
      · omega
      · exact w.2 h.1
    have nb : nameB (c.2.1 0) (c.1 0).toInt := by
      rcases h1 with w | w
      · exact w.2
      · omega
    have nb1 := nb.1
    have has : ok (mC_Catalog_has x1 c) (fun r => YN r (0 ≤ x1.toInt ∧ x1.toInt < (c.1 1).toInt)) := by
      rw [mC_Catalog_has]
      exact ok_lt (fun q => ok_some (Or.inr ⟨l0, by omega⟩)) (fun q => ok_le (fun q2 => ok_some (Or.inr ⟨l0, by omega⟩)) (fun q2 => ok_some (Or.inl ⟨l1, by omega⟩)))
    refine okM_bP has (fun r2 h2 => okM_eq (fun q2 _ => no (fun h => ?_)) (fun q2 => ?_))
    · rcases h2 with w | w
      · omega
      · exact w.2 h.2.1
    have hx : 0 ≤ x1.toInt ∧ x1.toInt < (c.1 1).toInt := by
      rcases h2 with w | w
      · exact w.2
      · omega
    refine okM_lt (fun q3 => no (fun h => by have := h.2.2.1.1; omega)) (fun q3 => okM_le (fun q4 => ?_) (fun q4 => no (fun h => by have := h.2.2.1.2; omega)))
    refine okM_gd (inb_of (by omega) (by omega)) (okM_seq (fun y hy => ?_))
    subst hy
    refine okM_lt (fun q8 => ?_) (fun q8 => no (fun h => by have := h.2.2.2; omega))
    have cc : colC c x1 x2 := ⟨nb, hx, ⟨by omega, by omega⟩, by omega⟩
    refine okM_bP (show ok (mC_Text_size_1 c) (fun r => r = nI (c.1 0).toInt.toNat) from ok_some n0) (fun r4 h4 => ?_)
    subst h4
    have sp : (0 : Int32) <<< (5 &&& 31) ||| nI (c.1 0).toInt.toNat = nI (c.1 0).toInt.toNat := by
      have z : (0 : Int32) <<< (5 &&& 31) = nI (0 * 2 ^ 5) := pk_shlN (n := 0) _ 5 (by decide) (by decide)
      rw [z, or_n 5 (by omega) (by omega), Nat.zero_mul, Nat.zero_add]
    refine okM_bP (show ok (mC_Text_span 0 _ c) (fun r => r = nI (c.1 0).toInt.toNat) from ok_some sp) (fun r5 h5 => ?_)
    subst h5
    have fd : ok (mC_Catalog_findColumn_3_1 x1 (nI (c.1 0).toInt.toNat) c) _ := cN_findColumn (n := (c.1 0).toInt.toNat) hx.1 hx.2 (hN hx.1 hx.2) (by omega) (by omega) (by omega) (by omega) (by omega) (fun i _ => IC_byt I i) FU (x4 := 0) (by omega) (fun t ht => by omega) (by omega)
    have e8 : (x1 * 8 : Int32).toInt = x1.toInt * 8 := muc_i l8 (by omega) (by omega)
    have e9 : (x1 * 8 + ga c 3 x1 : Int32).toInt = (x1 * 8 : Int32).toInt + (ga c 3 x1).toInt := add_i (by omega) (by omega)
    have g9 : inb (x1 * 8 + ga c 3 x1) 64 = true := inb_of (by omega) (by omega)
    refine okM_bP fd (fun r6 h6 => okM_lt (fun q6 => ?_) (fun q6 => okM_some (Or.inr (Or.inl ⟨cc, ?_, lm2, rfl⟩))))
    · refine okM_bM (cN_keep (s0 := (c.1 2).toInt.toNat) (n := (c.1 0).toInt.toNat) (by omega) (by omega) (by omega) (by omega) (fun i _ => IC_byt I i)) (fun r7 w hw => ?_)
      obtain ⟨e7, K⟩ := hw
      subst e7
      refine okM_gd g9 (okM_seq (fun u9 e9' => okM_gd g9 (okM_seq (fun u10 e10 => okM_gd (inb_of (by omega) (by omega)) (okM_seq (fun u11 e11 => okM_some (Or.inr (Or.inr ⟨cc, ?_, rfl, w, K, by rw [e11, e10, e9']⟩))))))))
      rcases h6 with z | z
      · exact z.2
      · omega
    · rcases h6 with z | z
      · omega
      · exact z.2
  refine okM_bM ad (fun r v hv => okM_bP cl (fun w hw => okM_some ?_))
  rcases hv with h | h | h
  · refine Or.inl ⟨h.1, h.2.1, ?_⟩
    rw [hw, h.2.2]
  · refine Or.inr (Or.inl ⟨h.1, h.2.1, h.2.2.1, ?_⟩)
    rw [hw, h.2.2.2]
  · obtain ⟨a, b, d, x, K, e⟩ := h
    refine Or.inr (Or.inr ⟨a, b, d, x, K, ?_⟩)
    rw [hw, e]
    rfl
/-- a new column's marks, in the reference -/
def ClR (m : St) (t k n : Nat) (v : St) : Prop := v.1 3 = m.1 3 ∧ v.2.1 4 = m.2.1 4 ∧ v.2.1 5 = m.2.1 5 ∧ (∃ x : Int32, x.toInt = n ∧ v.2.1 8 = upd (m.2.1 8) (8 * t + k) x) ∧ v.2.1 6 = upd (m.2.1 6) t (m.2.1 6 t + 1) ∧ (∀ j, (j < 16 * (8 * t + k) ∨ 16 * (8 * t + k) + n ≤ j) → v.2.1 7 j = m.2.1 7 j) ∧ (∀ i, i < n → v.2.1 7 (16 * (8 * t + k) + i) = m.2.1 0 i)
def colM (m : St) (x1 x2 : Int32) : Prop := nameB (m.2.1 0) (m.1 0).toInt ∧ (0 ≤ x1.toInt ∧ x1.toInt < (m.1 3).toInt) ∧ (1 ≤ x2.toInt ∧ x2.toInt ≤ 3) ∧ (ga m 6 x1).toInt < 8
theorem mT_column {m : St} {x1 x2 : Int32} (E : IE m) (b0 : ∀ i : Nat, (i : Int) < (m.1 0).toInt → byt (m.2.1 0 i)) : okM (mM_SqlReaderModel_column x1 x2 m) (fun r v => (¬ colM m x1 x2 ∧ r.toInt = -1 ∧ Kc m v) ∨ (colM m x1 x2 ∧ (∃ k : Nat, (k : Int) < (ga m 6 x1).toInt ∧ MT (m.2.1 7) (16 * (8 * x1.toNatClampNeg + k)) (m.2.1 8 (8 * x1.toNatClampNeg + k)) (m.2.1 0) (m.1 0).toInt.toNat) ∧ r.toInt = -2 ∧ Kc m v) ∨ (colM m x1 x2 ∧ (∀ k : Nat, (k : Int) < (ga m 6 x1).toInt → ¬ MT (m.2.1 7) (16 * (8 * x1.toNatClampNeg + k)) (m.2.1 8 (8 * x1.toNatClampNeg + k)) (m.2.1 0) (m.1 0).toInt.toNat) ∧ r.toInt = (ga m 6 x1).toInt ∧ ClR m x1.toNatClampNeg (ga m 6 x1).toInt.toNat (m.1 0).toInt.toNat v)) := by
  have B := IE_b E
  have l0 : (0 : Int32).toInt = 0 := by decide
  have l1 : (1 : Int32).toInt = 1 := by decide
  have l3 : (3 : Int32).toInt = 3 := by decide
  have l8 : (8 : Int32).toInt = 8 := by decide
  have lm1 : (-1 : Int32).toInt = -1 := by decide
  have lm2 : (-2 : Int32).toInt = -2 := by decide
  have FUe : FU = 100000 := rfl
  rw [mM_SqlReaderModel_column]
  refine okM_bM (mN_takesName E) (fun r v hv => ?_)
  obtain ⟨yn, s, a, t⟩ := hv
  have s3 : v.1 3 = m.1 3 := s 3 (by decide) (by decide) (by decide)
  have a0 : v.2.1 0 = m.2.1 0 := a 0 (by decide) (by decide) (by decide)
  have a4 : v.2.1 4 = m.2.1 4 := a 4 (by decide) (by decide) (by decide)
  have a5 : v.2.1 5 = m.2.1 5 := a 5 (by decide) (by decide) (by decide)
  have a6 : v.2.1 6 = m.2.1 6 := a 6 (by decide) (by decide) (by decide)
  have a7 : v.2.1 7 = m.2.1 7 := a 7 (by decide) (by decide) (by decide)
  have a8 : v.2.1 8 = m.2.1 8 := a 8 (by decide) (by decide) (by decide)
  have a9 : v.2.1 9 = m.2.1 9 := a 9 (by decide) (by decide) (by decide)
  have K : Kc m v := ⟨s3, a4, a5, a6, a7, a8, a9⟩
  have W : 0 ≤ (ga m 6 x1).toInt ∧ (ga m 6 x1).toInt ≤ 8 := E.1.2.2.1 _
  have gw : ga v 6 x1 = ga m 6 x1 := by show v.2.1 6 _ = _; rw [a6]; rfl
  have no (h : ¬ colM m x1 x2) : okM (some ((-1 : Int32), v)) (fun r v => (¬ colM m x1 x2 ∧ r.toInt = -1 ∧ Kc m v) ∨ (colM m x1 x2 ∧ (∃ k : Nat, (k : Int) < (ga m 6 x1).toInt ∧ MT (m.2.1 7) (16 * (8 * x1.toNatClampNeg + k)) (m.2.1 8 (8 * x1.toNatClampNeg + k)) (m.2.1 0) (m.1 0).toInt.toNat) ∧ r.toInt = -2 ∧ Kc m v) ∨ (colM m x1 x2 ∧ (∀ k : Nat, (k : Int) < (ga m 6 x1).toInt → ¬ MT (m.2.1 7) (16 * (8 * x1.toNatClampNeg + k)) (m.2.1 8 (8 * x1.toNatClampNeg + k)) (m.2.1 0) (m.1 0).toInt.toNat) ∧ r.toInt = (ga m 6 x1).toInt ∧ ClR m x1.toNatClampNeg (ga m 6 x1).toInt.toNat (m.1 0).toInt.toNat v)) := okM_some (Or.inl ⟨h, lm1, K⟩)
  refine okM_eq (fun q _ => no (fun h => ?_)) (fun q => ?_)
  · rcases yn with w | w
    · omega
    · exact w.2 h.1
  have nb : nameB (m.2.1 0) (m.1 0).toInt ∧ r.toInt = 1 := by
    rcases yn with w | w
    · exact ⟨w.2, w.1⟩
    · omega
  obtain ⟨nb, r1⟩ := nb
  obtain ⟨f0, t0⟩ := t r1
  have nb1 := nb.1
  have nb2 := nb.2.1
  refine okM_lt (fun q1 => no (fun h => by have := h.2.1.1; omega)) (fun q1 => ?_)
  rw [s3]
  refine okM_le (fun q2 => no (fun h => by have := h.2.1.2; omega)) (fun q2 => ?_)
  refine okM_gd (inb_of (by omega) (by omega)) ?_
  rw [gw]
  refine okM_eq (fun q8 _ => no (fun h => by have := h.2.2.2; omega)) (fun q8 => ?_)
  refine okM_lt (fun q3 => no (fun h => by have := h.2.2.1.1; omega)) (fun q3 => okM_le (fun q4 => ?_) (fun q4 => no (fun h => by have := h.2.2.1.2; omega)))
  have cc : colM m x1 x2 := ⟨nb, ⟨by omega, by omega⟩, ⟨by omega, by omega⟩, by omega⟩
  have cx := cl_of (i := x1) (by omega)
  have td : ok (mM_SqlReaderModel_columnOf x1 0 v) _ := mN_columnOf_L5 (u := v) (n := (m.1 0).toInt.toNat) (x1 := x1) (by omega) (by omega) f0 (by omega) (by omega) (by rw [gw]; omega) FU (x3 := -1) (x4 := 0) (by omega) (Or.inl ⟨by omega, fun t ht => by omega⟩) (by omega)
  rw [gw, a7, a8, a0] at td
  refine okM_bP td (fun r4 h4 => okM_lt (fun q5 => ?_) (fun q5 => okM_some (Or.inr (Or.inl ⟨cc, ?_, lm2, K⟩))))
  · have e8 : (8 * x1 : Int32).toInt = 8 * x1.toInt := cmu_i l8 (by omega) (by omega)
    have e9 : (8 * x1 + ga m 6 x1 : Int32).toInt = (8 * x1 : Int32).toInt + (ga m 6 x1).toInt := add_i (by omega) (by omega)
    have g6 : v.2.1 6 x1.toNatClampNeg = ga m 6 x1 := by rw [a6]; rfl
    refine okM_gd (inb_of (by omega) (by omega)) (okM_seq (fun y hy => ?_))
    have ey : y.toInt = ((8 * x1.toNatClampNeg + (ga m 6 x1).toInt.toNat : Nat) : Int) := by rw [hy]; omega
    refine okM_mono (mN_column_L72 (n := (m.1 0).toInt.toNat) (t := x1.toNatClampNeg) (c := 8 * x1.toNatClampNeg + (ga m 6 x1).toInt.toNat) (by omega) (by omega) (by omega) FU 0 (x5 := 0) (w := v) (by omega) (by omega) ey (by omega) (by omega) (by rw [g6]; omega) (fun i hi => by rw [a0]; exact b0 i (by omega)) (by omega)) (fun r w hw => ?_)
    obtain ⟨p0, ⟨p2, p3, p4, p5⟩, p6, p7⟩ := hw
    refine Or.inr (Or.inr ⟨cc, ?_, by rw [g6] at p0; exact p0, by rw [p2 3, s3], ?_, ?_, ⟨ga v 3 0, by omega, by rw [p4, a8]⟩, by rw [p5, a6], fun j hj => ?_, fun i hi => ?_⟩)
    · rcases h4 with z | z
      · exact z.2
      · omega
    · rw [p3 4 (by decide) (by decide) (by decide) (by decide), a4]
    · rw [p3 5 (by decide) (by decide) (by decide) (by decide), a5]
    · rw [p6 j (by omega), a7]
    · rw [p7 i (by omega) hi, a0]
  · rcases h4 with z | z
    · omega
    · exact z.2
theorem RL_column {c m : St} {x1 x2 : Int32} (R : RL (c, m)) : okM (mC_SqlReader_column x1 x2 c) (fun r v => okM (mM_SqlReaderModel_column x1 x2 m) (fun s w => r = s ∧ RL (v, w))) := by
  obtain ⟨I, E, T, C⟩ := RL_un R
  have B := IC_b I
  have sc := sC_le I
  obtain ⟨ct, cb, cn, cz⟩ := id C
  have ts : (c.1 0).toInt = (m.1 0).toInt := T.1
  have tx : ∀ i : Nat, (i : Int) < (c.1 0).toInt → c.2.1 0 i = m.2.1 0 i := T.2
  have ct' : (c.1 1).toInt = (m.1 3).toInt := ct
  have cb' : (c.1 2).toInt ≤ 16 * ((c.1 1).toInt + sC (c.2.1 3)) := cb
  have nbi : nameB (c.2.1 0) (c.1 0).toInt ↔ nameB (m.2.1 0) (m.1 0).toInt := by
    rw [← ts]
    exact ⟨nameB_ext tx, nameB_ext (fun i hi => (tx i hi).symm)⟩
  have mt : ∀ t : Nat, MT (m.2.1 7) (16 * t) (m.2.1 8 t) (c.2.1 0) (c.1 0).toInt.toNat ↔ MT (m.2.1 7) (16 * t) (m.2.1 8 t) (m.2.1 0) (m.1 0).toInt.toNat := fun t => by
    rw [← ts]
    exact ⟨MT_ext (fun i hi => tx i (by omega)), MT_ext (fun i hi => (tx i (by omega)).symm)⟩
  have wi : 0 ≤ x1.toInt → x1.toInt < (c.1 1).toInt → (ga c 3 x1).toInt = (ga m 6 x1).toInt := fun h0 h1 => by
    have cx := cl_of h0
    exact (cn x1.toNatClampNeg (by show ((x1.toNatClampNeg : Nat) : Int) < (c.1 1).toInt; omega)).2.1
  have ci : colC c x1 x2 ↔ colM m x1 x2 := by
    unfold colC colM
    rw [nbi, ct']
    constructor
    · intro h
      exact ⟨h.1, h.2.1, h.2.2.1, by rw [← wi h.2.1.1 (by have := h.2.1.2; omega)]; exact h.2.2.2⟩
    · intro h
      exact ⟨h.1, h.2.1, h.2.2.1, by rw [wi h.2.1.1 (by have := h.2.1.2; omega)]; exact h.2.2.2⟩
  refine okM_mono (okM_and (kC_SqlReader_column I) (cT_column (g := m.2.1 7) (lens := m.2.1 8) I (fun h0 h1 k hk => ?_) (by omega))) (fun r v hv => okM_mono (okM_and (kE_SqlReaderModel_column E) (mT_column E (fun i hi => by rw [← tx i (by omega)]; exact IC_byt I i))) (fun s w hw => ?_))
  · have cx := cl_of h0
    exact (cn x1.toNatClampNeg (by show ((x1.toNatClampNeg : Nat) : Int) < (c.1 1).toInt; omega)).2.2 k hk
  obtain ⟨⟨Iv, _, zv⟩, hv⟩ := hv
  obtain ⟨⟨Ew, zw⟩, hw⟩ := hw
  have tv : TX v w := ⟨by omega, fun i hi => by omega⟩
  simp only [mt] at hv
  have same : v = ss c 0 0 → Kc m w → CT v w := fun ev K => by
    rw [ev]
    exact CT_ext C rfl rfl rfl rfl rfl rfl K
  rcases hv with hv | hv | hv
  · rcases hw with hw | hw | hw
    · exact ⟨Int32.toInt_inj.mp (by omega), Iv, Ew, tv, same hv.2.2 hw.2.2⟩
    · exact absurd (ci.mpr hw.1) hv.1
    · exact absurd (ci.mpr hw.1) hv.1
  · have w6 := wi hv.1.2.1.1 hv.1.2.1.2
    rcases hw with hw | hw | hw
    · exact absurd (ci.mp hv.1) hw.1
    · exact ⟨Int32.toInt_inj.mp (by omega), Iv, Ew, tv, same hv.2.2.2 hw.2.2.2⟩
    · obtain ⟨t, ht, mm⟩ := hv.2.1
      exact absurd mm (hw.2.1 t (by omega))
  · have w6 := wi hv.1.2.1.1 hv.1.2.1.2
    rcases hw with hw | hw | hw
    · exact absurd (ci.mp hv.1) hw.1
    · obtain ⟨t, ht, mm⟩ := hw.2.1
      exact absurd mm (hv.2.1 t (by omega))
    · obtain ⟨cc, _, r1, k, K, ev⟩ := hv
      obtain ⟨_, _, s1, p3, p4, p5, ⟨x, px, p8⟩, p6, p7, p7'⟩ := hw
      obtain ⟨nb, hx, _, q8⟩ := cc
      have n16 := nb.1
      have n1 := nb.2.1
      refine ⟨Int32.toInt_inj.mp (by omega), Iv, Ew, tv, ?_⟩
      obtain ⟨k2, ks, ka, kn, kn'⟩ := K
      have l1 : (1 : Int32).toInt = 1 := by decide
      have l8 : (8 : Int32).toInt = 8 := by decide
      have W := IC_col I x1
      have cx := cl_of hx.1
      have e8 : (x1 * 8 : Int32).toInt = x1.toInt * 8 := muc_i l8 (by omega) (by omega)
      have e9 : (x1 * 8 + ga c 3 x1 : Int32).toInt = (x1 * 8 : Int32).toInt + (ga c 3 x1).toInt := add_i (by omega) (by omega)
      have c9 := cl_of (i := x1 * 8 + ga c 3 x1) (by omega)
      have e1 : (ga c 3 x1 + 1 : Int32).toInt = (ga c 3 x1).toInt + (1 : Int32).toInt := add_i (by omega) (by omega)
      have g3 : ga c 3 x1 = c.2.1 3 x1.toNatClampNeg := rfl
      have g6 : ga m 6 x1 = m.2.1 6 x1.toNatClampNeg := rfl
      have e6 : (m.2.1 6 x1.toNatClampNeg + 1 : Int32).toInt = (m.2.1 6 x1.toNatClampNeg).toInt + (1 : Int32).toInt := add_i (by rw [← g6]; omega) (by rw [← g6]; omega)
      have ix : (x1 * 8 + ga c 3 x1).toNatClampNeg = 8 * x1.toNatClampNeg + (ga c 3 x1).toInt.toNat := by omega
      have v1 : v.1 1 = c.1 1 := by rw [ev, ← ks 1 (by decide)]; rfl
      have v2 : (v.1 2).toInt = (((c.1 2).toInt.toNat + (c.1 0).toInt.toNat : Nat) : Int) := by rw [ev]; exact k2
      have b1 : v.2.1 1 = k.2.1 1 := by rw [ev]; rfl
      have b2 : v.2.1 2 = c.2.1 2 := by rw [ev, ← ka 2 (by decide)]; rfl
      have b3 : v.2.1 3 = upd (c.2.1 3) x1.toNatClampNeg (ga c 3 x1 + 1) := by rw [ev, ← ka 3 (by decide)]; rfl
      have b4 : v.2.1 4 = upd (c.2.1 4) (8 * x1.toNatClampNeg + (ga c 3 x1).toInt.toNat) (nI (32 * (c.1 2).toInt.toNat + (c.1 0).toInt.toNat)) := by rw [ev, ← ka 4 (by decide), ← ix]; rfl
      have ext : ∀ {s g g' off len}, NM c s g off len → (∀ i, i < 16 → g' (off + i) = g (off + i)) → NM v s g' off len := fun {s g g' off len} h hg => NM_ext h (by omega) (fun j hj => by rw [b1]; exact kn j (by omega)) hg
      have su := sC_upd (f := c.2.1 3) (t := x1.toNatClampNeg) (x := ga c 3 x1 + 1) (by omega)
      refine ⟨by show (v.1 1).toInt = (w.1 3).toInt; rw [v1, p3]; exact ct', by show (v.1 2).toInt ≤ 16 * ((v.1 1).toInt + sC (v.2.1 3)); rw [b3, su, v1, ← g3]; omega, fun t ht => ?_, fun t ht ht8 => ?_⟩
      · have ht' : (t : Int) < (v.1 1).toInt := ht
        rw [v1] at ht'
        obtain ⟨o1, o2, o3⟩ := cn t ht'
        show NM v (v.2.1 2 t) (w.2.1 4) (16 * t) (w.2.1 5 t) ∧ (v.2.1 3 t).toInt = (w.2.1 6 t).toInt ∧ ∀ k : Nat, (k : Int) < (v.2.1 3 t).toInt → NM v (v.2.1 4 (8 * t + k)) (w.2.1 7) (16 * (8 * t + k)) (w.2.1 8 (8 * t + k))
        refine ⟨by rw [b2, p4, p5]; exact ext o1 (fun i hi => rfl), ?_, fun j hj => ?_⟩
        · rw [b3, p6]
          by_cases h : t = x1.toNatClampNeg
          · rw [h, pk_us, pk_us]
            rw [g6] at w6
            omega
          · rw [pk_un h, pk_un h]; exact o2
        · rw [b3] at hj
          have hj8 : j < 8 := by
            by_cases h : t = x1.toNatClampNeg
            · rw [h, pk_us] at hj
              omega
            · rw [pk_un h] at hj
              have := (I.2.2.1 t).2
              omega
          by_cases h : 8 * t + j = 8 * x1.toNatClampNeg + (ga c 3 x1).toInt.toNat
          · rw [b4, p8, show (ga m 6 x1).toInt.toNat = (ga c 3 x1).toInt.toNat by omega, h, pk_us, pk_us]
            refine ⟨(c.1 2).toInt.toNat, (c.1 0).toInt.toNat, rfl, by omega, by omega, by omega, fun i hi => ?_⟩
            have q := p7' i (by omega)
            rw [show (ga m 6 x1).toInt.toNat = (ga c 3 x1).toInt.toNat by omega] at q
            rw [b1, kn' i hi, q, ← tx i (by omega)]
            exact ⟨rfl, IC_byt I i⟩
          · have jo : (j : Int) < (c.2.1 3 t).toInt := by
              by_cases h' : t = x1.toNatClampNeg
              · rw [h', pk_us] at hj
                rw [h'] at h
                rw [h', ← g3]
                omega
              · rw [pk_un h'] at hj
                exact hj
            rw [b4, p8, show (ga m 6 x1).toInt.toNat = (ga c 3 x1).toInt.toNat by omega, pk_un h, pk_un h]
            exact ext (o3 j jo) (fun i hi => p7 _ (by omega))
      · have ht' : (v.1 1).toInt ≤ (t : Int) := ht
        rw [v1] at ht'
        show (v.2.1 3 t).toInt = 0
        rw [b3, pk_un (show t ≠ x1.toNatClampNeg by omega)]
        exact cz t ht' ht8
