/-! BYTES AND NAMES -/
def byt (x : Int32) : Prop := -128 ≤ x.toInt ∧ x.toInt ≤ 127
def YN (r : Int32) (P : Prop) : Prop := (r.toInt = 1 ∧ P) ∨ (r.toInt = 0 ∧ ¬ P)
def nmI (z : Int) : Prop := (97 ≤ z ∧ z ≤ 122) ∨ (48 ≤ z ∧ z ≤ 57) ∨ z = 95
def nameB (f : Nat → Int32) (n : Int) : Prop := n ≤ 16 ∧ 1 ≤ n ∧ (97 ≤ (f 0).toInt ∧ (f 0).toInt ≤ 122) ∧ ∀ i : Nat, 1 ≤ i → (i : Int) < n → nmI (f i).toInt
theorem nameB_ext {f g : Nat → Int32} {n : Int} (h : ∀ i : Nat, (i : Int) < n → f i = g i) (N : nameB f n) : nameB g n := by
  obtain ⟨a, b, c, d⟩ := N
  refine ⟨a, b, ?_, fun i i1 i2 => ?_⟩
  · rw [← h 0 (by omega)]; exact c
  · rw [← h i i2]; exact d i i1 i2
theorem okM_and {α σ : Type} {o : Option (α × σ)} {P Q : α → σ → Prop} (h : okM o P) (g : okM o Q) : okM o (fun r v => P r v ∧ Q r v) := by
  obtain ⟨z, v, e, p⟩ := h
  obtain ⟨z', v', e', q⟩ := g
  rw [e] at e'
  have e2 := Option.some.inj e'
  have e3 := Prod.mk.inj e2
  refine ⟨z, v, e, p, ?_⟩
  rw [e3.1, e3.2]
  exact q
theorem ok_and {α : Type} {o : Option α} {P Q : α → Prop} (h : ok o P) (g : ok o Q) : ok o (fun v => P v ∧ Q v) := by
  obtain ⟨v, e, p⟩ := h
  obtain ⟨v', e', q⟩ := g
  rw [e] at e'
  have e2 := Option.some.inj e'
  refine ⟨v, e, p, ?_⟩
  rw [e2]
  exact q
theorem byt_of {x : Int32} (h : fits .byte (.int x) = true) : byt x := by
  have h' : (decide ((-128 : Int32) ≤ x) && decide (x ≤ 127)) = true := h
  have a : (-128 : Int32).toInt = -128 := by decide
  have b : (127 : Int32).toInt = 127 := by decide
  rw [Bool.and_eq_true, decide_eq_true_eq, decide_eq_true_eq] at h'
  have c := Int32.le_iff_toInt_le.mp h'.1
  have d := Int32.le_iff_toInt_le.mp h'.2
  exact ⟨by omega, by omega⟩
theorem byt_i2b (x : Int32) : byt (i2b x) := by
  have a := Int8.toInt_lt x.toInt8
  have b := Int8.le_toInt x.toInt8
  unfold byt i2b
  rw [Int8.toInt_toInt32]
  omega
theorem i2b_id {x : Int32} (h : byt x) : i2b x = x := by
  unfold byt at h
  apply Int32.toInt_inj.mp
  unfold i2b
  rw [Int8.toInt_toInt32, Int32.toInt_toInt8]
  exact Int.bmod_eq_of_le (by omega) (by omega)
theorem and255_t : ∀ k : Fin 256, ((Int32.ofInt ((k.val : Int) - 128)) &&& 255).toInt = if (k.val : Int) < 128 then (k.val : Int) + 128 else (k.val : Int) - 128 := by decide +kernel
theorem and255 {x : Int32} (h : byt x) : (0 ≤ x.toInt ∧ (x &&& 255).toInt = x.toInt) ∨ (x.toInt < 0 ∧ (x &&& 255).toInt = x.toInt + 256) := by
  unfold byt at h
  have t := and255_t ⟨(x.toInt + 128).toNat, by omega⟩
  have e : (((x.toInt + 128).toNat : Nat) : Int) - 128 = x.toInt := by omega
  simp only at t
  rw [e, Int32.ofInt_toInt] at t
  by_cases c : (((x.toInt + 128).toNat : Nat) : Int) < 128
  · rw [if_pos c] at t
    exact Or.inr ⟨by omega, by omega⟩
  · rw [if_neg c] at t
    exact Or.inl ⟨by omega, by omega⟩
theorem and255_inj {x y : Int32} (hx : byt x) (hy : byt y) : x &&& 255 = y &&& 255 ↔ x = y := by
  constructor
  · intro e
    have e' := congrArg Int32.toInt e
    have a := and255 hx
    have b := and255 hy
    unfold byt at hx hy
    exact Int32.toInt_inj.mp (by omega)
  · intro e; rw [e]
theorem nm255 {x : Int32} (h : byt x) : nmI (x &&& 255).toInt ↔ nmI x.toInt := by
  have a := and255 h
  unfold byt at h
  unfold nmI
  omega
theorem sx8 (b : BitVec 64) (s : Nat) (hs : s ≤ 56) : (b.sshiftRight s).signExtend 8 = (b >>> s).signExtend 8 := by
  rw [BitVec.signExtend_eq_setWidth_of_le (b.sshiftRight s) (v := 8) (by decide), BitVec.signExtend_eq_setWidth_of_le (b >>> s) (v := 8) (by decide)]
  apply BitVec.eq_of_getLsbD_eq_iff.mpr
  intro i hi
  have h1 : ¬ (64 ≤ i) := by omega
  rw [BitVec.getLsbD_setWidth, BitVec.getLsbD_setWidth, BitVec.getLsbD_sshiftRight, BitVec.getLsbD_ushiftRight, if_pos (show s + i < 64 by omega)]
  simp [h1]
theorem sh_t : ∀ k : Fin 8, (((8 * nI k.val).toInt64 &&& 63).toBitVec.smod 64).toNat = 8 * k.val ∧ ((((8 * nI k.val).toInt64.toUInt64 &&& Int64.toUInt64 63).toBitVec) % 64).toNat = 8 * k.val := by decide +kernel
/-- the two shifts leave the same byte -/
theorem byte_sh (x : Int64) {k : Nat} (hk : k < 8) : i2b (Int64.toInt32 (shrL x (8 * nI k))) = i2b (Int64.toInt32 (ushrL x (8 * nI k))) := by
  have t := sh_t ⟨k, hk⟩
  simp only at t
  unfold i2b
  rw [Int64.toInt8_toInt32, Int64.toInt8_toInt32]
  refine congrArg Int8.toInt32 (Int8.toBitVec_inj.mp ?_)
  show (x.toBitVec.sshiftRight ((((8 * nI k).toInt64 &&& 63).toBitVec.smod 64).toNat)).signExtend 8 = (x.toBitVec >>> ((((8 * nI k).toInt64.toUInt64 &&& Int64.toUInt64 63).toBitVec) % 64).toNat).signExtend 8
  rw [t.1, t.2]
  exact sx8 _ _ (by omega)
/-! TYPING -/
def TyP (bt : Nat → Int32) (u : St) (m : Nat) (v : St) : Prop := (v.1 0).toInt = (u.1 0).toInt + m ∧ (∀ j, j ≠ 0 → v.1 j = u.1 j) ∧ (∀ j, j ≠ 0 → v.2.1 j = u.2.1 j) ∧ (∀ j : Nat, (j : Int) < (u.1 0).toInt → v.2.1 0 j = u.2.1 0 j) ∧ (∀ i : Nat, i < m → v.2.1 0 ((u.1 0).toInt.toNat + i) = bt (m - 1 - i))
theorem tyc_L30 {x1 : Int64} : ∀ (n m : Nat) {x4 : Int32} {u : St} (hx : x4.toInt = (m : Int) - 1) (hm8 : m ≤ 8) (h0 : 0 ≤ (u.1 0).toInt) (h1 : (u.1 0).toInt + m ≤ 2000) (hm : m < n), okM (mC_Text_append_L30 n x1 x4 u) (fun r v => r.toInt = 1 ∧ TyP (fun k => i2b (i2b (Int64.toInt32 (ushrL x1 (8 * nI k))))) u m v) := by
  intro n
  induction n with
  | zero => intro m x4 u hx hm8 h0 h1 hm; exact absurd hm (Nat.not_lt_zero _)
  | succ n ih =>
    intro m x4 u hx hm8 h0 h1 hm
    have l0 : (0 : Int32).toInt = 0 := by decide
    have l1 : (1 : Int32).toInt = 1 := by decide
    rw [mC_Text_append_L30]
    refine okM_lt (fun c => okM_some ⟨l1, ?_⟩) (fun c => ?_)
    · have m0 : m = 0 := by omega
      subst m0
      exact ⟨by omega, fun _ _ => rfl, fun _ _ => rfl, fun _ _ => rfl, fun i hi => absurd hi (Nat.not_lt_zero _)⟩
    · obtain ⟨k, rfl⟩ : ∃ k, m = k + 1 := ⟨m - 1, by omega⟩
      have xk : x4 = nI k := Int32.toInt_inj.mp (by rw [nI_toInt (by omega)]; omega)
      have c0 := cl_of h0
      have es : (u.1 0 + 1 : Int32).toInt = (u.1 0).toInt + (1 : Int32).toInt := add_i (by omega) (by omega)
      refine okM_gd (inb_of (by omega) (by omega)) (okM_seq (fun u2 e2 => okM_seq (fun u3 e3 => okM_seq (fun y hy => ?_))))
      have ey : y.toInt = (k : Int) - 1 := by
        have d := dec_i (a := x4) (by omega)
        rw [hy]; omega
      have s3 : (u3.1 0).toInt = (u.1 0).toInt + 1 := by
        have q : u3.1 0 = u.1 0 + 1 := by rw [e3, e2]; rfl
        rw [q]; omega
      have f3 : u3.2.1 0 = upd (u.2.1 0) (u.1 0).toNatClampNeg (i2b (i2b (Int64.toInt32 (ushrL x1 (8 * x4))))) := by rw [e3, e2]; rfl
      refine okM_mono (ih k ey (by omega) (by omega) (by omega) (by omega)) (fun r v hv => ⟨hv.1, ?_⟩)
      obtain ⟨_, v0, v1, v2, v3, v4⟩ := hv
      refine ⟨by omega, fun j hj => ?_, fun j hj => ?_, fun j hj => ?_, fun i hi => ?_⟩
      · rw [v1 j hj, e3, e2]; exact us_ne hj
      · rw [v2 j hj, e3, e2]; exact us_ne hj
      · rw [v3 j (by omega), f3]
        exact pk_un (by omega)
      · match i, hi with
        | 0, _ =>
          rw [show (u.1 0).toInt.toNat + 0 = (u.1 0).toNatClampNeg by omega, v3 _ (by omega), f3, pk_us, xk]
          rfl
        | i + 1, hi =>
          have w := v4 i (by omega)
          rw [show (u.1 0).toInt.toNat + (i + 1) = (u3.1 0).toInt.toNat + i by omega, w, show k + 1 - 1 - (i + 1) = k - 1 - i by omega]
theorem tyc {x1 : Int64} {x3 : Int32} {u : St} (h0 : 0 ≤ (u.1 0).toInt) (h2 : (u.1 0).toInt ≤ 2000) : okM (mC_Text_append x1 x3 u) (fun r v => (r.toInt = 1 ∧ (1 ≤ x3.toInt ∧ x3.toInt ≤ 8 ∧ (u.1 0).toInt + x3.toInt ≤ 2000) ∧ TyP (fun k => i2b (i2b (Int64.toInt32 (ushrL x1 (8 * nI k))))) u x3.toInt.toNat v) ∨ (r.toInt = 0 ∧ ¬ (1 ≤ x3.toInt ∧ x3.toInt ≤ 8 ∧ (u.1 0).toInt + x3.toInt ≤ 2000) ∧ v = u)) := by
  have l0 : (0 : Int32).toInt = 0 := by decide
  have l1 : (1 : Int32).toInt = 1 := by decide
  have l8 : (8 : Int32).toInt = 8 := by decide
  have lt : (2000 : Int32).toInt = 2000 := by decide
  have FUe : FU = 100000 := rfl
  rw [mC_Text_append]
  refine okM_lt (fun c => okM_some (Or.inr ⟨l0, by omega, rfl⟩)) (fun c => ?_)
  refine okM_lt (fun c => okM_some (Or.inr ⟨l0, by omega, rfl⟩)) (fun c2 => ?_)
  have e : (2000 - x3 : Int32).toInt = (2000 : Int32).toInt - x3.toInt := sub_i (by omega) (by omega)
  refine okM_le (fun c3 => okM_seq (fun y hy => ?_)) (fun c3 => okM_some (Or.inr ⟨l0, by omega, rfl⟩))
  have e1 : (x3 - 1 : Int32).toInt = x3.toInt - (1 : Int32).toInt := sub_i (by omega) (by omega)
  refine okM_mono (tyc_L30 FU x3.toInt.toNat (by rw [hy]; omega) (by omega) h0 (by omega) (by omega)) (fun r v hv => Or.inl ⟨hv.1, by omega, hv.2⟩)
theorem tym_L30 {x1 : Int64} : ∀ (n m : Nat) {x4 : Int32} {u : St} (hx : x4.toInt = (m : Int) - 1) (hm8 : m ≤ 8) (h0 : 0 ≤ (u.1 0).toInt) (h1 : (u.1 0).toInt + m ≤ 2000) (hm : m < n), okM (mM_SqlReaderModel_type_L30 n x1 x4 u) (fun r v => r.toInt = 1 ∧ TyP (fun k => i2b (i2b (Int64.toInt32 (shrL x1 (8 * nI k))))) u m v) := by
  intro n
  induction n with
  | zero => intro m x4 u hx hm8 h0 h1 hm; exact absurd hm (Nat.not_lt_zero _)
  | succ n ih =>
    intro m x4 u hx hm8 h0 h1 hm
    have l0 : (0 : Int32).toInt = 0 := by decide
    have l1 : (1 : Int32).toInt = 1 := by decide
    rw [mM_SqlReaderModel_type_L30]
    refine okM_lt (fun c => okM_some ⟨l1, ?_⟩) (fun c => ?_)
    · have m0 : m = 0 := by omega
      subst m0
      exact ⟨by omega, fun _ _ => rfl, fun _ _ => rfl, fun _ _ => rfl, fun i hi => absurd hi (Nat.not_lt_zero _)⟩
    · obtain ⟨k, rfl⟩ : ∃ k, m = k + 1 := ⟨m - 1, by omega⟩
      have xk : x4 = nI k := Int32.toInt_inj.mp (by rw [nI_toInt (by omega)]; omega)
      have c0 := cl_of h0
      have es : (u.1 0 + 1 : Int32).toInt = (u.1 0).toInt + (1 : Int32).toInt := add_i (by omega) (by omega)
      refine okM_gd (inb_of (by omega) (by omega)) (okM_seq (fun u2 e2 => okM_seq (fun u3 e3 => okM_seq (fun y hy => ?_))))
      have ey : y.toInt = (k : Int) - 1 := by
        have d := dec_i (a := x4) (by omega)
        rw [hy]; omega
      have s3 : (u3.1 0).toInt = (u.1 0).toInt + 1 := by
        have q : u3.1 0 = u.1 0 + 1 := by rw [e3, e2]; rfl
        rw [q]; omega
      have f3 : u3.2.1 0 = upd (u.2.1 0) (u.1 0).toNatClampNeg (i2b (i2b (Int64.toInt32 (shrL x1 (8 * x4))))) := by rw [e3, e2]; rfl
      refine okM_mono (ih k ey (by omega) (by omega) (by omega) (by omega)) (fun r v hv => ⟨hv.1, ?_⟩)
      obtain ⟨_, v0, v1, v2, v3, v4⟩ := hv
      refine ⟨by omega, fun j hj => ?_, fun j hj => ?_, fun j hj => ?_, fun i hi => ?_⟩
      · rw [v1 j hj, e3, e2]; exact us_ne hj
      · rw [v2 j hj, e3, e2]; exact us_ne hj
      · rw [v3 j (by omega), f3]
        exact pk_un (by omega)
      · match i, hi with
        | 0, _ =>
          rw [show (u.1 0).toInt.toNat + 0 = (u.1 0).toNatClampNeg by omega, v3 _ (by omega), f3, pk_us, xk]
          rfl
        | i + 1, hi =>
          have w := v4 i (by omega)
          rw [show (u.1 0).toInt.toNat + (i + 1) = (u3.1 0).toInt.toNat + i by omega, w, show k + 1 - 1 - (i + 1) = k - 1 - i by omega]
theorem tym {x1 : Int64} {x3 : Int32} {u : St} (h0 : 0 ≤ (u.1 0).toInt) (h2 : (u.1 0).toInt ≤ 2000) : okM (mM_SqlReaderModel_type x1 x3 u) (fun r v => (r.toInt = 1 ∧ (1 ≤ x3.toInt ∧ x3.toInt ≤ 8 ∧ (u.1 0).toInt + x3.toInt ≤ 2000) ∧ TyP (fun k => i2b (i2b (Int64.toInt32 (shrL x1 (8 * nI k))))) u x3.toInt.toNat v) ∨ (r.toInt = 0 ∧ ¬ (1 ≤ x3.toInt ∧ x3.toInt ≤ 8 ∧ (u.1 0).toInt + x3.toInt ≤ 2000) ∧ v = u)) := by
  have l0 : (0 : Int32).toInt = 0 := by decide
  have l1 : (1 : Int32).toInt = 1 := by decide
  have l8 : (8 : Int32).toInt = 8 := by decide
  have lt : (2000 : Int32).toInt = 2000 := by decide
  have FUe : FU = 100000 := rfl
  rw [mM_SqlReaderModel_type]
  refine okM_lt (fun c => okM_some (Or.inr ⟨l0, by omega, rfl⟩)) (fun c => ?_)
  refine okM_lt (fun c => okM_some (Or.inr ⟨l0, by omega, rfl⟩)) (fun c2 => ?_)
  have e : (u.1 0 + x3 : Int32).toInt = (u.1 0).toInt + x3.toInt := add_i (by omega) (by omega)
  refine okM_le (fun c3 => okM_seq (fun y hy => ?_)) (fun c3 => okM_some (Or.inr ⟨l0, by omega, rfl⟩))
  have e1 : (x3 - 1 : Int32).toInt = x3.toInt - (1 : Int32).toInt := sub_i (by omega) (by omega)
  refine okM_mono (tym_L30 FU x3.toInt.toNat (by rw [hy]; omega) (by omega) h0 (by omega) (by omega)) (fun r v hv => Or.inl ⟨hv.1, by omega, hv.2⟩)
theorem tyC {x1 : Int64} {x3 : Int32} {u : St} (h0 : 0 ≤ (u.1 0).toInt) (h2 : (u.1 0).toInt ≤ 2000) : okM (mC_SqlReader_type x1 x3 u) (fun r v => (r.toInt = 1 ∧ (1 ≤ x3.toInt ∧ x3.toInt ≤ 8 ∧ (u.1 0).toInt + x3.toInt ≤ 2000) ∧ TyP (fun k => i2b (i2b (Int64.toInt32 (ushrL x1 (8 * nI k))))) u x3.toInt.toNat v) ∨ (r.toInt = 0 ∧ ¬ (1 ≤ x3.toInt ∧ x3.toInt ≤ 8 ∧ (u.1 0).toInt + x3.toInt ≤ 2000) ∧ v = u)) := by
  rw [mC_SqlReader_type]
  refine okM_bM (tyc h0 h2) (fun r v hv => okM_gd (zb_of (by omega) (by omega)) (okM_some hv))
/-! THE CLASS: IS THE TYPED TEXT A NAME -/
theorem cN_at1 {x1 : Int32} {u : St} (h0 : 0 ≤ x1.toInt) (h1 : x1.toInt < (u.1 0).toInt) (h2 : (u.1 0).toInt ≤ 2000) : ok (mC_Text_at_1 x1 u) (fun r => r = ga u 0 x1 &&& 255) := by
  have l0 : (0 : Int32).toInt = 0 := by decide
  rw [mC_Text_at_1]
  refine ok_lt (fun c => by exfalso; omega) (fun _ => ok_lt (fun _ => ?_) (fun c => by exfalso; omega))
  exact ok_gd (inb_of (by omega) (by omega)) (ok_some rfl)
theorem cN_at4 {x1 : Int32} {u : St} (h0 : 0 ≤ x1.toInt) (h1 : x1.toInt < (u.1 2).toInt) (h2 : (u.1 2).toInt ≤ 2000) : ok (mC_Text_at_4 x1 u) (fun r => r = ga u 1 x1 &&& 255) := by
  have l0 : (0 : Int32).toInt = 0 := by decide
  rw [mC_Text_at_4]
  refine ok_lt (fun c => by exfalso; omega) (fun _ => ok_lt (fun _ => ?_) (fun c => by exfalso; omega))
  exact ok_gd (inb_of (by omega) (by omega)) (ok_some rfl)
theorem cN_sm {x0 : Int32} {u : St} : ok (mC_Text_isSmall x0 u) (fun r => YN r (97 ≤ x0.toInt ∧ x0.toInt ≤ 122)) := by
  have l0 : (0 : Int32).toInt = 0 := by decide
  have l1 : (1 : Int32).toInt = 1 := by decide
  have la : (97 : Int32).toInt = 97 := by decide
  have lb : (122 : Int32).toInt = 122 := by decide
  rw [mC_Text_isSmall]
  refine ok_lt (fun c => ok_some (Or.inr ⟨l0, by omega⟩)) (fun c => ?_)
  exact ok_lt (fun c2 => ok_some (Or.inr ⟨l0, by omega⟩)) (fun c2 => ok_some (Or.inl ⟨l1, by omega⟩))
theorem cN_dg {x0 : Int32} {u : St} : ok (mC_Text_isDigit x0 u) (fun r => YN r (48 ≤ x0.toInt ∧ x0.toInt ≤ 57)) := by
  have l0 : (0 : Int32).toInt = 0 := by decide
  have l1 : (1 : Int32).toInt = 1 := by decide
  have la : (48 : Int32).toInt = 48 := by decide
  have lb : (57 : Int32).toInt = 57 := by decide
  rw [mC_Text_isDigit]
  refine ok_lt (fun c => ok_some (Or.inr ⟨l0, by omega⟩)) (fun c => ?_)
  exact ok_lt (fun c2 => ok_some (Or.inr ⟨l0, by omega⟩)) (fun c2 => ok_some (Or.inl ⟨l1, by omega⟩))
theorem cN_nm {x0 : Int32} {u : St} : ok (mC_Text_isOfName x0 u) (fun r => YN r (nmI x0.toInt)) := by
  have l0 : (0 : Int32).toInt = 0 := by decide
  have l1 : (1 : Int32).toInt = 1 := by decide
  have l95 : (95 : Int32).toInt = 95 := by decide
  rw [mC_Text_isOfName]
  refine ok_bP cN_sm (fun r hr => ok_eq (fun c _ => ?_) (fun c => ok_some (Or.inl ⟨l1, Or.inl ?_⟩)))
  · refine ok_bP cN_dg (fun r2 h2 => ok_eq (fun c2 _ => ?_) (fun c2 => ok_some (Or.inl ⟨l1, Or.inr (Or.inl ?_)⟩)))
    · refine ok_eq (fun c3 _ => ok_some (Or.inl ⟨l1, Or.inr (Or.inr (by omega))⟩)) (fun c3 => ok_some (Or.inr ⟨l0, ?_⟩))
      unfold YN at hr h2
      unfold nmI
      omega
    · unfold YN at h2
      omega
  · unfold YN at hr
    omega
theorem mN_sm {x0 : Int32} {u : St} : ok (mM_SqlReaderModel_isSmall x0 u) (fun r => YN r (97 ≤ x0.toInt ∧ x0.toInt ≤ 122)) := by
  have l0 : (0 : Int32).toInt = 0 := by decide
  have l1 : (1 : Int32).toInt = 1 := by decide
  have la : (97 : Int32).toInt = 97 := by decide
  have lb : (122 : Int32).toInt = 122 := by decide
  rw [mM_SqlReaderModel_isSmall]
  refine ok_lt (fun c => ok_some (Or.inr ⟨l0, by omega⟩)) (fun c => ?_)
  exact ok_lt (fun c2 => ok_some (Or.inr ⟨l0, by omega⟩)) (fun c2 => ok_some (Or.inl ⟨l1, by omega⟩))
theorem mN_dg {x0 : Int32} {u : St} : ok (mM_SqlReaderModel_isDigit x0 u) (fun r => YN r (48 ≤ x0.toInt ∧ x0.toInt ≤ 57)) := by
  have l0 : (0 : Int32).toInt = 0 := by decide
  have l1 : (1 : Int32).toInt = 1 := by decide
  have la : (48 : Int32).toInt = 48 := by decide
  have lb : (57 : Int32).toInt = 57 := by decide
  rw [mM_SqlReaderModel_isDigit]
  refine ok_lt (fun c => ok_some (Or.inr ⟨l0, by omega⟩)) (fun c => ?_)
  exact ok_lt (fun c2 => ok_some (Or.inr ⟨l0, by omega⟩)) (fun c2 => ok_some (Or.inl ⟨l1, by omega⟩))
theorem mN_nm {x0 : Int32} {u : St} : ok (mM_SqlReaderModel_isInName x0 u) (fun r => YN r (nmI x0.toInt)) := by
  have l0 : (0 : Int32).toInt = 0 := by decide
  have l1 : (1 : Int32).toInt = 1 := by decide
  have l95 : (95 : Int32).toInt = 95 := by decide
  rw [mM_SqlReaderModel_isInName]
  refine ok_bP mN_sm (fun r hr => ok_eq (fun c _ => ?_) (fun c => ok_some (Or.inl ⟨l1, Or.inl ?_⟩)))
  · refine ok_bP mN_dg (fun r2 h2 => ok_eq (fun c2 _ => ?_) (fun c2 => ok_some (Or.inl ⟨l1, Or.inr (Or.inl ?_)⟩)))
    · refine ok_eq (fun c3 _ => ok_some (Or.inl ⟨l1, Or.inr (Or.inr (by omega))⟩)) (fun c3 => ok_some (Or.inr ⟨l0, ?_⟩))
      unfold YN at hr h2
      unfold nmI
      omega
    · unfold YN at h2
      omega
  · unfold YN at hr
    omega
theorem cN_isName_L24 {u : St} (I : IC u) : ∀ (n : Nat) {x1 : Int32} (h0 : 1 ≤ x1.toInt) (hp : ∀ i : Nat, 1 ≤ i → (i : Int) < x1.toInt → nmI (u.2.1 0 i).toInt) (hm : (2000 - x1.toInt).toNat < n), ok (mC_Text_isName_L24 n x1 u) (fun r => YN r (∀ i : Nat, 1 ≤ i → (i : Int) < (u.1 0).toInt → nmI (u.2.1 0 i).toInt)) := by
  intro n
  induction n with
  | zero => intro x1 h0 hp hm; exact absurd hm (Nat.not_lt_zero _)
  | succ n ih =>
    intro x1 h0 hp hm
    have B := IC_b I
    have l0 : (0 : Int32).toInt = 0 := by decide
    have l1 : (1 : Int32).toInt = 1 := by decide
    rw [mC_Text_isName_L24]
    refine ok_le (fun c => ok_some (Or.inl ⟨l1, fun i a b => hp i a (by omega)⟩)) (fun c => ?_)
    have cc := cl_of (i := x1) (by omega)
    have bb : byt (ga u 0 x1) := byt_of (I.2.1 _)
    refine ok_bP (cN_at1 (by omega) c (by omega)) (fun r hr => ok_bP cN_nm (fun s hs => ?_))
    rw [hr] at hs
    refine ok_eq (fun c2 _ => ok_some (Or.inr ⟨l0, fun h => ?_⟩)) (fun c2 => ok_seq (fun y hy => ?_))
    · rcases hs with q | q
      · omega
      · exact q.2 ((nm255 bb).mpr (h x1.toNatClampNeg (by omega) (by omega)))
    · have ey : (x1 + 1 : Int32).toInt = x1.toInt + (1 : Int32).toInt := add_i (by omega) (by omega)
      have ey' : y.toInt = x1.toInt + 1 := by rw [hy]; omega
      refine ih (by omega) (fun i a b => ?_) (by omega)
      by_cases h : i = x1.toNatClampNeg
      · rcases hs with q | q
        · rw [h]; exact (nm255 bb).mp q.2
        · omega
      · exact hp i a (by omega)
theorem cN_isName {u : St} (I : IC u) : ok (mC_Text_isName u) (fun r => YN r (nameB (u.2.1 0) (u.1 0).toInt)) := by
  have B := IC_b I
  have l0 : (0 : Int32).toInt = 0 := by decide
  have l1 : (1 : Int32).toInt = 1 := by decide
  have l16 : (16 : Int32).toInt = 16 := by decide
  have lm : (-1 : Int32).toInt = -1 := by decide
  have FUe : FU = 100000 := rfl
  rw [mC_Text_isName]
  refine ok_lt (fun c => ok_some (Or.inr ⟨l0, fun h => by have := h.1; omega⟩)) (fun c => ?_)
  have bb : byt (ga u 0 0) := byt_of (I.2.1 _)
  have e0 : ga u 0 0 = u.2.1 0 0 := rfl
  have a0 : ok (mC_Text_at_1 0 u) (fun r => (1 ≤ (u.1 0).toInt ∧ r = ga u 0 0 &&& 255) ∨ ((u.1 0).toInt = 0 ∧ r.toInt = -1)) := by
    by_cases h : 1 ≤ (u.1 0).toInt
    · exact ok_mono (cN_at1 (by omega) (by omega) (by omega)) (fun r hr => Or.inl ⟨h, hr⟩)
    · rw [mC_Text_at_1]
      refine ok_lt (fun c => by exfalso; omega) (fun _ => ok_lt (fun c => by exfalso; omega) (fun _ => ok_some (Or.inr ⟨by omega, lm⟩)))
  refine ok_bP a0 (fun r hr => ok_bP cN_sm (fun s hs => ok_eq (fun c2 _ => ok_some (Or.inr ⟨l0, fun h => ?_⟩)) (fun c2 => ?_)))
  · obtain ⟨_, h1, h2, _⟩ := h
    rw [← e0] at h2
    have aa := and255 bb
    unfold YN at hs
    rcases hr with ⟨_, q⟩ | q
    · rw [q] at hs
      omega
    · omega
  · have aa := and255 bb
    unfold YN at hs
    have q : 1 ≤ (u.1 0).toInt ∧ (97 ≤ (ga u 0 0).toInt ∧ (ga u 0 0).toInt ≤ 122) := by
      rcases hr with ⟨q1, q⟩ | q
      · rw [q] at hs
        unfold byt at bb
        omega
      · omega
    rw [e0] at q
    refine ok_mono (cN_isName_L24 I _ (by omega) (fun i a b => by omega) (by omega)) (fun r hr => ?_)
    rcases hr with w | w
    · exact Or.inl ⟨w.1, by omega, q.1, q.2, w.2⟩
    · exact Or.inr ⟨w.1, fun h => w.2 h.2.2.2⟩
/-! A KEPT NAME: its span in the class's texts, its place in the reference's -/
def NM (u : St) (s : Int32) (g : Nat → Int32) (off : Nat) (len : Int32) : Prop := ∃ a l : Nat, s = nI (32 * a + l) ∧ ((a + l : Nat) : Int) ≤ (u.1 2).toInt ∧ l ≤ 16 ∧ len.toInt = l ∧ ∀ i : Nat, i < l → u.2.1 1 (a + i) = g (off + i) ∧ byt (g (off + i))
def MT (g : Nat → Int32) (off : Nat) (len : Int32) (f : Nat → Int32) (n : Nat) : Prop := len.toInt = n ∧ ∀ i : Nat, i < n → g (off + i) = f i
theorem cN_same_L20 {u : St} {a l : Nat} (hl : l ≤ 16) (hal : ((a + l : Nat) : Int) ≤ (u.1 2).toInt) (h2 : (u.1 2).toInt ≤ 2000) (hn : (u.1 0).toInt = l) (b1 : ∀ i, i < l → byt (u.2.1 1 (a + i))) (b0 : ∀ i, i < l → byt (u.2.1 0 i)) : ∀ (m : Nat) {x5 : Int32} (h0 : 0 ≤ x5.toInt) (hp : ∀ i : Nat, (i : Int) < x5.toInt → i < l → u.2.1 1 (a + i) = u.2.1 0 i) (hm : ((l : Int) - x5.toInt).toNat < m), ok (mC_Text_same_4_1_L20 m (nI (32 * a + l)) (nI l) (nI l) x5 u) (fun r => YN r (∀ i : Nat, i < l → u.2.1 1 (a + i) = u.2.1 0 i)) := by
  intro m
  induction m with
  | zero => intro x5 h0 hp hm; exact absurd hm (Nat.not_lt_zero _)
  | succ m ih =>
    intro x5 h0 hp hm
    have l0 : (0 : Int32).toInt = 0 := by decide
    have l1 : (1 : Int32).toInt = 1 := by decide
    have nl : (nI l).toInt = (l : Int) := nI_toInt (by omega)
    have na : (nI a).toInt = (a : Int) := nI_toInt (by omega)
    rw [mC_Text_same_4_1_L20]
    refine ok_le (fun c => ok_some (Or.inl ⟨l1, fun i hi => hp i (by omega) hi⟩)) (fun c => ?_)
    have s1 : nI (32 * a + l) >>> (5 &&& 31) = nI a := by
      rw [pk_shrN (by omega) _ 5 (by decide)]
      exact congrArg nI (by omega)
    have s2 : nI l >>> (5 &&& 31) = nI 0 := by
      rw [pk_shrN (by omega) _ 5 (by decide)]
      exact congrArg nI (by omega)
    have c5 := cl_of h0
    have ea : (nI a + x5 : Int32).toInt = (nI a).toInt + x5.toInt := add_i (by omega) (by omega)
    have ca := cl_of (i := nI a + x5) (by omega)
    have z0 : (nI 0).toInt = 0 := by decide
    have eb : (nI 0 + x5 : Int32).toInt = (nI 0).toInt + x5.toInt := add_i (by omega) (by omega)
    have cb := cl_of (i := nI 0 + x5) (by omega)
    have ga1 : ga u 1 (nI a + x5) = u.2.1 1 (a + x5.toNatClampNeg) := by
      show u.2.1 1 (nI a + x5).toNatClampNeg = _
      rw [show (nI a + x5).toNatClampNeg = a + x5.toNatClampNeg by omega]
    have ga0 : ga u 0 (nI 0 + x5) = u.2.1 0 x5.toNatClampNeg := by
      show u.2.1 0 (nI 0 + x5).toNatClampNeg = _
      rw [show (nI 0 + x5).toNatClampNeg = x5.toNatClampNeg by omega]
    refine ok_bP (show ok (mC_Text_startOf _ u) (fun r => r = nI a) from ok_some s1) (fun r3 h3 => ?_)
    subst h3
    refine ok_bP (cN_at4 (by omega) (by omega) h2) (fun r4 h4 => ?_)
    refine ok_bP (show ok (mC_Text_startOf _ u) (fun r => r = nI 0) from ok_some s2) (fun r5 h5 => ?_)
    subst h5
    refine ok_bP (cN_at1 (by omega) (by omega) (by omega)) (fun r6 h6 => ?_)
    rw [ga1] at h4
    rw [ga0] at h6
    have bx := b1 x5.toNatClampNeg (by omega)
    have bz := b0 x5.toNatClampNeg (by omega)
    refine ok_eq (fun _ q => ok_seq (fun y hy => ?_)) (fun q => ok_some (Or.inr ⟨l0, fun h => q ?_⟩))
    · have ey : (x5 + 1 : Int32).toInt = x5.toInt + (1 : Int32).toInt := add_i (by omega) (by omega)
      have ey' : y.toInt = x5.toInt + 1 := by rw [hy]; omega
      refine ih (by omega) (fun i hi hl' => ?_) (by omega)
      by_cases h : i = x5.toNatClampNeg
      · rw [h4, h6] at q
        rw [h]
        exact (and255_inj bx bz).mp q
      · exact hp i (by omega) hl'
    · rw [h4, h6, h x5.toNatClampNeg (by omega)]
theorem cN_same {u : St} {s : Int32} {g : Nat → Int32} {off : Nat} {len : Int32} {n : Nat} (N : NM u s g off len) (h2 : (u.1 2).toInt ≤ 2000) (hn : (u.1 0).toInt = n) (hn2 : n ≤ 16) (b0 : ∀ i, i < n → byt (u.2.1 0 i)) : ok (mC_Text_same_4_1 s (nI n) u) (fun r => YN r (MT g off len (u.2.1 0) n)) := by
  obtain ⟨a, l, hs, hal, hl, hlen, hb⟩ := N
  subst hs
  have l0 : (0 : Int32).toInt = 0 := by decide
  have FUe : FU = 100000 := rfl
  have nl : (nI l).toInt = (l : Int) := nI_toInt (by omega)
  have nn : (nI n).toInt = (n : Int) := nI_toInt (by omega)
  have sz (x y : Nat) (hx : x ≤ 70000) (e : x % 2 ^ 5 = y) : ok (mC_Text_sizeOf (nI x) u) (fun r => r = nI y) := by
    have nx : (nI x).toInt = (x : Int) := nI_toInt (by omega)
    rw [mC_Text_sizeOf]
    refine ok_le (fun _ => ok_some ?_) (fun c => by exfalso; omega)
    rw [pk_andN (by omega) 5 (by decide), e]
  rw [mC_Text_same_4_1]
  refine ok_bP (sz (32 * a + l) l (by omega) (by omega)) (fun r1 h1 => ok_bP (sz n n (by omega) (by omega)) (fun r2 h2' => ?_))
  subst h1
  subst h2'
  refine ok_eq (fun q _ => ?_) (fun q => ok_some (Or.inr ⟨l0, fun h => by have := h.1; omega⟩))
  have e : l = n := by omega
  subst e
  refine ok_mono (cN_same_L20 hl hal h2 hn (fun i hi => by rw [(hb i hi).1]; exact (hb i hi).2) b0 _ (by omega) (fun i hi => by omega) (by omega)) (fun r hr => ?_)
  rcases hr with w | w
  · exact Or.inl ⟨w.1, hlen, fun i hi => by rw [← (hb i hi).1]; exact w.2 i hi⟩
  · exact Or.inr ⟨w.1, fun h => w.2 (fun i hi => by rw [(hb i hi).1]; exact h.2 i hi)⟩
theorem cN_findTable {u : St} {g : Nat → Int32} {lens : Nat → Int32} {n : Nat} (hN : ∀ t : Nat, (t : Int) < (u.1 1).toInt → NM u (u.2.1 2 t) g (16 * t) (lens t)) (h1 : (u.1 1).toInt ≤ 8) (h2 : (u.1 2).toInt ≤ 2000) (hn : (u.1 0).toInt = n) (hn2 : n ≤ 16) (b0 : ∀ i, i < n → byt (u.2.1 0 i)) : ∀ (m : Nat) {x3 : Int32} (h0 : 0 ≤ x3.toInt) (hp : ∀ t : Nat, (t : Int) < x3.toInt → ¬ MT g (16 * t) (lens t) (u.2.1 0) n) (hm : (8 - x3.toInt).toNat < m), ok (mC_Catalog_findTable_3_1_L2 m (nI n) x3 u) (fun r => (r.toInt < 0 ∧ ∀ t : Nat, (t : Int) < (u.1 1).toInt → ¬ MT g (16 * t) (lens t) (u.2.1 0) n) ∨ (0 ≤ r.toInt ∧ ∃ t : Nat, (t : Int) < (u.1 1).toInt ∧ MT g (16 * t) (lens t) (u.2.1 0) n)) := by
  intro m
  induction m with
  | zero => intro x3 h0 hp hm; exact absurd hm (Nat.not_lt_zero _)
  | succ m ih =>
    intro x3 h0 hp hm
    have l0 : (0 : Int32).toInt = 0 := by decide
    have l1 : (1 : Int32).toInt = 1 := by decide
    have lm : (-1 : Int32).toInt = -1 := by decide
    have c3 := cl_of h0
    rw [mC_Catalog_findTable_3_1_L2]
    refine ok_le (fun c => ok_some (Or.inl ⟨by omega, fun t ht => hp t (by omega)⟩)) (fun c => ?_)
    refine ok_gd (inb_of (by omega) (by omega)) (ok_bP (cN_same (hN x3.toNatClampNeg (by omega)) h2 hn hn2 b0) (fun r hr => ?_))
    unfold YN at hr
    refine ok_eq (fun q _ => ok_seq (fun y hy => ?_)) (fun q => ok_some (Or.inr ⟨h0, x3.toNatClampNeg, by omega, ?_⟩))
    · have ey : (x3 + 1 : Int32).toInt = x3.toInt + (1 : Int32).toInt := add_i (by omega) (by omega)
      have ey' : y.toInt = x3.toInt + 1 := by rw [hy]; omega
      refine ih (by omega) (fun t ht => ?_) (by omega)
      by_cases h : t = x3.toNatClampNeg
      · rcases hr with w | w
        · omega
        · rw [h]; exact w.2
      · exact hp t (by omega)
    · rcases hr with w | w
      · exact w.2
      · omega
theorem cN_findColumn {u : St} {g : Nat → Int32} {lens : Nat → Int32} {n : Nat} {x1 : Int32} (hx0 : 0 ≤ x1.toInt) (hx1 : x1.toInt < (u.1 1).toInt) (hN : ∀ c : Nat, (c : Int) < (ga u 3 x1).toInt → NM u (u.2.1 4 (8 * x1.toNatClampNeg + c)) g (16 * (8 * x1.toNatClampNeg + c)) (lens (8 * x1.toNatClampNeg + c))) (h1 : (u.1 1).toInt ≤ 8) (h8 : (ga u 3 x1).toInt ≤ 8) (h2 : (u.1 2).toInt ≤ 2000) (hn : (u.1 0).toInt = n) (hn2 : n ≤ 16) (b0 : ∀ i, i < n → byt (u.2.1 0 i)) : ∀ (m : Nat) {x4 : Int32} (h0 : 0 ≤ x4.toInt) (hp : ∀ c : Nat, (c : Int) < x4.toInt → ¬ MT g (16 * (8 * x1.toNatClampNeg + c)) (lens (8 * x1.toNatClampNeg + c)) (u.2.1 0) n) (hm : (8 - x4.toInt).toNat < m), ok (mC_Catalog_findColumn_3_1_L3 m x1 (nI n) x4 u) (fun r => (r.toInt < 0 ∧ ∀ c : Nat, (c : Int) < (ga u 3 x1).toInt → ¬ MT g (16 * (8 * x1.toNatClampNeg + c)) (lens (8 * x1.toNatClampNeg + c)) (u.2.1 0) n) ∨ (0 ≤ r.toInt ∧ ∃ c : Nat, (c : Int) < (ga u 3 x1).toInt ∧ MT g (16 * (8 * x1.toNatClampNeg + c)) (lens (8 * x1.toNatClampNeg + c)) (u.2.1 0) n)) := by
  have l0 : (0 : Int32).toInt = 0 := by decide
  have l1 : (1 : Int32).toInt = 1 := by decide
  have l8 : (8 : Int32).toInt = 8 := by decide
  have lm : (-1 : Int32).toInt = -1 := by decide
  have cx := cl_of hx0
  have co : ok (mC_Catalog_columnsOf x1 u) (fun r => r = ga u 3 x1) := by
    rw [mC_Catalog_columnsOf]
    have hs : ok (mC_Catalog_has x1 u) (fun r => r.toInt = 1) := by
      rw [mC_Catalog_has]
      exact ok_lt (fun c => by exfalso; omega) (fun _ => ok_le (fun c => by exfalso; omega) (fun _ => ok_some l1))
    exact ok_bP hs (fun r hr => ok_eq (fun c _ => by exfalso; omega) (fun _ => ok_gd (inb_of (by omega) (by omega)) (ok_some rfl)))
  intro m
  induction m with
  | zero => intro x4 h0 hp hm; exact absurd hm (Nat.not_lt_zero _)
  | succ m ih =>
    intro x4 h0 hp hm
    have c4 := cl_of h0
    rw [mC_Catalog_findColumn_3_1_L3]
    refine ok_bP co (fun r1 hr1 => ?_)
    subst hr1
    refine ok_le (fun c => ok_some (Or.inl ⟨by omega, fun t ht => hp t (by omega)⟩)) (fun c => ?_)
    have e8 : (x1 * 8 : Int32).toInt = x1.toInt * 8 := muc_i l8 (by omega) (by omega)
    have e9 : (x1 * 8 + x4 : Int32).toInt = (x1 * 8 : Int32).toInt + x4.toInt := add_i (by omega) (by omega)
    have c9 := cl_of (i := x1 * 8 + x4) (by omega)
    have g4 : ga u 4 (x1 * 8 + x4) = u.2.1 4 (8 * x1.toNatClampNeg + x4.toNatClampNeg) := by
      show u.2.1 4 (x1 * 8 + x4).toNatClampNeg = _
      rw [show (x1 * 8 + x4).toNatClampNeg = 8 * x1.toNatClampNeg + x4.toNatClampNeg by omega]
    refine ok_gd (inb_of (by omega) (by omega)) ?_
    rw [g4]
    refine ok_bP (cN_same (hN x4.toNatClampNeg (by omega)) h2 hn hn2 b0) (fun r hr => ?_)
    unfold YN at hr
    refine ok_eq (fun q _ => ok_seq (fun y hy => ?_)) (fun q => ok_some (Or.inr ⟨h0, x4.toNatClampNeg, by omega, ?_⟩))
    · have ey : (x4 + 1 : Int32).toInt = x4.toInt + (1 : Int32).toInt := add_i (by omega) (by omega)
      have ey' : y.toInt = x4.toInt + 1 := by rw [hy]; omega
      refine ih (by omega) (fun t ht => ?_) (by omega)
      by_cases h : t = x4.toNatClampNeg
      · rcases hr with w | w
        · omega
        · rw [h]; exact w.2
      · exact hp t (by omega)
    · rcases hr with w | w
      · exact w.2
      · omega
/-- what keeping a name leaves -/
def KpP (u : St) (s0 n : Nat) (v : St) : Prop := (v.1 2).toInt = ((s0 + n : Nat) : Int) ∧ (∀ j, j ≠ 2 → v.1 j = u.1 j) ∧ (∀ j, j ≠ 1 → v.2.1 j = u.2.1 j) ∧ (∀ j, j < s0 → v.2.1 1 j = u.2.1 1 j) ∧ (∀ i, i < n → v.2.1 1 (s0 + i) = u.2.1 0 i)
theorem cN_keep_L7 {s0 n : Nat} (hb : s0 + n ≤ 2000) (hn : n ≤ 16) : ∀ (m k : Nat) {x3 : Int32} {w : St} (hx : x3.toInt = k) (hk : k ≤ n) (h0 : (w.1 0).toInt = n) (h2 : (w.1 2).toInt = ((s0 + k : Nat) : Int)) (b0 : ∀ i, i < n → byt (w.2.1 0 i)) (hm : n - k < m), okM (mC_Text_keep_L7 m (nI s0) x3 w) (fun r v => r = nI (32 * s0 + n) ∧ (v.1 2).toInt = ((s0 + n : Nat) : Int) ∧ (∀ j, j ≠ 2 → v.1 j = w.1 j) ∧ (∀ j, j ≠ 1 → v.2.1 j = w.2.1 j) ∧ (∀ j, j < s0 + k → v.2.1 1 j = w.2.1 1 j) ∧ (∀ i, k ≤ i → i < n → v.2.1 1 (s0 + i) = w.2.1 0 i)) := by
  intro m
  induction m with
  | zero => intro k x3 w hx hk h0 h2 b0 hm; exact absurd hm (Nat.not_lt_zero _)
  | succ m ih =>
    intro k x3 w hx hk h0 h2 b0 hm
    have l1 : (1 : Int32).toInt = 1 := by decide
    have lt : (2000 : Int32).toInt = 2000 := by decide
    rw [mC_Text_keep_L7]
    refine okM_le (fun c => ?_) (fun c => ?_)
    · have kn : k = n := by omega
      subst kn
      have w2 : w.1 2 = nI (s0 + k) := Int32.toInt_inj.mp (by rw [nI_toInt (by omega)]; exact h2)
      refine okM_bP (show ok (mC_Text_span _ _ w) (fun r => r = nI (32 * s0 + k)) from ok_some ?_) (fun r hr => okM_some ⟨hr, h2, fun _ _ => rfl, fun _ _ => rfl, fun _ _ => rfl, fun i a b => by omega⟩)
      rw [w2, pk_sub (by omega), pk_shlN _ 5 (by decide) (by omega), show s0 + k - s0 = k by omega, or_n 5 (by omega) (by omega), show s0 * 2 ^ 5 + k = 32 * s0 + k by omega]
    · refine okM_le (fun c2 => by exfalso; omega) (fun c2 => ?_)
      have c3 := cl_of (i := x3) (by omega)
      have c2' := cl_of (i := w.1 2) (by omega)
      have e2 : (w.1 2 + 1 : Int32).toInt = (w.1 2).toInt + (1 : Int32).toInt := add_i (by omega) (by omega)
      have e3 : (x3 + 1 : Int32).toInt = x3.toInt + (1 : Int32).toInt := add_i (by omega) (by omega)
      refine okM_gd (inb_of (by omega) (by omega)) (okM_gd (inb_of (by omega) (by omega)) (okM_seq (fun u4 e4 => okM_seq (fun u5 e5 => okM_seq (fun y hy => ?_)))))
      have gb : i2b (ga w 0 x3) = w.2.1 0 k := by
        have q : ga w 0 x3 = w.2.1 0 k := by
          show w.2.1 0 x3.toNatClampNeg = _
          rw [show x3.toNatClampNeg = k by omega]
        rw [q]
        exact i2b_id (b0 k (by omega))
      have s5 : (u5.1 2).toInt = ((s0 + (k + 1) : Nat) : Int) := by
        have q : u5.1 2 = w.1 2 + 1 := by rw [e5, e4]; rfl
        rw [q]; omega
      have z5 : u5.1 0 = w.1 0 := by rw [e5, e4]; rfl
      have a5 : u5.2.1 0 = w.2.1 0 := by rw [e5, e4]; rfl
      have f5 : u5.2.1 1 = upd (w.2.1 1) (w.1 2).toNatClampNeg (w.2.1 0 k) := by rw [e5, e4, ← gb]; rfl
      refine okM_mono (ih (k + 1) (by rw [hy]; omega) (by omega) (by rw [z5]; exact h0) s5 (by rw [a5]; exact b0) (by omega)) (fun r v hv => ?_)
      obtain ⟨r1, r2, r3, r4, r5, r6⟩ := hv
      refine ⟨r1, r2, fun j hj => ?_, fun j hj => ?_, fun j hj => ?_, fun i a b => ?_⟩
      · rw [r3 j hj, e5, e4]; exact us_ne hj
      · rw [r4 j hj, e5, e4]; exact us_ne hj
      · rw [r5 j (by omega), f5]
        exact pk_un (by omega)
      · by_cases h : i = k
        · rw [h, r5 _ (by omega), f5, show s0 + k = (w.1 2).toNatClampNeg by omega, pk_us]
        · rw [r6 i (by omega) b, a5]
theorem cN_keep {u : St} {s0 n : Nat} (hb : s0 + n ≤ 2000) (hn : n ≤ 16) (h0 : (u.1 0).toInt = n) (h2 : (u.1 2).toInt = s0) (b0 : ∀ i, i < n → byt (u.2.1 0 i)) : okM (mC_Text_keep u) (fun r v => r = nI (32 * s0 + n) ∧ KpP u s0 n v) := by
  have l0 : (0 : Int32).toInt = 0 := by decide
  have FUe : FU = 100000 := rfl
  have w2 : u.1 2 = nI s0 := Int32.toInt_inj.mp (by rw [nI_toInt (by omega)]; exact h2)
  rw [mC_Text_keep]
  refine okM_seq (fun y hy => ?_)
  rw [hy, w2]
  refine okM_mono (cN_keep_L7 hb hn FU 0 (by omega) (by omega) h0 (by omega) b0 (by omega)) (fun r v hv => ?_)
  obtain ⟨r1, r2, r3, r4, r5, r6⟩ := hv
  exact ⟨r1, r2, r3, r4, fun j hj => r5 j (by omega), fun i hi => r6 i (by omega) hi⟩
