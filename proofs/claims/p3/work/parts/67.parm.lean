/-! PARSING: a name is taken; an expression -/
theorem kP_SqlReaderModel_needName {u : St} (I : IP u) (h0 : (u.1 30).toInt ≤ 3900) : okM (mM_SqlReaderModel_needName u) (fun r v => IP v ∧ Fr [2, 30] [] u v ∧ (u.1 2).toInt ≤ (v.1 2).toInt ∧ (v.1 30).toInt = (u.1 30).toInt + 1 ∧ r.toInt = (u.1 30).toInt ∧ ((v.1 2).toInt = 1 ∨ ((u.1 30).toInt < (u.1 1).toInt ∧ (ga v 1 r).toInt = 2))) := by
  have B := IP_b I
  have l0 : (0 : Int32).toInt = 0 := by decide
  have l1 : (1 : Int32).toInt = 1 := by decide
  have l2 : (2 : Int32).toInt = 2 := by decide
  have c30 := cl_of (i := u.1 30) (by omega)
  have e : (u.1 30 + 1 : Int32).toInt = (u.1 30).toInt + (1 : Int32).toInt := add_i (by omega) (by omega)
  have s1 : u.1 30 + 1 - 1 = u.1 30 := Int32.add_sub_cancel _ _
  have fin : ∀ s : Int32, ((s.toInt = 1) ∨ (s.toInt = 0 ∧ (u.1 2).toInt = 0 ∧ (u.1 30).toInt < (u.1 1).toInt ∧ (ga u 1 (u.1 30)).toInt = 2)) → okM (mM_SqlReaderModel_needName_J25 s u) (fun r v => IP v ∧ Fr [2, 30] [] u v ∧ (u.1 2).toInt ≤ (v.1 2).toInt ∧ (v.1 30).toInt = (u.1 30).toInt + 1 ∧ r.toInt = (u.1 30).toInt ∧ ((v.1 2).toInt = 1 ∨ ((u.1 30).toInt < (u.1 1).toInt ∧ (ga v 1 r).toInt = 2))) := by
    intro s hs
    rw [mM_SqlReaderModel_needName_J25]
    refine okM_gd (zb_of (by omega) (by omega)) (okM_seq (fun u1 e1 => okM_seq (fun u2 e2 => okM_some ?_)))
    subst e1
    subst e2
    have I1 := IP_bad (x := s) I (by omega) (by omega) (by omega)
    refine ⟨IP_s30 I1 (by show 0 ≤ (u.1 30 + 1 : Int32).toInt; omega) (by show (u.1 30 + 1 : Int32).toInt ≤ 4000; omega), Fr_ss (Fr_ss (Fr_rfl u) rfl rfl) rfl rfl, by show _ ≤ s.toInt; omega, by show (u.1 30 + 1 : Int32).toInt = _; omega, ?_, ?_⟩
    · show (u.1 30 + 1 - 1 : Int32).toInt = _
      rw [s1]
    · rcases hs with hs | ⟨hs, _, h3, h4⟩
      · exact Or.inl hs
      · refine Or.inr ⟨h3, ?_⟩
        show (u.2.1 1 (u.1 30 + 1 - 1 : Int32).toNatClampNeg).toInt = 2
        rw [s1]
        exact h4
  rw [mM_SqlReaderModel_needName]
  refine okM_eq (fun b b' => ?_) (fun b => fin 1 (by omega))
  refine okM_bP (kM_SqlReaderModel_isKind (IP_IB I) (by omega)) (fun r hr => ?_)
  exact okM_eq (fun c c' => fin 1 (by omega)) (fun c => fin 0 (by omega))
/-- a part of a statement that begins at the place a: nothing is made of it once it is bad -/
theorem kP_partX {L a b : Int32} {u : St} (I : IP u) (hL : 0 ≤ L.toInt) (hL8 : L.toInt ≤ 8) (h0 : 0 ≤ a.toInt) (h1 : a.toInt ≤ 4000) (h2 : b.toInt ≤ (u.1 1).toInt) (h3 : (u.1 2).toInt = 1 ∨ ((u.1 4).toInt ≤ 100000 + 40 * a.toInt ∧ a.toInt ≤ (u.1 1).toInt)) (h4 : (u.1 4).toInt ≤ 185000) (h5 : 0 ≤ b.toInt) : okM (mM_SqlReaderModel_part DP L a b 0 u) (fun r v => IP v ∧ Fr [2, 4, 5, 28] [10, 11, 12, 13, 14, 15, 16, 17, 18, 19, 20] u v ∧ (u.1 2).toInt ≤ (v.1 2).toInt ∧ ((u.1 4).toInt ≤ (v.1 4).toInt ∨ 200 < (v.1 4).toInt) ∧ r.toInt ≤ (v.1 4).toInt - 1 + 300000 * (v.1 2).toInt ∧ 0 ≤ r.toInt ∧ (v.1 4).toInt ≤ 185000 ∧ ((v.1 2).toInt = 1 ∨ (v.1 4).toInt ≤ 100000 + 40 * b.toInt) ∧ a.toInt + 1 ≤ b.toInt + 300000 * (v.1 2).toInt) := by
  have B := IP_b I
  have l0 : (0 : Int32).toInt = 0 := by decide
  have l1 : (1 : Int32).toInt = 1 := by decide
  have D : DP = 400 := rfl
  rw [mM_SqlReaderModel_part]
  by_cases hb : (u.1 2).toInt = 1
  · rw [show DP = 399 + 1 from rfl, grpM]
    show okM (mM_SqlReaderModel_part_o (grpM 399) L a b 0 u) _
    rw [mM_SqlReaderModel_part_o]
    refine okM_eq (fun c c' => by exfalso; omega) (fun c => okM_seq (fun v hv => okM_some ?_))
    subst hv
    exact ⟨IP_bad I (by omega) (by omega) (by omega), Fr_ss (Fr_rfl u) rfl rfl, by show _ ≤ (1 : Int32).toInt; omega, Or.inl (Int.le_refl _), by show (0 : Int32).toInt ≤ (u.1 4).toInt - 1 + 300000 * (1 : Int32).toInt; omega, by omega, h4, Or.inl rfl, by show a.toInt + 1 ≤ b.toInt + 300000 * (1 : Int32).toInt; omega⟩
  · refine okM_mono ((grpM_ok DP).2.2.2.2.2 (B := 100000 + 40 * a.toInt) I h0 h1 h2 (by omega) (by omega) (by omega) (by omega) (by omega) (by omega) hL hL8 (by omega) (by omega) (by omega)) (fun r v hv => ?_)
    obtain ⟨Iv, Fv, p1, p2, p3, p4, p5, p6, p7, p8, p9⟩ := hv
    have A := IP_p Iv
    exact ⟨Iv, Fv, p1, p2, p3, p5, by omega, by omega, p7⟩
theorem kP_SqlReaderModel_expression {u : St} (I : IP u) (h0 : (u.1 4).toInt ≤ 185000) (h1 : (u.1 2).toInt = 1 ∨ ((u.1 4).toInt ≤ 100000 + 40 * (u.1 30).toInt ∧ (u.1 30).toInt ≤ (u.1 1).toInt)) : okM (mM_SqlReaderModel_expression u) (fun r v => IP v ∧ Fr [2, 4, 5, 28, 30] [10, 11, 12, 13, 14, 15, 16, 17, 18, 19, 20] u v ∧ (u.1 2).toInt ≤ (v.1 2).toInt ∧ ((u.1 4).toInt ≤ (v.1 4).toInt ∨ 200 < (v.1 4).toInt) ∧ r.toInt ≤ (v.1 4).toInt - 1 + 300000 * (v.1 2).toInt ∧ 0 ≤ r.toInt ∧ (v.1 4).toInt ≤ 185000 ∧ ((v.1 2).toInt = 1 ∨ (v.1 4).toInt ≤ 100000 + 40 * (v.1 30).toInt) ∧ (u.1 30).toInt + 1 ≤ (v.1 30).toInt + 300000 * (v.1 2).toInt ∧ (v.1 30).toInt ≤ (u.1 1).toInt ∧ ((u.1 30).toInt ≤ (v.1 30).toInt ∨ (v.1 30).toInt = (u.1 1).toInt)) := by
  have B := IP_b I
  rw [mM_SqlReaderModel_expression]
  refine okM_bP (kM_SqlReaderModel_reach (IP_IW I)) (fun e he => ?_)
  obtain ⟨e0, e1, e2⟩ := he
  refine okM_bM (kP_partX I (by decide) (by decide) (by omega) (by omega) e1 h1 h0 e0) (fun r v hv => ?_)
  obtain ⟨Iv, Fv, p1, p2, p3, p4, p5, p6, p7⟩ := hv
  refine okM_seq (fun w hw => okM_some ?_)
  subst hw
  exact ⟨IP_s30 Iv e0 (by omega), Fr_ss (Fr_tr (Fr_rfl u) Fv rfl rfl) rfl rfl, p1, p2, p3, p4, p5, p6, p7, e1, e2⟩
