def zcmpd (x y : UInt64) : Int32 := Op.cmpValue (FP.dcmp x y) .l
theorem zcmpd_nan {x : UInt64} (h : isNaN64 x = true) : ¬ zcmpd x x = 0 := by
  unfold zcmpd
  cases hc : FP.dcmp x x with
  | none => decide
  | some o =>
    have h1 := (Jvm.Free.Fl.dcmp_some hc).1
    unfold isNaN64 at h
    unfold Jvm.Free.Fl.NoNaN64 at h1
    exact absurd h1 (UInt64.not_le.mpr (of_decide_eq_true h))
theorem zmean {σ : zS} {ns : Nat} {x y : UInt64} (hx : q_mean σ ns x) (hy : q_mean σ ns y) : zcmpd x y = 0 ∨ (¬ zcmpd x x = 0 ∧ ¬ zcmpd y y = 0) := by
  by_cases hxy : x = y
  · subst hxy
    by_cases z : zcmpd x x = 0
    · exact Or.inl z
    · exact Or.inr ⟨z, z⟩
  · right
    unfold q_mean at hx hy
    by_cases h0 : ns = 0
    · rw [if_pos h0] at hx hy
      exact absurd (hx.trans hy.symm) hxy
    · rw [if_neg h0] at hx hy
      unfold alike64 at hx hy
      generalize FP.ddiv (FP.i2d (f_sum (σ 14) ns)) (FP.i2d (nI ns)) = v at hx hy
      rcases Bool.or_eq_true_iff.mp hx with a | a <;> rcases Bool.or_eq_true_iff.mp hy with b | b
      · exact absurd ((of_decide_eq_true a).trans (of_decide_eq_true b).symm) hxy
      · have b1 := (Bool.and_eq_true_iff.mp b)
        have a1 := of_decide_eq_true a
        subst a1
        exact ⟨zcmpd_nan b1.2, zcmpd_nan b1.1⟩
      · have a1 := (Bool.and_eq_true_iff.mp a)
        have b1 := of_decide_eq_true b
        subst b1
        exact ⟨zcmpd_nan a1.1, zcmpd_nan a1.2⟩
      · exact ⟨zcmpd_nan (Bool.and_eq_true_iff.mp a).1, zcmpd_nan (Bool.and_eq_true_iff.mp b).1⟩
