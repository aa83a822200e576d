/-! THE LAW: what holds all through it -/
theorem zsail_of {σ : zS} {nb ns h : Nat} {v : Int32} (hC : zC σ nb ns h) (hv : f_sail σ v) : ∃ k, k < ns ∧ v = nI k := by
  obtain ⟨h1, h2⟩ := hv
  obtain ⟨j, hj, rfl⟩ := nI_of h1
  rw [hC.2.2.1] at h2
  exact ⟨j, (nI_ltI (a := j) (b := ns) hj (by have := hC.2.2.2.1; omega)).mp h2, rfl⟩
theorem zn_w {v : Int32} {n : Nat} (hv : ¬ (v.toInt < 0 ∨ (n : Int) < v.toInt)) : ∃ w, w ≤ n ∧ v = nI w := by
  have h0 : ¬ v < 0 := fun z => hv (Or.inl (by have := Int32.lt_iff_toInt_lt.mp z; have e : (0 : Int32).toInt = 0 := by decide
                                               omega))
  obtain ⟨j, hj, rfl⟩ := nI_of h0
  rw [nI_toInt hj] at hv
  exact ⟨j, by omega, rfl⟩
theorem zn_72 {v : Int32} (h1 : ¬ v < 1) (h2 : v ≤ 72) : ∃ n, n ≤ 72 ∧ v = nI n := by
  have h0 : ¬ v < 0 := fun z => h1 (by
    rw [Int32.lt_iff_toInt_lt] at z ⊢
    have e : (0 : Int32).toInt = 0 := by decide
    have e1 : (1 : Int32).toInt = 1 := by decide
    omega)
  obtain ⟨j, hj, rfl⟩ := nI_of h0
  exact ⟨j, (nI_leI (a := j) (b := 72) hj (by decide)).mp h2, rfl⟩
theorem zn_b3 {v : Int32} (h : ¬ (¬ v < 0 ∧ v < 3)) : ¬ (¬ v < 0 ∧ v < 3) := h
theorem zcmp0 (x : Int64) : lg_cmp x x = 0 := (lg_cmp_eq x x).mpr rfl
/-- the room to the loop's end -/
theorem zn_end {i L : Nat} (hL : L ≤ 2560) (hi : i ≤ L) (h : ¬ (Int32.ofNat L - 5) < nI i) : i + 5 ≤ L := by
  rw [Int32.lt_iff_toInt_lt, nI_toInt (by omega)] at h
  have e : (Int32.ofNat L - 5).toInt = (L : Int) - 5 := by
    have h1 : (Int32.ofNat L).toInt = (L : Int) := nI_toInt (n := L) (by omega)
    have h5 : (5 : Int32).toInt = 5 := by decide
    rw [Int32.toInt_sub, h1, h5, Int.bmod_eq_of_le (by omega) (by omega)]
  omega
def zw_W (cI cL : ClassId) (x : Nat) (a b : Nat → Nat) (σ τ : zS) (o : Nat) (f : Nat → Int64) (μ : Nat → Nat) (th : Int32) (κ : Nat → Int32) : va_W := zw_O cI cL x a b σ τ o f ++ zw_M cI μ th σ κ
/-- the law's machine and its tables -/
def zLA (l : Launch) (p : Program) (s : State) (m : MethodId) (meth : Method) (c : Code) (D : va_G) (cI cL : ClassId) (b0 L : Nat) (xs : Nat → Int32) : Prop :=
  p.tables.exec = Jvm.exec ∧ c.code = cL_law ∧ meth.sig.returnType = ret ∧ c.maxLocals = 9 ∧ s.vm.findClass RL = some m.cls ∧ (∀ w ∈ wsL_law, w.before #[Value.ref b0] s = true) ∧ va_X b0 L xs s s.heap ∧ b0 < s.heap.size ∧ va_K D vwCl (zT2 cI cL) s ∧ zL s ∧ zZ (fun q => s.heap.size ≤ q) s s.heap ∧ l.stackTraces = false ∧ L ≤ 2560
