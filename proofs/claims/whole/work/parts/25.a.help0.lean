/-! a helper of the law: a house, a trial and the row that takes the answer -/
def zw_O (cI cL : ClassId) (x : Nat) (a b : Nat → Nat) (σ τ : zS) (o : Nat) (f : Nat → Int64) : va_W := zw_X cI x a b σ τ ++ [(o, .inl (cL, 1, .inr (.inl f)))]
theorem zk_ofWH {l : Launch} {y : MethodName} {ws ws' : List Cond} {rm : Room} {Pc : Array Value → State → Prop} {Qc : Array Value → State → Outcome → State → Prop} {mc ms : Nat} {free : Addr → Prop} {cc : ByteArray} {maxL : Nat} {ret : Option FieldType} {hh : List (Nat × Nat × Nat × Nat)}
    (hy : plainName y.cls = true) (hw : ws = Cond.codeWith y cc maxL ret hh :: ws')
    (body : ∀ p e s m args below meth c s₁, BodyLoose p l y (headSpec ws rm) cc maxL ret e s m args below meth c s₁ → c.maxLocals = maxL → Pc args s →
      W p l e (headSpec ws rm).room s m args below meth c s.heap [] 0 0 (MQ below Qc args s mc ms free) (entryFrame m args maxL)) : Met l y ws rm Pc Qc mc ms free := by
  refine MetFree.of_bodyS (code := cc) (maxLocals := maxL) (ret := ret) hy ?_ ?_
  · intro args s m h hn
    obtain ⟨m9, meth, c, hn9, h1, h2, h3, h4, -, h5, h6, -⟩ := Cond.codeWith_spec (atoms_spec (ws := ws) h _ (by rw [hw]; exact List.mem_cons_self))
    cases hn.symm.trans hn9
    exact ⟨meth, c, h1, h2, h3, h4, h5, h6⟩
  · intro p e s m args below meth c s₁ B hml hP _
    have hh0 : s₁.heap = s.heap := by rw [B.state]; rfl
    obtain ⟨t, a1, o, b1, b2, b3⟩ := body p e s m args below meth c s₁ B hml hP s₁ hh0 (Stand.of_body B)
    exact ⟨t, o, a1, b1, b2, ⟨b3.1, b3.2⟩⟩
abbrev zT2 (cI cL : ClassId) : List (ClassId × FieldType) := [(cI, .int), (cL, .long)]
/-- it answers 0: what it made of it stands in the row -/
abbrev zHO (l : Launch) (y : MethodName) (ws : List Cond) (rm : Room) (av : List Value) (D : va_G) (tys : List (ClassId × FieldType)) (w : va_W) (w1 : zS → va_W) : Prop :=
  ∀ sz : Nat, Met l y ws rm (va_Pc av (zPL D tys w sz)) (va_Qi (fun (r : Int32) (_ : zS) => r = 0) (fun u t => zQW D tys (w1 u) (va_A w sz) t) (va_A w sz)) 0 0 (va_A w sz)
/-- it answers a number of the exception: nothing is written -/
abbrev zHB (l : Launch) (y : MethodName) (ws : List Cond) (rm : Room) (av : List Value) (D : va_G) (tys : List (ClassId × FieldType)) (w : va_W) (code : Int32) : Prop :=
  ∀ sz : Nat, Met l y ws rm (va_Pc av (zPX D tys w sz)) (va_Qi (fun (r : Int32) (_ : Unit) => r = code) (fun _ _ => True) (fun _ => False)) 1 6 (fun _ => False)
section ZHL
variable {p : Program} {l : Launch} {e : Env} {R : Room} {s : State} {m : MethodId} {args : Array Value} {below : List Frame} {meth : Method} {c : Code} {H : Heap} {locs : List Loc} {cells slots : Nat} {Q : State → Prop}
variable {pc : Nat} {ls : Array Slot} {rest st0 : List Value} {a : Array Value} {A0 : Nat → Prop} {H0 : Heap} {D : va_G} {tys : List (ClassId × FieldType)} {w : va_W} {post : Int32 → Prop}
theorem zk_E {w1 : zS → va_W} (hr : va_Run p l e R s m args below meth c H locs cells slots 0 0 (F0 m pc ls st0) rest (va_Qi (fun (r : Int32) (_ : zS) => post r) (fun u t => zQW D tys (w1 u) (va_A w H.size) t) (va_A w H.size) a) (va_A w H.size)) (hS : va_S A0 H0 H locs) (hF : ∀ q, va_A w H.size q → A0 q)
    (kk : ∀ (r : Int32) (u : zS) (H1 : Heap) (locs1 : List Loc), post r → (∀ q : Nat, q < H.size → ¬ va_A w H.size q → H1[q]? = H[q]?) → va_P D vwCl (w1 u) H1 → va_D (va_A w H.size) (w1 u) → va_S A0 H0 H1 locs1 → W p l e R s m args below meth c H1 locs1 cells slots Q (F0 m (pc + 3) ls (.int r :: rest))) : W p l e R s m args below meth c H locs cells slots Q (F0 m pc ls st0) := by
  refine va_calli hr hS (fun q _ h => hF q h) hF (fun r u t H1 locs1 ht hvm hw hB hz1 hk1 hS1 => ?_)
  exact kk r u H1 locs1 hw hk1 (by rw [← ht]; exact hB.1) hB.2.2 hS1
/-- a call that threw and caught, and answers a number -/
theorem zk_B {code : Int32} (hr : va_Run p l e R s m args below meth c H locs cells slots 1 6 (F0 m pc ls st0) rest (va_Qi (fun (r : Int32) (_ : Unit) => r = code) (fun _ _ => True) (fun _ => False) a) (fun _ => False)) (hS : va_S A0 H0 H locs)
    (kk : ∀ (H1 : Heap) (locs1 : List Loc), (∀ w : va_W, va_P D vwCl w H → va_P D vwCl w H1) → va_S A0 H0 H1 locs1 → W p l e R s m args below meth c H1 locs1 (cells + 1) (slots + 6) Q (F0 m (pc + 3) ls (.int code :: rest))) : W p l e R s m args below meth c H locs cells slots Q (F0 m pc ls st0) := by
  refine va_calli hr hS (fun q _ h => h.elim) (fun q h => h.elim) (fun r u t H1 locs1 ht hvm hw hB hz1 hk1 hS1 => ?_)
  subst hw
  exact kk H1 locs1 (fun w hP => hP.kept (fun k q hk => hk1 q.1 (hP k q hk).lt (fun z => z))) hS1
end ZHL
