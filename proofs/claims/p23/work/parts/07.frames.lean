/-! a world that is a part of another's: X ++ (Y ++ Z) -/
theorem fr_k {X Y Z : va_W} {k : Nat} {q : Nat × va_E} (h : Y[k]? = some q) : (X ++ (Y ++ Z))[X.length + k]? = some q := by
  have hl := (List.getElem?_eq_some_iff.mp h).1
  rw [List.getElem?_append_right (by omega), Nat.add_sub_cancel_left, List.getElem?_append_left hl]
  exact h
theorem fr_P {D : va_G} {cl : List vw_C} {X Y Z : va_W} {H : Heap} (h : va_P D cl (X ++ (Y ++ Z)) H) : va_P D cl Y H := fun _ q hk => h _ q (fr_k hk)
theorem fr_D {A : Nat → Prop} {X Y Z : va_W} (h : va_D A (X ++ (Y ++ Z))) : va_D A Y :=
  ⟨fun i j p q hi hj hpq => by have h1 := h.1 _ _ p q (fr_k hi) (fr_k hj) hpq; omega, fun _ q hk => h.2 _ q (fr_k hk)⟩
theorem fr_J {D : va_G} {cl : List vw_C} {X Y Z Y' : va_W} {A0 : Nat → Prop} {H H1 : Heap} (hP : va_P D cl (X ++ (Y ++ Z)) H) (hD : va_D A0 (X ++ (Y ++ Z))) (hkp : ∀ q : Nat, q < H.size → ¬ va_A Y H.size q → H1[q]? = H[q]?) (hF : ∀ q, va_A Y H.size q → A0 q) (hP1 : va_P D cl Y' H1) (hD1 : va_D (va_A Y H.size) Y') : va_P D cl (X ++ (Y' ++ Z)) H1 ∧ va_D A0 (X ++ (Y' ++ Z)) := by
  have kX : ∀ (k : Nat) (q : Nat × va_E), X[k]? = some q → (X ++ (Y ++ Z))[k]? = some q := fun k q hk => by
    rw [List.getElem?_append_left (List.getElem?_eq_some_iff.mp hk).1]; exact hk
  have kZ : ∀ (k : Nat) (q : Nat × va_E), Z[k]? = some q → (X ++ (Y ++ Z))[X.length + (Y.length + k)]? = some q := fun k q hk => by
    rw [List.getElem?_append_right (by omega), Nat.add_sub_cancel_left, List.getElem?_append_right (by omega), Nat.add_sub_cancel_left]; exact hk
  have ap : ∀ (i : Nat) (q : Nat × va_E), (X ++ (Y ++ Z))[i]? = some q → (i < X.length ∨ X.length + Y.length ≤ i) → q.1 < H.size ∧ ¬ va_A Y H.size q.1 := by
    intro i q hi ho
    have hl := (hP i q hi).lt
    refine ⟨hl, fun h => ?_⟩
    rcases h with ⟨k, e, h⟩ | h
    · have hkl := (List.getElem?_eq_some_iff.mp h).1
      have h2 := hD.1 i (X.length + k) q (q.1, e) hi (fr_k h) rfl
      omega
    · omega
  have aX : ∀ (k : Nat) (q : Nat × va_E), X[k]? = some q → q.1 < H.size ∧ ¬ va_A Y H.size q.1 := fun k q hk => ap k q (kX k q hk) (Or.inl (List.getElem?_eq_some_iff.mp hk).1)
  have aZ : ∀ (k : Nat) (q : Nat × va_E), Z[k]? = some q → q.1 < H.size ∧ ¬ va_A Y H.size q.1 := fun k q hk => ap _ q (kZ k q hk) (Or.inr (by omega))
  have dX : va_D A0 X := ⟨fun i j p q hi hj hpq => hD.1 i j p q (kX i p hi) (kX j q hj) hpq, fun k q hk => hD.2 k q (kX k q hk)⟩
  have dZ : va_D A0 Z := ⟨fun i j p q hi hj hpq => by have h2 := hD.1 _ _ p q (kZ i p hi) (kZ j q hj) hpq; omega, fun k q hk => hD.2 _ q (kZ k q hk)⟩
  refine ⟨va_P.app (fun k q hk => (hP k q (kX k q hk)).kept (hkp q.1 (aX k q hk).1 (aX k q hk).2)) (va_P.app hP1 (fun k q hk => (hP _ q (kZ k q hk)).kept (hkp q.1 (aZ k q hk).1 (aZ k q hk).2))), ?_⟩
  refine va_D.app dX (va_D.app (hD1.weaken (fun _ q _ h => hF q.1 h)) dZ ?_) ?_
  · intro i j p q hi hj hpq
    exact (aZ j q hj).2 (by rw [← hpq]; exact hD1.2 i p hi)
  · intro i j p q hi hj hpq
    by_cases hl : j < Y'.length
    · rw [List.getElem?_append_left hl] at hj
      exact (aX i p hi).2 (by rw [hpq]; exact hD1.2 j q hj)
    · rw [List.getElem?_append_right (by omega)] at hj
      have h2 := hD.1 _ _ p q (kX i p hi) (kZ _ q hj) hpq
      have h3 := (List.getElem?_eq_some_iff.mp hi).1
      omega
/-- one cell of a world is new, another is read: all else stays -/
theorem fr_set {D : va_G} {cl : List vw_C} {w : va_W} {A : Nat → Prop} {H H1 : Heap} {i k p q : Nat} {ep eq eq' : va_E} (hi : w[i]? = some (p, ep)) (hk : w[k]? = some (q, eq)) (hP : va_P D cl w H) (hD : va_D A w)
    (hkp : ∀ z : Nat, z < H.size → ¬ va_A [(p, ep), (q, eq)] H.size z → H1[z]? = H[z]?) (hP1 : va_P D cl [(p, ep), (q, eq')] H1) : va_P D cl (w.set k (q, eq')) H1 ∧ va_D A (w.set k (q, eq')) := by
  refine ⟨?_, hD.set hk⟩
  have hl := (List.getElem?_eq_some_iff.mp hk).1
  intro j x hj
  by_cases hjk : j = k
  · subst hjk
    rw [List.getElem?_set_self hl] at hj
    cases hj
    exact hP1 1 _ rfl
  · rw [List.getElem?_set_ne (Ne.symm hjk)] at hj
    by_cases hji : j = i
    · subst hji
      cases hi.symm.trans hj
      exact hP1 0 _ rfl
    · refine (hP j x hj).kept (hkp x.1 (hP j x hj).lt ?_)
      intro h
      rcases h with ⟨n, e, h⟩ | h
      · match n, h with
        | 0, h => cases h; exact hji (hD.1 j i x _ hj hi rfl)
        | 1, h => cases h; exact hjk (hD.1 j k x _ hj hk rfl)
        | n + 2, h => simp at h
      · exact absurd (hP j x hj).lt (Nat.not_lt.mpr h)
/-- a row's cell knows its numbers in its length alone -/
theorem fr_row {D : va_G} {cl : List vw_C} {H : Heap} {q n : Nat} {cA : ClassId} {f g : Nat → Int32} (h : ∀ j, j < n → f j = g j) (hP : va_at D cl (q, .inl (cA, n, .inl f)) H) : va_at D cl (q, .inl (cA, n, .inl g)) H := by
  have e : vp_cell cA (n, .inl f) = vp_cell cA (n, .inl g) := by
    rw [vp_cell_i, vp_cell_i]
    unfold arrV
    congr 2
    funext j
    show Value.int (f j.val) = Value.int (g j.val)
    rw [h j.val j.isLt]
  have h2 : H[q]? = some (vp_cell cA (n, .inl f)) := hP
  show H[q]? = some (vp_cell cA (n, .inl g))
  rw [← e]
  exact h2
/-! LAUNCH: what is given of the start and never changes: links between nest mates, the classes of the arrays of beds and of sailors -/
def zNest : List (String × Nat × MethodName × String) := [(RX3, 9, yX1_init, RX3), (RX1, 21, yX0_init, RX3), (RX1, 28, yX2_init, RX3), (RL, 27, yX4_init, RL), (RL, 43, yX5_init, RL), (RL, 122, yX6_init, RL)]
def zL (U : State) : Prop := True ∧ True ∧ (∀ q ∈ zNest, va_Nw (.methodLinkNest q.1 q.2.1 q.2.2.1 q.2.2.2) U) ∧ va_AO RX4 U ∧ va_AO RX5 U
theorem zL.warm {s U : State} (hW : s.WarmedH U.vm) (h : zL s) : zL U :=
  ⟨trivial, trivial, fun q hq => va_Nw.warmM hW (h.2.2.1 q hq), va_AO.moved hW.alike h.2.2.2.1, va_AO.moved hW.alike h.2.2.2.2⟩
def zPL (D : va_G) (tys : List (ClassId × FieldType)) (w : va_W) (sz : Nat) (U : State) : Prop := zPW D tys w sz U ∧ zL U
theorem zblL {D : va_G} {tys : List (ClassId × FieldType)} {w : va_W} {sz : Nat} (av : List Value) : FrameBlind (va_Pc av (zPL D tys w sz)) := fun a U g mk q =>
  ⟨q.1, (zbl av a U g mk ⟨q.1, q.2.1⟩).2, q.2.2.warm (State.WarmedH.refl U)⟩
theorem zprL {D : va_G} {tys : List (ClassId × FieldType)} {w : va_W} {H : Heap} {s : State} {A : Nat → Prop} {av : List Value} (hK : va_K D vwCl tys s) (hP : va_P D vwCl w H) (hD : va_D A w) (hL : zL s) : ∀ U : State, U.heap = H → s.WarmedH U.vm → va_Pc av (zPL D tys w H.size) av.toArray U := fun U hU hW =>
  ⟨rfl, (zpr (av := av) hK hP hD U hU hW).2, hL.warm hW⟩
/-- as zMV, zMI, over the launch's facts -/
abbrev zNV (l : Launch) (y : MethodName) (ws : List Cond) (rm : Room) (av : List Value) (D : va_G) (tys : List (ClassId × FieldType)) (w w1 : va_W) : Prop :=
  ∀ sz : Nat, Met l y ws rm (va_Pc av (zPL D tys w sz)) (va_Qv (fun (_ : Unit) => True) (fun _ t => zQW D tys w1 (va_A w sz) t) (va_A w sz)) 0 0 (va_A w sz)
/-- a method that only reads and answers nothing -/
abbrev zMQ (l : Launch) (y : MethodName) (ws : List Cond) (rm : Room) (av : List Value) (D : va_G) (tys : List (ClassId × FieldType)) (w : va_W) : Prop :=
  ∀ sz : Nat, Met l y ws rm (va_Pc av (zPW D tys w sz)) (va_Qv (fun (_ : Unit) => True) (fun _ _ => True) (fun _ => False)) 0 0 (fun _ => False)
section ZX
variable {p : Program} {l : Launch} {e : Env} {R : Room} {s : State} {m : MethodId} {args : Array Value} {below : List Frame} {meth : Method} {c : Code} {H : Heap} {locs : List Loc} {cells slots : Nat} {Q : State → Prop}
variable {pc : Nat} {ls : Array Slot} {rest st0 : List Value} {a : Array Value} {A0 : Nat → Prop} {H0 : Heap} {D : va_G} {tys : List (ClassId × FieldType)} {w w1 : va_W}
theorem zk_Q (hr : va_Run p l e R s m args below meth c H locs cells slots 0 0 (F0 m pc ls st0) rest (va_Qv (fun (_ : Unit) => True) (fun _ _ => True) (fun _ => False) a) (fun _ => False)) (hS : va_S A0 H0 H locs)
    (kk : ∀ (H1 : Heap) (locs1 : List Loc), (∀ w : va_W, va_P D vwCl w H → va_P D vwCl w H1) → va_S A0 H0 H1 locs1 → W p l e R s m args below meth c H1 locs1 cells slots Q (F0 m (pc + 3) ls rest)) : W p l e R s m args below meth c H locs cells slots Q (F0 m pc ls st0) := by
  refine va_callv hr hS (fun q _ h => h.elim) (fun q h => h.elim) (fun u t H1 locs1 ht hvm hw hB hz1 hk1 hS1 => ?_)
  exact kk H1 locs1 (fun w hP => hP.kept (fun k q hk => hk1 q.1 (hP k q hk).lt (fun z => z))) hS1
end ZX
