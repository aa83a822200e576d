/-! THE STATE OF A HOUSE as a table of numbers: row 0 the single numbers (0 hour, 1 bell, 2 pawn, 3 how many beds, 4 how many sailors), 1..5 the beds (price, warmth, entries, paid, sleeper), 6..17 the sailors (watch, heavy, wage, purse, boots, kept, place, bed, rest, late, since, floors) -/
abbrev zS : Type := Nat → Nat → Int32
def zs (σ : zS) (r j : Nat) (v : Int32) : zS := fun r' => if r' = r then upd (σ r) j v else σ r'
theorem zs_at (σ : zS) (r j : Nat) (v : Int32) (r' j' : Nat) : zs σ r j v r' j' = if r' = r ∧ j' = j then v else σ r' j' := by
  unfold zs upd
  by_cases h : r' = r
  · subst h
    by_cases h2 : j' = j <;> simp [h2]
  · simp [h]
theorem zs_eq (σ : zS) (r j : Nat) (v : Int32) : zs σ r j v r j = v := by rw [zs_at, if_pos ⟨rfl, rfl⟩]
theorem zs_row (σ : zS) {r r' : Nat} (h : r' ≠ r) (j : Nat) (v : Int32) : zs σ r j v r' = σ r' := by unfold zs; rw [if_neg h]
theorem zs_ne (σ : zS) (r : Nat) {j j' : Nat} (h : j' ≠ j) (v : Int32) (r' : Nat) : zs σ r j v r' j' = σ r' j' := by rw [zs_at, if_neg (fun z => h z.2)]
theorem zs_nr (σ : zS) {r r' : Nat} (h : r' ≠ r) (j : Nat) (v : Int32) (j' : Nat) : zs σ r j v r' j' = σ r' j' := by rw [zs_at, if_neg (fun z => h z.1)]
theorem zs_self (σ : zS) (r j : Nat) : zs σ r j (σ r j) = σ := by
  funext r' j'
  rw [zs_at]
  by_cases h : r' = r ∧ j' = j
  · rw [if_pos h, h.1, h.2]
  · rw [if_neg h]
theorem zs_twice (σ : zS) (r j : Nat) (v w : Int32) : zs (zs σ r j v) r j w = zs σ r j w := by
  funext r' j'
  rw [zs_at, zs_at, zs_at]
  by_cases h : r' = r ∧ j' = j
  · rw [if_pos h, if_pos h]
  · rw [if_neg h, if_neg h, if_neg h]
theorem zs_swap (σ : zS) {r1 r2 : Nat} (h : r1 ≠ r2) (j1 j2 : Nat) (v w : Int32) : zs (zs σ r1 j1 v) r2 j2 w = zs (zs σ r2 j2 w) r1 j1 v := by
  funext r' j'
  rw [zs_at, zs_at, zs_at, zs_at]
  by_cases h1 : r' = r1 ∧ j' = j1
  · have h2 : ¬ (r' = r2 ∧ j' = j2) := fun z => h (h1.1.symm.trans z.1)
    rw [if_neg h2, if_pos h1, if_pos h1]
  · rw [if_neg h1, if_neg h1]
/-- true or false, as a number -/
def zb (P : Prop) (r : Int32) : Prop := (P ∧ r = 1) ∨ (¬ P ∧ r = 0)
/-- a house's cells: the house, its beds, its sailors, the rows -/
def zw_H (cI : ClassId) (a : Nat → Nat) (σ : zS) : va_W := [
  (a 0, .inr (1, [.int (σ 0 0), .int (σ 0 1), .int (σ 0 2), .ref (a 1), .ref (a 2)])),
  (a 1, .inr (0, [.int (σ 0 3), .ref (a 3), .ref (a 4), .ref (a 5), .ref (a 6), .ref (a 7)])),
  (a 2, .inr (2, [.int (σ 0 4), .ref (a 8), .ref (a 9), .ref (a 10), .ref (a 11), .ref (a 12), .ref (a 13), .ref (a 14), .ref (a 15), .ref (a 16), .ref (a 17), .ref (a 18), .ref (a 19)])),
  (a 3, .inl (cI, 6, .inl (σ 1))), (a 4, .inl (cI, 6, .inl (σ 2))), (a 5, .inl (cI, 6, .inl (σ 3))), (a 6, .inl (cI, 6, .inl (σ 4))), (a 7, .inl (cI, 6, .inl (σ 5))),
  (a 8, .inl (cI, 10, .inl (σ 6))), (a 9, .inl (cI, 10, .inl (σ 7))), (a 10, .inl (cI, 10, .inl (σ 8))), (a 11, .inl (cI, 10, .inl (σ 9))), (a 12, .inl (cI, 10, .inl (σ 10))), (a 13, .inl (cI, 10, .inl (σ 11))),
  (a 14, .inl (cI, 10, .inl (σ 12))), (a 15, .inl (cI, 10, .inl (σ 13))), (a 16, .inl (cI, 10, .inl (σ 14))), (a 17, .inl (cI, 10, .inl (σ 15))), (a 18, .inl (cI, 10, .inl (σ 16))), (a 19, .inl (cI, 10, .inl (σ 17)))]
theorem zwq1 (cI : ClassId) (a : Nat → Nat) (σ : zS) : (zw_H cI a σ)[3]? = some (a 3, .inl (cI, 6, .inl (σ 1))) := rfl
theorem zws1 (cI : ClassId) (a : Nat → Nat) (σ : zS) (j : Nat) (v : Int32) : (zw_H cI a σ).set 3 (a 3, .inl (cI, 6, .inl (upd (σ 1) j v))) = zw_H cI a (zs σ 1 j v) := rfl
theorem zwq2 (cI : ClassId) (a : Nat → Nat) (σ : zS) : (zw_H cI a σ)[4]? = some (a 4, .inl (cI, 6, .inl (σ 2))) := rfl
theorem zws2 (cI : ClassId) (a : Nat → Nat) (σ : zS) (j : Nat) (v : Int32) : (zw_H cI a σ).set 4 (a 4, .inl (cI, 6, .inl (upd (σ 2) j v))) = zw_H cI a (zs σ 2 j v) := rfl
theorem zwq3 (cI : ClassId) (a : Nat → Nat) (σ : zS) : (zw_H cI a σ)[5]? = some (a 5, .inl (cI, 6, .inl (σ 3))) := rfl
theorem zws3 (cI : ClassId) (a : Nat → Nat) (σ : zS) (j : Nat) (v : Int32) : (zw_H cI a σ).set 5 (a 5, .inl (cI, 6, .inl (upd (σ 3) j v))) = zw_H cI a (zs σ 3 j v) := rfl
theorem zwq4 (cI : ClassId) (a : Nat → Nat) (σ : zS) : (zw_H cI a σ)[6]? = some (a 6, .inl (cI, 6, .inl (σ 4))) := rfl
theorem zws4 (cI : ClassId) (a : Nat → Nat) (σ : zS) (j : Nat) (v : Int32) : (zw_H cI a σ).set 6 (a 6, .inl (cI, 6, .inl (upd (σ 4) j v))) = zw_H cI a (zs σ 4 j v) := rfl
theorem zwq5 (cI : ClassId) (a : Nat → Nat) (σ : zS) : (zw_H cI a σ)[7]? = some (a 7, .inl (cI, 6, .inl (σ 5))) := rfl
theorem zws5 (cI : ClassId) (a : Nat → Nat) (σ : zS) (j : Nat) (v : Int32) : (zw_H cI a σ).set 7 (a 7, .inl (cI, 6, .inl (upd (σ 5) j v))) = zw_H cI a (zs σ 5 j v) := rfl
theorem zwq6 (cI : ClassId) (a : Nat → Nat) (σ : zS) : (zw_H cI a σ)[8]? = some (a 8, .inl (cI, 10, .inl (σ 6))) := rfl
theorem zws6 (cI : ClassId) (a : Nat → Nat) (σ : zS) (j : Nat) (v : Int32) : (zw_H cI a σ).set 8 (a 8, .inl (cI, 10, .inl (upd (σ 6) j v))) = zw_H cI a (zs σ 6 j v) := rfl
theorem zwq7 (cI : ClassId) (a : Nat → Nat) (σ : zS) : (zw_H cI a σ)[9]? = some (a 9, .inl (cI, 10, .inl (σ 7))) := rfl
theorem zws7 (cI : ClassId) (a : Nat → Nat) (σ : zS) (j : Nat) (v : Int32) : (zw_H cI a σ).set 9 (a 9, .inl (cI, 10, .inl (upd (σ 7) j v))) = zw_H cI a (zs σ 7 j v) := rfl
theorem zwq8 (cI : ClassId) (a : Nat → Nat) (σ : zS) : (zw_H cI a σ)[10]? = some (a 10, .inl (cI, 10, .inl (σ 8))) := rfl
theorem zws8 (cI : ClassId) (a : Nat → Nat) (σ : zS) (j : Nat) (v : Int32) : (zw_H cI a σ).set 10 (a 10, .inl (cI, 10, .inl (upd (σ 8) j v))) = zw_H cI a (zs σ 8 j v) := rfl
theorem zwq9 (cI : ClassId) (a : Nat → Nat) (σ : zS) : (zw_H cI a σ)[11]? = some (a 11, .inl (cI, 10, .inl (σ 9))) := rfl
theorem zws9 (cI : ClassId) (a : Nat → Nat) (σ : zS) (j : Nat) (v : Int32) : (zw_H cI a σ).set 11 (a 11, .inl (cI, 10, .inl (upd (σ 9) j v))) = zw_H cI a (zs σ 9 j v) := rfl
theorem zwq10 (cI : ClassId) (a : Nat → Nat) (σ : zS) : (zw_H cI a σ)[12]? = some (a 12, .inl (cI, 10, .inl (σ 10))) := rfl
theorem zws10 (cI : ClassId) (a : Nat → Nat) (σ : zS) (j : Nat) (v : Int32) : (zw_H cI a σ).set 12 (a 12, .inl (cI, 10, .inl (upd (σ 10) j v))) = zw_H cI a (zs σ 10 j v) := rfl
theorem zwq11 (cI : ClassId) (a : Nat → Nat) (σ : zS) : (zw_H cI a σ)[13]? = some (a 13, .inl (cI, 10, .inl (σ 11))) := rfl
theorem zws11 (cI : ClassId) (a : Nat → Nat) (σ : zS) (j : Nat) (v : Int32) : (zw_H cI a σ).set 13 (a 13, .inl (cI, 10, .inl (upd (σ 11) j v))) = zw_H cI a (zs σ 11 j v) := rfl
theorem zwq12 (cI : ClassId) (a : Nat → Nat) (σ : zS) : (zw_H cI a σ)[14]? = some (a 14, .inl (cI, 10, .inl (σ 12))) := rfl
theorem zws12 (cI : ClassId) (a : Nat → Nat) (σ : zS) (j : Nat) (v : Int32) : (zw_H cI a σ).set 14 (a 14, .inl (cI, 10, .inl (upd (σ 12) j v))) = zw_H cI a (zs σ 12 j v) := rfl
theorem zwq13 (cI : ClassId) (a : Nat → Nat) (σ : zS) : (zw_H cI a σ)[15]? = some (a 15, .inl (cI, 10, .inl (σ 13))) := rfl
theorem zws13 (cI : ClassId) (a : Nat → Nat) (σ : zS) (j : Nat) (v : Int32) : (zw_H cI a σ).set 15 (a 15, .inl (cI, 10, .inl (upd (σ 13) j v))) = zw_H cI a (zs σ 13 j v) := rfl
theorem zwq14 (cI : ClassId) (a : Nat → Nat) (σ : zS) : (zw_H cI a σ)[16]? = some (a 16, .inl (cI, 10, .inl (σ 14))) := rfl
theorem zws14 (cI : ClassId) (a : Nat → Nat) (σ : zS) (j : Nat) (v : Int32) : (zw_H cI a σ).set 16 (a 16, .inl (cI, 10, .inl (upd (σ 14) j v))) = zw_H cI a (zs σ 14 j v) := rfl
theorem zwq15 (cI : ClassId) (a : Nat → Nat) (σ : zS) : (zw_H cI a σ)[17]? = some (a 17, .inl (cI, 10, .inl (σ 15))) := rfl
theorem zws15 (cI : ClassId) (a : Nat → Nat) (σ : zS) (j : Nat) (v : Int32) : (zw_H cI a σ).set 17 (a 17, .inl (cI, 10, .inl (upd (σ 15) j v))) = zw_H cI a (zs σ 15 j v) := rfl
theorem zwq16 (cI : ClassId) (a : Nat → Nat) (σ : zS) : (zw_H cI a σ)[18]? = some (a 18, .inl (cI, 10, .inl (σ 16))) := rfl
theorem zws16 (cI : ClassId) (a : Nat → Nat) (σ : zS) (j : Nat) (v : Int32) : (zw_H cI a σ).set 18 (a 18, .inl (cI, 10, .inl (upd (σ 16) j v))) = zw_H cI a (zs σ 16 j v) := rfl
theorem zwq17 (cI : ClassId) (a : Nat → Nat) (σ : zS) : (zw_H cI a σ)[19]? = some (a 19, .inl (cI, 10, .inl (σ 17))) := rfl
theorem zws17 (cI : ClassId) (a : Nat → Nat) (σ : zS) (j : Nat) (v : Int32) : (zw_H cI a σ).set 19 (a 19, .inl (cI, 10, .inl (upd (σ 17) j v))) = zw_H cI a (zs σ 17 j v) := rfl
theorem zwo0 (cI : ClassId) (a : Nat → Nat) (σ : zS) (v : Int32) : (zw_H cI a σ).set 0 (a 0, .inr (1, [.int v, .int (σ 0 1), .int (σ 0 2), .ref (a 1), .ref (a 2)])) = zw_H cI a (zs σ 0 0 v) := rfl
theorem zwo1 (cI : ClassId) (a : Nat → Nat) (σ : zS) (v : Int32) : (zw_H cI a σ).set 0 (a 0, .inr (1, [.int (σ 0 0), .int v, .int (σ 0 2), .ref (a 1), .ref (a 2)])) = zw_H cI a (zs σ 0 1 v) := rfl
theorem zwo2 (cI : ClassId) (a : Nat → Nat) (σ : zS) (v : Int32) : (zw_H cI a σ).set 0 (a 0, .inr (1, [.int (σ 0 0), .int (σ 0 1), .int v, .ref (a 1), .ref (a 2)])) = zw_H cI a (zs σ 0 2 v) := rfl
theorem zwo3 (cI : ClassId) (a : Nat → Nat) (σ : zS) (v : Int32) : (zw_H cI a σ).set 1 (a 1, .inr (0, [.int v, .ref (a 3), .ref (a 4), .ref (a 5), .ref (a 6), .ref (a 7)])) = zw_H cI a (zs σ 0 3 v) := rfl
theorem zwo4 (cI : ClassId) (a : Nat → Nat) (σ : zS) (v : Int32) : (zw_H cI a σ).set 2 (a 2, .inr (2, [.int v, .ref (a 8), .ref (a 9), .ref (a 10), .ref (a 11), .ref (a 12), .ref (a 13), .ref (a 14), .ref (a 15), .ref (a 16), .ref (a 17), .ref (a 18), .ref (a 19)])) = zw_H cI a (zs σ 0 4 v) := rfl
/-- what a method finds: a world, and what the tables say of it -/
def zPW (D : va_G) (tys : List (ClassId × FieldType)) (w : va_W) (sz : Nat) (U : State) : Prop := U.heap.size = sz ∧ va_P D vwCl w U.heap ∧ va_K D vwCl tys U ∧ va_D (fun _ => True) w
def zQW (D : va_G) (tys : List (ClassId × FieldType)) (w : va_W) (A : Nat → Prop) (t : State) : Prop := va_P D vwCl w t.heap ∧ va_K D vwCl tys t ∧ va_D A w
theorem zbl {D : va_G} {tys : List (ClassId × FieldType)} {w : va_W} {sz : Nat} (av : List Value) : FrameBlind (va_Pc av (zPW D tys w sz)) := fun a U g mk q => by
  obtain ⟨q0, q1, qP, qK, qD⟩ := q
  exact ⟨q0, q1, qP, va_K.moved (u := U) (U := U.calling g mk a) (Vm.Alike.refl U.vm) qK, qD⟩
theorem zpr {D : va_G} {tys : List (ClassId × FieldType)} {w : va_W} {H : Heap} {s : State} {A : Nat → Prop} {av : List Value} (hK : va_K D vwCl tys s) (hP : va_P D vwCl w H) (hD : va_D A w) : ∀ U : State, U.heap = H → s.WarmedH U.vm → va_Pc av (zPW D tys w H.size) av.toArray U := fun U hU hW =>
  ⟨rfl, by rw [hU], by rw [hU]; exact hP, va_K.moved hW.alike hK, hD.weaken (fun _ _ _ _ => trivial)⟩
/-- a contract of a method that only reads: its answer -/
abbrev zMR (l : Launch) (y : MethodName) (ws : List Cond) (rm : Room) (av : List Value) (D : va_G) (tys : List (ClassId × FieldType)) (w : va_W) (post : Int32 → Prop) : Prop :=
  ∀ sz : Nat, Met l y ws rm (va_Pc av (zPW D tys w sz)) (va_Qi (fun (r : Int32) (_ : Unit) => post r) (fun _ _ => True) (fun _ => False)) 0 0 (fun _ => False)
/-- of one that writes and answers nothing: the world behind it -/
abbrev zMV (l : Launch) (y : MethodName) (ws : List Cond) (rm : Room) (av : List Value) (D : va_G) (tys : List (ClassId × FieldType)) (w w1 : va_W) : Prop :=
  ∀ sz : Nat, Met l y ws rm (va_Pc av (zPW D tys w sz)) (va_Qv (fun (_ : Unit) => True) (fun _ t => zQW D tys w1 (va_A w sz) t) (va_A w sz)) 0 0 (va_A w sz)
/-- of one that writes and answers a number -/
abbrev zMI (l : Launch) (y : MethodName) (ws : List Cond) (rm : Room) (av : List Value) (D : va_G) (tys : List (ClassId × FieldType)) (w w1 : va_W) (post : Int32 → Prop) : Prop :=
  ∀ sz : Nat, Met l y ws rm (va_Pc av (zPW D tys w sz)) (va_Qi (fun (r : Int32) (_ : Unit) => post r) (fun _ t => zQW D tys w1 (va_A w sz) t) (va_A w sz)) 0 0 (va_A w sz)
section ZK
variable {p : Program} {l : Launch} {e : Env} {R : Room} {s : State} {m : MethodId} {args : Array Value} {below : List Frame} {meth : Method} {c : Code} {H : Heap} {locs : List Loc} {cells slots : Nat} {Q : State → Prop}
variable {pc : Nat} {ls : Array Slot} {rest st0 : List Value} {a : Array Value} {A0 : Nat → Prop} {H0 : Heap} {D : va_G} {tys : List (ClassId × FieldType)} {w w1 : va_W} {post : Int32 → Prop}
/-- behind a call that only read -/
theorem zk_R (hr : va_Run p l e R s m args below meth c H locs cells slots 0 0 (F0 m pc ls st0) rest (va_Qi (fun (r : Int32) (_ : Unit) => post r) (fun _ _ => True) (fun _ => False) a) (fun _ => False)) (hS : va_S A0 H0 H locs)
    (kk : ∀ (r : Int32) (H1 : Heap) (locs1 : List Loc), post r → (∀ w : va_W, va_P D vwCl w H → va_P D vwCl w H1) → va_S A0 H0 H1 locs1 → W p l e R s m args below meth c H1 locs1 cells slots Q (F0 m (pc + 3) ls (.int r :: rest))) : W p l e R s m args below meth c H locs cells slots Q (F0 m pc ls st0) := by
  refine va_calli hr hS (fun q _ h => h.elim) (fun q h => h.elim) (fun r u t H1 locs1 ht hvm hw hB hz1 hk1 hS1 => ?_)
  exact kk r H1 locs1 hw (fun w hP => hP.kept (fun k q hk => hk1 q.1 (hP k q hk).lt (fun z => z))) hS1
theorem zk_V (hr : va_Run p l e R s m args below meth c H locs cells slots 0 0 (F0 m pc ls st0) rest (va_Qv (fun (_ : Unit) => True) (fun _ t => zQW D tys w1 (va_A w H.size) t) (va_A w H.size) a) (va_A w H.size)) (hS : va_S A0 H0 H locs) (hF : ∀ q, va_A w H.size q → A0 q)
    (kk : ∀ (H1 : Heap) (locs1 : List Loc), (∀ q : Nat, q < H.size → ¬ va_A w H.size q → H1[q]? = H[q]?) → va_P D vwCl w1 H1 → va_D (va_A w H.size) w1 → va_S A0 H0 H1 locs1 → W p l e R s m args below meth c H1 locs1 cells slots Q (F0 m (pc + 3) ls rest)) : W p l e R s m args below meth c H locs cells slots Q (F0 m pc ls st0) := by
  refine va_callv hr hS (fun q _ h => hF q h) hF (fun u t H1 locs1 ht hvm hw hB hz1 hk1 hS1 => ?_)
  exact kk H1 locs1 hk1 (by rw [← ht]; exact hB.1) hB.2.2 hS1
theorem zk_I (hr : va_Run p l e R s m args below meth c H locs cells slots 0 0 (F0 m pc ls st0) rest (va_Qi (fun (r : Int32) (_ : Unit) => post r) (fun _ t => zQW D tys w1 (va_A w H.size) t) (va_A w H.size) a) (va_A w H.size)) (hS : va_S A0 H0 H locs) (hF : ∀ q, va_A w H.size q → A0 q)
    (kk : ∀ (r : Int32) (H1 : Heap) (locs1 : List Loc), post r → (∀ q : Nat, q < H.size → ¬ va_A w H.size q → H1[q]? = H[q]?) → va_P D vwCl w1 H1 → va_D (va_A w H.size) w1 → va_S A0 H0 H1 locs1 → W p l e R s m args below meth c H1 locs1 cells slots Q (F0 m (pc + 3) ls (.int r :: rest))) : W p l e R s m args below meth c H locs cells slots Q (F0 m pc ls st0) := by
  refine va_calli hr hS (fun q _ h => hF q h) hF (fun r u t H1 locs1 ht hvm hw hB hz1 hk1 hS1 => ?_)
  exact kk r H1 locs1 hw hk1 (by rw [← ht]; exact hB.1) hB.2.2 hS1
variable {cc : ByteArray} {cl : List vw_C} {A : Nat → Prop} {b : Nat}
/-- int arrays at an index that is a number -/
theorem zk_ld (hexec : p.tables.exec = Jvm.exec) (hb : c.code = cc) (hK : va_K D cl tys s) (hP : va_P D cl w H) (q0 t0 : Nat) {cA : ClassId} {n k : Nat} {f : Nat → Int32} (ha : w[q0]? = some (b, .inl (cA, n, .inl f))) (ht : tys[t0]? = some (cA, .int)) (hk : k < n) (hn : n < 2 ^ 31) {v : Int32} (hv : f k = v) (hdg : decode cc pc = .ok (.iaload, 1))
    (kk : W p l e R s m args below meth c H locs cells slots Q (F0 m (pc + 1) ls (.int v :: rest))) : W p l e R s m args below meth c H locs cells slots Q (F0 m pc ls (.int (nI k) :: .ref b :: rest)) := by
  refine va_iald hexec hb hK hP q0 t0 ha ht (vp_in_nI hk hn) hdg ?_
  rw [nI_clamp (Nat.lt_trans hk hn), hv]
  exact kk
theorem zk_st (hexec : p.tables.exec = Jvm.exec) (hb : c.code = cc) (hK : va_K D cl tys s) (hP : va_P D cl w H) (hD : va_D A w) (hS : va_S A H0 H locs) (q0 t0 : Nat) {cA : ClassId} {n k : Nat} {f : Nat → Int32} (ha : w[q0]? = some (b, .inl (cA, n, .inl f))) (ht : tys[t0]? = some (cA, .int)) {x : Int32} (hk : k < n) (hn : n < 2 ^ 31) (hw : w.set q0 (b, .inl (cA, n, .inl (upd f k x))) = w1) (hdg : decode cc pc = .ok (.iastore, 1))
    (kk : ∀ (H1 : Heap) (locs1 : List Loc), va_P D cl w1 H1 → va_D A w1 → va_S A H0 H1 locs1 → W p l e R s m args below meth c H1 locs1 cells slots Q (F0 m (pc + 1) ls rest)) : W p l e R s m args below meth c H locs cells slots Q (F0 m pc ls (.int x :: .int (nI k) :: .ref b :: rest)) := by
  refine va_iast hexec hb hK hP hD hS q0 t0 ha ht (vp_in_nI hk hn) hdg (fun H1 locs1 hP hD hS => ?_)
  rw [nI_clamp (Nat.lt_trans hk hn), hw] at hP hD
  exact kk H1 locs1 hP hD hS
end ZK
theorem zfree {A0 : Nat → Prop} {w : va_W} {H0 H : Heap} {locs : List Loc} (hD : va_D A0 w) (hS : va_S A0 H0 H locs) (hA : ∀ q, H0.size ≤ q → A0 q) : ∀ q, va_A w H.size q → A0 q := by
  intro q h
  rcases h with ⟨k, e, h⟩ | h
  · exact hD.2 k (q, e) h
  · exact hA q (Nat.le_trans hS.1 h)
section ZN
variable {p : Program} {l : Launch} {e : Env} {R : Room} {s : State} {m : MethodId} {args : Array Value} {below : List Frame} {meth : Method} {c : Code} {H : Heap} {locs : List Loc} {cells slots : Nat} {Q : State → Prop}
variable {cc : ByteArray} {pc : Nat} {ls : Array Slot} {rest : List Value} {x y : Nat}
/-- arithmetic on small numbers -/
theorem zk_add (hexec : p.tables.exec = Jvm.exec) (hb : c.code = cc) (hdg : decode cc pc = .ok (.iadd, 1)) (k : W p l e R s m args below meth c H locs cells slots Q (F0 m (pc + 1) ls (.int (nI (x + y)) :: rest))) : W p l e R s m args below meth c H locs cells slots Q (F0 m pc ls (.int (nI y) :: .int (nI x) :: rest)) := by
  refine lv_iadd hexec hb hdg ?_
  rw [nI_add]
  exact k
theorem zk_mul (hexec : p.tables.exec = Jvm.exec) (hb : c.code = cc) (hdg : decode cc pc = .ok (.imul, 1)) (k : W p l e R s m args below meth c H locs cells slots Q (F0 m (pc + 1) ls (.int (nI (x * y)) :: rest))) : W p l e R s m args below meth c H locs cells slots Q (F0 m pc ls (.int (nI y) :: .int (nI x) :: rest)) := by
  refine lv_imul hexec hb hdg ?_
  rw [pk_mul]
  exact k
theorem zk_sub (hexec : p.tables.exec = Jvm.exec) (hb : c.code = cc) (hdg : decode cc pc = .ok (.isub, 1)) (h : y ≤ x) (k : W p l e R s m args below meth c H locs cells slots Q (F0 m (pc + 1) ls (.int (nI (x - y)) :: rest))) : W p l e R s m args below meth c H locs cells slots Q (F0 m pc ls (.int (nI y) :: .int (nI x) :: rest)) := by
  refine lv_isub hexec hb hdg ?_
  rw [pk_sub h]
  exact k
theorem zk_div (hexec : p.tables.exec = Jvm.exec) (hb : c.code = cc) (hdg : decode cc pc = .ok (.idiv, 1)) (hx : x < 2 ^ 31) (h0 : 0 < y) (hy : y < 2 ^ 31) (k : W p l e R s m args below meth c H locs cells slots Q (F0 m (pc + 1) ls (.int (nI (x / y)) :: rest))) : W p l e R s m args below meth c H locs cells slots Q (F0 m pc ls (.int (nI y) :: .int (nI x) :: rest)) := by
  refine lv_idiv hexec hb hdg (nI_ne0 h0 hy) ?_
  rw [pk_div hx h0 hy]
  exact k
theorem zk_rem (hexec : p.tables.exec = Jvm.exec) (hb : c.code = cc) (hdg : decode cc pc = .ok (.irem, 1)) (hx : x < 2 ^ 31) (h0 : 0 < y) (hy : y < 2 ^ 31) (k : W p l e R s m args below meth c H locs cells slots Q (F0 m (pc + 1) ls (.int (nI (x % y)) :: rest))) : W p l e R s m args below meth c H locs cells slots Q (F0 m pc ls (.int (nI y) :: .int (nI x) :: rest)) := by
  refine lv_irem hexec hb hdg (nI_ne0 h0 hy) ?_
  rw [pk_rem hx h0 hy]
  exact k
end ZN
/-! WHAT EACH METHOD DOES, as functions of the table -/
abbrev f_has (σ : zS) (x : Int32) : Prop := ¬ x < 0 ∧ ¬ σ 0 3 ≤ x
abbrev f_free (σ : zS) (x : Int32) : Prop := f_has σ x ∧ σ 5 x.toNatClampNeg = -1
abbrev f_warm (σ : zS) (x : Int32) : Prop := f_has σ x ∧ ¬ σ 2 x.toNatClampNeg < 4
def f_ch (σ : zS) : Nat → Int32
  | 0 => -1
  | k + 1 => if σ 5 k = -1 ∧ (f_ch σ k = -1 ∨ ¬ σ 1 (f_ch σ k).toNatClampNeg ≤ σ 1 k) then nI k else f_ch σ k
def f_min99 (v : Int32) : Int32 := if v < 99 then v else 99
def f_min8 (v : Int32) : Int32 := if v < 8 then v else 8
def f_max0 (v : Int32) : Int32 := if 0 < v then v else 0
def f_cw (σ : zS) (k : Nat) : Int32 := if σ 5 k = -1 then f_max0 (σ 2 k - 1) else f_min8 (σ 2 k + 2)
def f_cool (σ : zS) : Nat → zS
  | 0 => σ
  | k + 1 => zs (f_cool σ k) 2 k (f_cw (f_cool σ k) k)
def f_earn (σ : zS) (k : Nat) (c : Int32) : zS := zs σ 9 k (f_min99 (σ 9 k + c))
def f_late (σ : zS) (k : Nat) : zS := zs (zs σ 15 k (σ 15 k + 1)) 16 k (σ 16 k + 1)
def f_floor (σ : zS) (k : Nat) : zS := zs (zs σ 12 k 2) 17 k (σ 17 k + 1)
def f_pay (σ : zS) (k : Nat) : zS := zs (f_earn σ k (f_max0 ((if σ 10 k = 1 then σ 8 k else σ 8 k / 2) - σ 16 k))) 16 k 0
def f_leave (σ : zS) (k : Nat) : zS := if f_has σ (σ 13 k) then zs σ 5 (σ 13 k).toNatClampNeg (-1) else σ
def f_getUp (σ : zS) (k : Nat) : zS := zs (zs (f_leave σ k) 13 k (-1)) 12 k 0
def f_pawnB (σ : zS) (k : Nat) : zS := f_earn (zs σ 10 k 0) k (σ 0 2)
abbrev f_can (σ : zS) (k : Nat) : Prop := ¬ σ 10 k = 1 ∧ ¬ σ 9 k < σ 0 2 + 2
def f_red (σ : zS) (k : Nat) : zS := zs (zs σ 9 k (σ 9 k - (σ 0 2 + 2))) 10 k 1
def f_ring (σ : zS) (h k : Nat) : zS := if σ 12 k = 0 then σ else if σ 6 k = nI (h % 24 / 8) then σ else
  if σ 0 1 + 2 * nI ((h % 24 + 24 - ((σ 6 k).toNatClampNeg + 1) * 8) % 24) < σ 7 k then f_late σ k else f_getUp σ k
def f_into (σ : zS) (k b : Nat) : zS := zs (zs (zs (zs (zs (zs σ 9 k (σ 9 k - σ 1 b)) 12 k 1) 13 k (nI b)) 4 b (σ 4 b + σ 1 b)) 3 b (σ 3 b + 1)) 5 b (nI k)
def f_try1 (σ : zS) (k b : Nat) : zS := if ¬ σ 1 b ≤ σ 9 k ∧ ¬ σ 9 k + σ 0 2 < σ 1 b ∧ σ 10 k = 1 then f_pawnB σ k else σ
def f_try (σ : zS) (k b : Nat) : zS := if (f_try1 σ k b) 9 k < σ 1 b then f_floor (f_try1 σ k b) k else f_into (f_try1 σ k b) k b
def f_choose (σ : zS) (nb k : Nat) : Int32 := if f_free σ (σ 11 k) then σ 11 k else f_ch σ nb
def f_look (σ : zS) (nb h k : Nat) : zS := if f_has σ (f_choose σ nb k) then f_try σ k (f_choose σ nb k).toNatClampNeg else if nI (h % 8) < 4 then σ else f_floor σ k
def f_payR (σ : zS) (h k : Nat) : zS := if nI (h % 8) = 0 then (if f_can (f_pay σ k) k then f_red (f_pay σ k) k else f_pay σ k) else σ
def f_serve (σ : zS) (nb h k : Nat) : zS := if σ 6 k = nI (h % 24 / 8) then (if (f_payR σ h k) 12 k = 0 then f_look (f_payR σ h k) nb h k else f_payR σ h k) else σ
def f_roh (σ : zS) (h k : Nat) : Int32 := if σ 12 k = 1 then (if f_warm σ (σ 13 k) then 2 else 1) else if σ 12 k = 2 then (if nI (h % 2) = 0 then 0 else 1) else 0
def f_rest (σ : zS) (h k : Nat) : zS := zs σ 14 k (σ 14 k + f_roh σ h k)
def f_itr (f : zS → Nat → zS) : Nat → zS → zS
  | 0, σ => σ
  | k + 1, σ => f (f_itr f k σ) k
def f_hour1 (σ : zS) (ns h : Nat) : zS := f_itr (fun τ k => f_ring τ h k) ns σ
def f_hour2 (σ : zS) (nb ns h : Nat) : zS := f_itr (fun τ k => f_serve τ nb h k) ns (f_hour1 σ ns h)
def f_hour3 (σ : zS) (nb ns h : Nat) : zS := f_itr (fun τ k => f_rest τ h k) ns (f_hour2 σ nb ns h)
def f_hour (σ : zS) (nb ns h : Nat) : zS := zs (f_cool (f_hour3 σ nb ns h) nb) 0 0 (nI (h + 1))
def f_hours (σ : zS) (nb ns h : Nat) : Nat → zS
  | 0 => σ
  | n + 1 => f_hour (f_hours σ nb ns h n) nb ns (h + n)
def f_sum (f : Nat → Int32) : Nat → Int32
  | 0 => 0
  | k + 1 => f_sum f k + f k
def f_many (f : Nat → Int32) (v : Int32) : Nat → Int32
  | 0 => 0
  | k + 1 => if f k = v then f_many f v k + 1 else f_many f v k
/-- the sizes, the hour and the watches of a house: what an hour leaves as it is, but the hour -/
def zC (σ : zS) (nb ns h : Nat) : Prop := σ 0 3 = nI nb ∧ nb ≤ 6 ∧ σ 0 4 = nI ns ∧ ns ≤ 10 ∧ σ 0 0 = nI h ∧ h < 2 ^ 30 ∧ ∀ k, k < 10 → ∃ w, w < 3 ∧ σ 6 k = nI w
theorem zC.to {σ τ : zS} {nb ns h : Nat} (hC : zC σ nb ns h) (h0 : τ 0 = σ 0) (h6 : τ 6 = σ 6) : zC τ nb ns h := by
  unfold zC at hC ⊢
  rw [h0, h6]
  exact hC
/-- a loop with a counter: what holds at its head with k rounds behind it -/
theorem zk_loop {p : Program} {l : Launch} {e : Env} {R : Room} {s : State} {m : MethodId} {args : Array Value} {below : List Frame} {meth : Method} {c : Code} {cells slots : Nat} {Q : State → Prop} {pc : Nat}
    (I : Nat → Heap → List Loc → Array Slot → Prop) (N : Nat)
    (step : ∀ k, k < N → (∀ (H : Heap) (locs : List Loc) (ls : Array Slot), I (k + 1) H locs ls → W p l e R s m args below meth c H locs cells slots Q (F0 m pc ls [])) → ∀ (H : Heap) (locs : List Loc) (ls : Array Slot), I k H locs ls → W p l e R s m args below meth c H locs cells slots Q (F0 m pc ls []))
    (done : ∀ (H : Heap) (locs : List Loc) (ls : Array Slot), I N H locs ls → W p l e R s m args below meth c H locs cells slots Q (F0 m pc ls []))
    (H : Heap) (locs : List Loc) (ls : Array Slot) (h : I 0 H locs ls) : W p l e R s m args below meth c H locs cells slots Q (F0 m pc ls []) := by
  have key : ∀ j k, k + j = N → ∀ (H : Heap) (locs : List Loc) (ls : Array Slot), I k H locs ls → W p l e R s m args below meth c H locs cells slots Q (F0 m pc ls []) := by
    intro j
    induction j with
    | zero => intro k hk H locs ls h; rw [Nat.add_zero] at hk; subst hk; exact done H locs ls h
    | succ j ih => intro k hk H locs ls h; exact step k (by omega) (ih (k + 1) (by omega)) H locs ls h
  exact key N 0 (Nat.zero_add N) H locs ls h
