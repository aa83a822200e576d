/-! THE LAW'S OWN HOUSE: its cells, out of the same table: the house, the rows of its beds and of its sailors, a cell a bed, a cell a sailor -/
def zrf (f : Nat → Nat) (v : Int32) : Value := if v = -1 then .null else .ref (f v.toNatClampNeg)
theorem zrf_n {f : Nat → Nat} {v : Int32} (h : v = -1) : zrf f v = .null := if_pos h
theorem zrf_r {f : Nat → Nat} {v : Int32} {b : Nat} (h : v = nI b) (hb : b < 2 ^ 31) : zrf f v = .ref (f b) := by
  subst h
  unfold zrf
  rw [if_neg (zn_m1 hb), nI_clamp hb]
/-- the flag 'on the floor' of a place -/
def zfl (v : Int32) : Int32 := if v = 2 then 1 else 0
theorem zfl_2 {v : Int32} (h : v = 2) : zfl v = 1 := if_pos h
theorem zfl_0 {v : Int32} (h : v = 0) : zfl v = 0 := if_neg (by rw [h]; decide)
theorem zfl_1 {v : Int32} (h : v = 1) : zfl v = 0 := if_neg (by rw [h]; decide)
theorem zfl_n {v : Int32} (h : ¬ v = 2) : zfl v = 0 := if_neg h
abbrev zjB (sl : Nat → Nat) (σ : zS) (k : Nat) : va_E := .inr (4, [.int (σ 1 k), .int (σ 2 k), .int (σ 3 k), .int (σ 4 k), zrf sl (σ 5 k), .int (nI k)])
abbrev zjS (bd : Nat → Nat) (σ : zS) (k : Nat) : va_E := .inr (5, [.int (nI k), .int (σ 6 k), .int (σ 7 k), .int (σ 8 k), .int (σ 9 k), .int (σ 10 k), zrf bd (σ 11 k), zrf bd (σ 13 k), .int (zfl (σ 12 k)), .int (σ 14 k), .int (σ 15 k), .int (σ 16 k), .int (σ 17 k)])
abbrev zjA (f : Nat → Nat) : Nat → Option Nat := fun i => some (f i)
def zj (cB cS : ClassId) (u bd sl : Nat → Nat) (n m : Nat) (σ : zS) : va_W := (u 0, .inr (6, [.int (σ 0 0), .int (σ 0 1), .int (σ 0 2), .ref (u 1), .ref (u 2)])) :: (u 1, .inl (cB, n, .inr (.inr (.inr (.inr (zjA bd)))))) :: (u 2, .inl (cS, m, .inr (.inr (.inr (.inr (zjA sl)))))) :: ((List.range n).map (fun k => (bd k, zjB sl σ k)) ++ (List.range m).map (fun k => (sl k, zjS bd σ k)))
abbrev zT3 (cI cB cS : ClassId) : List (ClassId × FieldType) := [(cI, .int), (cB, .object RX4), (cS, .object RX5)]
section ZJ
variable {cB cS : ClassId} {u bd sl : Nat → Nat} {n m : Nat} {σ τ : zS} {k : Nat}
theorem zjq_B (hk : k < n) : (zj cB cS u bd sl n m σ)[3 + k]? = some (bd k, .inr (4, [.int (σ 1 k), .int (σ 2 k), .int (σ 3 k), .int (σ 4 k), zrf sl (σ 5 k), .int (nI k)])) := by
  unfold zj
  rw [Nat.add_comm]
  show ((List.range n).map (fun k => (bd k, zjB sl σ k)) ++ (List.range m).map (fun k => (sl k, zjS bd σ k)))[k]? = _
  rw [List.getElem?_append_left (by simp; exact hk), List.getElem?_map, List.getElem?_range hk]
  rfl
theorem zjq_S (hk : k < m) : (zj cB cS u bd sl n m σ)[3 + n + k]? = some (sl k, .inr (5, [.int (nI k), .int (σ 6 k), .int (σ 7 k), .int (σ 8 k), .int (σ 9 k), .int (σ 10 k), zrf bd (σ 11 k), zrf bd (σ 13 k), .int (zfl (σ 12 k)), .int (σ 14 k), .int (σ 15 k), .int (σ 16 k), .int (σ 17 k)])) := by
  unfold zj
  rw [show 3 + n + k = (n + k) + 3 by omega]
  show ((List.range n).map (fun k => (bd k, zjB sl σ k)) ++ (List.range m).map (fun k => (sl k, zjS bd σ k)))[n + k]? = _
  rw [List.getElem?_append_right (by simp)]
  simp only [List.length_map, List.length_range, Nat.add_sub_cancel_left]
  rw [List.getElem?_map, List.getElem?_range hk]
  rfl
theorem zj_map {α : Type} {f g : Nat → α} {N j : Nat} (hj : j < N) (h : ∀ i, i ≠ j → g i = f i) : ((List.range N).map f).set j (g j) = (List.range N).map g := by
  apply List.ext_getElem?
  intro i
  rw [List.getElem?_set]
  by_cases e : j = i
  · subst e
    rw [if_pos rfl, if_pos (by simp; exact hj), List.getElem?_map, List.getElem?_range hj]
    rfl
  · rw [if_neg e, List.getElem?_map, List.getElem?_map]
    by_cases hi : i < N
    · rw [List.getElem?_range hi]
      exact congrArg some (h i (fun z => e z.symm)).symm
    · rw [List.getElem?_eq_none (by simp; omega)]
      rfl
theorem zj_B (hk : k < n) (h0 : τ 0 = σ 0) (hB : ∀ j, j ≠ k → zjB sl τ j = zjB sl σ j) (hS : ∀ j, zjS bd τ j = zjS bd σ j) : (zj cB cS u bd sl n m σ).set (3 + k) (bd k, zjB sl τ k) = zj cB cS u bd sl n m τ := by
  unfold zj
  rw [h0, Nat.add_comm]
  have e1 : ((List.range n).map (fun k => (bd k, zjB sl σ k)) ++ (List.range m).map (fun k => (sl k, zjS bd σ k))).set k (bd k, zjB sl τ k) = (List.range n).map (fun k => (bd k, zjB sl τ k)) ++ (List.range m).map (fun k => (sl k, zjS bd τ k)) := by
    rw [List.set_append_left _ _ (by simp; exact hk)]
    rw [zj_map (f := fun k => (bd k, zjB sl σ k)) (g := fun k => (bd k, zjB sl τ k)) hk (fun i hi => by show (bd i, zjB sl τ i) = (bd i, zjB sl σ i); rw [hB i hi])]
    rw [show (fun k => (sl k, zjS bd τ k)) = (fun k => (sl k, zjS bd σ k)) from funext (fun j => by rw [hS j])]
  exact congrArg (fun L => (u 0, _) :: (u 1, _) :: (u 2, _) :: L) e1
theorem zj_S (hk : k < m) (h0 : τ 0 = σ 0) (hB : ∀ j, zjB sl τ j = zjB sl σ j) (hS : ∀ j, j ≠ k → zjS bd τ j = zjS bd σ j) : (zj cB cS u bd sl n m σ).set (3 + n + k) (sl k, zjS bd τ k) = zj cB cS u bd sl n m τ := by
  unfold zj
  rw [h0, show 3 + n + k = (n + k) + 3 by omega]
  have e1 : ((List.range n).map (fun k => (bd k, zjB sl σ k)) ++ (List.range m).map (fun k => (sl k, zjS bd σ k))).set (n + k) (sl k, zjS bd τ k) = (List.range n).map (fun k => (bd k, zjB sl τ k)) ++ (List.range m).map (fun k => (sl k, zjS bd τ k)) := by
    rw [List.set_append_right _ _ (by simp)]
    simp only [List.length_map, List.length_range, Nat.add_sub_cancel_left]
    rw [zj_map (f := fun k => (sl k, zjS bd σ k)) (g := fun k => (sl k, zjS bd τ k)) hk (fun i hi => by show (sl i, zjS bd τ i) = (sl i, zjS bd σ i); rw [hS i hi])]
    rw [show (fun k => (bd k, zjB sl τ k)) = (fun k => (bd k, zjB sl σ k)) from funext (fun j => by rw [hB j])]
  exact congrArg (fun L => (u 0, _) :: (u 1, _) :: (u 2, _) :: L) e1
theorem zjw1 (hk : k < n) (v : Int32) : (zj cB cS u bd sl n m σ).set (3 + k) (bd k, .inr (4, [.int v, .int (σ 2 k), .int (σ 3 k), .int (σ 4 k), zrf sl (σ 5 k), .int (nI k)])) = zj cB cS u bd sl n m (zs σ 1 k v) := by
  have e : zjB sl (zs σ 1 k v) k = .inr (4, [.int v, .int (σ 2 k), .int (σ 3 k), .int (σ 4 k), zrf sl (σ 5 k), .int (nI k)]) := by
    unfold zjB
    rw [zs_eq]
    rfl
  rw [← e]
  exact zj_B hk rfl (fun j hj => by simp only [zjB, zs_ne _ _ hj]) (fun j => rfl)
theorem zjw2 (hk : k < n) (v : Int32) : (zj cB cS u bd sl n m σ).set (3 + k) (bd k, .inr (4, [.int (σ 1 k), .int v, .int (σ 3 k), .int (σ 4 k), zrf sl (σ 5 k), .int (nI k)])) = zj cB cS u bd sl n m (zs σ 2 k v) := by
  have e : zjB sl (zs σ 2 k v) k = .inr (4, [.int (σ 1 k), .int v, .int (σ 3 k), .int (σ 4 k), zrf sl (σ 5 k), .int (nI k)]) := by
    unfold zjB
    rw [zs_eq]
    rfl
  rw [← e]
  exact zj_B hk rfl (fun j hj => by simp only [zjB, zs_ne _ _ hj]) (fun j => rfl)
theorem zjw3 (hk : k < n) (v : Int32) : (zj cB cS u bd sl n m σ).set (3 + k) (bd k, .inr (4, [.int (σ 1 k), .int (σ 2 k), .int v, .int (σ 4 k), zrf sl (σ 5 k), .int (nI k)])) = zj cB cS u bd sl n m (zs σ 3 k v) := by
  have e : zjB sl (zs σ 3 k v) k = .inr (4, [.int (σ 1 k), .int (σ 2 k), .int v, .int (σ 4 k), zrf sl (σ 5 k), .int (nI k)]) := by
    unfold zjB
    rw [zs_eq]
    rfl
  rw [← e]
  exact zj_B hk rfl (fun j hj => by simp only [zjB, zs_ne _ _ hj]) (fun j => rfl)
theorem zjw4 (hk : k < n) (v : Int32) : (zj cB cS u bd sl n m σ).set (3 + k) (bd k, .inr (4, [.int (σ 1 k), .int (σ 2 k), .int (σ 3 k), .int v, zrf sl (σ 5 k), .int (nI k)])) = zj cB cS u bd sl n m (zs σ 4 k v) := by
  have e : zjB sl (zs σ 4 k v) k = .inr (4, [.int (σ 1 k), .int (σ 2 k), .int (σ 3 k), .int v, zrf sl (σ 5 k), .int (nI k)]) := by
    unfold zjB
    rw [zs_eq]
    rfl
  rw [← e]
  exact zj_B hk rfl (fun j hj => by simp only [zjB, zs_ne _ _ hj]) (fun j => rfl)
theorem zjw5n (hk : k < n)  : (zj cB cS u bd sl n m σ).set (3 + k) (bd k, .inr (4, [.int (σ 1 k), .int (σ 2 k), .int (σ 3 k), .int (σ 4 k), .null, .int (nI k)])) = zj cB cS u bd sl n m (zs σ 5 k (-1)) := by
  have e : zjB sl (zs σ 5 k (-1)) k = .inr (4, [.int (σ 1 k), .int (σ 2 k), .int (σ 3 k), .int (σ 4 k), .null, .int (nI k)]) := by
    unfold zjB
    rw [zs_eq, zrf_n (f := sl) (v := -1) rfl]
    rfl
  rw [← e]
  exact zj_B hk rfl (fun j hj => by simp only [zjB, zs_ne _ _ hj]) (fun j => rfl)
theorem zjw5r (hk : k < n) {j : Nat} (hj : j < 2 ^ 31) : (zj cB cS u bd sl n m σ).set (3 + k) (bd k, .inr (4, [.int (σ 1 k), .int (σ 2 k), .int (σ 3 k), .int (σ 4 k), .ref (sl j), .int (nI k)])) = zj cB cS u bd sl n m (zs σ 5 k (nI j)) := by
  have e : zjB sl (zs σ 5 k (nI j)) k = .inr (4, [.int (σ 1 k), .int (σ 2 k), .int (σ 3 k), .int (σ 4 k), .ref (sl j), .int (nI k)]) := by
    unfold zjB
    rw [zs_eq, zrf_r (f := sl) (b := j) rfl hj]
    rfl
  rw [← e]
  exact zj_B hk rfl (fun j hj => by simp only [zjB, zs_ne _ _ hj]) (fun j => rfl)
theorem zjw6 (hk : k < m) (v : Int32) : (zj cB cS u bd sl n m σ).set (3 + n + k) (sl k, .inr (5, [.int (nI k), .int v, .int (σ 7 k), .int (σ 8 k), .int (σ 9 k), .int (σ 10 k), zrf bd (σ 11 k), zrf bd (σ 13 k), .int (zfl (σ 12 k)), .int (σ 14 k), .int (σ 15 k), .int (σ 16 k), .int (σ 17 k)])) = zj cB cS u bd sl n m (zs σ 6 k v) := by
  have e : zjS bd (zs σ 6 k v) k = .inr (5, [.int (nI k), .int v, .int (σ 7 k), .int (σ 8 k), .int (σ 9 k), .int (σ 10 k), zrf bd (σ 11 k), zrf bd (σ 13 k), .int (zfl (σ 12 k)), .int (σ 14 k), .int (σ 15 k), .int (σ 16 k), .int (σ 17 k)]) := by
    unfold zjS
    rw [zs_eq]
    rfl
  rw [← e]
  exact zj_S hk rfl (fun j => rfl) (fun j hj => by simp only [zjS, zs_ne _ _ hj])
theorem zjw7 (hk : k < m) (v : Int32) : (zj cB cS u bd sl n m σ).set (3 + n + k) (sl k, .inr (5, [.int (nI k), .int (σ 6 k), .int v, .int (σ 8 k), .int (σ 9 k), .int (σ 10 k), zrf bd (σ 11 k), zrf bd (σ 13 k), .int (zfl (σ 12 k)), .int (σ 14 k), .int (σ 15 k), .int (σ 16 k), .int (σ 17 k)])) = zj cB cS u bd sl n m (zs σ 7 k v) := by
  have e : zjS bd (zs σ 7 k v) k = .inr (5, [.int (nI k), .int (σ 6 k), .int v, .int (σ 8 k), .int (σ 9 k), .int (σ 10 k), zrf bd (σ 11 k), zrf bd (σ 13 k), .int (zfl (σ 12 k)), .int (σ 14 k), .int (σ 15 k), .int (σ 16 k), .int (σ 17 k)]) := by
    unfold zjS
    rw [zs_eq]
    rfl
  rw [← e]
  exact zj_S hk rfl (fun j => rfl) (fun j hj => by simp only [zjS, zs_ne _ _ hj])
theorem zjw8 (hk : k < m) (v : Int32) : (zj cB cS u bd sl n m σ).set (3 + n + k) (sl k, .inr (5, [.int (nI k), .int (σ 6 k), .int (σ 7 k), .int v, .int (σ 9 k), .int (σ 10 k), zrf bd (σ 11 k), zrf bd (σ 13 k), .int (zfl (σ 12 k)), .int (σ 14 k), .int (σ 15 k), .int (σ 16 k), .int (σ 17 k)])) = zj cB cS u bd sl n m (zs σ 8 k v) := by
  have e : zjS bd (zs σ 8 k v) k = .inr (5, [.int (nI k), .int (σ 6 k), .int (σ 7 k), .int v, .int (σ 9 k), .int (σ 10 k), zrf bd (σ 11 k), zrf bd (σ 13 k), .int (zfl (σ 12 k)), .int (σ 14 k), .int (σ 15 k), .int (σ 16 k), .int (σ 17 k)]) := by
    unfold zjS
    rw [zs_eq]
    rfl
  rw [← e]
  exact zj_S hk rfl (fun j => rfl) (fun j hj => by simp only [zjS, zs_ne _ _ hj])
theorem zjw9 (hk : k < m) (v : Int32) : (zj cB cS u bd sl n m σ).set (3 + n + k) (sl k, .inr (5, [.int (nI k), .int (σ 6 k), .int (σ 7 k), .int (σ 8 k), .int v, .int (σ 10 k), zrf bd (σ 11 k), zrf bd (σ 13 k), .int (zfl (σ 12 k)), .int (σ 14 k), .int (σ 15 k), .int (σ 16 k), .int (σ 17 k)])) = zj cB cS u bd sl n m (zs σ 9 k v) := by
  have e : zjS bd (zs σ 9 k v) k = .inr (5, [.int (nI k), .int (σ 6 k), .int (σ 7 k), .int (σ 8 k), .int v, .int (σ 10 k), zrf bd (σ 11 k), zrf bd (σ 13 k), .int (zfl (σ 12 k)), .int (σ 14 k), .int (σ 15 k), .int (σ 16 k), .int (σ 17 k)]) := by
    unfold zjS
    rw [zs_eq]
    rfl
  rw [← e]
  exact zj_S hk rfl (fun j => rfl) (fun j hj => by simp only [zjS, zs_ne _ _ hj])
theorem zjw10 (hk : k < m) (v : Int32) : (zj cB cS u bd sl n m σ).set (3 + n + k) (sl k, .inr (5, [.int (nI k), .int (σ 6 k), .int (σ 7 k), .int (σ 8 k), .int (σ 9 k), .int v, zrf bd (σ 11 k), zrf bd (σ 13 k), .int (zfl (σ 12 k)), .int (σ 14 k), .int (σ 15 k), .int (σ 16 k), .int (σ 17 k)])) = zj cB cS u bd sl n m (zs σ 10 k v) := by
  have e : zjS bd (zs σ 10 k v) k = .inr (5, [.int (nI k), .int (σ 6 k), .int (σ 7 k), .int (σ 8 k), .int (σ 9 k), .int v, zrf bd (σ 11 k), zrf bd (σ 13 k), .int (zfl (σ 12 k)), .int (σ 14 k), .int (σ 15 k), .int (σ 16 k), .int (σ 17 k)]) := by
    unfold zjS
    rw [zs_eq]
    rfl
  rw [← e]
  exact zj_S hk rfl (fun j => rfl) (fun j hj => by simp only [zjS, zs_ne _ _ hj])
theorem zjw14 (hk : k < m) (v : Int32) : (zj cB cS u bd sl n m σ).set (3 + n + k) (sl k, .inr (5, [.int (nI k), .int (σ 6 k), .int (σ 7 k), .int (σ 8 k), .int (σ 9 k), .int (σ 10 k), zrf bd (σ 11 k), zrf bd (σ 13 k), .int (zfl (σ 12 k)), .int v, .int (σ 15 k), .int (σ 16 k), .int (σ 17 k)])) = zj cB cS u bd sl n m (zs σ 14 k v) := by
  have e : zjS bd (zs σ 14 k v) k = .inr (5, [.int (nI k), .int (σ 6 k), .int (σ 7 k), .int (σ 8 k), .int (σ 9 k), .int (σ 10 k), zrf bd (σ 11 k), zrf bd (σ 13 k), .int (zfl (σ 12 k)), .int v, .int (σ 15 k), .int (σ 16 k), .int (σ 17 k)]) := by
    unfold zjS
    rw [zs_eq]
    rfl
  rw [← e]
  exact zj_S hk rfl (fun j => rfl) (fun j hj => by simp only [zjS, zs_ne _ _ hj])
theorem zjw15 (hk : k < m) (v : Int32) : (zj cB cS u bd sl n m σ).set (3 + n + k) (sl k, .inr (5, [.int (nI k), .int (σ 6 k), .int (σ 7 k), .int (σ 8 k), .int (σ 9 k), .int (σ 10 k), zrf bd (σ 11 k), zrf bd (σ 13 k), .int (zfl (σ 12 k)), .int (σ 14 k), .int v, .int (σ 16 k), .int (σ 17 k)])) = zj cB cS u bd sl n m (zs σ 15 k v) := by
  have e : zjS bd (zs σ 15 k v) k = .inr (5, [.int (nI k), .int (σ 6 k), .int (σ 7 k), .int (σ 8 k), .int (σ 9 k), .int (σ 10 k), zrf bd (σ 11 k), zrf bd (σ 13 k), .int (zfl (σ 12 k)), .int (σ 14 k), .int v, .int (σ 16 k), .int (σ 17 k)]) := by
    unfold zjS
    rw [zs_eq]
    rfl
  rw [← e]
  exact zj_S hk rfl (fun j => rfl) (fun j hj => by simp only [zjS, zs_ne _ _ hj])
theorem zjw16 (hk : k < m) (v : Int32) : (zj cB cS u bd sl n m σ).set (3 + n + k) (sl k, .inr (5, [.int (nI k), .int (σ 6 k), .int (σ 7 k), .int (σ 8 k), .int (σ 9 k), .int (σ 10 k), zrf bd (σ 11 k), zrf bd (σ 13 k), .int (zfl (σ 12 k)), .int (σ 14 k), .int (σ 15 k), .int v, .int (σ 17 k)])) = zj cB cS u bd sl n m (zs σ 16 k v) := by
  have e : zjS bd (zs σ 16 k v) k = .inr (5, [.int (nI k), .int (σ 6 k), .int (σ 7 k), .int (σ 8 k), .int (σ 9 k), .int (σ 10 k), zrf bd (σ 11 k), zrf bd (σ 13 k), .int (zfl (σ 12 k)), .int (σ 14 k), .int (σ 15 k), .int v, .int (σ 17 k)]) := by
    unfold zjS
    rw [zs_eq]
    rfl
  rw [← e]
  exact zj_S hk rfl (fun j => rfl) (fun j hj => by simp only [zjS, zs_ne _ _ hj])
theorem zjw17 (hk : k < m) (v : Int32) : (zj cB cS u bd sl n m σ).set (3 + n + k) (sl k, .inr (5, [.int (nI k), .int (σ 6 k), .int (σ 7 k), .int (σ 8 k), .int (σ 9 k), .int (σ 10 k), zrf bd (σ 11 k), zrf bd (σ 13 k), .int (zfl (σ 12 k)), .int (σ 14 k), .int (σ 15 k), .int (σ 16 k), .int v])) = zj cB cS u bd sl n m (zs σ 17 k v) := by
  have e : zjS bd (zs σ 17 k v) k = .inr (5, [.int (nI k), .int (σ 6 k), .int (σ 7 k), .int (σ 8 k), .int (σ 9 k), .int (σ 10 k), zrf bd (σ 11 k), zrf bd (σ 13 k), .int (zfl (σ 12 k)), .int (σ 14 k), .int (σ 15 k), .int (σ 16 k), .int v]) := by
    unfold zjS
    rw [zs_eq]
    rfl
  rw [← e]
  exact zj_S hk rfl (fun j => rfl) (fun j hj => by simp only [zjS, zs_ne _ _ hj])
theorem zjw11n (hk : k < m)  : (zj cB cS u bd sl n m σ).set (3 + n + k) (sl k, .inr (5, [.int (nI k), .int (σ 6 k), .int (σ 7 k), .int (σ 8 k), .int (σ 9 k), .int (σ 10 k), .null, zrf bd (σ 13 k), .int (zfl (σ 12 k)), .int (σ 14 k), .int (σ 15 k), .int (σ 16 k), .int (σ 17 k)])) = zj cB cS u bd sl n m (zs σ 11 k (-1)) := by
  have e : zjS bd (zs σ 11 k (-1)) k = .inr (5, [.int (nI k), .int (σ 6 k), .int (σ 7 k), .int (σ 8 k), .int (σ 9 k), .int (σ 10 k), .null, zrf bd (σ 13 k), .int (zfl (σ 12 k)), .int (σ 14 k), .int (σ 15 k), .int (σ 16 k), .int (σ 17 k)]) := by
    unfold zjS
    rw [zs_eq, zrf_n (f := bd) (v := -1) rfl]
    rfl
  rw [← e]
  exact zj_S hk rfl (fun j => rfl) (fun j hj => by simp only [zjS, zs_ne _ _ hj])
theorem zjw11r (hk : k < m) {j : Nat} (hj : j < 2 ^ 31) : (zj cB cS u bd sl n m σ).set (3 + n + k) (sl k, .inr (5, [.int (nI k), .int (σ 6 k), .int (σ 7 k), .int (σ 8 k), .int (σ 9 k), .int (σ 10 k), .ref (bd j), zrf bd (σ 13 k), .int (zfl (σ 12 k)), .int (σ 14 k), .int (σ 15 k), .int (σ 16 k), .int (σ 17 k)])) = zj cB cS u bd sl n m (zs σ 11 k (nI j)) := by
  have e : zjS bd (zs σ 11 k (nI j)) k = .inr (5, [.int (nI k), .int (σ 6 k), .int (σ 7 k), .int (σ 8 k), .int (σ 9 k), .int (σ 10 k), .ref (bd j), zrf bd (σ 13 k), .int (zfl (σ 12 k)), .int (σ 14 k), .int (σ 15 k), .int (σ 16 k), .int (σ 17 k)]) := by
    unfold zjS
    rw [zs_eq, zrf_r (f := bd) (b := j) rfl hj]
    rfl
  rw [← e]
  exact zj_S hk rfl (fun j => rfl) (fun j hj => by simp only [zjS, zs_ne _ _ hj])
theorem zjw13n (hk : k < m)  : (zj cB cS u bd sl n m σ).set (3 + n + k) (sl k, .inr (5, [.int (nI k), .int (σ 6 k), .int (σ 7 k), .int (σ 8 k), .int (σ 9 k), .int (σ 10 k), zrf bd (σ 11 k), .null, .int (zfl (σ 12 k)), .int (σ 14 k), .int (σ 15 k), .int (σ 16 k), .int (σ 17 k)])) = zj cB cS u bd sl n m (zs σ 13 k (-1)) := by
  have e : zjS bd (zs σ 13 k (-1)) k = .inr (5, [.int (nI k), .int (σ 6 k), .int (σ 7 k), .int (σ 8 k), .int (σ 9 k), .int (σ 10 k), zrf bd (σ 11 k), .null, .int (zfl (σ 12 k)), .int (σ 14 k), .int (σ 15 k), .int (σ 16 k), .int (σ 17 k)]) := by
    unfold zjS
    rw [zs_eq, zrf_n (f := bd) (v := -1) rfl]
    rfl
  rw [← e]
  exact zj_S hk rfl (fun j => rfl) (fun j hj => by simp only [zjS, zs_ne _ _ hj])
theorem zjw13r (hk : k < m) {j : Nat} (hj : j < 2 ^ 31) : (zj cB cS u bd sl n m σ).set (3 + n + k) (sl k, .inr (5, [.int (nI k), .int (σ 6 k), .int (σ 7 k), .int (σ 8 k), .int (σ 9 k), .int (σ 10 k), zrf bd (σ 11 k), .ref (bd j), .int (zfl (σ 12 k)), .int (σ 14 k), .int (σ 15 k), .int (σ 16 k), .int (σ 17 k)])) = zj cB cS u bd sl n m (zs σ 13 k (nI j)) := by
  have e : zjS bd (zs σ 13 k (nI j)) k = .inr (5, [.int (nI k), .int (σ 6 k), .int (σ 7 k), .int (σ 8 k), .int (σ 9 k), .int (σ 10 k), zrf bd (σ 11 k), .ref (bd j), .int (zfl (σ 12 k)), .int (σ 14 k), .int (σ 15 k), .int (σ 16 k), .int (σ 17 k)]) := by
    unfold zjS
    rw [zs_eq, zrf_r (f := bd) (b := j) rfl hj]
    rfl
  rw [← e]
  exact zj_S hk rfl (fun j => rfl) (fun j hj => by simp only [zjS, zs_ne _ _ hj])
theorem zjw12f (hk : k < m) : (zj cB cS u bd sl n m σ).set (3 + n + k) (sl k, .inr (5, [.int (nI k), .int (σ 6 k), .int (σ 7 k), .int (σ 8 k), .int (σ 9 k), .int (σ 10 k), zrf bd (σ 11 k), zrf bd (σ 13 k), .int 1, .int (σ 14 k), .int (σ 15 k), .int (σ 16 k), .int (σ 17 k)])) = zj cB cS u bd sl n m (zs σ 12 k 2) := by
  have e : zjS bd (zs σ 12 k 2) k = .inr (5, [.int (nI k), .int (σ 6 k), .int (σ 7 k), .int (σ 8 k), .int (σ 9 k), .int (σ 10 k), zrf bd (σ 11 k), zrf bd (σ 13 k), .int 1, .int (σ 14 k), .int (σ 15 k), .int (σ 16 k), .int (σ 17 k)]) := by
    unfold zjS
    rw [zs_eq]
    rfl
  rw [← e]
  exact zj_S hk rfl (fun j => rfl) (fun j hj => by simp only [zjS, zs_ne _ _ hj])
theorem zjw12u (hk : k < m) : (zj cB cS u bd sl n m σ).set (3 + n + k) (sl k, .inr (5, [.int (nI k), .int (σ 6 k), .int (σ 7 k), .int (σ 8 k), .int (σ 9 k), .int (σ 10 k), zrf bd (σ 11 k), zrf bd (σ 13 k), .int 0, .int (σ 14 k), .int (σ 15 k), .int (σ 16 k), .int (σ 17 k)])) = zj cB cS u bd sl n m (zs σ 12 k 0) := by
  have e : zjS bd (zs σ 12 k 0) k = .inr (5, [.int (nI k), .int (σ 6 k), .int (σ 7 k), .int (σ 8 k), .int (σ 9 k), .int (σ 10 k), zrf bd (σ 11 k), zrf bd (σ 13 k), .int 0, .int (σ 14 k), .int (σ 15 k), .int (σ 16 k), .int (σ 17 k)]) := by
    unfold zjS
    rw [zs_eq]
    rfl
  rw [← e]
  exact zj_S hk rfl (fun j => rfl) (fun j hj => by simp only [zjS, zs_ne _ _ hj])
theorem zjw00 (v : Int32) : (zj cB cS u bd sl n m σ).set 0 (u 0, .inr (6, [.int v, .int (σ 0 1), .int (σ 0 2), .ref (u 1), .ref (u 2)])) = zj cB cS u bd sl n m (zs σ 0 0 v) := rfl
theorem zjw01 (v : Int32) : (zj cB cS u bd sl n m σ).set 0 (u 0, .inr (6, [.int (σ 0 0), .int v, .int (σ 0 2), .ref (u 1), .ref (u 2)])) = zj cB cS u bd sl n m (zs σ 0 1 v) := rfl
theorem zjw02 (v : Int32) : (zj cB cS u bd sl n m σ).set 0 (u 0, .inr (6, [.int (σ 0 0), .int (σ 0 1), .int v, .ref (u 1), .ref (u 2)])) = zj cB cS u bd sl n m (zs σ 0 2 v) := rfl
/-- who is in a bed isn't on the floor: the place itself stands in no cell -/
theorem zj_in (h : ¬ σ 12 k = 2) : zj cB cS u bd sl n m (zs σ 12 k 1) = zj cB cS u bd sl n m σ := by
  have e : ∀ j, zjS bd (zs σ 12 k 1) j = zjS bd σ j := fun j => by
    by_cases z : j = k
    · subst z
      have e2 : zfl (zs σ 12 j 1 12 j) = zfl (σ 12 j) := by rw [zs_eq, zfl_n h]; rfl
      unfold zjS
      rw [e2]
      rfl
    · simp only [zjS, zs_ne _ _ z]
  unfold zj
  rw [show (fun k' => (sl k', zjS bd (zs σ 12 k 1) k')) = (fun k' => (sl k', zjS bd σ k')) from funext (fun j => by rw [e j])]
  rfl
end ZJ
