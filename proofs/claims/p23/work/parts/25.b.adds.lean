/-! one bed more, one sailor more: the addresses move, the table grows -/
theorem va_P_mem {D : va_G} {cl : List vw_C} {ws : va_W} {H : Heap} : va_P D cl ws H ↔ ∀ q ∈ ws, va_at D cl q H := by
  constructor
  · intro h q hq
    obtain ⟨k, hk⟩ := List.mem_iff_getElem?.mp hq
    exact h k q hk
  · intro h k q hk
    exact h q (List.mem_of_getElem? hk)
theorem va_D_nd {A : Nat → Prop} {ws : va_W} : va_D A ws ↔ (ws.map Prod.fst).Nodup ∧ ∀ q ∈ ws.map Prod.fst, A q := by
  constructor
  · intro h
    refine ⟨List.nodup_iff_pairwise_ne.mpr (List.pairwise_iff_getElem.mpr (fun i j hi hj hij e => ?_)), fun q hq => ?_⟩
    · rw [List.getElem_map, List.getElem_map] at e
      rw [List.length_map] at hi hj
      have := h.1 i j ws[i] ws[j] (List.getElem?_eq_getElem hi) (List.getElem?_eq_getElem hj) e
      omega
    · obtain ⟨p, hp, rfl⟩ := List.mem_map.mp hq
      obtain ⟨k, hk⟩ := List.mem_iff_getElem?.mp hp
      exact h.2 k p hk
  · intro h
    refine ⟨fun i j p q hi hj e => ?_, fun k q hk => h.2 q.1 (List.mem_map_of_mem (List.mem_of_getElem? hk))⟩
    have hi2 := (List.getElem?_eq_some_iff.mp hi)
    have hj2 := (List.getElem?_eq_some_iff.mp hj)
    obtain ⟨hi3, hi4⟩ := hi2
    obtain ⟨hj3, hj4⟩ := hj2
    have hp := List.pairwise_iff_getElem.mp (List.nodup_iff_pairwise_ne.mp h.1)
    rcases Nat.lt_trichotomy i j with z | z | z
    · exact absurd (by rw [List.getElem_map, List.getElem_map, hi4, hj4]; exact e) (hp i j (by rw [List.length_map]; exact hi3) (by rw [List.length_map]; exact hj3) z)
    · exact z
    · exact absurd (by rw [List.getElem_map, List.getElem_map, hi4, hj4]; exact e.symm) (hp j i (by rw [List.length_map]; exact hj3) (by rw [List.length_map]; exact hi3) z)
theorem va_D_of {A : Nat → Prop} {ws ws' : va_W} (h : va_D A ws) (hc : ∀ a, List.count a (ws'.map Prod.fst) ≤ List.count a (ws.map Prod.fst)) : va_D A ws' := by
  have h1 := va_D_nd.mp h
  refine va_D_nd.mpr ⟨List.nodup_iff_count.mpr (fun a => Nat.le_trans (hc a) (List.nodup_iff_count.mp h1.1 a)), fun q hq => h1.2 q ?_⟩
  exact List.count_pos_iff.mp (Nat.lt_of_lt_of_le (List.count_pos_iff.mpr hq) (hc q))
theorem zxs2 {X Z E : va_W} {i : Nat} {e : Nat × va_E} (hi : i < Z.length) : ((X ++ Z) ++ E).set (X.length + i) e = (X ++ Z.set i e) ++ E := by
  rw [List.set_append_left _ _ (by rw [List.length_append]; omega), zxs]
theorem vup_eq {α : Type} (f : Nat → α) (k : Nat) (v : α) : va_up f k v k = v := if_pos rfl
theorem vup_ne {α : Type} (f : Nat → α) {k j : Nat} (h : j ≠ k) (v : α) : va_up f k v j = f j := if_neg h
theorem zrf_up {f : Nat → Nat} {n q : Nat} {v : Int32} (hn : n < 2 ^ 31) (h : v = -1 ∨ ∃ b, b < n ∧ v = nI b) : zrf (va_up f n q) v = zrf f v := by
  rcases h with h | ⟨b, hb, h⟩
  · rw [zrf_n h, zrf_n h]
  · rw [zrf_r h (by omega), zrf_r h (by omega), vup_ne f (by omega)]
def q_cq (f : Nat → Nat) (k : Nat) : Nat → Option Nat := fun i => if i < k then some (f i) else none
theorem q_cq_0 (f : Nat → Nat) : q_cq f 0 = fun _ => none := by
  funext i
  unfold q_cq
  rw [if_neg (Nat.not_lt_zero i)]
theorem q_cq_s (f : Nat → Nat) {k : Nat} (hk : k < 2 ^ 31) : va_up (q_cq f k) (nI k).toNatClampNeg (some (f k)) = q_cq f (k + 1) := by
  rw [nI_clamp hk]
  funext i
  unfold va_up q_cq
  by_cases e : i = k
  · subst e
    rw [if_pos rfl, if_pos (Nat.lt_succ_self i)]
  · rw [if_neg e]
    by_cases h : i < k
    · rw [if_pos h, if_pos (by omega)]
    · rw [if_neg h, if_neg (by omega)]
theorem q_cq_n (f : Nat → Nat) {k : Nat} (hk : k < 2 ^ 31) (q : Nat) : (∀ i, i < k → va_up (q_cq f k) (nI k).toNatClampNeg (some q) i = some (f i)) ∧ va_up (q_cq f k) (nI k).toNatClampNeg (some q) k = some q := by
  rw [nI_clamp hk]
  refine ⟨fun i hi => ?_, vup_eq _ k _⟩
  rw [vup_ne _ (by omega)]
  exact if_pos hi
theorem zj_map_fst (n : Nat) (f : Nat → Nat) (g : Nat → va_E) : ((List.range n).map (fun k => (f k, g k))).map Prod.fst = (List.range n).map f := by
  rw [List.map_map]
  rfl
theorem zj_addB {D : va_G} {A : Nat → Prop} {H : Heap} {X : va_W} {cB cS : ClassId} {u bd sl : Nat → Nat} {σ : zS} {nb ns h B q1 q2 : Nat} {e1 : va_E} {F : Nat → Option Nat} (hV : zV σ nb ns h B) (v : Int32) (hF : ∀ i, i < nb → F i = some (bd i)) (hFn : F nb = some q2)
    (hP : va_P D vwCl ((X ++ ((u 0, .inr (6, [.int (σ 0 0), .int (σ 0 1), .int (σ 0 2), .ref q1, .ref (u 2)])) :: (u 1, e1) :: (u 2, .inl (cS, ns, .inr (.inr (.inr (.inr (zjA sl)))))) :: ((List.range nb).map (fun k => (bd k, zjB sl σ k)) ++ (List.range ns).map (fun k => (sl k, zjS bd σ k))))) ++ [(q1, .inl (cB, nb + 1, .inr (.inr (.inr (.inr (F)))))), (q2, .inr (4, [.int v, .int 0, .int 0, .int 0, .null, .int (nI nb)]))]) H)
    (hD : va_D A ((X ++ ((u 0, .inr (6, [.int (σ 0 0), .int (σ 0 1), .int (σ 0 2), .ref q1, .ref (u 2)])) :: (u 1, e1) :: (u 2, .inl (cS, ns, .inr (.inr (.inr (.inr (zjA sl)))))) :: ((List.range nb).map (fun k => (bd k, zjB sl σ k)) ++ (List.range ns).map (fun k => (sl k, zjS bd σ k))))) ++ [(q1, .inl (cB, nb + 1, .inr (.inr (.inr (.inr (F)))))), (q2, .inr (4, [.int v, .int 0, .int 0, .int 0, .null, .int (nI nb)]))])) :
    va_P D vwCl (X ++ zj cB cS (va_up u 1 q1) (va_up bd nb q2) sl (nb + 1) ns (f_addB σ nb v)) H ∧ va_D A (X ++ zj cB cS (va_up u 1 q1) (va_up bd nb q2) sl (nb + 1) ns (f_addB σ nb v)) := by
  have hnb := hV.1.2.1
  have hns := hV.1.2.2.2.1
  have hz := hV.2.2.2.2.2 nb (Nat.le_refl nb)
  have r0 : ∀ j, j < 3 → f_addB σ nb v 0 j = σ 0 j := fun j hj => zs_ne _ 0 (by omega) _ _
  have r1 : f_addB σ nb v 1 nb = v := zs_eq σ 1 nb v
  have r5 : f_addB σ nb v 5 nb = -1 := zs_eq (zs σ 1 nb v) 5 nb (-1)
  have rb : ∀ r k, k ≠ nb → 1 ≤ r → f_addB σ nb v r k = σ r k := fun r k hk hr => by
    show zs (zs (zs σ 1 nb v) 5 nb (-1)) 0 3 _ r k = _
    rw [zs_nr _ (by omega), zs_ne _ _ hk, zs_ne _ _ hk]
  have rs : ∀ r k, 6 ≤ r → f_addB σ nb v r k = σ r k := fun r k hr => by
    show zs (zs (zs σ 1 nb v) 5 nb (-1)) 0 3 _ r k = _
    rw [zs_nr _ (by omega), zs_nr _ (by omega), zs_nr _ (by omega)]
  rw [va_P_mem] at hP
  constructor
  · rw [va_P_mem]
    intro q hq
    unfold zj at hq
    simp only [List.mem_append, List.mem_cons, List.mem_map, List.mem_range] at hq
    rcases hq with hq | rfl | rfl | rfl | ⟨k, hk, rfl⟩ | ⟨k, hk, rfl⟩
    · exact hP q (by simp only [List.mem_append]; exact Or.inl (Or.inl hq))
    · rw [r0 0 (by decide), r0 1 (by decide), r0 2 (by decide)]
      exact hP _ (by simp only [List.mem_append, List.mem_cons]; exact Or.inl (Or.inr (Or.inl rfl)))
    · refine fr_rowq (fun j hj => ?_) (hP (q1, .inl (cB, nb + 1, .inr (.inr (.inr (.inr (F)))))) (List.mem_append_right _ List.mem_cons_self))
      show F j = some (va_up bd nb q2 j)
      by_cases e : j = nb
      · subst e; rw [hFn, vup_eq]
      · rw [hF j (by omega), vup_ne bd e]
    · exact hP _ (by simp only [List.mem_append, List.mem_cons]; exact Or.inl (Or.inr (Or.inr (Or.inr (Or.inl rfl)))))
    · by_cases e : k = nb
      · subst e
        have e2 : (va_up bd k q2 k, zjB sl (f_addB σ k v) k) = (q2, .inr (4, [.int v, .int 0, .int 0, .int 0, .null, .int (nI k)])) := by
          unfold zjB
          rw [vup_eq, r1, r5, zrf_n rfl]
          have z2 : f_addB σ k v 2 k = 0 := hz.1
          have z3 : f_addB σ k v 3 k = 0 := hz.2.1
          have z4 : f_addB σ k v 4 k = 0 := hz.2.2
          rw [z2, z3, z4]
        rw [e2]
        exact hP _ (List.mem_append_right _ (List.mem_cons_of_mem _ List.mem_cons_self))
      · have e2 : (va_up bd nb q2 k, zjB sl (f_addB σ nb v) k) = (bd k, zjB sl σ k) := by
          unfold zjB
          rw [vup_ne bd e, rb 1 k e (by decide), rb 2 k e (by decide), rb 3 k e (by decide), rb 4 k e (by decide), rb 5 k e (by decide)]
        rw [e2]
        exact hP _ (by simp only [List.mem_append, List.mem_cons, List.mem_map, List.mem_range]; exact Or.inl (Or.inr (Or.inr (Or.inr (Or.inr (Or.inl ⟨k, by omega, rfl⟩))))))
    · have e2 : (sl k, zjS (va_up bd nb q2) (f_addB σ nb v) k) = (sl k, zjS bd σ k) := by
        unfold zjS
        rw [rs 6 k (by decide), rs 7 k (by decide), rs 8 k (by decide), rs 9 k (by decide), rs 10 k (by decide), rs 11 k (by decide), rs 12 k (by decide), rs 13 k (by decide), rs 14 k (by decide), rs 15 k (by decide), rs 16 k (by decide), rs 17 k (by decide)]
        rw [zrf_up (by omega) (hV.ksk hk).2.2.1, zrf_up (v := σ 13 k) (by omega) ((hV.ksk hk).2.2.2.1.elim (fun z => Or.inr z.2) (fun z => Or.inl z.2))]
      rw [e2]
      exact hP _ (by simp only [List.mem_append, List.mem_cons, List.mem_map, List.mem_range]; exact Or.inl (Or.inr (Or.inr (Or.inr (Or.inr (Or.inr ⟨k, hk, rfl⟩))))))
  · refine va_D_of hD (fun z => ?_)
    have eb : (List.range (nb + 1)).map (va_up bd nb q2) = (List.range nb).map bd ++ [q2] := by
      rw [List.range_succ, List.map_append]
      congr 1
      · exact List.map_congr_left (fun i hi => vup_ne bd (by have := List.mem_range.mp hi; omega) _)
      · simp [vup_eq]
    have u0 : va_up u 1 q1 0 = u 0 := rfl
    have u1 : va_up u 1 q1 1 = q1 := rfl
    have u2 : va_up u 1 q1 2 = u 2 := rfl
    unfold zj
    simp only [List.map_append, List.map_cons, List.map_nil, zj_map_fst, eb, List.count_append, List.count_cons, List.count_nil, u0, u1, u2]
    omega
theorem zj_addS {D : va_G} {A : Nat → Prop} {H : Heap} {X : va_W} {cB cS : ClassId} {u bd sl : Nat → Nat} {σ : zS} {nb ns h B q1 q2 : Nat} {e1 : va_E} {F : Nat → Option Nat} (hV : zV σ nb ns h B) (v1 v2 v3 v4 : Int32) (hF : ∀ i, i < ns → F i = some (sl i)) (hFn : F ns = some q2)
    (hP : va_P D vwCl ((X ++ ((u 0, .inr (6, [.int (σ 0 0), .int (σ 0 1), .int (σ 0 2), .ref (u 1), .ref q1])) :: (u 1, .inl (cB, nb, .inr (.inr (.inr (.inr (zjA bd)))))) :: (u 2, e1) :: ((List.range nb).map (fun k => (bd k, zjB sl σ k)) ++ (List.range ns).map (fun k => (sl k, zjS bd σ k))))) ++ [(q1, .inl (cS, ns + 1, .inr (.inr (.inr (.inr (F)))))), (q2, .inr (5, [.int (nI ns), .int v1, .int v2, .int v3, .int v4, .int 1, .null, .null, .int 0, .int 0, .int 0, .int 0, .int 0]))]) H)
    (hD : va_D A ((X ++ ((u 0, .inr (6, [.int (σ 0 0), .int (σ 0 1), .int (σ 0 2), .ref (u 1), .ref q1])) :: (u 1, .inl (cB, nb, .inr (.inr (.inr (.inr (zjA bd)))))) :: (u 2, e1) :: ((List.range nb).map (fun k => (bd k, zjB sl σ k)) ++ (List.range ns).map (fun k => (sl k, zjS bd σ k))))) ++ [(q1, .inl (cS, ns + 1, .inr (.inr (.inr (.inr (F)))))), (q2, .inr (5, [.int (nI ns), .int v1, .int v2, .int v3, .int v4, .int 1, .null, .null, .int 0, .int 0, .int 0, .int 0, .int 0]))])) :
    va_P D vwCl (X ++ zj cB cS (va_up u 2 q1) bd (va_up sl ns q2) nb (ns + 1) (f_addS σ ns v1 v2 v3 v4)) H ∧ va_D A (X ++ zj cB cS (va_up u 2 q1) bd (va_up sl ns q2) nb (ns + 1) (f_addS σ ns v1 v2 v3 v4)) := by
  have hnb := hV.1.2.1
  have hns := hV.1.2.2.2.1
  have hz := hV.2.2.2.2.1 ns (Nat.le_refl ns)
  have r0 : ∀ j, j < 3 → f_addS σ ns v1 v2 v3 v4 0 j = σ 0 j := fun j hj => zs_ne _ 0 (by omega) _ _
  have e6 : f_addS σ ns v1 v2 v3 v4 6 ns = v1 := zs_eq σ 6 ns v1
  have e7 : f_addS σ ns v1 v2 v3 v4 7 ns = v2 := zs_eq (zs σ 6 ns v1) 7 ns v2
  have e8 : f_addS σ ns v1 v2 v3 v4 8 ns = v3 := zs_eq (zs (zs σ 6 ns v1) 7 ns v2) 8 ns v3
  have e9 : f_addS σ ns v1 v2 v3 v4 9 ns = v4 := zs_eq (zs (zs (zs σ 6 ns v1) 7 ns v2) 8 ns v3) 9 ns v4
  have e10 : f_addS σ ns v1 v2 v3 v4 10 ns = 1 := zs_eq (zs (zs (zs (zs σ 6 ns v1) 7 ns v2) 8 ns v3) 9 ns v4) 10 ns 1
  have e11 : f_addS σ ns v1 v2 v3 v4 11 ns = -1 := zs_eq (zs (zs (zs (zs (zs σ 6 ns v1) 7 ns v2) 8 ns v3) 9 ns v4) 10 ns 1) 11 ns (-1)
  have e12 : f_addS σ ns v1 v2 v3 v4 12 ns = 0 := zs_eq (zs (zs (zs (zs (zs (zs σ 6 ns v1) 7 ns v2) 8 ns v3) 9 ns v4) 10 ns 1) 11 ns (-1)) 12 ns 0
  have e13 : f_addS σ ns v1 v2 v3 v4 13 ns = -1 := zs_eq (zs (zs (zs (zs (zs (zs (zs σ 6 ns v1) 7 ns v2) 8 ns v3) 9 ns v4) 10 ns 1) 11 ns (-1)) 12 ns 0) 13 ns (-1)
  have rb : ∀ r, 1 ≤ r → r ≤ 5 → f_addS σ ns v1 v2 v3 v4 r = σ r := fun r h1 h2 => by
    unfold f_addS
    rw [zs_row _ (by omega), zs_row _ (by omega), zs_row _ (by omega), zs_row _ (by omega), zs_row _ (by omega), zs_row _ (by omega), zs_row _ (by omega), zs_row _ (by omega), zs_row _ (by omega)]
  have rs : ∀ r k, k ≠ ns → 6 ≤ r → f_addS σ ns v1 v2 v3 v4 r k = σ r k := fun r k hk hr => co_addS hk r hr
  rw [va_P_mem] at hP
  constructor
  · rw [va_P_mem]
    intro q hq
    unfold zj at hq
    simp only [List.mem_append, List.mem_cons, List.mem_map, List.mem_range] at hq
    rcases hq with hq | rfl | rfl | rfl | ⟨k, hk, rfl⟩ | ⟨k, hk, rfl⟩
    · exact hP q (by simp only [List.mem_append]; exact Or.inl (Or.inl hq))
    · rw [r0 0 (by decide), r0 1 (by decide), r0 2 (by decide)]
      exact hP _ (by simp only [List.mem_append, List.mem_cons]; exact Or.inl (Or.inr (Or.inl rfl)))
    · exact hP _ (by simp only [List.mem_append, List.mem_cons]; exact Or.inl (Or.inr (Or.inr (Or.inl rfl))))
    · refine fr_rowq (fun j hj => ?_) (hP (q1, .inl (cS, ns + 1, .inr (.inr (.inr (.inr (F)))))) (List.mem_append_right _ List.mem_cons_self))
      show F j = some (va_up sl ns q2 j)
      by_cases e : j = ns
      · subst e; rw [hFn, vup_eq]
      · rw [hF j (by omega), vup_ne sl e]
    · have e2 : (bd k, zjB (va_up sl ns q2) (f_addS σ ns v1 v2 v3 v4) k) = (bd k, zjB sl σ k) := by
        unfold zjB
        rw [rb 1 (by decide) (by decide), rb 2 (by decide) (by decide), rb 3 (by decide) (by decide), rb 4 (by decide) (by decide), rb 5 (by decide) (by decide)]
        rw [zrf_up (by omega) ((hV.kbd hk).2.2.2.imp id (fun ⟨q, z1, z2, _, _⟩ => ⟨q, z1, z2⟩))]
      rw [e2]
      exact hP _ (by simp only [List.mem_append, List.mem_cons, List.mem_map, List.mem_range]; exact Or.inl (Or.inr (Or.inr (Or.inr (Or.inr (Or.inl ⟨k, hk, rfl⟩))))))
    · by_cases e : k = ns
      · subst e
        have e2 : (va_up sl k q2 k, zjS bd (f_addS σ k v1 v2 v3 v4) k) = (q2, .inr (5, [.int (nI k), .int v1, .int v2, .int v3, .int v4, .int 1, .null, .null, .int 0, .int 0, .int 0, .int 0, .int 0])) := by
          have z14 : f_addS σ k v1 v2 v3 v4 14 k = 0 := hz.2.1
          have z15 : f_addS σ k v1 v2 v3 v4 15 k = 0 := hz.2.2.1
          have z16 : f_addS σ k v1 v2 v3 v4 16 k = 0 := hz.2.2.2.1
          have z17 : f_addS σ k v1 v2 v3 v4 17 k = 0 := hz.2.2.2.2
          unfold zjS
          rw [vup_eq, e6, e7, e8, e9, e10, e11, e12, e13, zrf_n rfl, zfl_0 rfl, z14, z15, z16, z17]
        rw [e2]
        exact hP _ (List.mem_append_right _ (List.mem_cons_of_mem _ List.mem_cons_self))
      · have e2 : (va_up sl ns q2 k, zjS bd (f_addS σ ns v1 v2 v3 v4) k) = (sl k, zjS bd σ k) := by
          unfold zjS
          rw [vup_ne sl e, rs 6 k e (by decide), rs 7 k e (by decide), rs 8 k e (by decide), rs 9 k e (by decide), rs 10 k e (by decide), rs 11 k e (by decide), rs 12 k e (by decide), rs 13 k e (by decide), rs 14 k e (by decide), rs 15 k e (by decide), rs 16 k e (by decide), rs 17 k e (by decide)]
        rw [e2]
        exact hP _ (by simp only [List.mem_append, List.mem_cons, List.mem_map, List.mem_range]; exact Or.inl (Or.inr (Or.inr (Or.inr (Or.inr (Or.inr ⟨k, by omega, rfl⟩))))))
  · refine va_D_of hD (fun z => ?_)
    have eb : (List.range (ns + 1)).map (va_up sl ns q2) = (List.range ns).map sl ++ [q2] := by
      rw [List.range_succ, List.map_append]
      congr 1
      · exact List.map_congr_left (fun i hi => vup_ne sl (by have := List.mem_range.mp hi; omega) _)
      · simp [vup_eq]
    have u0 : va_up u 2 q1 0 = u 0 := rfl
    have u1 : va_up u 2 q1 1 = u 1 := rfl
    have u2 : va_up u 2 q1 2 = q1 := rfl
    unfold zj
    simp only [List.map_append, List.map_cons, List.map_nil, zj_map_fst, eb, List.count_append, List.count_cons, List.count_nil, u0, u1, u2]
    omega
