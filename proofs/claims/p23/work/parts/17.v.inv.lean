/-! THE LAW'S INVARIANT: bounds of every number, who lies in which bed; and that rest, lateness and floors never get less -/
def zle (v : Int32) (n : Nat) : Prop := ∃ y, y ≤ n ∧ v = nI y
theorem zle.up {v : Int32} {n n' : Nat} (h : zle v n) (hn : n ≤ n') : zle v n' := by
  obtain ⟨y, h1, h2⟩ := h
  exact ⟨y, Nat.le_trans h1 hn, h2⟩
theorem zle.add {v : Int32} {n : Nat} (h : zle v n) (c : Nat) : zle (v + nI c) (n + c) := by
  obtain ⟨y, h1, h2⟩ := h
  exact ⟨y + c, by omega, by rw [h2, nI_add]⟩
theorem zle.succ {v : Int32} {n : Nat} (h : zle v n) : zle (v + 1) (n + 1) := h.add 1
theorem zle.pos {v : Int32} {n : Nat} (h : zle v n) (hn : n < 2 ^ 31) : ¬ v < 0 := by
  obtain ⟨y, h1, h2⟩ := h
  rw [h2]
  exact nI_pos (by omega)
theorem zle.le {v : Int32} {n : Nat} (h : zle v n) (hn : n < 2 ^ 31) : v ≤ nI n := by
  obtain ⟨y, h1, h2⟩ := h
  rw [h2]
  exact nI_le h1 hn
theorem zle.mono {v : Int32} {n : Nat} (h : zle v n) (c : Nat) (hn : n + c < 2 ^ 31) : v ≤ v + nI c := by
  obtain ⟨y, h1, h2⟩ := h
  rw [h2, nI_add]
  exact nI_le (by omega) (by omega)
theorem zle.of {a n : Nat} (h : a ≤ n) : zle (nI a) n := ⟨a, h, rfl⟩
theorem i32_rf (v : Int32) : v ≤ v := Int32.le_iff_toInt_le.mpr (Int.le_refl _)
theorem i32_tr {u v w : Int32} (h1 : u ≤ v) (h2 : v ≤ w) : u ≤ w := Int32.le_iff_toInt_le.mpr (Int.le_trans (Int32.le_iff_toInt_le.mp h1) (Int32.le_iff_toInt_le.mp h2))
theorem i32_nlt {v w : Int32} (h : v ≤ w) : ¬ w < v := fun z => by
  have h1 := Int32.le_iff_toInt_le.mp h
  have h2 := Int32.lt_iff_toInt_lt.mp z
  omega
-- a sailor's column as it was
def zco (σ τ : zS) (k : Nat) : Prop := ∀ r, 6 ≤ r → τ r k = σ r k
theorem zco.rf {σ : zS} {j : Nat} : zco σ σ j := fun _ _ => rfl
theorem zco.tr {σ τ υ : zS} {j : Nat} (h1 : zco σ τ j) (h2 : zco τ υ j) : zco σ υ j := fun r hr => (h2 r hr).trans (h1 r hr)
theorem zco_ne {σ : zS} {r k j : Nat} {v : Int32} (h : j ≠ k) : zco σ (zs σ r k v) j := fun _ _ => zs_ne _ _ h _ _
theorem zco_lo {σ : zS} {r k j : Nat} {v : Int32} (h : r < 6) : zco σ (zs σ r k v) j := fun _ _ => zs_nr _ (by omega) _ _ _
theorem zco.ag {σ τ : zS} {j : Nat} (h : zco σ τ j) : zag σ τ j := ⟨h 6 (by decide), h 10 (by decide), h 11 (by decide), h 12 (by decide), h 13 (by decide), h 14 (by decide)⟩
theorem co_late {σ : zS} {k j : Nat} (h : j ≠ k) : zco σ (f_late σ k) j := (zco_ne h).tr (zco_ne h)
theorem co_floor {σ : zS} {k j : Nat} (h : j ≠ k) : zco σ (f_floor σ k) j := (zco_ne h).tr (zco_ne h)
theorem co_leave {σ : zS} {k j : Nat} : zco σ (f_leave σ k) j := by
  unfold f_leave
  split
  · exact zco_lo (by decide)
  · exact zco.rf
theorem co_getUp {σ : zS} {k j : Nat} (h : j ≠ k) : zco σ (f_getUp σ k) j := co_leave.tr ((zco_ne h).tr (zco_ne h))
theorem co_earn {σ : zS} {k j : Nat} {c : Int32} (h : j ≠ k) : zco σ (f_earn σ k c) j := zco_ne h
theorem co_pay {σ : zS} {k j : Nat} (h : j ≠ k) : zco σ (f_pay σ k) j := (co_earn h).tr (zco_ne h)
theorem co_red {σ : zS} {k j : Nat} (h : j ≠ k) : zco σ (f_red σ k) j := (zco_ne h).tr (zco_ne h)
theorem co_pawnB {σ : zS} {k j : Nat} (h : j ≠ k) : zco σ (f_pawnB σ k) j := (zco_ne (σ := σ) h).tr (co_earn h)
theorem co_into {σ : zS} {k b j : Nat} (h : j ≠ k) : zco σ (f_into σ k b) j :=
  ((((((zco_ne h).tr (zco_ne h)).tr (zco_ne h)).tr (zco_lo (by decide))).tr (zco_lo (by decide))).tr (zco_lo (by decide)))
theorem co_try1 {σ : zS} {k b j : Nat} (h : j ≠ k) : zco σ (f_try1 σ k b) j := by
  unfold f_try1
  split
  · exact co_pawnB h
  · exact zco.rf
theorem co_try {σ : zS} {k b j : Nat} (h : j ≠ k) : zco σ (f_try σ k b) j := by
  unfold f_try
  split
  · exact (co_try1 h).tr (co_floor h)
  · exact (co_try1 h).tr (co_into h)
theorem co_look {σ : zS} {nb h k j : Nat} (hj : j ≠ k) : zco σ (f_look σ nb h k) j := by
  unfold f_look
  split
  · exact co_try hj
  · split
    · exact zco.rf
    · exact co_floor hj
theorem co_payR {σ : zS} {h k j : Nat} (hj : j ≠ k) : zco σ (f_payR σ h k) j := by
  unfold f_payR
  split
  · split
    · exact (co_pay hj).tr (co_red hj)
    · exact co_pay hj
  · exact zco.rf
theorem co_serve {σ : zS} {nb h k j : Nat} (hj : j ≠ k) : zco σ (f_serve σ nb h k) j := by
  unfold f_serve
  split
  · split
    · exact (co_payR hj).tr (co_look hj)
    · exact co_payR hj
  · exact zco.rf
theorem co_ring {σ : zS} {h k j : Nat} (hj : j ≠ k) : zco σ (f_ring σ h k) j := by
  unfold f_ring
  split
  · exact zco.rf
  · split
    · exact zco.rf
    · split
      · exact co_late hj
      · exact co_getUp hj
theorem co_rest {σ : zS} {h k j : Nat} (hj : j ≠ k) : zco σ (f_rest σ h k) j := zco_ne hj
theorem co_cool (σ : zS) (j : Nat) : ∀ n : Nat, zco σ (f_cool σ n) j
  | 0 => zco.rf
  | n + 1 => (co_cool σ j n).tr (zco_lo (by decide))
-- what is kept
def zsm (σ : zS) (B k : Nat) : Prop := zle (σ 7 k) 9 ∧ zle (σ 8 k) 20 ∧ zle (σ 9 k) 99 ∧ zle (σ 15 k) B ∧ zle (σ 16 k) B ∧ zle (σ 17 k) B
theorem zsm.co {σ τ : zS} {B k : Nat} (h : zsm σ B k) (ha : zco σ τ k) : zsm τ B k := by
  unfold zsm
  rw [ha 7 (by decide), ha 8 (by decide), ha 9 (by decide), ha 15 (by decide), ha 16 (by decide), ha 17 (by decide)]
  exact h
theorem zsm.up {σ : zS} {B B' k : Nat} (h : zsm σ B k) (hB : B ≤ B') : zsm σ B' k := ⟨h.1, h.2.1, h.2.2.1, h.2.2.2.1.up hB, h.2.2.2.2.1.up hB, h.2.2.2.2.2.up hB⟩
def zbd (σ : zS) (ns b : Nat) : Prop := zle (σ 1 b) 9 ∧ σ 4 b = σ 1 b * σ 3 b ∧ zle (σ 2 b) 8 ∧ (σ 5 b = -1 ∨ ∃ k, k < ns ∧ σ 5 b = nI k ∧ σ 12 k = 1 ∧ σ 13 k = nI b)
def zln (σ : zS) (nb k : Nat) : Prop := σ 12 k = 1 → ∃ b, b < nb ∧ σ 13 k = nI b ∧ σ 5 b = nI k
def zV (σ : zS) (nb ns h B : Nat) : Prop := zC σ nb ns h ∧ (B ≤ 2 ^ 28 ∧ (∃ p, 1 ≤ p ∧ p ≤ 20 ∧ σ 0 2 = nI p) ∧ zle (σ 0 1) 9) ∧ (∀ k, k < ns → zsk σ nb (2 * B) k ∧ zsm σ B k ∧ zln σ nb k) ∧ (∀ b, b < nb → zbd σ ns b) ∧ (∀ k, ns ≤ k → σ 12 k = 0 ∧ σ 14 k = 0 ∧ σ 15 k = 0 ∧ σ 16 k = 0 ∧ σ 17 k = 0) ∧ ∀ b, nb ≤ b → σ 2 b = 0 ∧ σ 3 b = 0 ∧ σ 4 b = 0
/-- an act on one sailor's column that leaves beds, place and bed alone -/
theorem zV.col {σ τ : zS} {nb ns h B B' k : Nat} (hV : zV σ nb ns h B) (hB : B ≤ B') (hB' : B' ≤ 2 ^ 28) (hk : k < ns) (h0 : τ 0 = σ 0) (hb : ∀ r, 1 ≤ r → r ≤ 5 → τ r = σ r) (hco : ∀ j, j ≠ k → zco σ τ j) (h12 : τ 12 k = σ 12 k) (h13 : τ 13 k = σ 13 k) (hs : zsk τ nb (2 * B') k) (hm : zsm τ B' k) : zV τ nb ns h B' := by
  obtain ⟨hC, ⟨-, hp, hl⟩, hK, hBd, hZ, hZb⟩ := hV
  have e12 : ∀ j, τ 12 j = σ 12 j := fun j => by
    by_cases e : j = k
    · rw [e]; exact h12
    · exact hco j e 12 (by decide)
  have e13 : ∀ j, τ 13 j = σ 13 j := fun j => by
    by_cases e : j = k
    · rw [e]; exact h13
    · exact hco j e 13 (by decide)
  refine ⟨⟨by rw [h0]; exact hC.1, hC.2.1, by rw [h0]; exact hC.2.2.1, hC.2.2.2.1, by rw [h0]; exact hC.2.2.2.2.1, hC.2.2.2.2.2.1, fun j hj => ?_⟩, ⟨hB', by rw [h0]; exact hp, by rw [h0]; exact hl⟩, fun j hj => ?_, fun b hb9 => ?_, fun j hj => ?_, fun b hb9 => ?_⟩
  · by_cases e : j = k
    · rw [e]; exact hs.1
    · rw [hco j e 6 (by decide)]; exact hC.2.2.2.2.2.2 j hj
  · have hln : zln τ nb j := by
      unfold zln
      rw [e12, e13, hb 5 (by decide) (by decide)]
      exact (hK j hj).2.2
    by_cases e : j = k
    · subst e; exact ⟨hs, hm, hln⟩
    · exact ⟨((hK j hj).1.ag (hco j e).ag).up (by omega), ((hK j hj).2.1.co (hco j e)).up hB, hln⟩
  · have h1 := hBd b hb9
    unfold zbd at h1 ⊢
    rw [hb 1 (by decide) (by decide), hb 2 (by decide) (by decide), hb 3 (by decide) (by decide), hb 4 (by decide) (by decide), hb 5 (by decide) (by decide)]
    refine ⟨h1.1, h1.2.1, h1.2.2.1, h1.2.2.2.imp id (fun ⟨q, z1, z2, z3, z4⟩ => ⟨q, z1, z2, by rw [e12]; exact z3, by rw [e13]; exact z4⟩)⟩
  · have z := hco j (by omega)
    rw [z 12 (by decide), z 14 (by decide), z 15 (by decide), z 16 (by decide), z 17 (by decide)]
    exact hZ j hj
  · rw [hb 2 (by decide) (by decide), hb 3 (by decide) (by decide), hb 4 (by decide) (by decide)]
    exact hZb b hb9
theorem zV.upB {σ : zS} {nb ns h B B' : Nat} (hV : zV σ nb ns h B) (hB : B ≤ B') (hB' : B' ≤ 2 ^ 28) : zV σ nb ns h B' :=
  ⟨hV.1, ⟨hB', hV.2.1.2⟩, fun k hk => ⟨(hV.2.2.1 k hk).1.up (by omega), (hV.2.2.1 k hk).2.1.up hB, (hV.2.2.1 k hk).2.2⟩, hV.2.2.2⟩
theorem zV.late {σ : zS} {nb ns h B k : Nat} (hV : zV σ nb ns h B) (hB : B + 1 ≤ 2 ^ 28) (hk : k < ns) : zV (f_late σ k) nb ns h (B + 1) := by
  have h1 := hV.2.2.1 k hk
  refine hV.col (Nat.le_succ B) hB hk rfl (fun r h1 h2 => ?_) (fun _ => co_late) rfl rfl ((sk_late h1.1).up (by omega)) ⟨h1.2.1.1, h1.2.1.2.1, h1.2.1.2.2.1, ?_, ?_, h1.2.1.2.2.2.2.2.up (Nat.le_succ B)⟩
  · unfold f_late
    rw [zs_row _ (by omega), zs_row _ (by omega)]
  · have e : f_late σ k 15 k = σ 15 k + 1 := zs_eq σ 15 k (σ 15 k + 1)
    rw [e]; exact h1.2.1.2.2.2.1.succ
  · have e : f_late σ k 16 k = σ 16 k + 1 := zs_eq (zs σ 15 k (σ 15 k + 1)) 16 k (σ 16 k + 1)
    rw [e]; exact h1.2.1.2.2.2.2.1.succ
theorem zV.clean {σ τ : zS} {nb ns h B k : Nat} (hV : zV σ nb ns h B) (hk : k < ns) (h13 : σ 13 k = -1) (h12 : ¬ σ 12 k = 1) (e12 : ¬ τ 12 k = 1) (e13 : τ 13 k = -1) (h0 : τ 0 = σ 0) (hb : ∀ r, 1 ≤ r → r ≤ 5 → τ r = σ r) (hco : ∀ j, j ≠ k → zco σ τ j) {B' : Nat} (hB : B ≤ B') (hB' : B' ≤ 2 ^ 28) (hs : zsk τ nb (2 * B') k) (hm : zsm τ B' k) : zV τ nb ns h B' := by
  obtain ⟨hC, ⟨-, hp, hl⟩, hK, hBd, hZ, hZb⟩ := hV
  refine ⟨⟨by rw [h0]; exact hC.1, hC.2.1, by rw [h0]; exact hC.2.2.1, hC.2.2.2.1, by rw [h0]; exact hC.2.2.2.2.1, hC.2.2.2.2.2.1, fun j hj => ?_⟩, ⟨hB', by rw [h0]; exact hp, by rw [h0]; exact hl⟩, fun j hj => ?_, fun b hb9 => ?_, fun j hj => ?_, fun b hb9 => ?_⟩
  · by_cases e : j = k
    · rw [e]; exact hs.1
    · rw [hco j e 6 (by decide)]; exact hC.2.2.2.2.2.2 j hj
  · by_cases e : j = k
    · subst e; exact ⟨hs, hm, fun z => absurd z e12⟩
    · refine ⟨((hK j hj).1.ag (hco j e).ag).up (by omega), ((hK j hj).2.1.co (hco j e)).up hB, ?_⟩
      unfold zln
      rw [hco j e 12 (by decide), hco j e 13 (by decide), hb 5 (by decide) (by decide)]
      exact (hK j hj).2.2
  · have h1 := hBd b hb9
    unfold zbd at h1 ⊢
    rw [hb 1 (by decide) (by decide), hb 2 (by decide) (by decide), hb 3 (by decide) (by decide), hb 4 (by decide) (by decide), hb 5 (by decide) (by decide)]
    refine ⟨h1.1, h1.2.1, h1.2.2.1, h1.2.2.2.imp id (fun ⟨q, z1, z2, z3, z4⟩ => ?_)⟩
    have e : q ≠ k := fun e => by subst e; exact h12 z3
    exact ⟨q, z1, z2, by rw [hco q e 12 (by decide)]; exact z3, by rw [hco q e 13 (by decide)]; exact z4⟩
  · have z := hco j (by omega)
    rw [z 12 (by decide), z 14 (by decide), z 15 (by decide), z 16 (by decide), z 17 (by decide)]
    exact hZ j hj
  · rw [hb 2 (by decide) (by decide), hb 3 (by decide) (by decide), hb 4 (by decide) (by decide)]
    exact hZb b hb9
theorem zV.zhas {σ : zS} {nb ns h B b : Nat} (hV : zV σ nb ns h B) (hb : b < nb) : f_has σ (nI b) := by
  have hC := hV.1
  have hnb := hC.2.1
  refine ⟨nI_pos (by omega), ?_⟩
  rw [hC.1]
  exact nI_ge hb (by omega)
theorem zm1_nhas {σ : zS} : ¬ f_has σ (-1) := fun z => z.1 (by decide)
theorem f_leave_n {σ : zS} {k : Nat} (h : σ 13 k = -1) : f_leave σ k = σ := by
  unfold f_leave
  rw [h, if_neg zm1_nhas]
theorem f_leave_b {σ : zS} {nb ns h B b k : Nat} (hV : zV σ nb ns h B) (hb : b < nb) (h : σ 13 k = nI b) : f_leave σ k = zs σ 5 b (-1) := by
  have hnb := hV.1.2.1
  unfold f_leave
  rw [h, if_pos (hV.zhas hb), nI_clamp (by omega)]
theorem zV.getUp {σ : zS} {nb ns h B k : Nat} (hV : zV σ nb ns h B) (hk : k < ns) : zV (f_getUp σ k) nb ns h B := by
  have hs := (hV.2.2.1 k hk).1
  have e12 : f_getUp σ k 12 k = 0 := zs_eq (zs (f_leave σ k) 13 k (-1)) 12 k 0
  have e13 : f_getUp σ k 13 k = -1 := zs_eq (f_leave σ k) 13 k (-1)
  have hm : zsm (f_getUp σ k) B k := by
    have h1 : zsm (f_leave σ k) B k := (hV.2.2.1 k hk).2.1.co co_leave
    exact h1
  rcases hs.2.2.2.1 with ⟨h12, b, hb, h13⟩ | ⟨h12, h13⟩
  · have hu : f_getUp σ k = zs (zs (zs σ 5 b (-1)) 13 k (-1)) 12 k 0 := by
      unfold f_getUp
      rw [f_leave_b hV hb h13]
    have hco : ∀ j, j ≠ k → zco σ (f_getUp σ k) j := fun _ => co_getUp
    have hsk := sk_getUp hs
    have h0 : f_getUp σ k 0 = σ 0 := f_getUp_0 σ k
    have hr : ∀ r, 1 ≤ r → r ≤ 4 → f_getUp σ k r = σ r := fun r h1 h2 => by
      rw [hu, zs_row _ (by omega), zs_row _ (by omega), zs_row _ (by omega)]
    have h5 : ∀ b', f_getUp σ k 5 b' = if b' = b then -1 else σ 5 b' := fun b' => by
      rw [hu, zs_row _ (by decide), zs_row _ (by decide), zs_at]
      by_cases e : b' = b
      · rw [if_pos ⟨rfl, e⟩, if_pos e]
      · rw [if_neg (fun z => e z.2), if_neg e]
    have hnb := hV.1.2.1
    have hns := hV.1.2.2.2.1
    obtain ⟨hC, ⟨hB, hp, hl⟩, hK, hBd, hZ, hZb⟩ := hV
    refine ⟨⟨by rw [h0]; exact hC.1, hC.2.1, by rw [h0]; exact hC.2.2.1, hC.2.2.2.1, by rw [h0]; exact hC.2.2.2.2.1, hC.2.2.2.2.2.1, fun j hj => ?_⟩, ⟨hB, by rw [h0]; exact hp, by rw [h0]; exact hl⟩, fun j hj => ?_, fun b' hb' => ?_, fun j hj => ?_, fun b' hb' => ?_⟩
    · by_cases e : j = k
      · rw [e]; exact hsk.1
      · rw [hco j e 6 (by decide)]; exact hC.2.2.2.2.2.2 j hj
    · by_cases e : j = k
      · subst e; exact ⟨hsk, hm, fun z => by rw [e12] at z; exact absurd z (by decide)⟩
      · refine ⟨(hK j hj).1.ag (hco j e).ag, (hK j hj).2.1.co (hco j e), ?_⟩
        unfold zln
        rw [hco j e 12 (by decide), hco j e 13 (by decide)]
        intro z
        obtain ⟨b', z1, z2, z3⟩ := (hK j hj).2.2 z
        refine ⟨b', z1, z2, ?_⟩
        rw [h5]
        by_cases e2 : b' = b
        · obtain ⟨b2, y1, y2, y3⟩ := (hK k hk).2.2 h12
          have e3 : b2 = b := (nI_eq (by omega) (by omega)).mp (y2.symm.trans h13)
          rw [e3, ← e2, z3] at y3
          exact absurd ((nI_eq (by omega) (by omega)).mp y3) e
        · rw [if_neg e2]; exact z3
    · have h1 := hBd b' hb'
      unfold zbd at h1 ⊢
      rw [hr 1 (by decide) (by decide), hr 2 (by decide) (by decide), hr 3 (by decide) (by decide), hr 4 (by decide) (by decide), h5]
      refine ⟨h1.1, h1.2.1, h1.2.2.1, ?_⟩
      by_cases e2 : b' = b
      · rw [if_pos e2]; exact Or.inl rfl
      · rw [if_neg e2]
        refine h1.2.2.2.imp id (fun ⟨q, z1, z2, z3, z4⟩ => ?_)
        have e : q ≠ k := fun e => by
          subst e
          exact e2 ((nI_eq (by omega) (by omega)).mp (z4.symm.trans h13))
        exact ⟨q, z1, z2, by rw [hco q e 12 (by decide)]; exact z3, by rw [hco q e 13 (by decide)]; exact z4⟩
    · have z := hco j (by omega)
      rw [z 12 (by decide), z 14 (by decide), z 15 (by decide), z 16 (by decide), z 17 (by decide)]
      exact hZ j hj
    · rw [hr 2 (by decide) (by decide), hr 3 (by decide) (by decide), hr 4 (by decide) (by decide)]
      exact hZb b' hb'
  · have hu : f_getUp σ k = zs (zs σ 13 k (-1)) 12 k 0 := by
      unfold f_getUp
      rw [f_leave_n h13]
    have hn1 : ¬ σ 12 k = 1 := fun z => by rcases h12 with q | q <;> (rw [z] at q; exact absurd q (by decide))
    refine hV.clean (τ := f_getUp σ k) hk h13 hn1 (by rw [e12]; decide) e13 (f_getUp_0 σ k) (fun r h1 h2 => ?_) (fun _ => co_getUp) (Nat.le_refl B) hV.2.1.1 (sk_getUp hs) hm
    rw [hu, zs_row _ (by omega), zs_row _ (by omega)]
theorem zV.floor {σ : zS} {nb ns h B k : Nat} (hV : zV σ nb ns h B) (hB : B + 1 ≤ 2 ^ 28) (hk : k < ns) (h0 : σ 12 k = 0) : zV (f_floor σ k) nb ns h (B + 1) := by
  have h1 := hV.2.2.1 k hk
  have h13 := h1.1.b13 h0
  have e17 : f_floor σ k 17 k = σ 17 k + 1 := zs_eq (zs σ 12 k 2) 17 k (σ 17 k + 1)
  have e12 : f_floor σ k 12 k = 2 := zs_eq σ 12 k 2
  refine hV.clean (τ := f_floor σ k) hk h13 (by rw [h0]; decide) (by rw [e12]; decide) h13 rfl (fun r z1 z2 => ?_) (fun _ => co_floor) (Nat.le_succ B) hB ((sk_floor h1.1 h13).up (by omega)) ⟨h1.2.1.1, h1.2.1.2.1, h1.2.1.2.2.1, h1.2.1.2.2.2.1.up (Nat.le_succ B), h1.2.1.2.2.2.2.1.up (Nat.le_succ B), by rw [e17]; exact h1.2.1.2.2.2.2.2.succ⟩
  unfold f_floor
  rw [zs_row _ (by omega), zs_row _ (by omega)]
theorem zmin99 {n : Nat} (hn : n < 2 ^ 31) : zle (f_min99 (nI n)) 99 := by
  unfold f_min99
  split
  · rename_i z
    exact ⟨n, by have := (nI_ltI (a := n) (b := 99) hn (by decide)).mp z; omega, rfl⟩
  · exact ⟨99, Nat.le_refl 99, rfl⟩
theorem zV.earn {σ : zS} {nb ns h B k c : Nat} (hV : zV σ nb ns h B) (hk : k < ns) (hc : c ≤ 2 ^ 20) : zV (f_earn σ k (nI c)) nb ns h B := by
  have h1 := hV.2.2.1 k hk
  have e : f_earn σ k (nI c) 9 k = f_min99 (σ 9 k + nI c) := zs_eq σ 9 k _
  refine hV.col (Nat.le_refl B) hV.2.1.1 hk rfl (fun r z1 z2 => ?_) (fun _ => co_earn) rfl rfl h1.1 ⟨h1.2.1.1, h1.2.1.2.1, ?_, h1.2.1.2.2.2⟩
  · unfold f_earn
    rw [zs_row _ (by omega)]
  · rw [e]
    obtain ⟨q, hq, eq⟩ := h1.2.1.2.2.1
    rw [eq, nI_add]
    exact zmin99 (by omega)
theorem f_pay_c {σ : zS} {B k : Nat} (h1 : zsm σ B k) (hB : B ≤ 2 ^ 28) : ∃ c, c ≤ 20 ∧ f_max0 ((if σ 10 k = 1 then σ 8 k else σ 8 k / 2) - σ 16 k) = nI c := by
  obtain ⟨g, hg, eg⟩ := h1.2.1
  obtain ⟨s, hs, es⟩ := h1.2.2.2.2.1
  have hw : ∃ w, w ≤ 20 ∧ (if σ 10 k = 1 then σ 8 k else σ 8 k / 2) = nI w := by
    split
    · exact ⟨g, hg, eg⟩
    · refine ⟨g / 2, by omega, ?_⟩
      rw [eg]
      exact pk_div (d := 2) (by omega) (by decide) (by decide)
  obtain ⟨w, hw1, hw2⟩ := hw
  rw [hw2, es]
  unfold f_max0
  by_cases hc : s ≤ w
  · rw [pk_sub hc]
    split
    · exact ⟨w - s, by omega, rfl⟩
    · exact ⟨0, by omega, rfl⟩
  · have hn : ¬ (0 : Int32) < nI w - nI s := fun z => by
      have z2 := pk_sneg (a := w) (b := s) (by omega) (by omega)
      have y1 := Int32.lt_iff_toInt_lt.mp z
      have y2 := Int32.lt_iff_toInt_lt.mp z2
      omega
    rw [if_neg hn]
    exact ⟨0, by omega, rfl⟩
theorem zV.pay {σ : zS} {nb ns h B k : Nat} (hV : zV σ nb ns h B) (hk : k < ns) : zV (f_pay σ k) nb ns h B := by
  obtain ⟨c, hc, ec⟩ := f_pay_c (hV.2.2.1 k hk).2.1 hV.2.1.1
  have h2 : zV (f_earn σ k (nI c)) nb ns h B := hV.earn hk (by omega)
  have h1 := h2.2.2.1 k hk
  have e : f_pay σ k = zs (f_earn σ k (nI c)) 16 k 0 := by
    unfold f_pay
    rw [ec]
  rw [e]
  refine h2.col (Nat.le_refl B) hV.2.1.1 hk rfl (fun r z1 z2 => zs_row _ (by omega) _ _) (fun _ => zco_ne) rfl rfl h1.1 ⟨h1.2.1.1, h1.2.1.2.1, h1.2.1.2.2.1, h1.2.1.2.2.2.1, by rw [zs_eq]; exact ⟨0, Nat.zero_le _, rfl⟩, h1.2.1.2.2.2.2.2⟩
theorem zV.red {σ : zS} {nb ns h B k : Nat} (hV : zV σ nb ns h B) (hk : k < ns) (hc : f_can σ k) : zV (f_red σ k) nb ns h B := by
  have h1 := hV.2.2.1 k hk
  have e9 : f_red σ k 9 k = σ 9 k - (σ 0 2 + 2) := zs_eq σ 9 k _
  refine hV.col (Nat.le_refl B) hV.2.1.1 hk rfl (fun r z1 z2 => ?_) (fun _ => co_red) rfl rfl (sk_red h1.1) ⟨h1.2.1.1, h1.2.1.2.1, ?_, h1.2.1.2.2.2⟩
  · unfold f_red
    rw [zs_row _ (by omega), zs_row _ (by omega)]
  · rw [e9]
    obtain ⟨q, hq, eq⟩ := h1.2.1.2.2.1
    obtain ⟨p, hp1, hp2, ep⟩ := hV.2.1.2.1
    have h3 := hc.2
    rw [eq, ep, show nI p + 2 = nI (p + 2) from nI_add p 2] at h3
    rw [eq, ep, show nI p + 2 = nI (p + 2) from nI_add p 2]
    have h4 : p + 2 ≤ q := by
      have := mt (nI_ltI (a := q) (b := p + 2) (by omega) (by omega)).mpr h3
      omega
    rw [pk_sub h4]
    exact ⟨q - (p + 2), by omega, rfl⟩
theorem zV.pawnB {σ : zS} {nb ns h B k : Nat} (hV : zV σ nb ns h B) (hk : k < ns) : zV (f_pawnB σ k) nb ns h B := by
  have h1 := hV.2.2.1 k hk
  have h2 : zV (zs σ 10 k 0) nb ns h B := hV.col (Nat.le_refl B) hV.2.1.1 hk rfl (fun r z1 z2 => zs_row _ (by omega) _ _) (fun _ => zco_ne) rfl rfl ⟨h1.1.1, Or.inl (zs_eq σ 10 k 0), h1.1.2.2.1, h1.1.2.2.2.1, h1.1.2.2.2.2⟩ h1.2.1
  obtain ⟨p, hp1, hp2, ep⟩ := hV.2.1.2.1
  unfold f_pawnB
  rw [ep]
  exact h2.earn hk (by omega)
theorem zV.try1 {σ : zS} {nb ns h B k b : Nat} (hV : zV σ nb ns h B) (hk : k < ns) : zV (f_try1 σ k b) nb ns h B := by
  unfold f_try1
  split
  · exact hV.pawnB hk
  · exact hV
theorem zV.into {σ : zS} {nb ns h B k b : Nat} (hV : zV σ nb ns h B) (hk : k < ns) (hb : b < nb) (h12 : σ 12 k = 0) (h5 : σ 5 b = -1) (hp9 : ¬ σ 9 k < σ 1 b) : zV (f_into σ k b) nb ns h B := by
  have h1 := hV.2.2.1 k hk
  have hco : ∀ j, j ≠ k → zco σ (f_into σ k b) j := fun _ => co_into
  have hsk := sk_into h1.1 hb
  have hnb := hV.1.2.1
  have hns := hV.1.2.2.2.1
  have h0 : f_into σ k b 0 = σ 0 := rfl
  have g1 : f_into σ k b 1 = σ 1 := rfl
  have g2 : f_into σ k b 2 = σ 2 := rfl
  have g3 : ∀ b', f_into σ k b 3 b' = if b' = b then σ 3 b + 1 else σ 3 b' := fun b' => by
    show zs _ 3 b (σ 3 b + 1) 3 b' = _
    rw [zs_at]
    by_cases e : b' = b
    · rw [if_pos ⟨rfl, e⟩, if_pos e]
    · rw [if_neg (fun z => e z.2), if_neg e]; rfl
  have g4 : ∀ b', f_into σ k b 4 b' = if b' = b then σ 4 b + σ 1 b else σ 4 b' := fun b' => by
    show zs _ 4 b (σ 4 b + σ 1 b) 4 b' = _
    rw [zs_at]
    by_cases e : b' = b
    · rw [if_pos ⟨rfl, e⟩, if_pos e]
    · rw [if_neg (fun z => e z.2), if_neg e]; rfl
  have g5 : ∀ b', f_into σ k b 5 b' = if b' = b then nI k else σ 5 b' := fun b' => by
    show zs _ 5 b (nI k) 5 b' = _
    rw [zs_at]
    by_cases e : b' = b
    · rw [if_pos ⟨rfl, e⟩, if_pos e]
    · rw [if_neg (fun z => e z.2), if_neg e]; rfl
  have e9 : f_into σ k b 9 k = σ 9 k - σ 1 b := zs_eq σ 9 k _
  have e12 : f_into σ k b 12 k = 1 := zs_eq (zs σ 9 k (σ 9 k - σ 1 b)) 12 k 1
  have e13 : f_into σ k b 13 k = nI b := zs_eq (zs (zs σ 9 k (σ 9 k - σ 1 b)) 12 k 1) 13 k (nI b)
  have hm : zsm (f_into σ k b) B k := by
    refine ⟨h1.2.1.1, h1.2.1.2.1, ?_, h1.2.1.2.2.2⟩
    rw [e9]
    obtain ⟨q, hq, eq⟩ := h1.2.1.2.2.1
    obtain ⟨y, hy, ey⟩ := (hV.2.2.2.1 b hb).1
    rw [eq, ey] at hp9
    rw [eq, ey]
    have h4 : y ≤ q := by
      have := mt (nI_ltI (a := q) (b := y) (by omega) (by omega)).mpr hp9
      omega
    rw [pk_sub h4]
    exact ⟨q - y, by omega, rfl⟩
  obtain ⟨hC, ⟨hB, hp, hl⟩, hK, hBd, hZ, hZb⟩ := hV
  refine ⟨⟨hC.1, hC.2.1, hC.2.2.1, hC.2.2.2.1, hC.2.2.2.2.1, hC.2.2.2.2.2.1, fun j hj => ?_⟩, ⟨hB, hp, hl⟩, fun j hj => ?_, fun b' hb' => ?_, fun j hj => ?_, fun b' hb' => ?_⟩
  · by_cases e : j = k
    · rw [e]; exact hsk.1
    · rw [hco j e 6 (by decide)]; exact hC.2.2.2.2.2.2 j hj
  · by_cases e : j = k
    · subst e
      exact ⟨hsk, hm, fun _ => ⟨b, hb, e13, by rw [g5, if_pos rfl]⟩⟩
    · refine ⟨(hK j hj).1.ag (hco j e).ag, (hK j hj).2.1.co (hco j e), ?_⟩
      unfold zln
      rw [hco j e 12 (by decide), hco j e 13 (by decide)]
      intro z
      obtain ⟨b', z1, z2, z3⟩ := (hK j hj).2.2 z
      refine ⟨b', z1, z2, ?_⟩
      rw [g5, if_neg (fun e2 => by rw [e2, h5] at z3; exact absurd z3.symm (zn_m1 (by omega)))]
      exact z3
  · have y1 := hBd b' hb'
    unfold zbd at y1 ⊢
    rw [g1, g2, g3, g4, g5]
    by_cases e2 : b' = b
    · subst e2
      rw [if_pos rfl, if_pos rfl, if_pos rfl]
      refine ⟨y1.1, ?_, y1.2.2.1, Or.inr ⟨k, hk, rfl, e12, e13⟩⟩
      rw [y1.2.1, Int32.mul_add, Int32.mul_one]
    · rw [if_neg e2, if_neg e2, if_neg e2]
      refine ⟨y1.1, y1.2.1, y1.2.2.1, y1.2.2.2.imp id (fun ⟨q, z1, z2, z3, z4⟩ => ?_)⟩
      have e : q ≠ k := fun e => by
        subst e
        rw [h12] at z3
        exact absurd z3 (by decide)
      exact ⟨q, z1, z2, by rw [hco q e 12 (by decide)]; exact z3, by rw [hco q e 13 (by decide)]; exact z4⟩
  · have z := hco j (by omega)
    rw [z 12 (by decide), z 14 (by decide), z 15 (by decide), z 16 (by decide), z 17 (by decide)]
    exact hZ j hj
  · rw [g2, g3, g4, if_neg (by omega), if_neg (by omega)]
    exact hZb b' hb'
