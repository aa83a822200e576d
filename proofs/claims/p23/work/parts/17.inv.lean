/-! THE INVARIANT: what every sailor's row keeps to -/
def zsk (σ : zS) (nb B k : Nat) : Prop := (∃ w, w < 3 ∧ σ 6 k = nI w) ∧ (σ 10 k = 0 ∨ σ 10 k = 1) ∧ (σ 11 k = -1 ∨ ∃ b, b < nb ∧ σ 11 k = nI b) ∧ ((σ 12 k = 1 ∧ ∃ b, b < nb ∧ σ 13 k = nI b) ∨ ((σ 12 k = 0 ∨ σ 12 k = 2) ∧ σ 13 k = -1)) ∧ ∃ ρ, ρ ≤ B ∧ σ 14 k = nI ρ
def zag (σ τ : zS) (j : Nat) : Prop := τ 6 j = σ 6 j ∧ τ 10 j = σ 10 j ∧ τ 11 j = σ 11 j ∧ τ 12 j = σ 12 j ∧ τ 13 j = σ 13 j ∧ τ 14 j = σ 14 j
theorem zsk.ag {σ τ : zS} {nb B j : Nat} (h : zsk σ nb B j) (ha : zag σ τ j) : zsk τ nb B j := by
  obtain ⟨a1, a2, a3, a4, a5, a6⟩ := ha
  unfold zsk
  rw [a1, a2, a3, a4, a5, a6]
  exact h
theorem zsk.up {σ : zS} {nb B B' k : Nat} (h : zsk σ nb B k) (hB : B ≤ B') : zsk σ nb B' k := by
  obtain ⟨h1, h2, h3, h4, ρ, h5, h6⟩ := h
  exact ⟨h1, h2, h3, h4, ρ, Nat.le_trans h5 hB, h6⟩
theorem zag.rf {σ : zS} {j : Nat} : zag σ σ j := ⟨rfl, rfl, rfl, rfl, rfl, rfl⟩
theorem zag.tr {σ τ υ : zS} {j : Nat} (h1 : zag σ τ j) (h2 : zag τ υ j) : zag σ υ j :=
  ⟨h2.1.trans h1.1, h2.2.1.trans h1.2.1, h2.2.2.1.trans h1.2.2.1, h2.2.2.2.1.trans h1.2.2.2.1, h2.2.2.2.2.1.trans h1.2.2.2.2.1, h2.2.2.2.2.2.trans h1.2.2.2.2.2⟩
theorem zag_ne {σ : zS} {r k j : Nat} {v : Int32} (h : j ≠ k) : zag σ (zs σ r k v) j := ⟨zs_ne _ _ h _ _, zs_ne _ _ h _ _, zs_ne _ _ h _ _, zs_ne _ _ h _ _, zs_ne _ _ h _ _, zs_ne _ _ h _ _⟩
theorem zag_lo {σ : zS} {r k j : Nat} {v : Int32} (h : r < 6) : zag σ (zs σ r k v) j :=
  ⟨zs_nr _ (by omega) _ _ _, zs_nr _ (by omega) _ _ _, zs_nr _ (by omega) _ _ _, zs_nr _ (by omega) _ _ _, zs_nr _ (by omega) _ _ _, zs_nr _ (by omega) _ _ _⟩
theorem ag_late {σ : zS} {k j : Nat} (h : j ≠ k) : zag σ (f_late σ k) j := (zag_ne h).tr (zag_ne h)
theorem ag_floor {σ : zS} {k j : Nat} (h : j ≠ k) : zag σ (f_floor σ k) j := (zag_ne h).tr (zag_ne h)
theorem ag_leave {σ : zS} {k j : Nat} : zag σ (f_leave σ k) j := by
  unfold f_leave
  split
  · exact zag_lo (by decide)
  · exact zag.rf
theorem ag_getUp {σ : zS} {k j : Nat} (h : j ≠ k) : zag σ (f_getUp σ k) j := ag_leave.tr ((zag_ne h).tr (zag_ne h))
theorem ag_earn {σ : zS} {k j : Nat} {c : Int32} (h : j ≠ k) : zag σ (f_earn σ k c) j := zag_ne h
theorem ag_pay {σ : zS} {k j : Nat} (h : j ≠ k) : zag σ (f_pay σ k) j := (ag_earn h).tr (zag_ne h)
theorem ag_red {σ : zS} {k j : Nat} (h : j ≠ k) : zag σ (f_red σ k) j := (zag_ne h).tr (zag_ne h)
theorem ag_pawnB {σ : zS} {k j : Nat} (h : j ≠ k) : zag σ (f_pawnB σ k) j := (zag_ne (σ := σ) h).tr (ag_earn h)
theorem ag_into {σ : zS} {k b j : Nat} (h : j ≠ k) : zag σ (f_into σ k b) j :=
  ((((((zag_ne h).tr (zag_ne h)).tr (zag_ne h)).tr (zag_lo (by decide))).tr (zag_lo (by decide))).tr (zag_lo (by decide)))
theorem ag_try1 {σ : zS} {k b j : Nat} (h : j ≠ k) : zag σ (f_try1 σ k b) j := by
  unfold f_try1
  split
  · exact ag_pawnB h
  · exact zag.rf
theorem ag_try {σ : zS} {k b j : Nat} (h : j ≠ k) : zag σ (f_try σ k b) j := by
  unfold f_try
  split
  · exact (ag_try1 h).tr (ag_floor h)
  · exact (ag_try1 h).tr (ag_into h)
theorem ag_look {σ : zS} {nb h k j : Nat} (hj : j ≠ k) : zag σ (f_look σ nb h k) j := by
  unfold f_look
  split
  · exact ag_try hj
  · split
    · exact zag.rf
    · exact ag_floor hj
theorem ag_payR {σ : zS} {h k j : Nat} (hj : j ≠ k) : zag σ (f_payR σ h k) j := by
  unfold f_payR
  split
  · split
    · exact (ag_pay hj).tr (ag_red hj)
    · exact ag_pay hj
  · exact zag.rf
theorem ag_serve {σ : zS} {nb h k j : Nat} (hj : j ≠ k) : zag σ (f_serve σ nb h k) j := by
  unfold f_serve
  split
  · split
    · exact (ag_payR hj).tr (ag_look hj)
    · exact ag_payR hj
  · exact zag.rf
theorem ag_ring {σ : zS} {h k j : Nat} (hj : j ≠ k) : zag σ (f_ring σ h k) j := by
  unfold f_ring
  split
  · exact zag.rf
  · split
    · exact zag.rf
    · split
      · exact ag_late hj
      · exact ag_getUp hj
theorem ag_rest {σ : zS} {h k j : Nat} (hj : j ≠ k) : zag σ (f_rest σ h k) j := zag_ne hj
theorem ag_cool (σ : zS) (j : Nat) : ∀ n : Nat, zag σ (f_cool σ n) j
  | 0 => zag.rf
  | n + 1 => (ag_cool σ j n).tr (zag_lo (by decide))
-- the sailor whose turn it is
theorem sk_late {σ : zS} {nb B k : Nat} (h : zsk σ nb B k) : zsk (f_late σ k) nb B k := h
theorem sk_getUp {σ : zS} {nb B k : Nat} (h : zsk σ nb B k) : zsk (f_getUp σ k) nb B k := by
  have h1 : zsk (f_leave σ k) nb B k := h.ag ag_leave
  exact ⟨h1.1, h1.2.1, h1.2.2.1, Or.inr ⟨Or.inl (zs_eq _ 12 k 0), zs_eq (f_leave σ k) 13 k (-1)⟩, h1.2.2.2.2⟩
theorem sk_floor {σ : zS} {nb B k : Nat} (h : zsk σ nb B k) (hb : σ 13 k = -1) : zsk (f_floor σ k) nb B k :=
  ⟨h.1, h.2.1, h.2.2.1, Or.inr ⟨Or.inr (zs_eq σ 12 k 2), hb⟩, h.2.2.2.2⟩
theorem sk_pay {σ : zS} {nb B k : Nat} (h : zsk σ nb B k) : zsk (f_pay σ k) nb B k := h
theorem sk_red {σ : zS} {nb B k : Nat} (h : zsk σ nb B k) : zsk (f_red σ k) nb B k := ⟨h.1, Or.inr (zs_eq _ 10 k 1), h.2.2.1, h.2.2.2.1, h.2.2.2.2⟩
theorem sk_pawnB {σ : zS} {nb B k : Nat} (h : zsk σ nb B k) : zsk (f_pawnB σ k) nb B k := ⟨h.1, Or.inl (zs_eq σ 10 k 0), h.2.2.1, h.2.2.2.1, h.2.2.2.2⟩
theorem sk_into {σ : zS} {nb B k b : Nat} (h : zsk σ nb B k) (hb : b < nb) : zsk (f_into σ k b) nb B k :=
  ⟨h.1, h.2.1, h.2.2.1, Or.inl ⟨zs_eq (zs σ 9 k (σ 9 k - σ 1 b)) 12 k 1, b, hb, zs_eq (zs (zs σ 9 k (σ 9 k - σ 1 b)) 12 k 1) 13 k (nI b)⟩, h.2.2.2.2⟩
theorem sk_try1 {σ : zS} {nb B k b : Nat} (h : zsk σ nb B k) : zsk (f_try1 σ k b) nb B k := by
  unfold f_try1
  split
  · exact sk_pawnB h
  · exact h
theorem f_try1_13 (σ : zS) (k b : Nat) : f_try1 σ k b 13 = σ 13 := by unfold f_try1; split <;> rfl
theorem sk_try {σ : zS} {nb B k b : Nat} (h : zsk σ nb B k) (h13 : σ 13 k = -1) (hb : b < nb) : zsk (f_try σ k b) nb B k := by
  unfold f_try
  split
  · exact sk_floor (sk_try1 h) (by rw [f_try1_13]; exact h13)
  · exact sk_into (sk_try1 h) hb
theorem zsk.b13 {σ : zS} {nb B k : Nat} (h : zsk σ nb B k) (h0 : σ 12 k = 0) : σ 13 k = -1 := by
  rcases h.2.2.2.1 with ⟨z, -⟩ | ⟨-, z⟩
  · rw [h0] at z
    exact absurd z (by decide)
  · exact z
theorem sk_look {σ : zS} {nb ns B h k : Nat} (hC : zC σ nb ns h) (hs : zsk σ nb B k) (h0 : σ 12 k = 0) : zsk (f_look σ nb h k) nb B k := by
  unfold f_look
  split
  · rename_i hc
    obtain ⟨b, hb, eb⟩ := zhas_of hC hc
    rw [eb, nI_clamp (by have := hC.2.1; omega)]
    exact sk_try hs (hs.b13 h0) hb
  · split
    · exact hs
    · exact sk_floor hs (hs.b13 h0)
theorem sk_payR {σ : zS} {nb B h k : Nat} (hs : zsk σ nb B k) : zsk (f_payR σ h k) nb B k := by
  unfold f_payR
  split
  · split
    · exact sk_red (sk_pay hs)
    · exact sk_pay hs
  · exact hs
theorem sk_serve {σ : zS} {nb ns B h k : Nat} (hC : zC σ nb ns h) (hs : zsk σ nb B k) : zsk (f_serve σ nb h k) nb B k := by
  unfold f_serve
  split
  · split
    · rename_i h0
      exact sk_look (hC.to (f_payR_0 _ _ _) (f_payR_6 _ _ _)) (sk_payR hs) h0
    · exact sk_payR hs
  · exact hs
theorem sk_ring {σ : zS} {nb B h k : Nat} (hs : zsk σ nb B k) : zsk (f_ring σ h k) nb B k := by
  unfold f_ring
  split
  · exact hs
  · split
    · exact hs
    · split
      · exact sk_late hs
      · exact sk_getUp hs
theorem f_roh_n (σ : zS) (h k : Nat) : ∃ c, c ≤ 2 ∧ f_roh σ h k = nI c := by
  unfold f_roh
  split
  · split
    · exact ⟨2, by decide, rfl⟩
    · exact ⟨1, by decide, rfl⟩
  · split
    · split
      · exact ⟨0, by decide, rfl⟩
      · exact ⟨1, by decide, rfl⟩
    · exact ⟨0, by decide, rfl⟩
theorem sk_rest {σ : zS} {nb B h k : Nat} (hs : zsk σ nb B k) : zsk (f_rest σ h k) nb (B + 2) k := by
  obtain ⟨h1, h2, h3, h4, ρ, h5, h6⟩ := hs
  obtain ⟨c, hc, ec⟩ := f_roh_n σ h k
  refine ⟨h1, h2, h3, h4, ρ + c, by omega, ?_⟩
  show zs σ 14 k (σ 14 k + f_roh σ h k) 14 k = nI (ρ + c)
  rw [zs_eq, h6, ec, nI_add]
/-- the whole invariant -/
def zI (σ : zS) (nb ns h : Nat) : Prop := zC σ nb ns h ∧ ∀ k, k < ns → zsk σ nb (2 * h) k
theorem zI.ring1 {σ : zS} {nb ns h : Nat} (hI : zI σ nb ns h) (k : Nat) : zI (f_ring σ h k) nb ns h := ⟨hI.1.to (f_ring_0 _ _ _) (f_ring_6 _ _ _), fun j hj => by
  by_cases e : j = k
  · subst e; exact sk_ring (hI.2 j hj)
  · exact (hI.2 j hj).ag (ag_ring e)⟩
theorem zI.serve1 {σ : zS} {nb ns h : Nat} (hI : zI σ nb ns h) (k : Nat) : zI (f_serve σ nb h k) nb ns h := ⟨hI.1.to (f_serve_0 _ _ _ _) (f_serve_6 _ _ _ _), fun j hj => by
  by_cases e : j = k
  · subst e; exact sk_serve hI.1 (hI.2 j hj)
  · exact (hI.2 j hj).ag (ag_serve e)⟩
theorem zI.ring {σ : zS} {nb ns h : Nat} (hI : zI σ nb ns h) : ∀ j : Nat, zI (f_itr (fun τ k => f_ring τ h k) j σ) nb ns h
  | 0 => hI
  | j + 1 => (hI.ring j).ring1 j
theorem zI.serve {σ : zS} {nb ns h : Nat} (hI : zI σ nb ns h) : ∀ j : Nat, zI (f_itr (fun τ k => f_serve τ nb h k) j σ) nb ns h
  | 0 => hI
  | j + 1 => (hI.serve j).serve1 j
/-- the invariant while the rests grow: those before j have theirs already -/
def zIr (σ : zS) (nb ns h j : Nat) : Prop := zC σ nb ns h ∧ ∀ k, k < ns → zsk σ nb (if k < j then 2 * h + 2 else 2 * h) k
theorem zIr.rest1 {σ : zS} {nb ns h j : Nat} (hI : zIr σ nb ns h j) : zIr (f_rest σ h j) nb ns h (j + 1) := ⟨hI.1.to rfl rfl, fun k hk => by
  by_cases e : k = j
  · subst e
    have h1 := hI.2 k hk
    rw [if_neg (Nat.lt_irrefl k)] at h1
    rw [if_pos (Nat.lt_succ_self k)]
    exact sk_rest h1
  · have h1 := (hI.2 k hk).ag (ag_rest (h := h) e)
    refine h1.up ?_
    by_cases z : k < j
    · rw [if_pos z, if_pos (by omega)]; exact Nat.le_refl _
    · rw [if_neg z, if_neg (by omega)]; exact Nat.le_refl _⟩
theorem zI.rest {σ : zS} {nb ns h : Nat} (hI : zI σ nb ns h) : ∀ j : Nat, zIr (f_itr (fun τ k => f_rest τ h k) j σ) nb ns h j
  | 0 => ⟨hI.1, fun k hk => by rw [if_neg (Nat.not_lt_zero k)]; exact hI.2 k hk⟩
  | j + 1 => (hI.rest j).rest1
theorem zI.hour {σ : zS} {nb ns h : Nat} (hI : zI σ nb ns h) (hh : h + 1 < 2 ^ 30) : zI (f_hour σ nb ns h) nb ns (h + 1) := ⟨hI.1.hour hh, fun k hk => by
  have h1 := (((hI.ring ns).serve ns).rest ns).2 k hk
  rw [if_pos hk] at h1
  have h2 : zsk (f_cool (f_hour3 σ nb ns h) nb) nb (2 * h + 2) k := h1.ag (ag_cool _ k nb)
  exact h2⟩
theorem zI.hours {σ : zS} {nb ns h : Nat} (hI : zI σ nb ns h) : ∀ n : Nat, h + n < 2 ^ 30 → zI (f_hours σ nb ns h n) nb ns (h + n)
  | 0, _ => hI
  | n + 1, hn => (hI.hours n (by omega)).hour hn
theorem zI.wat {σ : zS} {nb ns h : Nat} (hI : zI σ nb ns h) (k : Nat) {w : Nat} (hw : w < 3) : zI (zs σ 6 k (nI w)) nb ns h := ⟨hI.1.wat k hw, fun j hj => by
  by_cases e : j = k
  · subst e
    have h := hI.2 j hj
    exact ⟨⟨w, hw, zs_eq σ 6 j (nI w)⟩, h.2.1, h.2.2.1, h.2.2.2.1, h.2.2.2.2⟩
  · exact (hI.2 j hj).ag (zag_ne e)⟩
theorem zI.bell {σ : zS} {nb ns h : Nat} (hI : zI σ nb ns h) (v : Int32) : zI (zs σ 0 1 v) nb ns h := ⟨hI.1.bell v, hI.2⟩
-- what an hour leaves
def zrq (r : Nat) : Prop := r = 1 ∨ r = 7 ∨ r = 8
theorem rw_leave {r : Nat} (hr : zrq r) (σ : zS) (k : Nat) : f_leave σ k r = σ r := by
  rcases hr with rfl | rfl | rfl <;> (unfold f_leave; split <;> rfl)
theorem rw_getUp {r : Nat} (hr : zrq r) (σ : zS) (k : Nat) : f_getUp σ k r = σ r := by
  have h := rw_leave hr σ k
  rcases hr with rfl | rfl | rfl <;> exact h
theorem rw_try1 {r : Nat} (hr : zrq r) (σ : zS) (k b : Nat) : f_try1 σ k b r = σ r := by
  rcases hr with rfl | rfl | rfl <;> (unfold f_try1; split <;> rfl)
theorem rw_try {r : Nat} (hr : zrq r) (σ : zS) (k b : Nat) : f_try σ k b r = σ r := by
  have h := rw_try1 hr σ k b
  unfold f_try
  split <;> (rcases hr with rfl | rfl | rfl <;> exact h)
theorem rw_look {r : Nat} (hr : zrq r) (σ : zS) (nb h k : Nat) : f_look σ nb h k r = σ r := by
  unfold f_look
  split
  · exact rw_try hr _ _ _
  · split
    · rfl
    · rcases hr with rfl | rfl | rfl <;> rfl
theorem rw_payR {r : Nat} (hr : zrq r) (σ : zS) (h k : Nat) : f_payR σ h k r = σ r := by
  unfold f_payR
  split
  · split <;> (rcases hr with rfl | rfl | rfl <;> rfl)
  · rfl
theorem rw_serve {r : Nat} (hr : zrq r) (σ : zS) (nb h k : Nat) : f_serve σ nb h k r = σ r := by
  unfold f_serve
  split
  · split
    · exact (rw_look hr _ _ _ _).trans (rw_payR hr _ _ _)
    · exact rw_payR hr _ _ _
  · rfl
theorem rw_ring {r : Nat} (hr : zrq r) (σ : zS) (h k : Nat) : f_ring σ h k r = σ r := by
  unfold f_ring
  split
  · rfl
  · split
    · rfl
    · split
      · rcases hr with rfl | rfl | rfl <;> rfl
      · exact rw_getUp hr _ _
theorem rw_cool {r : Nat} (hr : zrq r) (σ : zS) : ∀ n : Nat, f_cool σ n r = σ r
  | 0 => rfl
  | n + 1 => (zs_row _ (by rcases hr with rfl | rfl | rfl <;> decide) _ _).trans (rw_cool hr σ n)
theorem rw_hour {r : Nat} (hr : zrq r) (σ : zS) (nb ns h : Nat) : f_hour σ nb ns h r = σ r := by
  have h1 : f_hour1 σ ns h r = σ r := f_itr_row (F := fun τ k => f_ring τ h k) (fun τ k => rw_ring hr τ h k) σ ns
  have h2 : f_hour2 σ nb ns h r = f_hour1 σ ns h r := f_itr_row (F := fun τ k => f_serve τ nb h k) (fun τ k => rw_serve hr τ nb h k) _ ns
  have h3 : f_hour3 σ nb ns h r = f_hour2 σ nb ns h r := f_itr_row (F := fun τ k => f_rest τ h k) (fun τ k => by rcases hr with rfl | rfl | rfl <;> rfl) _ ns
  have h4 : f_cool (f_hour3 σ nb ns h) nb r = f_hour3 σ nb ns h r := rw_cool hr _ nb
  have h5 : f_hour σ nb ns h r = f_cool (f_hour3 σ nb ns h) nb r := by rcases hr with rfl | rfl | rfl <;> rfl
  exact h5.trans (h4.trans (h3.trans (h2.trans h1)))
theorem rw_hours {r : Nat} (hr : zrq r) (σ : zS) (nb ns h : Nat) : ∀ n : Nat, f_hours σ nb ns h n r = σ r
  | 0 => rfl
  | n + 1 => (rw_hour hr _ _ _ _).trans (rw_hours hr σ nb ns h n)
theorem rw_hour0 (σ : zS) (nb ns h : Nat) {j : Nat} (hj : j ≠ 0) : f_hour σ nb ns h 0 j = σ 0 j := by
  have h1 : f_hour1 σ ns h 0 = σ 0 := f_itr_row (F := fun τ k => f_ring τ h k) (fun τ k => f_ring_0 τ h k) σ ns
  have h2 : f_hour2 σ nb ns h 0 = f_hour1 σ ns h 0 := f_itr_row (F := fun τ k => f_serve τ nb h k) (fun τ k => f_serve_0 τ nb h k) _ ns
  have h3 : f_hour3 σ nb ns h 0 = f_hour2 σ nb ns h 0 := f_itr_row (F := fun τ k => f_rest τ h k) (fun _ _ => rfl) _ ns
  have h4 : f_cool (f_hour3 σ nb ns h) nb 0 = f_hour3 σ nb ns h 0 := f_cool_0 _ nb
  have h5 : f_hour σ nb ns h 0 j = f_cool (f_hour3 σ nb ns h) nb 0 j := zs_ne _ _ hj _ _
  rw [h5, h4, h3, h2, h1]
theorem rw_hours0 (σ : zS) (nb ns h : Nat) {j : Nat} (hj : j ≠ 0) : ∀ n : Nat, f_hours σ nb ns h n 0 j = σ 0 j
  | 0 => rfl
  | n + 1 => (rw_hour0 _ _ _ _ hj).trans (rw_hours0 σ nb ns h hj n)
