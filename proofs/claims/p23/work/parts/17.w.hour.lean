theorem f_ch_ok {σ : zS} : ∀ n : Nat, f_ch σ n = -1 ∨ ∃ b, b < n ∧ f_ch σ n = nI b ∧ σ 5 b = -1
  | 0 => Or.inl rfl
  | n + 1 => by
    unfold f_ch
    split
    · rename_i z
      exact Or.inr ⟨n, Nat.lt_succ_self n, rfl, z.1⟩
    · exact (f_ch_ok n).imp id (fun ⟨b, h1, h2, h3⟩ => ⟨b, by omega, h2, h3⟩)
theorem f_choose_ok {σ : zS} {nb ns h k : Nat} (hC : zC σ nb ns h) : f_choose σ nb k = -1 ∨ ∃ b, b < nb ∧ f_choose σ nb k = nI b ∧ σ 5 b = -1 := by
  unfold f_choose
  split
  · rename_i z
    obtain ⟨b, hb, eb⟩ := zhas_of hC z.1
    have h2 := z.2
    rw [eb, nI_clamp (by have := hC.2.1; omega)] at h2
    exact Or.inr ⟨b, hb, eb, h2⟩
  · exact f_ch_ok nb
theorem f_payR_12 (σ : zS) (h k : Nat) : f_payR σ h k 12 = σ 12 := by
  unfold f_payR
  split
  · split <;> rfl
  · rfl
theorem zV.payR {σ : zS} {nb ns h h' B k : Nat} (hV : zV σ nb ns h B) (hk : k < ns) : zV (f_payR σ h' k) nb ns h B := by
  unfold f_payR
  split
  · split
    · rename_i z
      exact (hV.pay hk).red hk z
    · exact hV.pay hk
  · exact hV
theorem f_try1_12 (σ : zS) (k b : Nat) : f_try1 σ k b 12 = σ 12 := by unfold f_try1; split <;> rfl
theorem f_try1_5 (σ : zS) (k b : Nat) : f_try1 σ k b 5 = σ 5 := by unfold f_try1; split <;> rfl
theorem zV.try_ {σ : zS} {nb ns h B k b : Nat} (hV : zV σ nb ns h B) (hB : B + 1 ≤ 2 ^ 28) (hk : k < ns) (hb : b < nb) (h12 : σ 12 k = 0) (h5 : σ 5 b = -1) : zV (f_try σ k b) nb ns h (B + 1) := by
  have h1 : zV (f_try1 σ k b) nb ns h B := hV.try1 hk
  unfold f_try
  split
  · exact h1.floor hB hk (by rw [f_try1_12]; exact h12)
  · rename_i z
    refine (h1.into hk hb (by rw [f_try1_12]; exact h12) (by rw [f_try1_5]; exact h5) ?_).upB (Nat.le_succ B) hB
    have e : f_try1 σ k b 1 = σ 1 := by unfold f_try1; split <;> rfl
    rw [e]
    exact z
theorem zV.look {σ : zS} {nb ns h h' B k : Nat} (hV : zV σ nb ns h B) (hB : B + 1 ≤ 2 ^ 28) (hk : k < ns) (h12 : σ 12 k = 0) : zV (f_look σ nb h' k) nb ns h (B + 1) := by
  unfold f_look
  split
  · rename_i hc
    rcases f_choose_ok (k := k) hV.1 with z | ⟨b, hb, eb, h5⟩
    · rw [z] at hc
      exact absurd hc zm1_nhas
    · rw [eb, nI_clamp (by have := hV.1.2.1; omega)]
      exact hV.try_ hB hk hb h12 h5
  · split
    · exact hV.upB (Nat.le_succ B) hB
    · exact hV.floor hB hk h12
theorem zV.serve {σ : zS} {nb ns h h' B k : Nat} (hV : zV σ nb ns h B) (hB : B + 1 ≤ 2 ^ 28) (hk : k < ns) : zV (f_serve σ nb h' k) nb ns h (B + 1) := by
  unfold f_serve
  split
  · split
    · rename_i z
      exact (hV.payR hk).look hB hk z
    · exact (hV.payR hk).upB (Nat.le_succ B) hB
  · exact hV.upB (Nat.le_succ B) hB
theorem zV.ring {σ : zS} {nb ns h h' B k : Nat} (hV : zV σ nb ns h B) (hB : B + 1 ≤ 2 ^ 28) (hk : k < ns) : zV (f_ring σ h' k) nb ns h (B + 1) := by
  unfold f_ring
  split
  · exact hV.upB (Nat.le_succ B) hB
  · split
    · exact hV.upB (Nat.le_succ B) hB
    · split
      · exact hV.late hB hk
      · exact (hV.getUp hk).upB (Nat.le_succ B) hB
theorem zV.rest {σ : zS} {nb ns h h' B k : Nat} (hV : zV σ nb ns h B) (hB : B + 1 ≤ 2 ^ 28) (hk : k < ns) : zV (f_rest σ h' k) nb ns h (B + 1) := by
  have h1 := hV.2.2.1 k hk
  have hs := sk_rest (h := h') h1.1
  exact hV.col (Nat.le_succ B) hB hk rfl (fun r z1 z2 => zs_row _ (by omega) _ _) (fun _ => co_rest) rfl rfl hs (h1.2.1.up (Nat.le_succ B))
theorem f_cw_ok {σ : zS} {b : Nat} (hw : zle (σ 2 b) 8) : zle (f_cw σ b) 8 ∧ (¬ σ 5 b = -1 → ¬ f_cw σ b < 2) := by
  obtain ⟨w, hw1, hw2⟩ := hw
  unfold f_cw
  rw [hw2]
  constructor
  · split
    · unfold f_max0
      split
      · rename_i z
        rcases Nat.eq_zero_or_pos w with e | e
        · subst e; exact absurd z (by decide)
        · exact ⟨w - 1, by omega, (pk_sub (a := w) (b := 1) e)⟩
      · exact ⟨0, by omega, rfl⟩
    · unfold f_min8
      split
      · rename_i z
        have z2 : nI (w + 2) < nI 8 := by rw [← nI_add]; exact z
        have := (nI_ltI (a := w + 2) (b := 8) (by omega) (by decide)).mp z2
        exact ⟨w + 2, by omega, nI_add w 2⟩
      · exact ⟨8, by omega, rfl⟩
  · intro h5
    rw [if_neg h5]
    unfold f_min8
    split
    · rw [show nI w + 2 = nI (w + 2) from nI_add w 2]
      exact nI_nlt (a := w + 2) (b := 2) (by omega) (by omega)
    · decide
theorem f_cool_row {r : Nat} (hr : r ≠ 2) (σ : zS) : ∀ n : Nat, f_cool σ n r = σ r
  | 0 => rfl
  | n + 1 => (zs_row _ hr _ _).trans (f_cool_row hr σ n)
theorem f_cool_ge (σ : zS) {b : Nat} : ∀ n : Nat, n ≤ b → f_cool σ n 2 b = σ 2 b
  | 0, _ => rfl
  | n + 1, h => (zs_ne _ 2 (by omega) _ _).trans (f_cool_ge σ n (by omega))
theorem f_cool_at (σ : zS) {b : Nat} : ∀ n : Nat, b < n → f_cool σ n 2 b = f_cw σ b
  | n + 1, h => by
    have h5 : f_cool σ n 5 = σ 5 := f_cool_row (by decide) σ n
    by_cases e : b = n
    · subst e
      have e1 : f_cool σ (b + 1) 2 b = f_cw (f_cool σ b) b := zs_eq _ 2 b _
      rw [e1]
      unfold f_cw
      rw [h5, f_cool_ge σ b (Nat.le_refl b)]
    · exact (zs_ne _ 2 e _ _).trans (f_cool_at σ n (by omega))
theorem zV.cool {σ : zS} {nb ns h B : Nat} (hV : zV σ nb ns h B) (n : Nat) (hn : n ≤ nb) : zV (f_cool σ n) nb ns h B := by
  obtain ⟨hC, h2, hK, hBd, hZ, hZb⟩ := hV
  have hr : ∀ r, r ≠ 2 → f_cool σ n r = σ r := fun r h => f_cool_row h σ n
  have hco : ∀ j, zco σ (f_cool σ n) j := fun j => co_cool σ j n
  refine ⟨hC.cool n, by rw [hr 0 (by decide)]; exact h2, fun k hk => ⟨(hK k hk).1.ag (hco k).ag, (hK k hk).2.1.co (hco k), ?_⟩, fun b hb => ?_, fun k hk => ?_, fun b hb => ?_⟩
  · unfold zln
    rw [hr 12 (by decide), hr 13 (by decide), hr 5 (by decide)]
    exact (hK k hk).2.2
  · have h1 := hBd b hb
    unfold zbd at h1 ⊢
    rw [hr 1 (by decide), hr 3 (by decide), hr 4 (by decide), hr 5 (by decide), hr 12 (by decide), hr 13 (by decide)]
    refine ⟨h1.1, h1.2.1, ?_, h1.2.2.2⟩
    by_cases e : b < n
    · rw [f_cool_at σ n e]; exact (f_cw_ok h1.2.2.1).1
    · rw [f_cool_ge σ n (by omega)]; exact h1.2.2.1
  · rw [hr 12 (by decide), hr 14 (by decide), hr 15 (by decide), hr 16 (by decide), hr 17 (by decide)]
    exact hZ k hk
  · rw [f_cool_ge σ n (by omega), hr 3 (by decide), hr 4 (by decide)]
    exact hZb b hb
theorem zV.now {σ : zS} {nb ns h B : Nat} (hV : zV σ nb ns h B) {h' : Nat} (hh : h' < 2 ^ 30) : zV (zs σ 0 0 (nI h')) nb ns h' B := by
  obtain ⟨hC, h2, hK, hBd, hZ, hZb⟩ := hV
  exact ⟨⟨hC.1, hC.2.1, hC.2.2.1, hC.2.2.2.1, zs_eq σ 0 0 _, hh, hC.2.2.2.2.2.2⟩, h2, hK, hBd, hZ, hZb⟩
theorem zV.rings {σ : zS} {nb ns h B : Nat} (hV : zV σ nb ns h B) : ∀ j : Nat, j ≤ ns → B + j ≤ 2 ^ 28 → zV (f_itr (fun τ k => f_ring τ h k) j σ) nb ns h (B + j)
  | 0, _, _ => hV
  | j + 1, hj, hB => (hV.rings j (by omega) (by omega)).ring (by omega) (by omega)
theorem zV.serves {σ : zS} {nb ns h B : Nat} (hV : zV σ nb ns h B) : ∀ j : Nat, j ≤ ns → B + j ≤ 2 ^ 28 → zV (f_itr (fun τ k => f_serve τ nb h k) j σ) nb ns h (B + j)
  | 0, _, _ => hV
  | j + 1, hj, hB => (hV.serves j (by omega) (by omega)).serve (by omega) (by omega)
theorem zV.rests {σ : zS} {nb ns h B : Nat} (hV : zV σ nb ns h B) : ∀ j : Nat, j ≤ ns → B + j ≤ 2 ^ 28 → zV (f_itr (fun τ k => f_rest τ h k) j σ) nb ns h (B + j)
  | 0, _, _ => hV
  | j + 1, hj, hB => (hV.rests j (by omega) (by omega)).rest (by omega) (by omega)
theorem zV.hour1 {σ : zS} {nb ns h B : Nat} (hV : zV σ nb ns h B) (hB : B + 30 ≤ 2 ^ 28) : zV (f_hour1 σ ns h) nb ns h (B + 10) :=
  (hV.rings ns (Nat.le_refl ns) (by have := hV.1.2.2.2.1; omega)).upB (by have := hV.1.2.2.2.1; omega) (by omega)
theorem zV.hour2 {σ : zS} {nb ns h B : Nat} (hV : zV σ nb ns h B) (hB : B + 30 ≤ 2 ^ 28) : zV (f_hour2 σ nb ns h) nb ns h (B + 20) :=
  ((hV.hour1 hB).serves ns (Nat.le_refl ns) (by have := hV.1.2.2.2.1; omega)).upB (by have := hV.1.2.2.2.1; omega) (by omega)
theorem zV.hour3 {σ : zS} {nb ns h B : Nat} (hV : zV σ nb ns h B) (hB : B + 30 ≤ 2 ^ 28) : zV (f_hour3 σ nb ns h) nb ns h (B + 30) :=
  ((hV.hour2 hB).rests ns (Nat.le_refl ns) (by have := hV.1.2.2.2.1; omega)).upB (by have := hV.1.2.2.2.1; omega) (by omega)
theorem zV.hour {σ : zS} {nb ns h B : Nat} (hV : zV σ nb ns h B) (hB : B + 30 ≤ 2 ^ 28) (hh : h + 1 < 2 ^ 30) : zV (f_hour σ nb ns h) nb ns (h + 1) (B + 30) :=
  ((hV.hour3 hB).cool nb (Nat.le_refl nb)).now hh
-- rest, lateness and floors never get less
def zmo (σ τ : zS) : Prop := ∀ k, σ 14 k ≤ τ 14 k ∧ σ 15 k ≤ τ 15 k ∧ σ 17 k ≤ τ 17 k
theorem zmo.rf {σ : zS} : zmo σ σ := fun _ => ⟨i32_rf _, i32_rf _, i32_rf _⟩
theorem zmo.tr {σ τ υ : zS} (h1 : zmo σ τ) (h2 : zmo τ υ) : zmo σ υ := fun k => ⟨i32_tr (h1 k).1 (h2 k).1, i32_tr (h1 k).2.1 (h2 k).2.1, i32_tr (h1 k).2.2 (h2 k).2.2⟩
theorem zmo.of {σ τ : zS} (h14 : τ 14 = σ 14) (h15 : τ 15 = σ 15) (h17 : τ 17 = σ 17) : zmo σ τ := fun k => by
  rw [h14, h15, h17]
  exact ⟨i32_rf _, i32_rf _, i32_rf _⟩
theorem zmo_up {σ : zS} {r k : Nat} {v : Int32} (h : σ r k ≤ v) : zmo σ (zs σ r k v) := by
  have key : ∀ r' j, σ r' j ≤ zs σ r k v r' j := fun r' j => by
    rw [zs_at]
    by_cases e : r' = r ∧ j = k
    · rw [if_pos e, e.1, e.2]; exact h
    · rw [if_neg e]; exact i32_rf _
  exact fun j => ⟨key 14 j, key 15 j, key 17 j⟩
theorem zmo_other {σ : zS} {r k : Nat} {v : Int32} (h : r ≠ 14 ∧ r ≠ 15 ∧ r ≠ 17) : zmo σ (zs σ r k v) :=
  zmo.of (zs_row _ (Ne.symm h.1) _ _) (zs_row _ (Ne.symm h.2.1) _ _) (zs_row _ (Ne.symm h.2.2) _ _)
theorem mo_leave (σ : zS) (k : Nat) : zmo σ (f_leave σ k) := by
  unfold f_leave
  split
  · exact zmo_other (by decide)
  · exact zmo.rf
theorem mo_getUp (σ : zS) (k : Nat) : zmo σ (f_getUp σ k) := (mo_leave σ k).tr ((zmo_other (by decide)).tr (zmo_other (by decide)))
theorem mo_late {σ : zS} {nb ns h B k : Nat} (hV : zV σ nb ns h B) (hk : k < ns) : zmo σ (f_late σ k) :=
  (zmo_up ((hV.2.2.1 k hk).2.1.2.2.2.1.mono 1 (by have := hV.2.1.1; omega))).tr (zmo_other (by decide))
theorem mo_floor {σ : zS} {nb ns h B k : Nat} (hV : zV σ nb ns h B) (hk : k < ns) : zmo σ (f_floor σ k) :=
  (zmo_other (by decide)).tr (zmo_up (by
    have h1 : zs σ 12 k 2 17 k = σ 17 k := zs_nr _ (by decide) _ _ _
    rw [h1]
    exact (hV.2.2.1 k hk).2.1.2.2.2.2.2.mono 1 (by have := hV.2.1.1; omega)))
theorem mo_earn (σ : zS) (k : Nat) (v : Int32) : zmo σ (f_earn σ k v) := zmo_other (by decide)
theorem mo_pay (σ : zS) (k : Nat) : zmo σ (f_pay σ k) := (mo_earn σ k _).tr (zmo_other (by decide))
theorem mo_red (σ : zS) (k : Nat) : zmo σ (f_red σ k) := (zmo_other (by decide)).tr (zmo_other (by decide))
theorem mo_pawnB (σ : zS) (k : Nat) : zmo σ (f_pawnB σ k) := zmo.tr (τ := zs σ 10 k 0) (zmo_other (by decide)) (mo_earn _ k _)
theorem mo_into (σ : zS) (k b : Nat) : zmo σ (f_into σ k b) := zmo.of rfl rfl rfl
theorem mo_payR (σ : zS) (h k : Nat) : zmo σ (f_payR σ h k) := by
  unfold f_payR
  split
  · split
    · exact (mo_pay σ k).tr (mo_red _ k)
    · exact mo_pay σ k
  · exact zmo.rf
theorem mo_try1 (σ : zS) (k b : Nat) : zmo σ (f_try1 σ k b) := by
  unfold f_try1
  split
  · exact mo_pawnB σ k
  · exact zmo.rf
theorem mo_try {σ : zS} {nb ns h B k b : Nat} (hV : zV σ nb ns h B) (hk : k < ns) : zmo σ (f_try σ k b) := by
  unfold f_try
  split
  · exact (mo_try1 σ k b).tr (mo_floor (hV.try1 hk) hk)
  · exact (mo_try1 σ k b).tr (mo_into _ k b)
theorem mo_look {σ : zS} {nb ns h h' B k : Nat} (hV : zV σ nb ns h B) (hk : k < ns) : zmo σ (f_look σ nb h' k) := by
  unfold f_look
  split
  · exact mo_try hV hk
  · split
    · exact zmo.rf
    · exact mo_floor hV hk
theorem mo_serve {σ : zS} {nb ns h h' B k : Nat} (hV : zV σ nb ns h B) (hk : k < ns) : zmo σ (f_serve σ nb h' k) := by
  unfold f_serve
  split
  · split
    · exact (mo_payR σ h' k).tr (mo_look (hV.payR hk) hk)
    · exact mo_payR σ h' k
  · exact zmo.rf
theorem mo_ring {σ : zS} {nb ns h h' B k : Nat} (hV : zV σ nb ns h B) (hk : k < ns) : zmo σ (f_ring σ h' k) := by
  unfold f_ring
  split
  · exact zmo.rf
  · split
    · exact zmo.rf
    · split
      · exact mo_late hV hk
      · exact mo_getUp σ k
theorem mo_rest {σ : zS} {nb ns h h' B k : Nat} (hV : zV σ nb ns h B) (hk : k < ns) : zmo σ (f_rest σ h' k) := by
  obtain ⟨c, hc, ec⟩ := f_roh_n σ h' k
  obtain ⟨-, -, -, -, ρ, h5, h6⟩ := (hV.2.2.1 k hk).1
  have := hV.2.1.1
  exact zmo_up (by rw [h6, ec, nI_add]; exact nI_le (by omega) (by omega))
theorem mo_cool (σ : zS) (n : Nat) : zmo σ (f_cool σ n) := zmo.of (f_cool_row (by decide) σ n) (f_cool_row (by decide) σ n) (f_cool_row (by decide) σ n)
theorem mo_rings {σ : zS} {nb ns h B : Nat} (hV : zV σ nb ns h B) : ∀ j : Nat, j ≤ ns → B + j ≤ 2 ^ 28 → zmo σ (f_itr (fun τ k => f_ring τ h k) j σ)
  | 0, _, _ => zmo.rf
  | j + 1, hj, hB => (mo_rings hV j (by omega) (by omega)).tr (mo_ring (hV.rings j (by omega) (by omega)) (by omega))
theorem mo_serves {σ : zS} {nb ns h B : Nat} (hV : zV σ nb ns h B) : ∀ j : Nat, j ≤ ns → B + j ≤ 2 ^ 28 → zmo σ (f_itr (fun τ k => f_serve τ nb h k) j σ)
  | 0, _, _ => zmo.rf
  | j + 1, hj, hB => (mo_serves hV j (by omega) (by omega)).tr (mo_serve (hV.serves j (by omega) (by omega)) (by omega))
theorem mo_rests {σ : zS} {nb ns h B : Nat} (hV : zV σ nb ns h B) : ∀ j : Nat, j ≤ ns → B + j ≤ 2 ^ 28 → zmo σ (f_itr (fun τ k => f_rest τ h k) j σ)
  | 0, _, _ => zmo.rf
  | j + 1, hj, hB => (mo_rests hV j (by omega) (by omega)).tr (mo_rest (hV.rests j (by omega) (by omega)) (by omega))
theorem mo_hour {σ : zS} {nb ns h B : Nat} (hV : zV σ nb ns h B) (hB : B + 30 ≤ 2 ^ 28) : zmo σ (f_hour σ nb ns h) := by
  have hn := hV.1.2.2.2.1
  have h1 : zmo σ (f_hour1 σ ns h) := mo_rings hV ns (Nat.le_refl ns) (by omega)
  have h2 : zmo (f_hour1 σ ns h) (f_hour2 σ nb ns h) := mo_serves (hV.hour1 hB) ns (Nat.le_refl ns) (by omega)
  have h3 : zmo (f_hour2 σ nb ns h) (f_hour3 σ nb ns h) := mo_rests (hV.hour2 hB) ns (Nat.le_refl ns) (by omega)
  exact ((h1.tr h2).tr h3).tr ((mo_cool _ nb).tr (zmo_other (by decide)))
theorem zV.hours {σ : zS} {nb ns h B : Nat} (hV : zV σ nb ns h B) : ∀ n : Nat, B + 30 * n ≤ 2 ^ 28 → h + n < 2 ^ 30 → zV (f_hours σ nb ns h n) nb ns (h + n) (B + 30 * n) ∧ zmo σ (f_hours σ nb ns h n)
  | 0, _, _ => ⟨hV, zmo.rf⟩
  | n + 1, hB, hh => by
    obtain ⟨h1, h2⟩ := hV.hours n (by omega) (by omega)
    exact ⟨h1.hour (by omega) (by omega), h2.tr (mo_hour h1 (by omega))⟩
-- what an hour leaves of the bell and of the beds
def zgo (σ : zS) (h k : Nat) : Int32 := nI ((h % 24 + 24 - ((σ 6 k).toNatClampNeg + 1) * 8) % 24)
theorem f_itr_co {F : zS → Nat → zS} (hF : ∀ τ j k, k ≠ j → zco τ (F τ j) k) {k : Nat} (σ : zS) : ∀ n : Nat, (n ≤ k → zco σ (f_itr F n σ) k)
  | 0, _ => zco.rf
  | n + 1, h => (f_itr_co hF σ n (by omega)).tr (hF _ n k (by omega))
theorem f_itr_col {F : zS → Nat → zS} (hF : ∀ τ j k, k ≠ j → zco τ (F τ j) k) {k : Nat} (σ : zS) : ∀ n : Nat, k < n → ∃ τ, τ = f_itr F k σ ∧ zco σ τ k ∧ zco (F τ k) (f_itr F n σ) k
  | n + 1, h => by
    by_cases e : k = n
    · subst e
      exact ⟨_, rfl, f_itr_co hF σ k (Nat.le_refl k), zco.rf⟩
    · obtain ⟨τ, h1, h2, h3⟩ := f_itr_col hF (k := k) σ n (by omega)
      exact ⟨τ, h1, h2, h3.tr (hF _ n k e)⟩
theorem f_itr_0 {F : zS → Nat → zS} (hF : ∀ τ k, F τ k 0 = τ 0) (σ : zS) : ∀ j : Nat, f_itr F j σ 0 = σ 0 := f_itr_row hF σ
def zld (σ : zS) (h ns : Nat) : Prop := ∀ k, k < ns → ¬ σ 12 k = 0 → ¬ σ 6 k = nI (h % 24 / 8) → σ 0 1 + 2 * zgo σ h k < σ 7 k
theorem zld_1 {σ : zS} {nb ns h B : Nat} (hV : zV σ nb ns h B) : zld (f_hour1 σ ns h) h ns := by
  intro k hk h12 h6
  obtain ⟨τ, e, c1, c2⟩ := f_itr_col (F := fun τ k => f_ring τ h k) (fun τ j k z => co_ring z) (k := k) σ ns hk
  have e0 : f_hour1 σ ns h 0 = σ 0 := f_itr_0 (F := fun τ k => f_ring τ h k) (fun τ k => f_ring_0 τ h k) σ ns
  have t0 : τ 0 = σ 0 := by rw [e]; exact f_itr_0 (F := fun τ k => f_ring τ h k) (fun τ k => f_ring_0 τ h k) σ k
  have d12 : f_hour1 σ ns h 12 k = f_ring τ h k 12 k := c2 12 (by decide)
  have d6 : f_hour1 σ ns h 6 k = f_ring τ h k 6 k := c2 6 (by decide)
  have d7 : f_hour1 σ ns h 7 k = f_ring τ h k 7 k := c2 7 (by decide)
  unfold zgo
  rw [e0, d6, d7, f_ring_6]
  rw [d12] at h12
  rw [d6, f_ring_6] at h6
  have g7 : f_ring τ h k 7 k = τ 7 k := by
    have gu : f_getUp τ k 7 k = τ 7 k := by unfold f_getUp f_leave; split <;> rfl
    unfold f_ring
    by_cases y1 : τ 12 k = 0
    · rw [if_pos y1]
    · rw [if_neg y1]
      by_cases y2 : τ 6 k = nI (h % 24 / 8)
      · rw [if_pos y2]
      · rw [if_neg y2]
        split
        · rfl
        · exact gu
  rw [g7, ← t0]
  by_cases z : τ 12 k = 0
  · exact absurd (by unfold f_ring; rw [if_pos z]; exact z) h12
  · by_cases z3 : τ 0 1 + 2 * nI ((h % 24 + 24 - ((τ 6 k).toNatClampNeg + 1) * 8) % 24) < τ 7 k
    · exact z3
    · refine absurd ?_ h12
      unfold f_ring
      rw [if_neg z, if_neg h6, if_neg z3]
      exact zs_eq _ 12 k 0
theorem zld_2 {σ : zS} {nb ns h : Nat} (hl : zld (f_hour1 σ ns h) h ns) : zld (f_hour2 σ nb ns h) h ns := by
  intro k hk h12 h6
  obtain ⟨τ, e, c1, c2⟩ := f_itr_col (F := fun τ k => f_serve τ nb h k) (fun τ j k z => co_serve z) (k := k) (f_hour1 σ ns h) ns hk
  have e0 : f_hour2 σ nb ns h 0 = f_hour1 σ ns h 0 := f_itr_0 (F := fun τ k => f_serve τ nb h k) (fun τ k => f_serve_0 τ nb h k) _ ns
  have c3 : zco (f_serve τ nb h k) (f_hour2 σ nb ns h) k := c2
  have d6 : f_hour2 σ nb ns h 6 k = τ 6 k := by rw [c3 6 (by decide), f_serve_6]
  have hs : f_serve τ nb h k = τ := by
    unfold f_serve
    rw [if_neg (by rw [← d6]; exact h6)]
  rw [hs] at c3
  have c4 := c1.tr c3
  unfold zgo
  rw [e0, c4 6 (by decide), c4 7 (by decide)]
  rw [c4 12 (by decide)] at h12
  rw [c4 6 (by decide)] at h6
  exact hl k hk h12 h6
theorem zld_hour {σ : zS} {nb ns h B : Nat} (hV : zV σ nb ns h B) : zld (f_hour σ nb ns h) h ns := by
  have h2 := zld_2 (nb := nb) (zld_1 hV)
  have r3 : ∀ r, r ≠ 14 → f_hour3 σ nb ns h r = f_hour2 σ nb ns h r := fun r hr => f_itr_row (F := fun τ k => f_rest τ h k) (fun τ k => zs_row _ hr _ _) _ ns
  have r4 : ∀ r, r ≠ 2 → f_cool (f_hour3 σ nb ns h) nb r = f_hour3 σ nb ns h r := fun r hr => f_cool_row hr _ nb
  have r5 : ∀ r, r ≠ 0 → f_hour σ nb ns h r = f_cool (f_hour3 σ nb ns h) nb r := fun r hr => zs_row _ hr _ _
  have d : ∀ r, r = 6 ∨ r = 7 ∨ r = 12 → f_hour σ nb ns h r = f_hour2 σ nb ns h r := fun r hr => by
    rw [r5 r (by omega), r4 r (by omega), r3 r (by omega)]
  have e1 : f_hour σ nb ns h 0 1 = f_hour2 σ nb ns h 0 1 := by
    have z : f_hour σ nb ns h 0 1 = f_cool (f_hour3 σ nb ns h) nb 0 1 := zs_ne _ 0 (by decide) _ _
    rw [z, r4 0 (by decide), r3 0 (by decide)]
  unfold zld zgo
  rw [d 6 (by decide), d 7 (by decide), d 12 (by decide), e1]
  exact h2
def zwm (σ : zS) (nb : Nat) : Prop := ∀ b, b < nb → ¬ σ 5 b = -1 → ¬ σ 2 b < 2
theorem zwm_hour {σ : zS} {nb ns h B : Nat} (hV : zV σ nb ns h B) (hB : B + 30 ≤ 2 ^ 28) : zwm (f_hour σ nb ns h) nb := by
  intro b hb h5
  have e5 : f_hour σ nb ns h 5 = f_hour3 σ nb ns h 5 := (zs_row _ (by decide) _ _).trans (f_cool_row (by decide) _ nb)
  have e2 : f_hour σ nb ns h 2 b = f_cw (f_hour3 σ nb ns h) b := (congrFun (zs_row _ (by decide) _ _) b).trans (f_cool_at _ nb hb)
  rw [e5] at h5
  rw [e2]
  exact (f_cw_ok ((hV.hour3 hB).2.2.2.1 b hb).2.2.1).2 h5
