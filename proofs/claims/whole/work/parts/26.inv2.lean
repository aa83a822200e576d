/-! the law's invariant: a sailor that isn't there yet is up and has no rest -/
def zU (σ : zS) (nb ns h : Nat) : Prop := zI σ nb ns h ∧ ∀ j, ns ≤ j → σ 12 j = 0 ∧ σ 14 j = 0
theorem zag.u {σ τ : zS} {j : Nat} (h : zag σ τ j) (hz : σ 12 j = 0 ∧ σ 14 j = 0) : τ 12 j = 0 ∧ τ 14 j = 0 := ⟨h.2.2.2.1.trans hz.1, h.2.2.2.2.2.trans hz.2⟩
theorem zU.one {σ τ : zS} {nb ns h k : Nat} (hU : zU σ nb ns h) (hk : k < ns) (h0 : τ 0 = σ 0) (h6 : τ 6 = σ 6) (hag : ∀ j, j ≠ k → zag σ τ j) (hs : ∀ B, zsk σ nb B k → zsk τ nb B k) : zU τ nb ns h :=
  ⟨⟨hU.1.1.to h0 h6, fun j hj => by
    by_cases e : j = k
    · subst e; exact hs _ (hU.1.2 j hj)
    · exact (hU.1.2 j hj).ag (hag j e)⟩, fun j hj => (hag j (by omega)).u (hU.2 j hj)⟩
theorem zU.zero : zU zs0 0 0 0 := by
  refine ⟨⟨⟨rfl, by decide, rfl, by decide, rfl, by decide, fun k _ => ⟨0, by decide, zs0_o (by decide) k⟩⟩, fun k hk => absurd hk (Nat.not_lt_zero k)⟩, fun j _ => ⟨zs0_o (by decide) j, zs0_o (by decide) j⟩⟩
theorem zU.earn {σ : zS} {nb ns h k : Nat} (hU : zU σ nb ns h) (hk : k < ns) (v : Int32) : zU (f_earn σ k v) nb ns h := hU.one hk rfl rfl (fun _ => ag_earn) (fun _ z => z)
theorem zU.pawnB {σ : zS} {nb ns h k : Nat} (hU : zU σ nb ns h) (hk : k < ns) : zU (f_pawnB σ k) nb ns h := hU.one hk rfl rfl (fun _ => ag_pawnB) (fun _ => sk_pawnB)
theorem zU.red {σ : zS} {nb ns h k : Nat} (hU : zU σ nb ns h) (hk : k < ns) : zU (f_red σ k) nb ns h := hU.one hk rfl rfl (fun _ => ag_red) (fun _ => sk_red)
theorem zU.getUp {σ : zS} {nb ns h k : Nat} (hU : zU σ nb ns h) (hk : k < ns) : zU (f_getUp σ k) nb ns h := hU.one hk (by unfold f_getUp f_leave; split <;> rfl) (by unfold f_getUp f_leave; split <;> rfl) (fun _ => ag_getUp) (fun _ => sk_getUp)
theorem zU.keep {σ : zS} {nb ns h k : Nat} (hU : zU σ nb ns h) (hk : k < ns) {v : Int32} (hv : v = -1 ∨ ∃ b, b < nb ∧ v = nI b) : zU (zs σ 11 k v) nb ns h :=
  hU.one hk rfl rfl (fun _ => zag_ne) (fun _ z => ⟨z.1, z.2.1, by rw [zs_eq]; exact hv, z.2.2.2.1, z.2.2.2.2⟩)
theorem zU.bell {σ : zS} {nb ns h : Nat} (hU : zU σ nb ns h) (v : Int32) : zU (zs σ 0 1 v) nb ns h := ⟨hU.1.bell v, hU.2⟩
theorem zU.pawn {σ : zS} {nb ns h : Nat} (hU : zU σ nb ns h) (v : Int32) : zU (zs σ 0 2 v) nb ns h := ⟨⟨hU.1.1, hU.1.2⟩, hU.2⟩
theorem zU.wat {σ : zS} {nb ns h : Nat} (hU : zU σ nb ns h) {k : Nat} {v : Int32} (h0 : ¬ v < 0) (h3 : v < 3) : zU (zs σ 6 k v) nb ns h := by
  obtain ⟨w, hw, rfl⟩ := nI_of h0
  have hw3 : w < 3 := (nI_ltI (a := w) (b := 3) (by omega) (by decide)).mp h3
  exact ⟨hU.1.wat k hw3, hU.2⟩
theorem zsk.nb {σ : zS} {nb nb' B k : Nat} (hb : nb ≤ nb') (h : zsk σ nb B k) : zsk σ nb' B k := by
  obtain ⟨h1, h2, h3, h4, h5⟩ := h
  refine ⟨h1, h2, h3.imp id (fun ⟨b, z, e⟩ => ⟨b, by omega, e⟩), h4.imp (fun ⟨e, b, z, e2⟩ => ⟨e, b, by omega, e2⟩) id, h5⟩
theorem zU.addB {σ : zS} {nb ns h : Nat} (hU : zU σ nb ns h) (v : Int32) (hb : nb < 6) : zU (f_addB σ nb v) (nb + 1) ns h := by
  have hC := hU.1.1
  have hg : ∀ j, zag σ (f_addB σ nb v) j := fun j => ((zag_lo (by decide)).tr (zag_lo (by decide))).tr (zag_lo (by decide))
  refine ⟨⟨⟨zs_eq _ 0 3 _, hb, (zs_ne _ 0 (by decide) _ _).trans hC.2.2.1, hC.2.2.2.1, (zs_ne _ 0 (by decide) _ _).trans hC.2.2.2.2.1, hC.2.2.2.2.2⟩, fun k hk => ((hU.1.2 k hk).ag (hg k)).nb (Nat.le_succ nb)⟩, fun j hj => (hg j).u (hU.2 j hj)⟩
theorem zU.addS {σ : zS} {nb ns h : Nat} (hU : zU σ nb ns h) {v1 : Int32} (v2 v3 v4 : Int32) (h0 : ¬ v1 < 0) (h3 : v1 < 3) (hs : ns < 10) : zU (f_addS σ ns v1 v2 v3 v4) nb (ns + 1) h := by
  obtain ⟨w, hw, rfl⟩ := nI_of h0
  have hw3 : w < 3 := (nI_ltI (a := w) (b := 3) (by omega) (by decide)).mp h3
  have hC := hU.1.1
  have hg : ∀ j, j ≠ ns → zag σ (f_addS σ ns (nI w) v2 v3 v4) j := fun j hj => (((((((((zag_ne hj).tr (zag_ne hj)).tr (zag_ne hj)).tr (zag_ne hj)).tr (zag_ne hj)).tr (zag_ne hj)).tr (zag_ne hj)).tr (zag_ne hj)).tr (zag_lo (by decide)))
  have e6 : f_addS σ ns (nI w) v2 v3 v4 6 ns = nI w := zs_eq σ 6 ns (nI w)
  refine ⟨⟨⟨(zs_ne _ 0 (by decide) _ _).trans hC.1, hC.2.1, zs_eq _ 0 4 _, hs, (zs_ne _ 0 (by decide) _ _).trans hC.2.2.2.2.1, hC.2.2.2.2.2.1, fun k hk => ?_⟩, fun k hk => ?_⟩, fun j hj => (hg j (by omega)).u (hU.2 j (by omega))⟩
  · by_cases e : k = ns
    · subst e; exact ⟨w, hw3, e6⟩
    · obtain ⟨w', z1, z2⟩ := hC.2.2.2.2.2.2 k hk
      exact ⟨w', z1, (hg k e).1.trans z2⟩
  · by_cases e : k = ns
    · subst e
      refine ⟨⟨w, hw3, e6⟩, Or.inr ?_, Or.inl ?_, Or.inr ⟨Or.inl ?_, ?_⟩, 0, Nat.zero_le _, ?_⟩
      · exact zs_eq (zs (zs (zs (zs σ 6 k (nI w)) 7 k v2) 8 k v3) 9 k v4) 10 k 1
      · exact zs_eq (zs (zs (zs (zs (zs σ 6 k (nI w)) 7 k v2) 8 k v3) 9 k v4) 10 k 1) 11 k (-1)
      · exact zs_eq (zs (zs (zs (zs (zs (zs σ 6 k (nI w)) 7 k v2) 8 k v3) 9 k v4) 10 k 1) 11 k (-1)) 12 k 0
      · exact zs_eq (zs (zs (zs (zs (zs (zs (zs σ 6 k (nI w)) 7 k v2) 8 k v3) 9 k v4) 10 k 1) 11 k (-1)) 12 k 0) 13 k (-1)
      · exact (hU.2 k (Nat.le_refl k)).2
    · exact (hU.1.2 k (by omega)).ag (hg k e)
theorem zag_itr {f : zS → Nat → zS} {j : Nat} (hf : ∀ τ k, j ≠ k → zag τ (f τ k) j) (σ : zS) : ∀ n : Nat, n ≤ j → zag σ (f_itr f n σ) j
  | 0, _ => zag.rf
  | n + 1, h => (zag_itr hf σ n (by omega)).tr (hf _ n (by omega))
theorem zag_hour {σ : zS} {nb ns h j : Nat} (hj : ns ≤ j) : zag σ (f_hour σ nb ns h) j := by
  have h1 : zag σ (f_hour1 σ ns h) j := zag_itr (f := fun τ k => f_ring τ h k) (fun τ k z => ag_ring z) σ ns hj
  have h2 : zag (f_hour1 σ ns h) (f_hour2 σ nb ns h) j := zag_itr (f := fun τ k => f_serve τ nb h k) (fun τ k z => ag_serve z) _ ns hj
  have h3 : zag (f_hour2 σ nb ns h) (f_hour3 σ nb ns h) j := zag_itr (f := fun τ k => f_rest τ h k) (fun τ k z => ag_rest z) _ ns hj
  exact ((h1.tr h2).tr h3).tr ((ag_cool _ j nb).tr (zag_lo (by decide)))
theorem zag_hours {σ : zS} {nb ns h j : Nat} (hj : ns ≤ j) : ∀ n : Nat, zag σ (f_hours σ nb ns h n) j
  | 0 => zag.rf
  | n + 1 => (zag_hours hj n).tr (zag_hour hj)
theorem zU.hours {σ : zS} {nb ns h : Nat} (hU : zU σ nb ns h) (n : Nat) (hn : h + n < 2 ^ 30) : zU (f_hours σ nb ns h n) nb ns (h + n) :=
  ⟨hU.1.hours n hn, fun j hj => (zag_hours hj n).u (hU.2 j hj)⟩
