theorem zsk.nb {σ : zS} {nb nb' B k : Nat} (hb : nb ≤ nb') (h : zsk σ nb B k) : zsk σ nb' B k := by
  obtain ⟨h1, h2, h3, h4, h5⟩ := h
  refine ⟨h1, h2, h3.imp id (fun ⟨b, z, e⟩ => ⟨b, by omega, e⟩), h4.imp (fun ⟨e, b, z, e2⟩ => ⟨e, b, by omega, e2⟩) id, h5⟩
theorem zV.ksk {σ : zS} {nb ns h B k : Nat} (hV : zV σ nb ns h B) (hk : k < ns) : zsk σ nb (2 * B) k := (hV.2.2.1 k hk).1
theorem zV.ksm {σ : zS} {nb ns h B k : Nat} (hV : zV σ nb ns h B) (hk : k < ns) : zsm σ B k := (hV.2.2.1 k hk).2.1
theorem zV.kln {σ : zS} {nb ns h B k : Nat} (hV : zV σ nb ns h B) (hk : k < ns) : zln σ nb k := (hV.2.2.1 k hk).2.2
theorem zV.kbd {σ : zS} {nb ns h B b : Nat} (hV : zV σ nb ns h B) (hb : b < nb) : zbd σ ns b := hV.2.2.2.1 b hb
theorem zV.kp {σ : zS} {nb ns h B k : Nat} (hV : zV σ nb ns h B) (hk : k < ns) {v : Int32} (hv : v = -1 ∨ ∃ b, b < nb ∧ v = nI b) : zV (zs σ 11 k v) nb ns h B := by
  have h1 := hV.ksk hk
  exact hV.col (Nat.le_refl B) hV.2.1.1 hk rfl (fun r z1 z2 => zs_row _ (by omega) _ _) (fun _ => zco_ne) rfl rfl ⟨h1.1, h1.2.1, by rw [zs_eq]; exact hv, h1.2.2.2⟩ (hV.ksm hk)
theorem zV.wat {σ : zS} {nb ns h B k : Nat} (hV : zV σ nb ns h B) (hk : k < ns) {w : Nat} (hw : w < 3) : zV (zs σ 6 k (nI w)) nb ns h B := by
  have h1 := hV.ksk hk
  exact hV.col (Nat.le_refl B) hV.2.1.1 hk rfl (fun r z1 z2 => zs_row _ (by omega) _ _) (fun _ => zco_ne) rfl rfl ⟨⟨w, hw, zs_eq σ 6 k _⟩, h1.2⟩ (hV.ksm hk)
theorem zV.bell {σ : zS} {nb ns h B : Nat} (hV : zV σ nb ns h B) {v : Int32} (hv : zle v 9) : zV (zs σ 0 1 v) nb ns h B := by
  obtain ⟨hC, h2, hK, hBd, hZ, hZb⟩ := hV
  exact ⟨hC.bell v, ⟨h2.1, h2.2.1, by rw [zs_eq]; exact hv⟩, hK, hBd, hZ, hZb⟩
theorem zV.pawn {σ : zS} {nb ns h B p : Nat} (hV : zV σ nb ns h B) (h1 : 1 ≤ p) (h3 : p ≤ 20) : zV (zs σ 0 2 (nI p)) nb ns h B := by
  obtain ⟨hC, h2, hK, hBd, hZ, hZb⟩ := hV
  exact ⟨hC, ⟨h2.1, ⟨p, h1, h3, zs_eq σ 0 2 _⟩, h2.2.2⟩, hK, hBd, hZ, hZb⟩
theorem co_addB {σ : zS} {nb : Nat} {v : Int32} (j : Nat) : zco σ (f_addB σ nb v) j := ((zco_lo (by decide)).tr (zco_lo (by decide))).tr (zco_lo (by decide))
theorem zV.addB {σ : zS} {nb ns h B : Nat} (hV : zV σ nb ns h B) {v : Int32} (hv : zle v 9) (hb : nb < 6) : zV (f_addB σ nb v) (nb + 1) ns h B := by
  obtain ⟨hC, h2, hK, hBd, hZ, hZb⟩ := hV
  have hns := hC.2.2.2.1
  have g1 : ∀ b, f_addB σ nb v 1 b = if b = nb then v else σ 1 b := fun b => by
    show zs σ 1 nb v 1 b = _
    rw [zs_at]
    by_cases e : b = nb
    · rw [if_pos ⟨rfl, e⟩, if_pos e]
    · rw [if_neg (fun z => e z.2), if_neg e]
  have g5 : ∀ b, f_addB σ nb v 5 b = if b = nb then -1 else σ 5 b := fun b => by
    show zs (zs σ 1 nb v) 5 nb (-1) 5 b = _
    rw [zs_at]
    by_cases e : b = nb
    · rw [if_pos ⟨rfl, e⟩, if_pos e]
    · rw [if_neg (fun z => e z.2), if_neg e]; rfl
  have g2 : f_addB σ nb v 2 = σ 2 := rfl
  have g3 : f_addB σ nb v 3 = σ 3 := rfl
  have g4 : f_addB σ nb v 4 = σ 4 := rfl
  refine ⟨⟨zs_eq _ 0 3 _, hb, (zs_ne _ 0 (by decide) _ _).trans hC.2.2.1, hns, (zs_ne _ 0 (by decide) _ _).trans hC.2.2.2.2.1, hC.2.2.2.2.2⟩, ⟨h2.1, h2.2.1, h2.2.2⟩, fun k hk => ⟨zsk.nb (Nat.le_succ nb) ((hK k hk).1.ag (co_addB k).ag), (hK k hk).2.1.co (co_addB k), ?_⟩, fun b hb9 => ?_, fun k hk => hZ k hk, fun b hb9 => hZb b (by omega)⟩
  · intro z
    obtain ⟨b, z1, z2, z3⟩ := (hK k hk).2.2 z
    exact ⟨b, by omega, z2, by rw [g5, if_neg (by omega)]; exact z3⟩
  · unfold zbd
    rw [g1, g5, g2, g3, g4]
    by_cases e : b = nb
    · subst e
      have z := hZb b (Nat.le_refl b)
      rw [if_pos rfl, if_pos rfl, z.1, z.2.1, z.2.2]
      exact ⟨hv, by simp, ⟨0, by omega, rfl⟩, Or.inl rfl⟩
    · rw [if_neg e, if_neg e]
      exact hBd b (by omega)
theorem co_addS {σ : zS} {ns : Nat} {v1 v2 v3 v4 : Int32} {j : Nat} (hj : j ≠ ns) : zco σ (f_addS σ ns v1 v2 v3 v4) j :=
  (((((((((zco_ne hj).tr (zco_ne hj)).tr (zco_ne hj)).tr (zco_ne hj)).tr (zco_ne hj)).tr (zco_ne hj)).tr (zco_ne hj)).tr (zco_ne hj)).tr (zco_lo (by decide)))
theorem zV.addS {σ : zS} {nb ns h B w : Nat} (hV : zV σ nb ns h B) (hw : w < 3) {v2 v3 v4 : Int32} (h2 : zle v2 9) (h3 : zle v3 20) (h4 : zle v4 99) (hs : ns < 10) : zV (f_addS σ ns (nI w) v2 v3 v4) nb (ns + 1) h B := by
  obtain ⟨hC, hR, hK, hBd, hZ, hZb⟩ := hV
  have e6 : f_addS σ ns (nI w) v2 v3 v4 6 ns = nI w := zs_eq σ 6 ns (nI w)
  have e7 : f_addS σ ns (nI w) v2 v3 v4 7 ns = v2 := zs_eq (zs σ 6 ns (nI w)) 7 ns v2
  have e8 : f_addS σ ns (nI w) v2 v3 v4 8 ns = v3 := zs_eq (zs (zs σ 6 ns (nI w)) 7 ns v2) 8 ns v3
  have e9 : f_addS σ ns (nI w) v2 v3 v4 9 ns = v4 := zs_eq (zs (zs (zs σ 6 ns (nI w)) 7 ns v2) 8 ns v3) 9 ns v4
  have e10 : f_addS σ ns (nI w) v2 v3 v4 10 ns = 1 := zs_eq (zs (zs (zs (zs σ 6 ns (nI w)) 7 ns v2) 8 ns v3) 9 ns v4) 10 ns 1
  have e11 : f_addS σ ns (nI w) v2 v3 v4 11 ns = -1 := zs_eq (zs (zs (zs (zs (zs σ 6 ns (nI w)) 7 ns v2) 8 ns v3) 9 ns v4) 10 ns 1) 11 ns (-1)
  have e12 : f_addS σ ns (nI w) v2 v3 v4 12 ns = 0 := zs_eq (zs (zs (zs (zs (zs (zs σ 6 ns (nI w)) 7 ns v2) 8 ns v3) 9 ns v4) 10 ns 1) 11 ns (-1)) 12 ns 0
  have e13 : f_addS σ ns (nI w) v2 v3 v4 13 ns = -1 := zs_eq (zs (zs (zs (zs (zs (zs (zs σ 6 ns (nI w)) 7 ns v2) 8 ns v3) 9 ns v4) 10 ns 1) 11 ns (-1)) 12 ns 0) 13 ns (-1)
  have z := hZ ns (Nat.le_refl ns)
  refine ⟨⟨(zs_ne _ 0 (by decide) _ _).trans hC.1, hC.2.1, zs_eq _ 0 4 _, hs, (zs_ne _ 0 (by decide) _ _).trans hC.2.2.2.2.1, hC.2.2.2.2.2.1, fun k hk => ?_⟩, ⟨hR.1, hR.2.1, hR.2.2⟩, fun k hk => ?_, fun b hb9 => ?_, fun k hk => ?_, fun b hb9 => hZb b hb9⟩
  · by_cases e : k = ns
    · subst e; exact ⟨w, hw, e6⟩
    · rw [co_addS e 6 (by decide)]
      exact hC.2.2.2.2.2.2 k hk
  · by_cases e : k = ns
    · subst e
      refine ⟨⟨⟨w, hw, e6⟩, Or.inr e10, Or.inl e11, Or.inr ⟨Or.inl e12, e13⟩, 0, Nat.zero_le _, z.2.1⟩, ⟨by rw [e7]; exact h2, by rw [e8]; exact h3, by rw [e9]; exact h4, ⟨0, Nat.zero_le _, z.2.2.1⟩, ⟨0, Nat.zero_le _, z.2.2.2.1⟩, ⟨0, Nat.zero_le _, z.2.2.2.2⟩⟩, fun y => by rw [e12] at y; exact absurd y (by decide)⟩
    · have hk2 : k < ns := by omega
      refine ⟨(hK k hk2).1.ag (co_addS e).ag, (hK k hk2).2.1.co (co_addS e), fun y => ?_⟩
      rw [co_addS e 12 (by decide)] at y
      rw [co_addS e 13 (by decide)]
      exact (hK k hk2).2.2 y
  · have h1 := hBd b hb9
    refine ⟨h1.1, h1.2.1, h1.2.2.1, h1.2.2.2.imp id (fun ⟨q, z1, z2, z3, z4⟩ => ⟨q, by omega, z2, ?_, ?_⟩)⟩
    · rw [co_addS (by omega) 12 (by decide)]; exact z3
    · rw [co_addS (by omega) 13 (by decide)]; exact z4
  · rw [co_addS (by omega) 12 (by decide), co_addS (by omega) 14 (by decide), co_addS (by omega) 15 (by decide), co_addS (by omega) 16 (by decide), co_addS (by omega) 17 (by decide)]
    exact hZ k (by omega)
theorem mo_addB (σ : zS) (nb : Nat) (v : Int32) : zmo σ (f_addB σ nb v) := zmo.of rfl rfl rfl
theorem mo_addS (σ : zS) (ns : Nat) (v1 v2 v3 v4 : Int32) : zmo σ (f_addS σ ns v1 v2 v3 v4) := zmo.of rfl rfl rfl
theorem zV.zero : zV zs0 0 0 0 0 := by
  refine ⟨⟨rfl, by decide, rfl, by decide, rfl, by decide, fun k _ => ⟨0, by decide, rfl⟩⟩, ⟨by decide, ⟨6, by decide, by decide, rfl⟩, ⟨5, by decide, rfl⟩⟩, fun k hk => absurd hk (Nat.not_lt_zero k), fun b hb => absurd hb (Nat.not_lt_zero b), fun k _ => ⟨rfl, rfl, rfl, rfl, rfl⟩, fun b _ => ⟨rfl, rfl, rfl⟩⟩
-- who lies in beds, counted by beds and by sailors
def sm (f : Nat → Nat) : Nat → Nat
  | 0 => 0
  | n + 1 => sm f n + f n
theorem sm_congr {f g : Nat → Nat} : ∀ n : Nat, (∀ i, i < n → f i = g i) → sm f n = sm g n
  | 0, _ => rfl
  | n + 1, h => by unfold sm; rw [sm_congr n (fun i hi => h i (by omega)), h n (Nat.lt_succ_self n)]
theorem sm_add (f g : Nat → Nat) : ∀ n : Nat, sm (fun i => f i + g i) n = sm f n + sm g n
  | 0 => rfl
  | n + 1 => by unfold sm; rw [sm_add f g n]; omega
theorem sm_zero : ∀ n : Nat, sm (fun _ => 0) n = 0
  | 0 => rfl
  | n + 1 => by unfold sm; rw [sm_zero n]
theorem sm_swap (g : Nat → Nat → Nat) (m : Nat) : ∀ n : Nat, sm (fun b => sm (fun k => g b k) m) n = sm (fun k => sm (fun b => g b k) n) m
  | 0 => (sm_zero m).symm
  | n + 1 => by
    show sm (fun b => sm (fun k => g b k) m) n + sm (fun k => g n k) m = sm (fun k => sm (fun b => g b k) n + g n k) m
    rw [sm_swap g m n, sm_add]
theorem sm_none {f : Nat → Nat} {n : Nat} (h : ∀ i, i < n → f i = 0) : sm f n = 0 := (sm_congr n h).trans (sm_zero n)
theorem sm_one {f : Nat → Nat} {a : Nat} : ∀ n : Nat, a < n → f a = 1 → (∀ i, i < n → i ≠ a → f i = 0) → sm f n = 1
  | n + 1, ha, h1, h0 => by
    unfold sm
    by_cases e : a = n
    · subst e
      rw [sm_none (fun i hi => h0 i (by omega) (by omega)), h1]
    · rw [sm_one n (by omega) h1 (fun i hi hne => h0 i (by omega) hne), h0 n (by omega) (fun z => e z.symm)]
def f_inb (f : Nat → Int32) : Nat → Int32
  | 0 => 0
  | k + 1 => f_inb f k + (if f k < 0 then 0 else 1)
theorem f_inb_n {f : Nat → Int32} : ∀ n : Nat, f_inb f n = nI (sm (fun b => if f b < 0 then 0 else 1) n)
  | 0 => rfl
  | n + 1 => by
    show f_inb f n + (if f n < 0 then 0 else 1) = nI (sm _ n + (if f n < 0 then 0 else 1))
    rw [f_inb_n n, ← nI_add]
    split <;> rfl
theorem f_many_n {f : Nat → Int32} {v : Int32} : ∀ n : Nat, f_many f v n = nI (sm (fun b => if f b = v then 1 else 0) n)
  | 0 => rfl
  | n + 1 => by
    show (if f n = v then f_many f v n + 1 else f_many f v n) = nI (sm _ n + (if f n = v then 1 else 0))
    rw [f_many_n n]
    split
    · exact nI_add _ 1
    · rw [Nat.add_zero]
theorem inb_many {σ : zS} {nb ns h B : Nat} (hV : zV σ nb ns h B) : f_inb (σ 5) nb = f_many (σ 12) 1 ns := by
  have hnb := hV.1.2.1
  have hns := hV.1.2.2.2.1
  rw [f_inb_n, f_many_n]
  congr 1
  have e1 : sm (fun b => if σ 5 b < 0 then 0 else 1) nb = sm (fun b => sm (fun k => if σ 5 b = nI k then 1 else 0) ns) nb := by
    refine sm_congr nb (fun b hb => ?_)
    rcases (hV.kbd hb).2.2.2 with z | ⟨k, hk, z, -, -⟩
    · rw [z, if_pos (by decide)]
      exact (sm_none (fun k hk => if_neg (fun y => zn_m1 (k := k) (by omega) y.symm))).symm
    · rw [z, if_neg (nI_pos (by omega))]
      exact (sm_one (f := fun i => if nI k = nI i then 1 else 0) (a := k) ns hk (if_pos rfl) (fun i hi hne => if_neg (fun y => hne ((nI_eq (by omega) (by omega)).mp y).symm))).symm
  have e2 : sm (fun k => sm (fun b => if σ 5 b = nI k then 1 else 0) nb) ns = sm (fun k => if σ 12 k = 1 then 1 else 0) ns := by
    refine sm_congr ns (fun k hk => ?_)
    have back : ∀ b, b < nb → σ 5 b = nI k → σ 12 k = 1 ∧ σ 13 k = nI b := fun b hb y => by
      rcases (hV.kbd hb).2.2.2 with z | ⟨k', hk', z, z1, z2⟩
      · rw [z] at y; exact absurd y.symm (zn_m1 (by omega))
      · have e : k' = k := (nI_eq (by omega) (by omega)).mp (z.symm.trans y)
        subst e
        exact ⟨z1, z2⟩
    by_cases h1 : σ 12 k = 1
    · rw [if_pos h1]
      obtain ⟨b, hb, z1, z2⟩ := hV.kln hk h1
      refine sm_one nb hb (if_pos z2) (fun i hi hne => if_neg (fun y => ?_))
      have z3 := (back i hi y).2
      exact hne ((nI_eq (by omega) (by omega)).mp (z3.symm.trans z1))
    · rw [if_neg h1]
      exact sm_none (fun b hb => if_neg (fun y => h1 (back b hb y).1))
  rw [e1, sm_swap, e2]
