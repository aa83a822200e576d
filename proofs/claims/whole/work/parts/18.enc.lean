/-! THE MODEL'S ROW: the same table, laid out in one row of 138 numbers -/
def zrs (w : Nat) : Nat := if w = 0 then 6 else if w ≤ 7 then w + 8 else if w = 8 then 17 else 16
theorem zrs_ge (w : Nat) : zrs w = 6 ∨ 9 ≤ zrs w := by unfold zrs; split <;> (try split) <;> (try split) <;> omega
theorem zrs_inj {w w' : Nat} (h : w < 10) (h' : w' < 10) (e : zrs w = zrs w') : w = w' := by
  unfold zrs at e
  split at e <;> split at e <;> (try split at e) <;> (try split at e) <;> (try split at e) <;> (try split at e) <;> omega
def zenc (σ : zS) : Nat → Int32 := fun j => if j < 3 then σ 0 j else if j < 4 then 0 else if j < 28 then σ ((j - 4) % 4 + 2) ((j - 4) / 4) else if (j - 28) % 11 = 10 then 0 else σ (zrs ((j - 28) % 11)) ((j - 28) / 11)
theorem zenc_0 (σ : zS) {j : Nat} (h : j < 3) : zenc σ j = σ 0 j := if_pos h
theorem zenc_b (σ : zS) {b w : Nat} (hb : b < 6) (hw : w < 4) : zenc σ (4 + 4 * b + w) = σ (w + 2) b := by
  have e1 : (4 + 4 * b + w - 4) % 4 = w := by omega
  have e2 : (4 + 4 * b + w - 4) / 4 = b := by omega
  unfold zenc
  rw [if_neg (by omega), if_neg (by omega), if_pos (by omega), e1, e2]
theorem zenc_s (σ : zS) (k : Nat) {w : Nat} (hw : w < 10) : zenc σ (28 + 11 * k + w) = σ (zrs w) k := by
  have e1 : (28 + 11 * k + w - 28) % 11 = w := by omega
  have e2 : (28 + 11 * k + w - 28) / 11 = k := by omega
  unfold zenc
  rw [if_neg (by omega), if_neg (by omega), if_neg (by omega), e1, e2, if_neg (by omega)]
/-- a row that isn't in it -/
theorem zenc_o (σ : zS) {r : Nat} (h : r = 1 ∨ r = 7 ∨ r = 8) (k : Nat) (v : Int32) : zenc (zs σ r k v) = zenc σ := by
  funext j
  unfold zenc
  have n0 : (0 : Nat) ≠ r := by omega
  have n1 : (j - 4) % 4 + 2 ≠ r := by omega
  have n2 : zrs ((j - 28) % 11) ≠ r := by have := zrs_ge ((j - 28) % 11); omega
  rw [zs_nr σ n0, zs_nr σ n1, zs_nr σ n2]
theorem zenc_o0 (σ : zS) {i : Nat} (h : 3 ≤ i) (v : Int32) : zenc (zs σ 0 i v) = zenc σ := by
  funext j
  unfold zenc
  have n1 : (j - 4) % 4 + 2 ≠ 0 := by omega
  have n2 : zrs ((j - 28) % 11) ≠ 0 := by have := zrs_ge ((j - 28) % 11); omega
  rw [zs_nr σ n1, zs_nr σ n2]
  by_cases hj : j < 3
  · rw [if_pos hj, if_pos hj, zs_ne σ 0 (by omega)]
  · rw [if_neg hj, if_neg hj]
theorem zenc_u0 (σ : zS) {i : Nat} (h : i < 3) (v : Int32) : upd (zenc σ) i v = zenc (zs σ 0 i v) := by
  funext j
  unfold upd
  by_cases e : j = i
  · subst e
    rw [if_pos rfl, zenc_0 _ h, zs_eq]
  · rw [if_neg e]
    unfold zenc
    have n1 : (j - 4) % 4 + 2 ≠ 0 := by omega
    have n2 : zrs ((j - 28) % 11) ≠ 0 := by have := zrs_ge ((j - 28) % 11); omega
    rw [zs_nr σ n1, zs_nr σ n2, zs_ne σ 0 e]
theorem zenc_ub (σ : zS) {b w : Nat} (hb : b < 6) (hw : w < 4) (v : Int32) : upd (zenc σ) (4 + 4 * b + w) v = zenc (zs σ (w + 2) b v) := by
  funext j
  unfold upd
  by_cases e : j = 4 + 4 * b + w
  · subst e
    rw [if_pos rfl, zenc_b _ hb hw, zs_eq]
  · rw [if_neg e]
    unfold zenc
    have n0 : (0 : Nat) ≠ w + 2 := by omega
    have n2 : zrs ((j - 28) % 11) ≠ w + 2 := by have := zrs_ge ((j - 28) % 11); omega
    rw [zs_nr σ n0, zs_nr σ n2]
    by_cases h3 : j < 3
    · rw [if_pos h3, if_pos h3]
    · rw [if_neg h3, if_neg h3]
      by_cases h4 : j < 4
      · rw [if_pos h4, if_pos h4]
      · rw [if_neg h4, if_neg h4]
        by_cases h28 : j < 28
        · rw [if_pos h28, if_pos h28, zs_at, if_neg (by omega)]
        · rw [if_neg h28, if_neg h28]
theorem zenc_us (σ : zS) (k : Nat) {w : Nat} (hw : w < 10) (v : Int32) : upd (zenc σ) (28 + 11 * k + w) v = zenc (zs σ (zrs w) k v) := by
  funext j
  unfold upd
  by_cases e : j = 28 + 11 * k + w
  · subst e
    rw [if_pos rfl, zenc_s _ _ hw, zs_eq]
  · rw [if_neg e]
    unfold zenc
    have hz := zrs_ge w
    have n0 : (0 : Nat) ≠ zrs w := by omega
    have n1 : (j - 4) % 4 + 2 ≠ zrs w := by omega
    rw [zs_nr σ n0, zs_nr σ n1]
    by_cases h3 : j < 3
    · rw [if_pos h3, if_pos h3]
    · rw [if_neg h3, if_neg h3]
      by_cases h4 : j < 4
      · rw [if_pos h4, if_pos h4]
      · rw [if_neg h4, if_neg h4]
        by_cases h28 : j < 28
        · rw [if_pos h28, if_pos h28]
        · rw [if_neg h28, if_neg h28]
          by_cases h10 : (j - 28) % 11 = 10
          · rw [if_pos h10, if_pos h10]
          · rw [if_neg h10, if_neg h10, zs_at, if_neg]
            intro z
            have hw' : (j - 28) % 11 = w := zrs_inj (by omega) hw z.1
            omega
/-- the model's cells -/
def zw_M (cI : ClassId) (m : Nat → Nat) (th : Int32) (σ : zS) (κ : Nat → Int32) : va_W := [
  (m 0, .inr (4, [.int th, .int (σ 0 3), .int (σ 0 4), .ref (m 1), .ref (m 2), .ref (m 3), .ref (m 4), .ref (m 5)])),
  (m 1, .inl (cI, 6, .inl (σ 1))), (m 2, .inl (cI, 10, .inl (σ 7))), (m 3, .inl (cI, 10, .inl (σ 8))), (m 4, .inl (cI, 138, .inl (zenc σ))), (m 5, .inl (cI, 138, .inl κ))]
section ZWM
variable (cI : ClassId) (m : Nat → Nat) (th : Int32) (σ : zS) (κ : Nat → Int32)
theorem zwm_s (k : Nat) {w : Nat} (hw : w < 10) (v : Int32) : (zw_M cI m th σ κ).set 4 (m 4, .inl (cI, 138, .inl (upd (zenc σ) (28 + 11 * k + w) v))) = zw_M cI m th (zs σ (zrs w) k v) κ := by
  have hz := zrs_ge w
  have h1 : zs σ (zrs w) k v 1 = σ 1 := zs_row σ (by omega) _ _
  have h7 : zs σ (zrs w) k v 7 = σ 7 := zs_row σ (by omega) _ _
  have h8 : zs σ (zrs w) k v 8 = σ 8 := zs_row σ (by omega) _ _
  have h0 : zs σ (zrs w) k v 0 = σ 0 := zs_row σ (by omega) _ _
  unfold zw_M
  rw [h1, h7, h8, h0, zenc_us σ k hw]
  rfl
theorem zwm_b {b w : Nat} (hb : b < 6) (hw : w < 4) (v : Int32) : (zw_M cI m th σ κ).set 4 (m 4, .inl (cI, 138, .inl (upd (zenc σ) (4 + 4 * b + w) v))) = zw_M cI m th (zs σ (w + 2) b v) κ := by
  have h1 : zs σ (w + 2) b v 1 = σ 1 := zs_row σ (by omega) _ _
  have h7 : zs σ (w + 2) b v 7 = σ 7 := zs_row σ (by omega) _ _
  have h8 : zs σ (w + 2) b v 8 = σ 8 := zs_row σ (by omega) _ _
  have h0 : zs σ (w + 2) b v 0 = σ 0 := zs_row σ (by omega) _ _
  unfold zw_M
  rw [h1, h7, h8, h0, zenc_ub σ hb hw]
  rfl
theorem zwm_0 {i : Nat} (hi : i < 3) (v : Int32) : (zw_M cI m th σ κ).set 4 (m 4, .inl (cI, 138, .inl (upd (zenc σ) i v))) = zw_M cI m th (zs σ 0 i v) κ := by
  have h1 : zs σ 0 i v 1 = σ 1 := rfl
  have h7 : zs σ 0 i v 7 = σ 7 := rfl
  have h8 : zs σ 0 i v 8 = σ 8 := rfl
  have h3 : zs σ 0 i v 0 3 = σ 0 3 := zs_ne σ 0 (by omega) v 0
  have h4 : zs σ 0 i v 0 4 = σ 0 4 := zs_ne σ 0 (by omega) v 0
  unfold zw_M
  rw [h1, h7, h8, h3, h4, zenc_u0 σ hi]
  rfl
theorem zwm_1 (j : Nat) (v : Int32) : (zw_M cI m th σ κ).set 1 (m 1, .inl (cI, 6, .inl (upd (σ 1) j v))) = zw_M cI m th (zs σ 1 j v) κ := by
  unfold zw_M
  rw [zenc_o σ (Or.inl rfl)]
  rfl
theorem zwm_7 (j : Nat) (v : Int32) : (zw_M cI m th σ κ).set 2 (m 2, .inl (cI, 10, .inl (upd (σ 7) j v))) = zw_M cI m th (zs σ 7 j v) κ := by
  unfold zw_M
  rw [zenc_o σ (Or.inr (Or.inl rfl))]
  rfl
theorem zwm_8 (j : Nat) (v : Int32) : (zw_M cI m th σ κ).set 3 (m 3, .inl (cI, 10, .inl (upd (σ 8) j v))) = zw_M cI m th (zs σ 8 j v) κ := by
  unfold zw_M
  rw [zenc_o σ (Or.inr (Or.inr rfl))]
  rfl
theorem zwm_o3 (v : Int32) : (zw_M cI m th σ κ).set 0 (m 0, .inr (4, [.int th, .int v, .int (σ 0 4), .ref (m 1), .ref (m 2), .ref (m 3), .ref (m 4), .ref (m 5)])) = zw_M cI m th (zs σ 0 3 v) κ := by
  unfold zw_M
  rw [zenc_o0 σ (Nat.le_refl 3)]
  rfl
theorem zwm_o4 (v : Int32) : (zw_M cI m th σ κ).set 0 (m 0, .inr (4, [.int th, .int (σ 0 3), .int v, .ref (m 1), .ref (m 2), .ref (m 3), .ref (m 4), .ref (m 5)])) = zw_M cI m th (zs σ 0 4 v) κ := by
  unfold zw_M
  rw [zenc_o0 σ (by decide)]
  rfl
end ZWM
theorem zpred {v : Int32} {n : Nat} (hn : n ≤ 10) : (¬ v < 0 ∧ ¬ (nI n - 1) < v) ↔ (¬ v < 0 ∧ v < nI n) := by
  by_cases h0 : v < 0
  · exact ⟨fun z => absurd h0 z.1, fun z => absurd h0 z.1⟩
  · obtain ⟨j, hj, rfl⟩ := nI_of h0
    refine and_congr_right (fun _ => ?_)
    cases n with
    | zero =>
      have e : nI 0 - 1 = -1 := by decide
      rw [e]
      constructor
      · intro z
        exfalso
        apply z
        have h1 : (0 : Int32) ≤ nI j := nI_pos' hj
        rw [Int32.lt_iff_toInt_lt]
        have h2 := Int32.le_iff_toInt_le.mp h1
        have h3 : (0 : Int32).toInt = 0 := by decide
        have h4 : (-1 : Int32).toInt = -1 := by decide
        omega
      · intro z
        exact absurd z (nI_nlt (by omega) hj)
    | succ n =>
      rw [show nI (n + 1) - 1 = nI n from nI_pred n]
      rw [nI_ltI (a := n) (b := j) (by omega) hj, nI_ltI (a := j) (b := n + 1) hj (by omega)]
      omega
theorem zsail {σ : zS} {nb ns h : Nat} {v : Int32} (hC : zC σ nb ns h) : (¬ v < 0 ∧ ¬ (σ 0 4 - 1) < v) ↔ f_sail σ v := by
  unfold f_sail
  rw [hC.2.2.1]
  exact zpred hC.2.2.2.1
theorem zbeds {σ : zS} {nb ns h : Nat} {v : Int32} (hC : zC σ nb ns h) : (¬ v < 0 ∧ ¬ (σ 0 3 - 1) < v) ↔ f_has σ v := by
  unfold f_has
  rw [hC.1]
  have h1 := zpred (v := v) (n := nb) (by have := hC.2.1; omega)
  rw [h1, Int32.not_le]
theorem zn_w3 {v : Int32} : v < 3 ↔ ¬ 2 < v := by
  rw [Int32.lt_iff_toInt_lt, Int32.lt_iff_toInt_lt]
  have h3 : (3 : Int32).toInt = 3 := by decide
  have h2 : (2 : Int32).toInt = 2 := by decide
  omega
