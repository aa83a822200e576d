theorem zar1 (x p : Int32) : x - (p + 2) = x + (-p - 2) := by
  rw [Int32.sub_eq_add_neg, Int32.neg_add, Int32.sub_eq_add_neg]
theorem zloud {σ : zS} {h k w : Nat} (ew : σ 6 k = nI w) (hw : w < 3) : (2 : Int32) * nI ((h % 24 + 24 - ((σ 6 k).toNatClampNeg + 1) * 8) % 24) = nI (2 * (8 * ((h % 24 / 8 + 2 - w) % 3) + h % 8)) := by
  rw [ew, nI_clamp (by omega), show (2 : Int32) = nI 2 from rfl, pk_mul]
  have e : (h % 24 + 24 - (w + 1) * 8) % 24 = 8 * ((h % 24 / 8 + 2 - w) % 3) + h % 8 := by
    rcases (show w = 0 ∨ w = 1 ∨ w = 2 by omega) with rfl | rfl | rfl <;> omega
  rw [e]
theorem zsk.lies {σ : zS} {nb B k : Nat} (hs : zsk σ nb B k) (c : σ 12 k = 1) : ∃ b, b < nb ∧ σ 13 k = nI b := by
  rcases hs.2.2.2.1 with ⟨-, z⟩ | ⟨z, -⟩
  · exact z
  · rcases z with z | z <;> (rw [c] at z; exact absurd z (by decide))
theorem zsk.nolies {σ : zS} {nb B k : Nat} (hs : zsk σ nb B k) (c : ¬ σ 12 k = 1) : σ 13 k = -1 := by
  rcases hs.2.2.2.1 with ⟨z, -⟩ | ⟨-, z⟩
  · exact absurd z c
  · exact z
theorem zsk.own {σ : zS} {nb B k : Nat} (hs : zsk σ nb B k) (c : ¬ σ 11 k = -1) : ∃ b, b < nb ∧ σ 11 k = nI b := hs.2.2.1.resolve_left c
theorem zhas_m1 {σ : zS} : ¬ f_has σ (-1) := fun z => z.1 (by decide)
theorem zfree_m1 {σ : zS} : ¬ f_free σ (-1) := fun z => zhas_m1 z.1
theorem zchoose {σ : zS} {nb ns h B k : Nat} (hC : zC σ nb ns h) (hs : zsk σ nb B k) : f_choose σ nb k = -1 ∨ ∃ b, b < nb ∧ f_choose σ nb k = nI b := by
  unfold f_choose
  split
  · rename_i hf
    obtain ⟨b, hb, e⟩ := zhas_of hC hf.1
    exact Or.inr ⟨b, hb, e⟩
  · exact zch σ nb
def f_pay2 (σ : zS) (k : Nat) : zS := if f_can (f_pay σ k) k then f_red (f_pay σ k) k else f_pay σ k
theorem zinto (X : zS) (k b : Nat) {p : Int32} (hp : X 1 b = p) : f_into X k b = zs (zs (zs (zs (zs (zs X 9 k (X 9 k + -p)) 12 k 1) 13 k (nI b)) 5 b (nI k)) 3 b (X 3 b + 1)) 4 b (X 4 b + p) := by
  subst hp
  unfold f_into
  rw [Int32.sub_eq_add_neg, zs_swap _ (r1 := 3) (r2 := 5) (by decide), zs_swap _ (r1 := 4) (r2 := 5) (by decide), zs_swap _ (r1 := 4) (r2 := 3) (by decide)]

set_option maxHeartbeats 4000000 in
set_option maxRecDepth 100000 in
theorem c_X4_gets (l : Launch) (D : va_G) (cI : ClassId) (μ : Nat → Nat) (th : Int32) (σ : zS) (κ : Nat → Int32) {k : Nat} (hk : k < 10) (v : Int32) : zMI l yX4_gets wsX4_gets ({ frames := 1, cells := 0, slots := 0, locals := 23 }) [.ref (μ 0), .int (nI k), .int v] D [(cI, .int)] (zw_M cI μ th σ (κ)) (zw_M cI μ th (f_earn σ k v) (κ)) (fun r => r = (f_earn σ k v) 9 k) := by
  intro sz
  refine Met.ofW (cc := cX4_gets) (maxL := 3) (ret := (some .int)) (by decide) rfl ?_
  intro p e s m args below meth c s₁ B hml hv
  obtain ⟨rfl, hsz, hP, hK, hD⟩ := hv
  have hx := B.exec
  have hb := B.bytes
  have hr := B.returns
  have hts := atoms_spec (ws := wsX4_gets) B.pre
  have hown : s.vm.findClass RX4 = some m.cls := findClass_of_methodNamed B.named
  have hlocks := B.notSynchronized
  subst hsz
  have hD := hD.self (sz := s.heap.size)
  generalize hAe : va_A (zw_M cI μ th σ (κ)) s.heap.size = A at hD ⊢
  have hA : ∀ q : Nat, s.heap.size ≤ q → A q := fun q h => by rw [← hAe]; exact Or.inr h
  have hS : va_S A s.heap s.heap [] := va_S.rf
  have hP : va_P D vwCl (zw_M cI μ th σ (κ)) s.heap := hP
  have hl := lv_entry ([.ref (μ 0), .int (nI k), .int v]) (n := 3) (Nat.le_of_ble_eq_true rfl)
  rw [lg_entry_eq]
  generalize (lg_sl ([.ref (μ 0), .int (nI k), .int v]) ++ List.replicate (3 - (lg_sl ([.ref (μ 0), .int (nI k), .int v])).length) Slot.unset).toArray = ls at hl ⊢
  have hl : lv_has ls 3 [(0, .ref (μ 0)), (1, .int (nI k)), (2, .int v)] := hl
  have hcomin := hts (.code Lib.Math.min.name Lib.Math.min.code 2 (some .int)) (by decide +kernel)
  have hinM := hts (.initialized "java/lang/Math") (by decide +kernel)
  have hml71 := hts (.methodLink RX4 71 Lib.Math.min.name) (by decide +kernel)
  have hstmin := hts (.static Lib.Math.min.name) (by decide +kernel)
  refine lv_aload_n hx hb dX4_gets_0 rfl (lv_at hl 0 rfl) ?_
  refine lv_iload_n hx hb dX4_gets_1 rfl (lv_at hl 1 rfl) ?_
  refine lv_iconst (v := 1) hx hb dX4_gets_2 (by decide) ?_
  refine lv_bipush (v := 99) hx hb dX4_gets_3 (by decide) ?_
  refine lv_aload_n hx hb dX4_gets_5 rfl (lv_at hl 0 rfl) ?_
  refine lv_iload_n hx hb dX4_gets_6 rfl (lv_at hl 1 rfl) ?_
  refine lv_iconst (v := 1) hx hb dX4_gets_7 (by decide) ?_
  refine zk_R (D := D) (va_runV (As := [.int (nI k), .int 1]) (rest := [.int 99, .int 1, .int (nI k), .ref (μ 0)]) ⟨hx, hb, hml, hown, hts⟩ (c_X4_sa l D cI μ th σ (κ) (k := k) (w := 1) hk (by decide) _) (cwV 2 hts gX4_gets_X4_sa rfl rfl rfl zdX4_sa ⟨Nat.le_of_ble_eq_true rfl, Nat.le_of_ble_eq_true rfl⟩) ⟨zbl _, va_recv hK hP (ci := 4) (q0 := 0) rfl rfl, zpr hK hP hD⟩ rfl rfl hl.1 rfl (lv_room (Nat.le_of_ble_eq_true rfl)) dX4_gets_8 ⟨Nat.zero_le _, Nat.zero_le _⟩) hS (fun r_1 H locs hw hkp hS => ?_)
  have hP := hkp _ hP
  have hw : r_1 = σ 9 k := hw
  subst hw
  refine lv_iload_n hx hb dX4_gets_11 rfl (lv_at hl 2 rfl) ?_
  refine lv_iadd hx hb dX4_gets_12 ?_
  refine va_mmin hx hb (hml.trans hl.1.symm) hown hml71 hstmin hinM hcomin (Nat.le_of_ble_eq_true rfl) (Nat.le_of_ble_eq_true rfl) (Nat.zero_le _) (Nat.zero_le _) dX4_gets_13 ?_
  have hF := zfree hD hS hA
  refine zk_V (va_runV (As := [.int (nI k), .int 1, .int (f_min99 ((σ 9 k) + v))]) (rest := []) ⟨hx, hb, hml, hown, hts⟩ (c_X4_let l D cI μ th σ (κ) (k := k) (w := 1) hk (by decide) (f_min99 ((σ 9 k) + v)) _) (cwV 3 hts gX4_gets_X4_let rfl rfl rfl zdX4_let ⟨Nat.le_of_ble_eq_true rfl, Nat.le_of_ble_eq_true rfl⟩) ⟨zbl _, va_recv hK hP (ci := 4) (q0 := 0) rfl rfl, zpr hK hP hD⟩ rfl rfl hl.1 rfl (lv_room (Nat.le_of_ble_eq_true rfl)) dX4_gets_16 ⟨Nat.zero_le _, Nat.zero_le _⟩) hS hF (fun H locs hkp hP1 hD1 hS => ?_)
  have hP := hP1
  have hD := hD1.weaken (fun _ _ _ z => hF _ z)
  have hP : va_P D vwCl (zw_M cI μ th (zs σ 9 k (f_min99 ((σ 9 k) + v))) (κ)) H := hP
  have hD : va_D A (zw_M cI μ th (zs σ 9 k (f_min99 ((σ 9 k) + v))) (κ)) := hD
  refine lv_aload_n hx hb dX4_gets_19 rfl (lv_at hl 0 rfl) ?_
  refine lv_iload_n hx hb dX4_gets_20 rfl (lv_at hl 1 rfl) ?_
  refine lv_iconst (v := 1) hx hb dX4_gets_21 (by decide) ?_
  refine zk_R (D := D) (va_runV (As := [.int (nI k), .int 1]) (rest := []) ⟨hx, hb, hml, hown, hts⟩ (c_X4_sa l D cI μ th (zs σ 9 k (f_min99 ((σ 9 k) + v))) (κ) (k := k) (w := 1) hk (by decide) _) (cwV 2 hts gX4_gets_X4_sa rfl rfl rfl zdX4_sa ⟨Nat.le_of_ble_eq_true rfl, Nat.le_of_ble_eq_true rfl⟩) ⟨zbl _, va_recv hK hP (ci := 4) (q0 := 0) rfl rfl, zpr hK hP hD⟩ rfl rfl hl.1 rfl (lv_room (Nat.le_of_ble_eq_true rfl)) dX4_gets_22 ⟨Nat.zero_le _, Nat.zero_le _⟩) hS (fun r_2 H locs hw hkp hS => ?_)
  have hP := hkp _ hP
  have hw : r_2 = f_min99 ((σ 9 k) + v) := by have h9 : r_2 = (zs σ 9 k (f_min99 ((σ 9 k) + v))) 9 k := hw; simpa [zs_at] using h9
  subst hw
  have e9 : f_earn σ k v = zs σ 9 k (f_min99 ((σ 9 k) + v)) := by simp only [f_earn]
  have hP9 : va_P D vwCl (zw_M cI μ th (f_earn σ k v) (κ)) H := by rw [e9]; exact hP
  have hD9 : va_D A (zw_M cI μ th (f_earn σ k v) (κ)) := by rw [e9]; exact hD
  exact W.iret (v := f_min99 ((σ 9 k) + v)) hx hb hr (fun t ht hW => ⟨⟨f_min99 ((σ 9 k) + v), (), rfl, (by simp [f_earn, zs_at]), by rw [ht]; exact hP9, va_K.moved hW.alike hK, hD9⟩, hS.F ht⟩) hS.2.2 dX4_gets_25

set_option maxHeartbeats 4000000 in
set_option maxRecDepth 100000 in
theorem c_X4_pawns (l : Launch) (D : va_G) (cI : ClassId) (μ : Nat → Nat) (th : Int32) (σ : zS) (κ : Nat → Int32) {k : Nat} (hk : k < 10) : zMI l yX4_pawns wsX4_pawns ({ frames := 2, cells := 0, slots := 0, locals := 45 }) [.ref (μ 0), .int (nI k)] D [(cI, .int)] (zw_M cI μ th σ (κ)) (zw_M cI μ th (f_pawnB σ k) (κ)) (fun r => r = (f_pawnB σ k) 9 k) := by
  intro sz
  refine Met.ofW (cc := cX4_pawns) (maxL := 2) (ret := (some .int)) (by decide) rfl ?_
  intro p e s m args below meth c s₁ B hml hv
  obtain ⟨rfl, hsz, hP, hK, hD⟩ := hv
  have hx := B.exec
  have hb := B.bytes
  have hr := B.returns
  have hts := atoms_spec (ws := wsX4_pawns) B.pre
  have hown : s.vm.findClass RX4 = some m.cls := findClass_of_methodNamed B.named
  have hlocks := B.notSynchronized
  subst hsz
  have hD := hD.self (sz := s.heap.size)
  generalize hAe : va_A (zw_M cI μ th σ (κ)) s.heap.size = A at hD ⊢
  have hA : ∀ q : Nat, s.heap.size ≤ q → A q := fun q h => by rw [← hAe]; exact Or.inr h
  have hS : va_S A s.heap s.heap [] := va_S.rf
  have hP : va_P D vwCl (zw_M cI μ th σ (κ)) s.heap := hP
  have hl := lv_entry ([.ref (μ 0), .int (nI k)]) (n := 2) (Nat.le_of_ble_eq_true rfl)
  rw [lg_entry_eq]
  generalize (lg_sl ([.ref (μ 0), .int (nI k)]) ++ List.replicate (2 - (lg_sl ([.ref (μ 0), .int (nI k)])).length) Slot.unset).toArray = ls at hl ⊢
  have hl : lv_has ls 2 [(0, .ref (μ 0)), (1, .int (nI k))] := hl
  have hf19 := hts (.fieldLink RX4 19 "HotBedsModel" "now" "[I") (by decide +kernel)
  have hinX4 : ∀ w ∈ u_ws RX4 TX4 8, w ∈ wsX4_pawns := by decide +kernel
  refine lv_aload_n hx hb dX4_pawns_0 rfl (lv_at hl 0 rfl) ?_
  refine lv_iload_n hx hb dX4_pawns_1 rfl (lv_at hl 1 rfl) ?_
  refine lv_iconst (v := 2) hx hb dX4_pawns_2 (by decide) ?_
  refine lv_iconst (v := 0) hx hb dX4_pawns_3 (by decide) ?_
  have hF := zfree hD hS hA
  refine zk_V (va_runV (As := [.int (nI k), .int 2, .int 0]) (rest := []) ⟨hx, hb, hml, hown, hts⟩ (c_X4_let l D cI μ th σ (κ) (k := k) (w := 2) hk (by decide) 0 _) (cwV 3 hts gX4_pawns_X4_let rfl rfl rfl zdX4_let ⟨Nat.le_of_ble_eq_true rfl, Nat.le_of_ble_eq_true rfl⟩) ⟨zbl _, va_recv hK hP (ci := 4) (q0 := 0) rfl rfl, zpr hK hP hD⟩ rfl rfl hl.1 rfl (lv_room (Nat.le_of_ble_eq_true rfl)) dX4_pawns_4 ⟨Nat.zero_le _, Nat.zero_le _⟩) hS hF (fun H locs hkp hP1 hD1 hS => ?_)
  have hP := hP1
  have hD := hD1.weaken (fun _ _ _ z => hF _ z)
  have hP : va_P D vwCl (zw_M cI μ th (zs σ 10 k 0) (κ)) H := hP
  have hD : va_D A (zw_M cI μ th (zs σ 10 k 0) (κ)) := hD
  refine lv_aload_n hx hb dX4_pawns_7 rfl (lv_at hl 0 rfl) ?_
  refine lv_iload_n hx hb dX4_pawns_8 rfl (lv_at hl 1 rfl) ?_
  refine lv_aload_n hx hb dX4_pawns_9 rfl (lv_at hl 0 rfl) ?_
  refine va_get (D := D) (ci := 4) (v := .ref (μ 4)) (C := RX4) (T := TX4) (N := 8) hx hb hts hinX4 hown hK hP 0 rfl rfl 6 (by decide) hf19 (fun _ h9 => h9) rfl dX4_pawns_10 ?_
  refine lv_iconst (v := 2) hx hb dX4_pawns_13 (by decide) ?_
  refine zk_ld hx hb hK hP 4 0 rfl rfl (k := 2) (by omega) (by decide) (v := σ 0 2) (zenc_0 (zs σ 10 k 0) (by decide)) dX4_pawns_14 ?_
  have hF := zfree hD hS hA
  refine zk_I (va_runV (As := [.int (nI k), .int (σ 0 2)]) (rest := []) ⟨hx, hb, hml, hown, hts⟩ (c_X4_gets l D cI μ th (zs σ 10 k 0) (κ) (k := k) hk (σ 0 2) _) (cwV 2 hts gX4_pawns_X4_gets rfl rfl rfl zdX4_gets ⟨Nat.le_of_ble_eq_true rfl, Nat.le_of_ble_eq_true rfl⟩) ⟨zbl _, va_recv hK hP (ci := 4) (q0 := 0) rfl rfl, zpr hK hP hD⟩ rfl rfl hl.1 rfl (lv_room (Nat.le_of_ble_eq_true rfl)) dX4_pawns_15 ⟨Nat.zero_le _, Nat.zero_le _⟩) hS hF (fun r_1 H locs hw hkp hP1 hD1 hS => ?_)
  have hP := hP1
  have hD := hD1.weaken (fun _ _ _ z => hF _ z)
  have hP : va_P D vwCl (zw_M cI μ th (f_earn (zs σ 10 k 0) k (σ 0 2)) (κ)) H := hP
  have hD : va_D A (zw_M cI μ th (f_earn (zs σ 10 k 0) k (σ 0 2)) (κ)) := hD
  have hw : r_1 = (f_earn (zs σ 10 k 0) k (σ 0 2)) 9 k := hw
  subst hw
  have e9 : f_pawnB σ k = f_earn (zs σ 10 k 0) k (σ 0 2) := by simp only [f_pawnB]
  have hP9 : va_P D vwCl (zw_M cI μ th (f_pawnB σ k) (κ)) H := by rw [e9]; exact hP
  have hD9 : va_D A (zw_M cI μ th (f_pawnB σ k) (κ)) := by rw [e9]; exact hD
  exact W.iret (v := (f_earn (zs σ 10 k 0) k (σ 0 2)) 9 k) hx hb hr (fun t ht hW => ⟨⟨(f_earn (zs σ 10 k 0) k (σ 0 2)) 9 k, (), rfl, rfl, by rw [ht]; exact hP9, va_K.moved hW.alike hK, hD9⟩, hS.F ht⟩) hS.2.2 dX4_pawns_18

set_option maxHeartbeats 4000000 in
set_option maxRecDepth 100000 in
theorem c_X4_canRedeem (l : Launch) (D : va_G) (cI : ClassId) (μ : Nat → Nat) (th : Int32) (σ : zS) (κ : Nat → Int32) {k : Nat} (hk : k < 10) (hbo : σ 10 k = 0 ∨ σ 10 k = 1) : zMR l yX4_canRedeem wsX4_canRedeem ({ frames := 1, cells := 0, slots := 0, locals := 22 }) [.ref (μ 0), .int (nI k)] D [(cI, .int)] (zw_M cI μ th σ (κ)) (zb (f_can σ k)) := by
  intro sz
  refine Met.ofW (cc := cX4_canRedeem) (maxL := 2) (ret := (some .boolean)) (by decide) rfl ?_
  intro p e s m args below meth c s₁ B hml hv
  obtain ⟨rfl, hsz, hP, hK, hD⟩ := hv
  have hx := B.exec
  have hb := B.bytes
  have hr := B.returns
  have hts := atoms_spec (ws := wsX4_canRedeem) B.pre
  have hown : s.vm.findClass RX4 = some m.cls := findClass_of_methodNamed B.named
  have hlocks := B.notSynchronized
  have hS : va_S (fun _ => False) s.heap s.heap [] := va_S.rf
  have hP : va_P D vwCl (zw_M cI μ th σ (κ)) s.heap := hP
  have hl := lv_entry ([.ref (μ 0), .int (nI k)]) (n := 2) (Nat.le_of_ble_eq_true rfl)
  rw [lg_entry_eq]
  generalize (lg_sl ([.ref (μ 0), .int (nI k)]) ++ List.replicate (2 - (lg_sl ([.ref (μ 0), .int (nI k)])).length) Slot.unset).toArray = ls at hl ⊢
  have hl : lv_has ls 2 [(0, .ref (μ 0)), (1, .int (nI k))] := hl
  have hf19 := hts (.fieldLink RX4 19 "HotBedsModel" "now" "[I") (by decide +kernel)
  have hinX4 : ∀ w ∈ u_ws RX4 TX4 8, w ∈ wsX4_canRedeem := by decide +kernel
  refine lv_aload_n hx hb dX4_canRedeem_0 rfl (lv_at hl 0 rfl) ?_
  refine lv_iload_n hx hb dX4_canRedeem_1 rfl (lv_at hl 1 rfl) ?_
  refine lv_iconst (v := 2) hx hb dX4_canRedeem_2 (by decide) ?_
  refine zk_R (D := D) (va_runV (As := [.int (nI k), .int 2]) (rest := []) ⟨hx, hb, hml, hown, hts⟩ (c_X4_sa l D cI μ th σ (κ) (k := k) (w := 2) hk (by decide) _) (cwV 2 hts gX4_canRedeem_X4_sa rfl rfl rfl zdX4_sa ⟨Nat.le_of_ble_eq_true rfl, Nat.le_of_ble_eq_true rfl⟩) ⟨zbl _, va_recv hK hP (ci := 4) (q0 := 0) rfl rfl, zpr hK hP hD⟩ rfl rfl hl.1 rfl (lv_room (Nat.le_of_ble_eq_true rfl)) dX4_canRedeem_3 ⟨Nat.zero_le _, Nat.zero_le _⟩) hS (fun r_1 H locs hw hkp hS => ?_)
  have hP := hkp _ hP
  have hw : r_1 = σ 10 k := hw
  subst hw
  refine lv_if_ne (tgt := 30) hx hb dX4_canRedeem_6 (by decide) (fun c_2 => ?_) (fun c_2 => ?_)
  · have c_2b : σ 10 k = 1 := hbo.resolve_left c_2
    refine lv_iconst (v := 0) hx hb dX4_canRedeem_30 (by decide) ?_
    exact W.zret (v := 0) hx hb hr rfl (fun t ht hW => ⟨⟨0, (), rfl, Or.inr ⟨(fun z => z.1 c_2b), rfl⟩, trivial⟩, hS.F ht⟩) hS.2.2 dX4_canRedeem_31
  · have c_2b : ¬ σ 10 k = 1 := by rw [c_2]; decide
    refine lv_aload_n hx hb dX4_canRedeem_9 rfl (lv_at hl 0 rfl) ?_
    refine lv_iload_n hx hb dX4_canRedeem_10 rfl (lv_at hl 1 rfl) ?_
    refine lv_iconst (v := 1) hx hb dX4_canRedeem_11 (by decide) ?_
    refine zk_R (D := D) (va_runV (As := [.int (nI k), .int 1]) (rest := []) ⟨hx, hb, hml, hown, hts⟩ (c_X4_sa l D cI μ th σ (κ) (k := k) (w := 1) hk (by decide) _) (cwV 2 hts gX4_canRedeem_X4_sa rfl rfl rfl zdX4_sa ⟨Nat.le_of_ble_eq_true rfl, Nat.le_of_ble_eq_true rfl⟩) ⟨zbl _, va_recv hK hP (ci := 4) (q0 := 0) rfl rfl, zpr hK hP hD⟩ rfl rfl hl.1 rfl (lv_room (Nat.le_of_ble_eq_true rfl)) dX4_canRedeem_12 ⟨Nat.zero_le _, Nat.zero_le _⟩) hS (fun r_3 H locs hw hkp hS => ?_)
    have hP := hkp _ hP
    have hw : r_3 = σ 9 k := hw
    subst hw
    refine lv_aload_n hx hb dX4_canRedeem_15 rfl (lv_at hl 0 rfl) ?_
    refine va_get (D := D) (ci := 4) (v := .ref (μ 4)) (C := RX4) (T := TX4) (N := 8) hx hb hts hinX4 hown hK hP 0 rfl rfl 6 (by decide) hf19 (fun _ h9 => h9) rfl dX4_canRedeem_16 ?_
    refine lv_iconst (v := 2) hx hb dX4_canRedeem_19 (by decide) ?_
    refine zk_ld hx hb hK hP 4 0 rfl rfl (k := 2) (by omega) (by decide) (v := σ 0 2) (zenc_0 σ (by decide)) dX4_canRedeem_20 ?_
    refine lv_iconst (v := 2) hx hb dX4_canRedeem_21 (by decide) ?_
    refine lv_iadd hx hb dX4_canRedeem_22 ?_
    refine lv_icmp_lt (tgt := 30) hx hb dX4_canRedeem_23 (by decide) (fun c_4 => ?_) (fun c_4 => ?_)
    · refine lv_iconst (v := 0) hx hb dX4_canRedeem_30 (by decide) ?_
      exact W.zret (v := 0) hx hb hr rfl (fun t ht hW => ⟨⟨0, (), rfl, Or.inr ⟨(fun z => z.2 c_4), rfl⟩, trivial⟩, hS.F ht⟩) hS.2.2 dX4_canRedeem_31
    · refine lv_iconst (v := 1) hx hb dX4_canRedeem_26 (by decide) ?_
      refine lv_goto (tgt := 31) hx hb dX4_canRedeem_27 (by decide) ?_
      exact W.zret (v := 1) hx hb hr rfl (fun t ht hW => ⟨⟨1, (), rfl, Or.inl ⟨⟨c_2b, c_4⟩, rfl⟩, trivial⟩, hS.F ht⟩) hS.2.2 dX4_canRedeem_31

set_option maxHeartbeats 4000000 in
set_option maxRecDepth 100000 in
theorem c_X4_redeems (l : Launch) (D : va_G) (cI : ClassId) (μ : Nat → Nat) (th : Int32) (σ : zS) (κ : Nat → Int32) {k : Nat} (hk : k < 10) : zMI l yX4_redeems wsX4_redeems ({ frames := 1, cells := 0, slots := 0, locals := 23 }) [.ref (μ 0), .int (nI k)] D [(cI, .int)] (zw_M cI μ th σ (κ)) (zw_M cI μ th (f_red σ k) (κ)) (fun r => r = (f_red σ k) 9 k) := by
  intro sz
  refine Met.ofW (cc := cX4_redeems) (maxL := 2) (ret := (some .int)) (by decide) rfl ?_
  intro p e s m args below meth c s₁ B hml hv
  obtain ⟨rfl, hsz, hP, hK, hD⟩ := hv
  have hx := B.exec
  have hb := B.bytes
  have hr := B.returns
  have hts := atoms_spec (ws := wsX4_redeems) B.pre
  have hown : s.vm.findClass RX4 = some m.cls := findClass_of_methodNamed B.named
  have hlocks := B.notSynchronized
  subst hsz
  have hD := hD.self (sz := s.heap.size)
  generalize hAe : va_A (zw_M cI μ th σ (κ)) s.heap.size = A at hD ⊢
  have hA : ∀ q : Nat, s.heap.size ≤ q → A q := fun q h => by rw [← hAe]; exact Or.inr h
  have hS : va_S A s.heap s.heap [] := va_S.rf
  have hP : va_P D vwCl (zw_M cI μ th σ (κ)) s.heap := hP
  have hl := lv_entry ([.ref (μ 0), .int (nI k)]) (n := 2) (Nat.le_of_ble_eq_true rfl)
  rw [lg_entry_eq]
  generalize (lg_sl ([.ref (μ 0), .int (nI k)]) ++ List.replicate (2 - (lg_sl ([.ref (μ 0), .int (nI k)])).length) Slot.unset).toArray = ls at hl ⊢
  have hl : lv_has ls 2 [(0, .ref (μ 0)), (1, .int (nI k))] := hl
  have hf19 := hts (.fieldLink RX4 19 "HotBedsModel" "now" "[I") (by decide +kernel)
  have hinX4 : ∀ w ∈ u_ws RX4 TX4 8, w ∈ wsX4_redeems := by decide +kernel
  refine lv_aload_n hx hb dX4_redeems_0 rfl (lv_at hl 0 rfl) ?_
  refine lv_iload_n hx hb dX4_redeems_1 rfl (lv_at hl 1 rfl) ?_
  refine lv_iconst (v := 2) hx hb dX4_redeems_2 (by decide) ?_
  refine lv_iconst (v := 1) hx hb dX4_redeems_3 (by decide) ?_
  have hF := zfree hD hS hA
  refine zk_V (va_runV (As := [.int (nI k), .int 2, .int 1]) (rest := []) ⟨hx, hb, hml, hown, hts⟩ (c_X4_let l D cI μ th σ (κ) (k := k) (w := 2) hk (by decide) 1 _) (cwV 3 hts gX4_redeems_X4_let rfl rfl rfl zdX4_let ⟨Nat.le_of_ble_eq_true rfl, Nat.le_of_ble_eq_true rfl⟩) ⟨zbl _, va_recv hK hP (ci := 4) (q0 := 0) rfl rfl, zpr hK hP hD⟩ rfl rfl hl.1 rfl (lv_room (Nat.le_of_ble_eq_true rfl)) dX4_redeems_4 ⟨Nat.zero_le _, Nat.zero_le _⟩) hS hF (fun H locs hkp hP1 hD1 hS => ?_)
  have hP := hP1
  have hD := hD1.weaken (fun _ _ _ z => hF _ z)
  have hP : va_P D vwCl (zw_M cI μ th (zs σ 10 k 1) (κ)) H := hP
  have hD : va_D A (zw_M cI μ th (zs σ 10 k 1) (κ)) := hD
  refine lv_aload_n hx hb dX4_redeems_7 rfl (lv_at hl 0 rfl) ?_
  refine lv_iload_n hx hb dX4_redeems_8 rfl (lv_at hl 1 rfl) ?_
  refine lv_iconst (v := 1) hx hb dX4_redeems_9 (by decide) ?_
  refine lv_aload_n hx hb dX4_redeems_10 rfl (lv_at hl 0 rfl) ?_
  refine va_get (D := D) (ci := 4) (v := .ref (μ 4)) (C := RX4) (T := TX4) (N := 8) hx hb hts hinX4 hown hK hP 0 rfl rfl 6 (by decide) hf19 (fun _ h9 => h9) rfl dX4_redeems_11 ?_
  refine lv_iconst (v := 2) hx hb dX4_redeems_14 (by decide) ?_
  refine zk_ld hx hb hK hP 4 0 rfl rfl (k := 2) (by omega) (by decide) (v := σ 0 2) (zenc_0 (zs σ 10 k 1) (by decide)) dX4_redeems_15 ?_
  refine lv_ineg hx hb dX4_redeems_16 ?_
  refine lv_iconst (v := 2) hx hb dX4_redeems_17 (by decide) ?_
  refine lv_isub hx hb dX4_redeems_18 ?_
  have hF := zfree hD hS hA
  refine zk_V (va_runV (As := [.int (nI k), .int 1, .int ((-(σ 0 2)) - 2)]) (rest := []) ⟨hx, hb, hml, hown, hts⟩ (c_X4_more l D cI μ th (zs σ 10 k 1) (κ) (k := k) (w := 1) hk (by decide) ((-(σ 0 2)) - 2) _) (cwV 3 hts gX4_redeems_X4_more rfl rfl rfl zdX4_more ⟨Nat.le_of_ble_eq_true rfl, Nat.le_of_ble_eq_true rfl⟩) ⟨zbl _, va_recv hK hP (ci := 4) (q0 := 0) rfl rfl, zpr hK hP hD⟩ rfl rfl hl.1 rfl (lv_room (Nat.le_of_ble_eq_true rfl)) dX4_redeems_19 ⟨Nat.zero_le _, Nat.zero_le _⟩) hS hF (fun H locs hkp hP1 hD1 hS => ?_)
  have hP := hP1
  have hD := hD1.weaken (fun _ _ _ z => hF _ z)
  have hP : va_P D vwCl (zw_M cI μ th (zs (zs σ 10 k 1) 9 k (((zs σ 10 k 1) 9 k) + ((-(σ 0 2)) - 2))) (κ)) H := hP
  have hD : va_D A (zw_M cI μ th (zs (zs σ 10 k 1) 9 k (((zs σ 10 k 1) 9 k) + ((-(σ 0 2)) - 2))) (κ)) := hD
  refine lv_aload_n hx hb dX4_redeems_22 rfl (lv_at hl 0 rfl) ?_
  refine lv_iload_n hx hb dX4_redeems_23 rfl (lv_at hl 1 rfl) ?_
  refine lv_iconst (v := 1) hx hb dX4_redeems_24 (by decide) ?_
  refine zk_R (D := D) (va_runV (As := [.int (nI k), .int 1]) (rest := []) ⟨hx, hb, hml, hown, hts⟩ (c_X4_sa l D cI μ th (zs (zs σ 10 k 1) 9 k (((zs σ 10 k 1) 9 k) + ((-(σ 0 2)) - 2))) (κ) (k := k) (w := 1) hk (by decide) _) (cwV 2 hts gX4_redeems_X4_sa rfl rfl rfl zdX4_sa ⟨Nat.le_of_ble_eq_true rfl, Nat.le_of_ble_eq_true rfl⟩) ⟨zbl _, va_recv hK hP (ci := 4) (q0 := 0) rfl rfl, zpr hK hP hD⟩ rfl rfl hl.1 rfl (lv_room (Nat.le_of_ble_eq_true rfl)) dX4_redeems_25 ⟨Nat.zero_le _, Nat.zero_le _⟩) hS (fun r_1 H locs hw hkp hS => ?_)
  have hP := hkp _ hP
  have hw : r_1 = ((zs σ 10 k 1) 9 k) + ((-(σ 0 2)) - 2) := by have h9 : r_1 = (zs (zs σ 10 k 1) 9 k (((zs σ 10 k 1) 9 k) + ((-(σ 0 2)) - 2))) 9 k := hw; simpa [zs_at] using h9
  subst hw
  have e8 : f_red σ k = zs (zs σ 10 k 1) 9 k (((zs σ 10 k 1) 9 k) + ((-(σ 0 2)) - 2)) := by
    rw [f_red, zs_swap σ (by decide), zar1]
    rfl
  have e9 : f_red σ k = zs (zs σ 10 k 1) 9 k (((zs σ 10 k 1) 9 k) + ((-(σ 0 2)) - 2)) := by exact e8
  have hP9 : va_P D vwCl (zw_M cI μ th (f_red σ k) (κ)) H := by rw [e9]; exact hP
  have hD9 : va_D A (zw_M cI μ th (f_red σ k) (κ)) := by rw [e9]; exact hD
  exact W.iret (v := ((zs σ 10 k 1) 9 k) + ((-(σ 0 2)) - 2)) hx hb hr (fun t ht hW => ⟨⟨((zs σ 10 k 1) 9 k) + ((-(σ 0 2)) - 2), (), rfl, (by rw [e8]; simp [zs_at]), by rw [ht]; exact hP9, va_K.moved hW.alike hK, hD9⟩, hS.F ht⟩) hS.2.2 dX4_redeems_28

set_option maxHeartbeats 4000000 in
set_option maxRecDepth 100000 in
theorem c_X4_getsUp (l : Launch) (D : va_G) (cI : ClassId) (μ : Nat → Nat) (th : Int32) (σ : zS) (κ : Nat → Int32) {k B : Nat} {nb ns h : Nat} (hC : zC σ nb ns h) (hk : k < 10) (hs : zsk σ nb B k) : zMV l yX4_getsUp wsX4_getsUp ({ frames := 1, cells := 0, slots := 0, locals := 23 }) [.ref (μ 0), .int (nI k)] D [(cI, .int)] (zw_M cI μ th σ (κ)) (zw_M cI μ th (f_getUp σ k) (κ)) := by
  intro sz
  refine Met.ofW (cc := cX4_getsUp) (maxL := 2) (ret := none) (by decide) rfl ?_
  intro p e s m args below meth c s₁ B hml hv
  obtain ⟨rfl, hsz, hP, hK, hD⟩ := hv
  have hx := B.exec
  have hb := B.bytes
  have hr := B.returns
  have hts := atoms_spec (ws := wsX4_getsUp) B.pre
  have hown : s.vm.findClass RX4 = some m.cls := findClass_of_methodNamed B.named
  have hlocks := B.notSynchronized
  subst hsz
  have hD := hD.self (sz := s.heap.size)
  generalize hAe : va_A (zw_M cI μ th σ (κ)) s.heap.size = A at hD ⊢
  have hA : ∀ q : Nat, s.heap.size ≤ q → A q := fun q h => by rw [← hAe]; exact Or.inr h
  have hS : va_S A s.heap s.heap [] := va_S.rf
  have hP : va_P D vwCl (zw_M cI μ th σ (κ)) s.heap := hP
  have hl := lv_entry ([.ref (μ 0), .int (nI k)]) (n := 2) (Nat.le_of_ble_eq_true rfl)
  rw [lg_entry_eq]
  generalize (lg_sl ([.ref (μ 0), .int (nI k)]) ++ List.replicate (2 - (lg_sl ([.ref (μ 0), .int (nI k)])).length) Slot.unset).toArray = ls at hl ⊢
  have hl : lv_has ls 2 [(0, .ref (μ 0)), (1, .int (nI k))] := hl
  have hnb := hC.2.1
  have hns := hC.2.2.2.1
  have hh := hC.2.2.2.2.2.1
  refine lv_aload_n hx hb dX4_getsUp_0 rfl (lv_at hl 0 rfl) ?_
  refine lv_iload_n hx hb dX4_getsUp_1 rfl (lv_at hl 1 rfl) ?_
  refine lv_iconst (v := 4) hx hb dX4_getsUp_2 (by decide) ?_
  refine zk_R (D := D) (va_runV (As := [.int (nI k), .int 4]) (rest := []) ⟨hx, hb, hml, hown, hts⟩ (c_X4_sa l D cI μ th σ (κ) (k := k) (w := 4) hk (by decide) _) (cwV 2 hts gX4_getsUp_X4_sa rfl rfl rfl zdX4_sa ⟨Nat.le_of_ble_eq_true rfl, Nat.le_of_ble_eq_true rfl⟩) ⟨zbl _, va_recv hK hP (ci := 4) (q0 := 0) rfl rfl, zpr hK hP hD⟩ rfl rfl hl.1 rfl (lv_room (Nat.le_of_ble_eq_true rfl)) dX4_getsUp_3 ⟨Nat.zero_le _, Nat.zero_le _⟩) hS (fun r_1 H locs hw hkp hS => ?_)
  have hP := hkp _ hP
  have hw : r_1 = σ 12 k := hw
  subst hw
  refine lv_iconst (v := 1) hx hb dX4_getsUp_6 (by decide) ?_
  refine lv_icmp_ne (tgt := 22) hx hb dX4_getsUp_7 (by decide) (fun c_2 => ?_) (fun c_2 => ?_)
  · have hm1 := hs.nolies c_2
    refine lv_aload_n hx hb dX4_getsUp_22 rfl (lv_at hl 0 rfl) ?_
    refine lv_iload_n hx hb dX4_getsUp_23 rfl (lv_at hl 1 rfl) ?_
    refine lv_iconst (v := 4) hx hb dX4_getsUp_24 (by decide) ?_
    refine lv_iconst (v := 0) hx hb dX4_getsUp_25 (by decide) ?_
    have hF := zfree hD hS hA
    refine zk_V (va_runV (As := [.int (nI k), .int 4, .int 0]) (rest := []) ⟨hx, hb, hml, hown, hts⟩ (c_X4_let l D cI μ th σ (κ) (k := k) (w := 4) hk (by decide) 0 _) (cwV 3 hts gX4_getsUp_X4_let rfl rfl rfl zdX4_let ⟨Nat.le_of_ble_eq_true rfl, Nat.le_of_ble_eq_true rfl⟩) ⟨zbl _, va_recv hK hP (ci := 4) (q0 := 0) rfl rfl, zpr hK hP hD⟩ rfl rfl hl.1 rfl (lv_room (Nat.le_of_ble_eq_true rfl)) dX4_getsUp_26 ⟨Nat.zero_le _, Nat.zero_le _⟩) hS hF (fun H locs hkp hP1 hD1 hS => ?_)
    have hP := hP1
    have hD := hD1.weaken (fun _ _ _ z => hF _ z)
    have hP : va_P D vwCl (zw_M cI μ th (zs σ 12 k 0) (κ)) H := hP
    have hD : va_D A (zw_M cI μ th (zs σ 12 k 0) (κ)) := hD
    refine lv_aload_n hx hb dX4_getsUp_29 rfl (lv_at hl 0 rfl) ?_
    refine lv_iload_n hx hb dX4_getsUp_30 rfl (lv_at hl 1 rfl) ?_
    refine lv_iconst (v := 5) hx hb dX4_getsUp_31 (by decide) ?_
    refine lv_iconst (v := (-1)) hx hb dX4_getsUp_32 (by decide) ?_
    have hF := zfree hD hS hA
    refine zk_V (va_runV (As := [.int (nI k), .int 5, .int (-1)]) (rest := []) ⟨hx, hb, hml, hown, hts⟩ (c_X4_let l D cI μ th (zs σ 12 k 0) (κ) (k := k) (w := 5) hk (by decide) (-1) _) (cwV 3 hts gX4_getsUp_X4_let rfl rfl rfl zdX4_let ⟨Nat.le_of_ble_eq_true rfl, Nat.le_of_ble_eq_true rfl⟩) ⟨zbl _, va_recv hK hP (ci := 4) (q0 := 0) rfl rfl, zpr hK hP hD⟩ rfl rfl hl.1 rfl (lv_room (Nat.le_of_ble_eq_true rfl)) dX4_getsUp_33 ⟨Nat.zero_le _, Nat.zero_le _⟩) hS hF (fun H locs hkp hP1 hD1 hS => ?_)
    have hP := hP1
    have hD := hD1.weaken (fun _ _ _ z => hF _ z)
    have hP : va_P D vwCl (zw_M cI μ th (zs (zs σ 12 k 0) 13 k (-1)) (κ)) H := hP
    have hD : va_D A (zw_M cI μ th (zs (zs σ 12 k 0) 13 k (-1)) (κ)) := hD
    have e9 : f_getUp σ k = zs (zs σ 12 k 0) 13 k (-1) := by rw [f_getUp, f_leave, hm1, if_neg zhas_m1, zs_swap _ (by decide)]
    have hP9 : va_P D vwCl (zw_M cI μ th (f_getUp σ k) (κ)) H := by rw [e9]; exact hP
    have hD9 : va_D A (zw_M cI μ th (f_getUp σ k) (κ)) := by rw [e9]; exact hD
    exact W.vret hx hb hr (fun t ht hW => ⟨⟨(), rfl, trivial, by rw [ht]; exact hP9, va_K.moved hW.alike hK, hD9⟩, hS.F ht⟩) hS.2.2 dX4_getsUp_36
  · obtain ⟨b, hb9, eb⟩ := hs.lies c_2
    refine lv_aload_n hx hb dX4_getsUp_10 rfl (lv_at hl 0 rfl) ?_
    refine lv_aload_n hx hb dX4_getsUp_11 rfl (lv_at hl 0 rfl) ?_
    refine lv_iload_n hx hb dX4_getsUp_12 rfl (lv_at hl 1 rfl) ?_
    refine lv_iconst (v := 5) hx hb dX4_getsUp_13 (by decide) ?_
    refine zk_R (D := D) (va_runV (As := [.int (nI k), .int 5]) (rest := [.ref (μ 0)]) ⟨hx, hb, hml, hown, hts⟩ (c_X4_sa l D cI μ th σ (κ) (k := k) (w := 5) hk (by decide) _) (cwV 2 hts gX4_getsUp_X4_sa rfl rfl rfl zdX4_sa ⟨Nat.le_of_ble_eq_true rfl, Nat.le_of_ble_eq_true rfl⟩) ⟨zbl _, va_recv hK hP (ci := 4) (q0 := 0) rfl rfl, zpr hK hP hD⟩ rfl rfl hl.1 rfl (lv_room (Nat.le_of_ble_eq_true rfl)) dX4_getsUp_14 ⟨Nat.zero_le _, Nat.zero_le _⟩) hS (fun r_3 H locs hw hkp hS => ?_)
    have hP := hkp _ hP
    have hw : r_3 = nI b := (show _ = _ from hw).trans eb
    subst hw
    refine lv_iconst (v := 3) hx hb dX4_getsUp_17 (by decide) ?_
    refine lv_iconst (v := (-1)) hx hb dX4_getsUp_18 (by decide) ?_
    have hF := zfree hD hS hA
    refine zk_V (va_runV (As := [.int (nI b), .int 3, .int (-1)]) (rest := []) ⟨hx, hb, hml, hown, hts⟩ (c_X4_letBed l D cI μ th σ (κ) (b := b) (w := 3) (by omega) (by decide) (-1) _) (cwV 3 hts gX4_getsUp_X4_letBed rfl rfl rfl zdX4_letBed ⟨Nat.le_of_ble_eq_true rfl, Nat.le_of_ble_eq_true rfl⟩) ⟨zbl _, va_recv hK hP (ci := 4) (q0 := 0) rfl rfl, zpr hK hP hD⟩ rfl rfl hl.1 rfl (lv_room (Nat.le_of_ble_eq_true rfl)) dX4_getsUp_19 ⟨Nat.zero_le _, Nat.zero_le _⟩) hS hF (fun H locs hkp hP1 hD1 hS => ?_)
    have hP := hP1
    have hD := hD1.weaken (fun _ _ _ z => hF _ z)
    have hP : va_P D vwCl (zw_M cI μ th (zs σ 5 b (-1)) (κ)) H := hP
    have hD : va_D A (zw_M cI μ th (zs σ 5 b (-1)) (κ)) := hD
    refine lv_aload_n hx hb dX4_getsUp_22 rfl (lv_at hl 0 rfl) ?_
    refine lv_iload_n hx hb dX4_getsUp_23 rfl (lv_at hl 1 rfl) ?_
    refine lv_iconst (v := 4) hx hb dX4_getsUp_24 (by decide) ?_
    refine lv_iconst (v := 0) hx hb dX4_getsUp_25 (by decide) ?_
    have hF := zfree hD hS hA
    refine zk_V (va_runV (As := [.int (nI k), .int 4, .int 0]) (rest := []) ⟨hx, hb, hml, hown, hts⟩ (c_X4_let l D cI μ th (zs σ 5 b (-1)) (κ) (k := k) (w := 4) hk (by decide) 0 _) (cwV 3 hts gX4_getsUp_X4_let rfl rfl rfl zdX4_let ⟨Nat.le_of_ble_eq_true rfl, Nat.le_of_ble_eq_true rfl⟩) ⟨zbl _, va_recv hK hP (ci := 4) (q0 := 0) rfl rfl, zpr hK hP hD⟩ rfl rfl hl.1 rfl (lv_room (Nat.le_of_ble_eq_true rfl)) dX4_getsUp_26 ⟨Nat.zero_le _, Nat.zero_le _⟩) hS hF (fun H locs hkp hP1 hD1 hS => ?_)
    have hP := hP1
    have hD := hD1.weaken (fun _ _ _ z => hF _ z)
    have hP : va_P D vwCl (zw_M cI μ th (zs (zs σ 5 b (-1)) 12 k 0) (κ)) H := hP
    have hD : va_D A (zw_M cI μ th (zs (zs σ 5 b (-1)) 12 k 0) (κ)) := hD
    refine lv_aload_n hx hb dX4_getsUp_29 rfl (lv_at hl 0 rfl) ?_
    refine lv_iload_n hx hb dX4_getsUp_30 rfl (lv_at hl 1 rfl) ?_
    refine lv_iconst (v := 5) hx hb dX4_getsUp_31 (by decide) ?_
    refine lv_iconst (v := (-1)) hx hb dX4_getsUp_32 (by decide) ?_
    have hF := zfree hD hS hA
    refine zk_V (va_runV (As := [.int (nI k), .int 5, .int (-1)]) (rest := []) ⟨hx, hb, hml, hown, hts⟩ (c_X4_let l D cI μ th (zs (zs σ 5 b (-1)) 12 k 0) (κ) (k := k) (w := 5) hk (by decide) (-1) _) (cwV 3 hts gX4_getsUp_X4_let rfl rfl rfl zdX4_let ⟨Nat.le_of_ble_eq_true rfl, Nat.le_of_ble_eq_true rfl⟩) ⟨zbl _, va_recv hK hP (ci := 4) (q0 := 0) rfl rfl, zpr hK hP hD⟩ rfl rfl hl.1 rfl (lv_room (Nat.le_of_ble_eq_true rfl)) dX4_getsUp_33 ⟨Nat.zero_le _, Nat.zero_le _⟩) hS hF (fun H locs hkp hP1 hD1 hS => ?_)
    have hP := hP1
    have hD := hD1.weaken (fun _ _ _ z => hF _ z)
    have hP : va_P D vwCl (zw_M cI μ th (zs (zs (zs σ 5 b (-1)) 12 k 0) 13 k (-1)) (κ)) H := hP
    have hD : va_D A (zw_M cI μ th (zs (zs (zs σ 5 b (-1)) 12 k 0) 13 k (-1)) (κ)) := hD
    have e9 : f_getUp σ k = zs (zs (zs σ 5 b (-1)) 12 k 0) 13 k (-1) := by rw [f_getUp, f_leave, eb, if_pos (zhas_k hC hb9), nI_clamp (by omega), zs_swap _ (by decide)]
    have hP9 : va_P D vwCl (zw_M cI μ th (f_getUp σ k) (κ)) H := by rw [e9]; exact hP
    have hD9 : va_D A (zw_M cI μ th (f_getUp σ k) (κ)) := by rw [e9]; exact hD
    exact W.vret hx hb hr (fun t ht hW => ⟨⟨(), rfl, trivial, by rw [ht]; exact hP9, va_K.moved hW.alike hK, hD9⟩, hS.F ht⟩) hS.2.2 dX4_getsUp_36

set_option maxHeartbeats 4000000 in
set_option maxRecDepth 100000 in
theorem c_X4_ring (l : Launch) (D : va_G) (cI : ClassId) (μ : Nat → Nat) (th : Int32) (σ : zS) (κ : Nat → Int32) {k B : Nat} {nb ns h : Nat} (hC : zC σ nb ns h) (hk : k < 10) (hs : zsk σ nb B k) (hr1 : ¬ σ 12 k = 0) (hr2 : ¬ σ 6 k = nI (h % 24 / 8)) : zMV l yX4_ring wsX4_ring ({ frames := 2, cells := 0, slots := 0, locals := 44 }) [.ref (μ 0), .int (nI k)] D [(cI, .int)] (zw_M cI μ th σ (κ)) (zw_M cI μ th (f_ring σ h k) (κ)) := by
  intro sz
  refine Met.ofW (cc := cX4_ring) (maxL := 3) (ret := none) (by decide) rfl ?_
  intro p e s m args below meth c s₁ B hml hv
  obtain ⟨rfl, hsz, hP, hK, hD⟩ := hv
  have hx := B.exec
  have hb := B.bytes
  have hr := B.returns
  have hts := atoms_spec (ws := wsX4_ring) B.pre
  have hown : s.vm.findClass RX4 = some m.cls := findClass_of_methodNamed B.named
  have hlocks := B.notSynchronized
  subst hsz
  have hD := hD.self (sz := s.heap.size)
  generalize hAe : va_A (zw_M cI μ th σ (κ)) s.heap.size = A at hD ⊢
  have hA : ∀ q : Nat, s.heap.size ≤ q → A q := fun q h => by rw [← hAe]; exact Or.inr h
  have hS : va_S A s.heap s.heap [] := va_S.rf
  have hP : va_P D vwCl (zw_M cI μ th σ (κ)) s.heap := hP
  have hl := lv_entry ([.ref (μ 0), .int (nI k)]) (n := 3) (Nat.le_of_ble_eq_true rfl)
  rw [lg_entry_eq]
  generalize (lg_sl ([.ref (μ 0), .int (nI k)]) ++ List.replicate (3 - (lg_sl ([.ref (μ 0), .int (nI k)])).length) Slot.unset).toArray = ls at hl ⊢
  have hl : lv_has ls 3 [(0, .ref (μ 0)), (1, .int (nI k))] := hl
  have hf13 := hts (.fieldLink RX4 13 "HotBedsModel" "heavy" "[I") (by decide +kernel)
  have hf19 := hts (.fieldLink RX4 19 "HotBedsModel" "now" "[I") (by decide +kernel)
  have hinX4 : ∀ w ∈ u_ws RX4 TX4 8, w ∈ wsX4_ring := by decide +kernel
  have hnb := hC.2.1
  have hns := hC.2.2.2.1
  have hh := hC.2.2.2.2.2.1
  obtain ⟨w, hw3, ew⟩ := hs.1
  refine lv_bipush (v := 8) hx hb dX4_ring_0 (by decide) ?_
  refine lv_aload_n hx hb dX4_ring_2 rfl (lv_at hl 0 rfl) ?_
  refine zk_R (D := D) (va_runV (As := []) (rest := [.int 8]) ⟨hx, hb, hml, hown, hts⟩ (c_X4_watch l D cI μ th σ (κ) hC _) (cwV 0 hts gX4_ring_X4_watch rfl rfl rfl zdX4_watch ⟨Nat.le_of_ble_eq_true rfl, Nat.le_of_ble_eq_true rfl⟩) ⟨zbl _, va_recv hK hP (ci := 4) (q0 := 0) rfl rfl, zpr hK hP hD⟩ rfl rfl hl.1 rfl (lv_room (Nat.le_of_ble_eq_true rfl)) dX4_ring_3 ⟨Nat.zero_le _, Nat.zero_le _⟩) hS (fun r_1 H locs hw hkp hS => ?_)
  have hP := hkp _ hP
  have hw : r_1 = nI (h % 24 / 8) := hw
  subst hw
  refine lv_iconst (v := 2) hx hb dX4_ring_6 (by decide) ?_
  refine zk_add (x := (h % 24 / 8)) (y := 2) hx hb dX4_ring_7 ?_
  refine lv_aload_n hx hb dX4_ring_8 rfl (lv_at hl 0 rfl) ?_
  refine lv_iload_n hx hb dX4_ring_9 rfl (lv_at hl 1 rfl) ?_
  refine lv_iconst (v := 0) hx hb dX4_ring_10 (by decide) ?_
  refine zk_R (D := D) (va_runV (As := [.int (nI k), .int 0]) (rest := [.int (nI ((h % 24 / 8) + 2)), .int 8]) ⟨hx, hb, hml, hown, hts⟩ (c_X4_sa l D cI μ th σ (κ) (k := k) (w := 0) hk (by decide) _) (cwV 2 hts gX4_ring_X4_sa rfl rfl rfl zdX4_sa ⟨Nat.le_of_ble_eq_true rfl, Nat.le_of_ble_eq_true rfl⟩) ⟨zbl _, va_recv hK hP (ci := 4) (q0 := 0) rfl rfl, zpr hK hP hD⟩ rfl rfl hl.1 rfl (lv_room (Nat.le_of_ble_eq_true rfl)) dX4_ring_11 ⟨Nat.zero_le _, Nat.zero_le _⟩) hS (fun r_2 H locs hw hkp hS => ?_)
  have hP := hkp _ hP
  have hw : r_2 = nI w := (show _ = _ from hw).trans ew
  subst hw
  refine zk_sub (x := ((h % 24 / 8) + 2)) (y := w) hx hb dX4_ring_14 (by omega) ?_
  refine lv_iconst (v := 3) hx hb dX4_ring_15 (by decide) ?_
  refine zk_rem (x := (((h % 24 / 8) + 2) - w)) (y := 3) hx hb dX4_ring_16 (by omega) (by decide) (by decide) ?_
  refine zk_mul (x := 8) (y := ((((h % 24 / 8) + 2) - w) % 3)) hx hb dX4_ring_17 ?_
  refine lv_aload_n hx hb dX4_ring_18 rfl (lv_at hl 0 rfl) ?_
  refine va_get (D := D) (ci := 4) (v := .ref (μ 4)) (C := RX4) (T := TX4) (N := 8) hx hb hts hinX4 hown hK hP 0 rfl rfl 6 (by decide) hf19 (fun _ h9 => h9) rfl dX4_ring_19 ?_
  refine lv_iconst (v := 0) hx hb dX4_ring_22 (by decide) ?_
  refine zk_ld hx hb hK hP 4 0 rfl rfl (k := 0) (by omega) (by decide) (v := nI h) ((zenc_0 σ (by decide)).trans hC.2.2.2.2.1) dX4_ring_23 ?_
  refine lv_bipush (v := 8) hx hb dX4_ring_24 (by decide) ?_
  refine zk_rem (x := h) (y := 8) hx hb dX4_ring_26 (by omega) (by decide) (by decide) ?_
  refine zk_add (x := (8 * ((((h % 24 / 8) + 2) - w) % 3))) (y := (h % 8)) hx hb dX4_ring_27 ?_
  refine lv_istore_n (lv' := [(2, .int (nI ((8 * ((((h % 24 / 8) + 2) - w) % 3)) + (h % 8)))), (0, .ref (μ 0)), (1, .int (nI k))]) hx hb dX4_ring_28 rfl hl (by decide) rfl (fun ls hl => ?_)
  refine lv_aload_n hx hb dX4_ring_29 rfl (lv_at hl 1 rfl) ?_
  refine va_get (D := D) (ci := 4) (v := .ref (μ 4)) (C := RX4) (T := TX4) (N := 8) hx hb hts hinX4 hown hK hP 0 rfl rfl 6 (by decide) hf19 (fun _ h9 => h9) rfl dX4_ring_30 ?_
  refine lv_iconst (v := 1) hx hb dX4_ring_33 (by decide) ?_
  refine zk_ld hx hb hK hP 4 0 rfl rfl (k := 1) (by omega) (by decide) (v := σ 0 1) (zenc_0 σ (by decide)) dX4_ring_34 ?_
  refine lv_iconst (v := 2) hx hb dX4_ring_35 (by decide) ?_
  refine lv_iload_n hx hb dX4_ring_36 rfl (lv_at hl 0 rfl) ?_
  refine zk_mul (x := 2) (y := ((8 * ((((h % 24 / 8) + 2) - w) % 3)) + (h % 8))) hx hb dX4_ring_37 ?_
  refine lv_iadd hx hb dX4_ring_38 ?_
  refine lv_aload_n hx hb dX4_ring_39 rfl (lv_at hl 1 rfl) ?_
  refine va_get (D := D) (ci := 4) (v := .ref (μ 2)) (C := RX4) (T := TX4) (N := 8) hx hb hts hinX4 hown hK hP 0 rfl rfl 4 (by decide) hf13 (fun _ h9 => h9) rfl dX4_ring_40 ?_
  refine lv_iload_n hx hb dX4_ring_43 rfl (lv_at hl 2 rfl) ?_
  refine zk_ld hx hb hK hP 2 0 rfl rfl (k := k) hk (by decide) (v := σ 7 k) rfl dX4_ring_44 ?_
  refine lv_icmp_lt (tgt := 54) hx hb dX4_ring_45 (by decide) (fun c_3 => ?_) (fun c_3 => ?_)
  · refine lv_aload_n hx hb dX4_ring_54 rfl (lv_at hl 1 rfl) ?_
    refine lv_iload_n hx hb dX4_ring_55 rfl (lv_at hl 2 rfl) ?_
    refine lv_bipush (v := 7) hx hb dX4_ring_56 (by decide) ?_
    refine lv_iconst (v := 1) hx hb dX4_ring_58 (by decide) ?_
    have hF := zfree hD hS hA
    refine zk_V (va_runV (As := [.int (nI k), .int 7, .int 1]) (rest := []) ⟨hx, hb, hml, hown, hts⟩ (c_X4_more l D cI μ th σ (κ) (k := k) (w := 7) hk (by decide) 1 _) (cwV 3 hts gX4_ring_X4_more rfl rfl rfl zdX4_more ⟨Nat.le_of_ble_eq_true rfl, Nat.le_of_ble_eq_true rfl⟩) ⟨zbl _, va_recv hK hP (ci := 4) (q0 := 0) rfl rfl, zpr hK hP hD⟩ rfl rfl hl.1 rfl (lv_room (Nat.le_of_ble_eq_true rfl)) dX4_ring_59 ⟨Nat.zero_le _, Nat.zero_le _⟩) hS hF (fun H locs hkp hP1 hD1 hS => ?_)
    have hP := hP1
    have hD := hD1.weaken (fun _ _ _ z => hF _ z)
    have hP : va_P D vwCl (zw_M cI μ th (zs σ 15 k ((σ 15 k) + 1)) (κ)) H := hP
    have hD : va_D A (zw_M cI μ th (zs σ 15 k ((σ 15 k) + 1)) (κ)) := hD
    refine lv_aload_n hx hb dX4_ring_62 rfl (lv_at hl 1 rfl) ?_
    refine lv_iload_n hx hb dX4_ring_63 rfl (lv_at hl 2 rfl) ?_
    refine lv_bipush (v := 9) hx hb dX4_ring_64 (by decide) ?_
    refine lv_iconst (v := 1) hx hb dX4_ring_66 (by decide) ?_
    have hF := zfree hD hS hA
    refine zk_V (va_runV (As := [.int (nI k), .int 9, .int 1]) (rest := []) ⟨hx, hb, hml, hown, hts⟩ (c_X4_more l D cI μ th (zs σ 15 k ((σ 15 k) + 1)) (κ) (k := k) (w := 9) hk (by decide) 1 _) (cwV 3 hts gX4_ring_X4_more rfl rfl rfl zdX4_more ⟨Nat.le_of_ble_eq_true rfl, Nat.le_of_ble_eq_true rfl⟩) ⟨zbl _, va_recv hK hP (ci := 4) (q0 := 0) rfl rfl, zpr hK hP hD⟩ rfl rfl hl.1 rfl (lv_room (Nat.le_of_ble_eq_true rfl)) dX4_ring_67 ⟨Nat.zero_le _, Nat.zero_le _⟩) hS hF (fun H locs hkp hP1 hD1 hS => ?_)
    have hP := hP1
    have hD := hD1.weaken (fun _ _ _ z => hF _ z)
    have hP : va_P D vwCl (zw_M cI μ th (zs (zs σ 15 k ((σ 15 k) + 1)) 16 k (((zs σ 15 k ((σ 15 k) + 1)) 16 k) + 1)) (κ)) H := hP
    have hD : va_D A (zw_M cI μ th (zs (zs σ 15 k ((σ 15 k) + 1)) 16 k (((zs σ 15 k ((σ 15 k) + 1)) 16 k) + 1)) (κ)) := hD
    have e9 : f_ring σ h k = zs (zs σ 15 k ((σ 15 k) + 1)) 16 k (((zs σ 15 k ((σ 15 k) + 1)) 16 k) + 1) := by rw [f_ring, if_neg hr1, if_neg hr2, zloud ew hw3, if_pos c_3]; rfl
    have hP9 : va_P D vwCl (zw_M cI μ th (f_ring σ h k) (κ)) H := by rw [e9]; exact hP
    have hD9 : va_D A (zw_M cI μ th (f_ring σ h k) (κ)) := by rw [e9]; exact hD
    exact W.vret hx hb hr (fun t ht hW => ⟨⟨(), rfl, trivial, by rw [ht]; exact hP9, va_K.moved hW.alike hK, hD9⟩, hS.F ht⟩) hS.2.2 dX4_ring_70
  · refine lv_aload_n hx hb dX4_ring_48 rfl (lv_at hl 1 rfl) ?_
    refine lv_iload_n hx hb dX4_ring_49 rfl (lv_at hl 2 rfl) ?_
    have hF := zfree hD hS hA
    refine zk_V (va_runV (As := [.int (nI k)]) (rest := []) ⟨hx, hb, hml, hown, hts⟩ (c_X4_getsUp l D cI μ th σ (κ) (k := k) hC hk hs _) (cwV 1 hts gX4_ring_X4_getsUp rfl rfl rfl zdX4_getsUp ⟨Nat.le_of_ble_eq_true rfl, Nat.le_of_ble_eq_true rfl⟩) ⟨zbl _, va_recv hK hP (ci := 4) (q0 := 0) rfl rfl, zpr hK hP hD⟩ rfl rfl hl.1 rfl (lv_room (Nat.le_of_ble_eq_true rfl)) dX4_ring_50 ⟨Nat.zero_le _, Nat.zero_le _⟩) hS hF (fun H locs hkp hP1 hD1 hS => ?_)
    have hP := hP1
    have hD := hD1.weaken (fun _ _ _ z => hF _ z)
    have hP : va_P D vwCl (zw_M cI μ th (f_getUp σ k) (κ)) H := hP
    have hD : va_D A (zw_M cI μ th (f_getUp σ k) (κ)) := hD
    have e9 : f_ring σ h k = f_getUp σ k := by rw [f_ring, if_neg hr1, if_neg hr2, zloud ew hw3, if_neg c_3]
    have hP9 : va_P D vwCl (zw_M cI μ th (f_ring σ h k) (κ)) H := by rw [e9]; exact hP
    have hD9 : va_D A (zw_M cI μ th (f_ring σ h k) (κ)) := by rw [e9]; exact hD
    exact W.vret hx hb hr (fun t ht hW => ⟨⟨(), rfl, trivial, by rw [ht]; exact hP9, va_K.moved hW.alike hK, hD9⟩, hS.F ht⟩) hS.2.2 dX4_ring_53

set_option maxHeartbeats 4000000 in
set_option maxRecDepth 100000 in
theorem c_X4_pay (l : Launch) (D : va_G) (cI : ClassId) (μ : Nat → Nat) (th : Int32) (σ : zS) (κ : Nat → Int32) {k : Nat} (hk : k < 10) (hbo : σ 10 k = 0 ∨ σ 10 k = 1) : zMV l yX4_pay wsX4_pay ({ frames := 2, cells := 0, slots := 0, locals := 45 }) [.ref (μ 0), .int (nI k)] D [(cI, .int)] (zw_M cI μ th σ (κ)) (zw_M cI μ th (f_pay2 σ k) (κ)) := by
  intro sz
  refine Met.ofW (cc := cX4_pay) (maxL := 3) (ret := none) (by decide) rfl ?_
  intro p e s m args below meth c s₁ B hml hv
  obtain ⟨rfl, hsz, hP, hK, hD⟩ := hv
  have hx := B.exec
  have hb := B.bytes
  have hr := B.returns
  have hts := atoms_spec (ws := wsX4_pay) B.pre
  have hown : s.vm.findClass RX4 = some m.cls := findClass_of_methodNamed B.named
  have hlocks := B.notSynchronized
  subst hsz
  have hD := hD.self (sz := s.heap.size)
  generalize hAe : va_A (zw_M cI μ th σ (κ)) s.heap.size = A at hD ⊢
  have hA : ∀ q : Nat, s.heap.size ≤ q → A q := fun q h => by rw [← hAe]; exact Or.inr h
  have hS : va_S A s.heap s.heap [] := va_S.rf
  have hP : va_P D vwCl (zw_M cI μ th σ (κ)) s.heap := hP
  have hl := lv_entry ([.ref (μ 0), .int (nI k)]) (n := 3) (Nat.le_of_ble_eq_true rfl)
  rw [lg_entry_eq]
  generalize (lg_sl ([.ref (μ 0), .int (nI k)]) ++ List.replicate (3 - (lg_sl ([.ref (μ 0), .int (nI k)])).length) Slot.unset).toArray = ls at hl ⊢
  have hl : lv_has ls 3 [(0, .ref (μ 0)), (1, .int (nI k))] := hl
  have hf16 := hts (.fieldLink RX4 16 "HotBedsModel" "wages" "[I") (by decide +kernel)
  have hinX4 : ∀ w ∈ u_ws RX4 TX4 8, w ∈ wsX4_pay := by decide +kernel
  have hcomax := hts (.code Lib.Math.max.name Lib.Math.max.code 2 (some .int)) (by decide +kernel)
  have hinM := hts (.initialized "java/lang/Math") (by decide +kernel)
  have hml99 := hts (.methodLink RX4 99 Lib.Math.max.name) (by decide +kernel)
  have hstmax := hts (.static Lib.Math.max.name) (by decide +kernel)
  refine lv_aload_n hx hb dX4_pay_0 rfl (lv_at hl 0 rfl) ?_
  refine lv_iload_n hx hb dX4_pay_1 rfl (lv_at hl 1 rfl) ?_
  refine lv_iconst (v := 2) hx hb dX4_pay_2 (by decide) ?_
  refine zk_R (D := D) (va_runV (As := [.int (nI k), .int 2]) (rest := []) ⟨hx, hb, hml, hown, hts⟩ (c_X4_sa l D cI μ th σ (κ) (k := k) (w := 2) hk (by decide) _) (cwV 2 hts gX4_pay_X4_sa rfl rfl rfl zdX4_sa ⟨Nat.le_of_ble_eq_true rfl, Nat.le_of_ble_eq_true rfl⟩) ⟨zbl _, va_recv hK hP (ci := 4) (q0 := 0) rfl rfl, zpr hK hP hD⟩ rfl rfl hl.1 rfl (lv_room (Nat.le_of_ble_eq_true rfl)) dX4_pay_3 ⟨Nat.zero_le _, Nat.zero_le _⟩) hS (fun r_1 H locs hw hkp hS => ?_)
  have hP := hkp _ hP
  have hw : r_1 = σ 10 k := hw
  subst hw
  refine lv_iconst (v := 1) hx hb dX4_pay_6 (by decide) ?_
  refine lv_icmp_ne (tgt := 19) hx hb dX4_pay_7 (by decide) (fun c_2 => ?_) (fun c_2 => ?_)
  · refine lv_aload_n hx hb dX4_pay_19 rfl (lv_at hl 0 rfl) ?_
    refine va_get (D := D) (ci := 4) (v := .ref (μ 3)) (C := RX4) (T := TX4) (N := 8) hx hb hts hinX4 hown hK hP 0 rfl rfl 5 (by decide) hf16 (fun _ h9 => h9) rfl dX4_pay_20 ?_
    refine lv_iload_n hx hb dX4_pay_23 rfl (lv_at hl 1 rfl) ?_
    refine zk_ld hx hb hK hP 3 0 rfl rfl (k := k) hk (by decide) (v := σ 8 k) rfl dX4_pay_24 ?_
    refine lv_iconst (v := 2) hx hb dX4_pay_25 (by decide) ?_
    refine lv_idiv hx hb dX4_pay_26 (by decide) ?_
    refine lv_istore_n (lv' := [(2, .int ((σ 8 k) / 2)), (0, .ref (μ 0)), (1, .int (nI k))]) hx hb dX4_pay_27 rfl hl (by decide) rfl (fun ls hl => ?_)
    refine lv_aload_n hx hb dX4_pay_28 rfl (lv_at hl 1 rfl) ?_
    refine lv_iload_n hx hb dX4_pay_29 rfl (lv_at hl 2 rfl) ?_
    refine lv_iconst (v := 0) hx hb dX4_pay_30 (by decide) ?_
    refine lv_iload_n hx hb dX4_pay_31 rfl (lv_at hl 0 rfl) ?_
    refine lv_aload_n hx hb dX4_pay_32 rfl (lv_at hl 1 rfl) ?_
    refine lv_iload_n hx hb dX4_pay_33 rfl (lv_at hl 2 rfl) ?_
    refine lv_bipush (v := 9) hx hb dX4_pay_34 (by decide) ?_
    refine zk_R (D := D) (va_runV (As := [.int (nI k), .int 9]) (rest := [.int ((σ 8 k) / 2), .int 0, .int (nI k), .ref (μ 0)]) ⟨hx, hb, hml, hown, hts⟩ (c_X4_sa l D cI μ th σ (κ) (k := k) (w := 9) hk (by decide) _) (cwV 2 hts gX4_pay_X4_sa rfl rfl rfl zdX4_sa ⟨Nat.le_of_ble_eq_true rfl, Nat.le_of_ble_eq_true rfl⟩) ⟨zbl _, va_recv hK hP (ci := 4) (q0 := 0) rfl rfl, zpr hK hP hD⟩ rfl rfl hl.1 rfl (lv_room (Nat.le_of_ble_eq_true rfl)) dX4_pay_36 ⟨Nat.zero_le _, Nat.zero_le _⟩) hS (fun r_3 H locs hw hkp hS => ?_)
    have hP := hkp _ hP
    have hw : r_3 = σ 16 k := hw
    subst hw
    refine lv_isub hx hb dX4_pay_39 ?_
    refine va_mmax hx hb (hml.trans hl.1.symm) hown hml99 hstmax hinM hcomax (Nat.le_of_ble_eq_true rfl) (Nat.le_of_ble_eq_true rfl) (Nat.zero_le _) (Nat.zero_le _) dX4_pay_40 ?_
    have hF := zfree hD hS hA
    refine zk_I (va_runV (As := [.int (nI k), .int (f_max0 (((σ 8 k) / 2) - (σ 16 k)))]) (rest := []) ⟨hx, hb, hml, hown, hts⟩ (c_X4_gets l D cI μ th σ (κ) (k := k) hk (f_max0 (((σ 8 k) / 2) - (σ 16 k))) _) (cwV 2 hts gX4_pay_X4_gets rfl rfl rfl zdX4_gets ⟨Nat.le_of_ble_eq_true rfl, Nat.le_of_ble_eq_true rfl⟩) ⟨zbl _, va_recv hK hP (ci := 4) (q0 := 0) rfl rfl, zpr hK hP hD⟩ rfl rfl hl.1 rfl (lv_room (Nat.le_of_ble_eq_true rfl)) dX4_pay_43 ⟨Nat.zero_le _, Nat.zero_le _⟩) hS hF (fun r_4 H locs hw hkp hP1 hD1 hS => ?_)
    have hP := hP1
    have hD := hD1.weaken (fun _ _ _ z => hF _ z)
    have hP : va_P D vwCl (zw_M cI μ th (f_earn σ k (f_max0 (((σ 8 k) / 2) - (σ 16 k)))) (κ)) H := hP
    have hD : va_D A (zw_M cI μ th (f_earn σ k (f_max0 (((σ 8 k) / 2) - (σ 16 k)))) (κ)) := hD
    have hw : r_4 = (f_earn σ k (f_max0 (((σ 8 k) / 2) - (σ 16 k)))) 9 k := hw
    subst hw
    refine lv_pop hx hb dX4_pay_46 rfl ?_
    refine lv_aload_n hx hb dX4_pay_47 rfl (lv_at hl 1 rfl) ?_
    refine lv_iload_n hx hb dX4_pay_48 rfl (lv_at hl 2 rfl) ?_
    refine lv_bipush (v := 9) hx hb dX4_pay_49 (by decide) ?_
    refine lv_iconst (v := 0) hx hb dX4_pay_51 (by decide) ?_
    have hF := zfree hD hS hA
    refine zk_V (va_runV (As := [.int (nI k), .int 9, .int 0]) (rest := []) ⟨hx, hb, hml, hown, hts⟩ (c_X4_let l D cI μ th (f_earn σ k (f_max0 (((σ 8 k) / 2) - (σ 16 k)))) (κ) (k := k) (w := 9) hk (by decide) 0 _) (cwV 3 hts gX4_pay_X4_let rfl rfl rfl zdX4_let ⟨Nat.le_of_ble_eq_true rfl, Nat.le_of_ble_eq_true rfl⟩) ⟨zbl _, va_recv hK hP (ci := 4) (q0 := 0) rfl rfl, zpr hK hP hD⟩ rfl rfl hl.1 rfl (lv_room (Nat.le_of_ble_eq_true rfl)) dX4_pay_52 ⟨Nat.zero_le _, Nat.zero_le _⟩) hS hF (fun H locs hkp hP1 hD1 hS => ?_)
    have hP := hP1
    have hD := hD1.weaken (fun _ _ _ z => hF _ z)
    have hP : va_P D vwCl (zw_M cI μ th (zs (f_earn σ k (f_max0 (((σ 8 k) / 2) - (σ 16 k)))) 16 k 0) (κ)) H := hP
    have hD : va_D A (zw_M cI μ th (zs (f_earn σ k (f_max0 (((σ 8 k) / 2) - (σ 16 k)))) 16 k 0) (κ)) := hD
    refine lv_aload_n hx hb dX4_pay_55 rfl (lv_at hl 1 rfl) ?_
    refine lv_iload_n hx hb dX4_pay_56 rfl (lv_at hl 2 rfl) ?_
    refine zk_R (D := D) (va_runV (As := [.int (nI k)]) (rest := []) ⟨hx, hb, hml, hown, hts⟩ (c_X4_canRedeem l D cI μ th (zs (f_earn σ k (f_max0 (((σ 8 k) / 2) - (σ 16 k)))) 16 k 0) (κ) (k := k) hk hbo _) (cwV 1 hts gX4_pay_X4_canRedeem rfl rfl rfl zdX4_canRedeem ⟨Nat.le_of_ble_eq_true rfl, Nat.le_of_ble_eq_true rfl⟩) ⟨zbl _, va_recv hK hP (ci := 4) (q0 := 0) rfl rfl, zpr hK hP hD⟩ rfl rfl hl.1 rfl (lv_room (Nat.le_of_ble_eq_true rfl)) dX4_pay_57 ⟨Nat.zero_le _, Nat.zero_le _⟩) hS (fun r_5 H locs hw hkp hS => ?_)
    have hP := hkp _ hP
    have hw : zb (f_can (zs (f_earn σ k (f_max0 (((σ 8 k) / 2) - (σ 16 k)))) 16 k 0) k) r_5 := hw
    rcases hw with ⟨c_6, rfl⟩ | ⟨c_6, rfl⟩
    · have e8 : f_pay σ k = zs (f_earn σ k (f_max0 (((σ 8 k) / 2) - (σ 16 k)))) 16 k 0 := by simp only [f_pay, if_neg c_2]
      refine lv_if_eq (tgt := 69) hx hb dX4_pay_60 (by decide) (fun c => absurd c (by decide)) (fun _ => ?_)
      refine lv_aload_n hx hb dX4_pay_63 rfl (lv_at hl 1 rfl) ?_
      refine lv_iload_n hx hb dX4_pay_64 rfl (lv_at hl 2 rfl) ?_
      have hF := zfree hD hS hA
      refine zk_I (va_runV (As := [.int (nI k)]) (rest := []) ⟨hx, hb, hml, hown, hts⟩ (c_X4_redeems l D cI μ th (zs (f_earn σ k (f_max0 (((σ 8 k) / 2) - (σ 16 k)))) 16 k 0) (κ) (k := k) hk _) (cwV 1 hts gX4_pay_X4_redeems rfl rfl rfl zdX4_redeems ⟨Nat.le_of_ble_eq_true rfl, Nat.le_of_ble_eq_true rfl⟩) ⟨zbl _, va_recv hK hP (ci := 4) (q0 := 0) rfl rfl, zpr hK hP hD⟩ rfl rfl hl.1 rfl (lv_room (Nat.le_of_ble_eq_true rfl)) dX4_pay_65 ⟨Nat.zero_le _, Nat.zero_le _⟩) hS hF (fun r_8 H locs hw hkp hP1 hD1 hS => ?_)
      have hP := hP1
      have hD := hD1.weaken (fun _ _ _ z => hF _ z)
      have hP : va_P D vwCl (zw_M cI μ th (f_red (zs (f_earn σ k (f_max0 (((σ 8 k) / 2) - (σ 16 k)))) 16 k 0) k) (κ)) H := hP
      have hD : va_D A (zw_M cI μ th (f_red (zs (f_earn σ k (f_max0 (((σ 8 k) / 2) - (σ 16 k)))) 16 k 0) k) (κ)) := hD
      have hw : r_8 = (f_red (zs (f_earn σ k (f_max0 (((σ 8 k) / 2) - (σ 16 k)))) 16 k 0) k) 9 k := hw
      subst hw
      refine lv_pop hx hb dX4_pay_68 rfl ?_
      have e9 : f_pay2 σ k = f_red (zs (f_earn σ k (f_max0 (((σ 8 k) / 2) - (σ 16 k)))) 16 k 0) k := by rw [f_pay2, e8, if_pos c_6]
      have hP9 : va_P D vwCl (zw_M cI μ th (f_pay2 σ k) (κ)) H := by rw [e9]; exact hP
      have hD9 : va_D A (zw_M cI μ th (f_pay2 σ k) (κ)) := by rw [e9]; exact hD
      exact W.vret hx hb hr (fun t ht hW => ⟨⟨(), rfl, trivial, by rw [ht]; exact hP9, va_K.moved hW.alike hK, hD9⟩, hS.F ht⟩) hS.2.2 dX4_pay_69
    · have e8 : f_pay σ k = zs (f_earn σ k (f_max0 (((σ 8 k) / 2) - (σ 16 k)))) 16 k 0 := by simp only [f_pay, if_neg c_2]
      refine lv_if_eq (tgt := 69) hx hb dX4_pay_60 (by decide) (fun _ => ?_) (fun c => absurd (by decide) c)
      have e9 : f_pay2 σ k = zs (f_earn σ k (f_max0 (((σ 8 k) / 2) - (σ 16 k)))) 16 k 0 := by rw [f_pay2, e8, if_neg c_6]
      have hP9 : va_P D vwCl (zw_M cI μ th (f_pay2 σ k) (κ)) H := by rw [e9]; exact hP
      have hD9 : va_D A (zw_M cI μ th (f_pay2 σ k) (κ)) := by rw [e9]; exact hD
      exact W.vret hx hb hr (fun t ht hW => ⟨⟨(), rfl, trivial, by rw [ht]; exact hP9, va_K.moved hW.alike hK, hD9⟩, hS.F ht⟩) hS.2.2 dX4_pay_69
  · refine lv_aload_n hx hb dX4_pay_10 rfl (lv_at hl 0 rfl) ?_
    refine va_get (D := D) (ci := 4) (v := .ref (μ 3)) (C := RX4) (T := TX4) (N := 8) hx hb hts hinX4 hown hK hP 0 rfl rfl 5 (by decide) hf16 (fun _ h9 => h9) rfl dX4_pay_11 ?_
    refine lv_iload_n hx hb dX4_pay_14 rfl (lv_at hl 1 rfl) ?_
    refine zk_ld hx hb hK hP 3 0 rfl rfl (k := k) hk (by decide) (v := σ 8 k) rfl dX4_pay_15 ?_
    refine lv_goto (tgt := 27) hx hb dX4_pay_16 (by decide) ?_
    refine lv_istore_n (lv' := [(2, .int (σ 8 k)), (0, .ref (μ 0)), (1, .int (nI k))]) hx hb dX4_pay_27 rfl hl (by decide) rfl (fun ls hl => ?_)
    refine lv_aload_n hx hb dX4_pay_28 rfl (lv_at hl 1 rfl) ?_
    refine lv_iload_n hx hb dX4_pay_29 rfl (lv_at hl 2 rfl) ?_
    refine lv_iconst (v := 0) hx hb dX4_pay_30 (by decide) ?_
    refine lv_iload_n hx hb dX4_pay_31 rfl (lv_at hl 0 rfl) ?_
    refine lv_aload_n hx hb dX4_pay_32 rfl (lv_at hl 1 rfl) ?_
    refine lv_iload_n hx hb dX4_pay_33 rfl (lv_at hl 2 rfl) ?_
    refine lv_bipush (v := 9) hx hb dX4_pay_34 (by decide) ?_
    refine zk_R (D := D) (va_runV (As := [.int (nI k), .int 9]) (rest := [.int (σ 8 k), .int 0, .int (nI k), .ref (μ 0)]) ⟨hx, hb, hml, hown, hts⟩ (c_X4_sa l D cI μ th σ (κ) (k := k) (w := 9) hk (by decide) _) (cwV 2 hts gX4_pay_X4_sa rfl rfl rfl zdX4_sa ⟨Nat.le_of_ble_eq_true rfl, Nat.le_of_ble_eq_true rfl⟩) ⟨zbl _, va_recv hK hP (ci := 4) (q0 := 0) rfl rfl, zpr hK hP hD⟩ rfl rfl hl.1 rfl (lv_room (Nat.le_of_ble_eq_true rfl)) dX4_pay_36 ⟨Nat.zero_le _, Nat.zero_le _⟩) hS (fun r_10 H locs hw hkp hS => ?_)
    have hP := hkp _ hP
    have hw : r_10 = σ 16 k := hw
    subst hw
    refine lv_isub hx hb dX4_pay_39 ?_
    refine va_mmax hx hb (hml.trans hl.1.symm) hown hml99 hstmax hinM hcomax (Nat.le_of_ble_eq_true rfl) (Nat.le_of_ble_eq_true rfl) (Nat.zero_le _) (Nat.zero_le _) dX4_pay_40 ?_
    have hF := zfree hD hS hA
    refine zk_I (va_runV (As := [.int (nI k), .int (f_max0 ((σ 8 k) - (σ 16 k)))]) (rest := []) ⟨hx, hb, hml, hown, hts⟩ (c_X4_gets l D cI μ th σ (κ) (k := k) hk (f_max0 ((σ 8 k) - (σ 16 k))) _) (cwV 2 hts gX4_pay_X4_gets rfl rfl rfl zdX4_gets ⟨Nat.le_of_ble_eq_true rfl, Nat.le_of_ble_eq_true rfl⟩) ⟨zbl _, va_recv hK hP (ci := 4) (q0 := 0) rfl rfl, zpr hK hP hD⟩ rfl rfl hl.1 rfl (lv_room (Nat.le_of_ble_eq_true rfl)) dX4_pay_43 ⟨Nat.zero_le _, Nat.zero_le _⟩) hS hF (fun r_11 H locs hw hkp hP1 hD1 hS => ?_)
    have hP := hP1
    have hD := hD1.weaken (fun _ _ _ z => hF _ z)
    have hP : va_P D vwCl (zw_M cI μ th (f_earn σ k (f_max0 ((σ 8 k) - (σ 16 k)))) (κ)) H := hP
    have hD : va_D A (zw_M cI μ th (f_earn σ k (f_max0 ((σ 8 k) - (σ 16 k)))) (κ)) := hD
    have hw : r_11 = (f_earn σ k (f_max0 ((σ 8 k) - (σ 16 k)))) 9 k := hw
    subst hw
    refine lv_pop hx hb dX4_pay_46 rfl ?_
    refine lv_aload_n hx hb dX4_pay_47 rfl (lv_at hl 1 rfl) ?_
    refine lv_iload_n hx hb dX4_pay_48 rfl (lv_at hl 2 rfl) ?_
    refine lv_bipush (v := 9) hx hb dX4_pay_49 (by decide) ?_
    refine lv_iconst (v := 0) hx hb dX4_pay_51 (by decide) ?_
    have hF := zfree hD hS hA
    refine zk_V (va_runV (As := [.int (nI k), .int 9, .int 0]) (rest := []) ⟨hx, hb, hml, hown, hts⟩ (c_X4_let l D cI μ th (f_earn σ k (f_max0 ((σ 8 k) - (σ 16 k)))) (κ) (k := k) (w := 9) hk (by decide) 0 _) (cwV 3 hts gX4_pay_X4_let rfl rfl rfl zdX4_let ⟨Nat.le_of_ble_eq_true rfl, Nat.le_of_ble_eq_true rfl⟩) ⟨zbl _, va_recv hK hP (ci := 4) (q0 := 0) rfl rfl, zpr hK hP hD⟩ rfl rfl hl.1 rfl (lv_room (Nat.le_of_ble_eq_true rfl)) dX4_pay_52 ⟨Nat.zero_le _, Nat.zero_le _⟩) hS hF (fun H locs hkp hP1 hD1 hS => ?_)
    have hP := hP1
    have hD := hD1.weaken (fun _ _ _ z => hF _ z)
    have hP : va_P D vwCl (zw_M cI μ th (zs (f_earn σ k (f_max0 ((σ 8 k) - (σ 16 k)))) 16 k 0) (κ)) H := hP
    have hD : va_D A (zw_M cI μ th (zs (f_earn σ k (f_max0 ((σ 8 k) - (σ 16 k)))) 16 k 0) (κ)) := hD
    refine lv_aload_n hx hb dX4_pay_55 rfl (lv_at hl 1 rfl) ?_
    refine lv_iload_n hx hb dX4_pay_56 rfl (lv_at hl 2 rfl) ?_
    refine zk_R (D := D) (va_runV (As := [.int (nI k)]) (rest := []) ⟨hx, hb, hml, hown, hts⟩ (c_X4_canRedeem l D cI μ th (zs (f_earn σ k (f_max0 ((σ 8 k) - (σ 16 k)))) 16 k 0) (κ) (k := k) hk hbo _) (cwV 1 hts gX4_pay_X4_canRedeem rfl rfl rfl zdX4_canRedeem ⟨Nat.le_of_ble_eq_true rfl, Nat.le_of_ble_eq_true rfl⟩) ⟨zbl _, va_recv hK hP (ci := 4) (q0 := 0) rfl rfl, zpr hK hP hD⟩ rfl rfl hl.1 rfl (lv_room (Nat.le_of_ble_eq_true rfl)) dX4_pay_57 ⟨Nat.zero_le _, Nat.zero_le _⟩) hS (fun r_12 H locs hw hkp hS => ?_)
    have hP := hkp _ hP
    have hw : zb (f_can (zs (f_earn σ k (f_max0 ((σ 8 k) - (σ 16 k)))) 16 k 0) k) r_12 := hw
    rcases hw with ⟨c_13, rfl⟩ | ⟨c_13, rfl⟩
    · have e8 : f_pay σ k = zs (f_earn σ k (f_max0 ((σ 8 k) - (σ 16 k)))) 16 k 0 := by simp only [f_pay, if_pos c_2]
      refine lv_if_eq (tgt := 69) hx hb dX4_pay_60 (by decide) (fun c => absurd c (by decide)) (fun _ => ?_)
      refine lv_aload_n hx hb dX4_pay_63 rfl (lv_at hl 1 rfl) ?_
      refine lv_iload_n hx hb dX4_pay_64 rfl (lv_at hl 2 rfl) ?_
      have hF := zfree hD hS hA
      refine zk_I (va_runV (As := [.int (nI k)]) (rest := []) ⟨hx, hb, hml, hown, hts⟩ (c_X4_redeems l D cI μ th (zs (f_earn σ k (f_max0 ((σ 8 k) - (σ 16 k)))) 16 k 0) (κ) (k := k) hk _) (cwV 1 hts gX4_pay_X4_redeems rfl rfl rfl zdX4_redeems ⟨Nat.le_of_ble_eq_true rfl, Nat.le_of_ble_eq_true rfl⟩) ⟨zbl _, va_recv hK hP (ci := 4) (q0 := 0) rfl rfl, zpr hK hP hD⟩ rfl rfl hl.1 rfl (lv_room (Nat.le_of_ble_eq_true rfl)) dX4_pay_65 ⟨Nat.zero_le _, Nat.zero_le _⟩) hS hF (fun r_15 H locs hw hkp hP1 hD1 hS => ?_)
      have hP := hP1
      have hD := hD1.weaken (fun _ _ _ z => hF _ z)
      have hP : va_P D vwCl (zw_M cI μ th (f_red (zs (f_earn σ k (f_max0 ((σ 8 k) - (σ 16 k)))) 16 k 0) k) (κ)) H := hP
      have hD : va_D A (zw_M cI μ th (f_red (zs (f_earn σ k (f_max0 ((σ 8 k) - (σ 16 k)))) 16 k 0) k) (κ)) := hD
      have hw : r_15 = (f_red (zs (f_earn σ k (f_max0 ((σ 8 k) - (σ 16 k)))) 16 k 0) k) 9 k := hw
      subst hw
      refine lv_pop hx hb dX4_pay_68 rfl ?_
      have e9 : f_pay2 σ k = f_red (zs (f_earn σ k (f_max0 ((σ 8 k) - (σ 16 k)))) 16 k 0) k := by rw [f_pay2, e8, if_pos c_13]
      have hP9 : va_P D vwCl (zw_M cI μ th (f_pay2 σ k) (κ)) H := by rw [e9]; exact hP
      have hD9 : va_D A (zw_M cI μ th (f_pay2 σ k) (κ)) := by rw [e9]; exact hD
      exact W.vret hx hb hr (fun t ht hW => ⟨⟨(), rfl, trivial, by rw [ht]; exact hP9, va_K.moved hW.alike hK, hD9⟩, hS.F ht⟩) hS.2.2 dX4_pay_69
    · have e8 : f_pay σ k = zs (f_earn σ k (f_max0 ((σ 8 k) - (σ 16 k)))) 16 k 0 := by simp only [f_pay, if_pos c_2]
      refine lv_if_eq (tgt := 69) hx hb dX4_pay_60 (by decide) (fun _ => ?_) (fun c => absurd (by decide) c)
      have e9 : f_pay2 σ k = zs (f_earn σ k (f_max0 ((σ 8 k) - (σ 16 k)))) 16 k 0 := by rw [f_pay2, e8, if_neg c_13]
      have hP9 : va_P D vwCl (zw_M cI μ th (f_pay2 σ k) (κ)) H := by rw [e9]; exact hP
      have hD9 : va_D A (zw_M cI μ th (f_pay2 σ k) (κ)) := by rw [e9]; exact hD
      exact W.vret hx hb hr (fun t ht hW => ⟨⟨(), rfl, trivial, by rw [ht]; exact hP9, va_K.moved hW.alike hK, hD9⟩, hS.F ht⟩) hS.2.2 dX4_pay_69

set_option maxHeartbeats 4000000 in
set_option maxRecDepth 100000 in
theorem c_X4_bedFor (l : Launch) (D : va_G) (cI : ClassId) (μ : Nat → Nat) (th : Int32) (σ : zS) (κ : Nat → Int32) {k B : Nat} {nb ns h : Nat} (hC : zC σ nb ns h) (hk : k < 10) (hs : zsk σ nb B k) : zMR l yX4_bedFor wsX4_bedFor ({ frames := 1, cells := 0, slots := 0, locals := 22 }) [.ref (μ 0), .int (nI k)] D [(cI, .int)] (zw_M cI μ th σ (κ)) (fun r => r = f_choose σ nb k) := by
  intro sz
  refine Met.ofW (cc := cX4_bedFor) (maxL := 5) (ret := (some .int)) (by decide) rfl ?_
  intro p e s m args below meth c s₁ B hml hv
  obtain ⟨rfl, hsz, hP, hK, hD⟩ := hv
  have hx := B.exec
  have hb := B.bytes
  have hr := B.returns
  have hts := atoms_spec (ws := wsX4_bedFor) B.pre
  have hown : s.vm.findClass RX4 = some m.cls := findClass_of_methodNamed B.named
  have hlocks := B.notSynchronized
  have hS : va_S (fun _ => False) s.heap s.heap [] := va_S.rf
  have hP : va_P D vwCl (zw_M cI μ th σ (κ)) s.heap := hP
  have hl := lv_entry ([.ref (μ 0), .int (nI k)]) (n := 5) (Nat.le_of_ble_eq_true rfl)
  rw [lg_entry_eq]
  generalize (lg_sl ([.ref (μ 0), .int (nI k)]) ++ List.replicate (5 - (lg_sl ([.ref (μ 0), .int (nI k)])).length) Slot.unset).toArray = ls at hl ⊢
  have hl : lv_has ls 5 [(0, .ref (μ 0)), (1, .int (nI k))] := hl
  have hf29 := hts (.fieldLink RX4 29 "HotBedsModel" "beds" "I") (by decide +kernel)
  have hf9 := hts (.fieldLink RX4 9 "HotBedsModel" "prices" "[I") (by decide +kernel)
  have hinX4 : ∀ w ∈ u_ws RX4 TX4 8, w ∈ wsX4_bedFor := by decide +kernel
  have hnb := hC.2.1
  have hns := hC.2.2.2.1
  have hh := hC.2.2.2.2.2.1
  refine lv_aload_n hx hb dX4_bedFor_0 rfl (lv_at hl 0 rfl) ?_
  refine lv_iload_n hx hb dX4_bedFor_1 rfl (lv_at hl 1 rfl) ?_
  refine lv_iconst (v := 3) hx hb dX4_bedFor_2 (by decide) ?_
  refine zk_R (D := D) (va_runV (As := [.int (nI k), .int 3]) (rest := []) ⟨hx, hb, hml, hown, hts⟩ (c_X4_sa l D cI μ th σ (κ) (k := k) (w := 3) hk (by decide) _) (cwV 2 hts gX4_bedFor_X4_sa rfl rfl rfl zdX4_sa ⟨Nat.le_of_ble_eq_true rfl, Nat.le_of_ble_eq_true rfl⟩) ⟨zbl _, va_recv hK hP (ci := 4) (q0 := 0) rfl rfl, zpr hK hP hD⟩ rfl rfl hl.1 rfl (lv_room (Nat.le_of_ble_eq_true rfl)) dX4_bedFor_3 ⟨Nat.zero_le _, Nat.zero_le _⟩) hS (fun r_1 H locs hw hkp hS => ?_)
  have hP := hkp _ hP
  have hw : r_1 = σ 11 k := hw
  subst hw
  refine lv_istore_n (lv' := [(2, .int (σ 11 k)), (0, .ref (μ 0)), (1, .int (nI k))]) hx hb dX4_bedFor_6 rfl hl (by decide) rfl (fun ls hl => ?_)
  refine lv_iload_n hx hb dX4_bedFor_7 rfl (lv_at hl 0 rfl) ?_
  refine lv_iconst (v := (-1)) hx hb dX4_bedFor_8 (by decide) ?_
  refine lv_icmp_eq (tgt := 24) hx hb dX4_bedFor_9 (by decide) (fun c_2 => ?_) (fun c_2 => ?_)
  · have hnf : ¬ f_free σ (σ 11 k) := by rw [c_2]; exact zfree_m1
    refine lv_iconst (v := (-1)) hx hb dX4_bedFor_24 (by decide) ?_
    refine lv_istore_n (lv' := [(3, .int (-1)), (2, .int (σ 11 k)), (0, .ref (μ 0)), (1, .int (nI k))]) hx hb dX4_bedFor_25 rfl hl (by decide) rfl (fun ls hl => ?_)
    refine lv_iconst (v := 0) hx hb dX4_bedFor_26 (by decide) ?_
    refine lv_istore (lv' := [(4, .int 0), (3, .int (-1)), (2, .int (σ 11 k)), (0, .ref (μ 0)), (1, .int (nI k))]) hx hb dX4_bedFor_27 hl (by decide) rfl (fun ls hl => ?_)
    refine zk_loop (pc := 29) (fun i H locs ls => va_P D vwCl (zw_M cI μ th σ (κ)) H ∧ va_S (fun _ => False) s.heap H locs ∧ lv_has ls 5 [(0, .ref (μ 0)), (1, .int (nI k)), (3, .int (f_ch σ i)), (4, .int (nI i))]) nb (fun i hki ih H locs ls hI => ?_) (fun H locs ls hI => ?_) _ _ _ ⟨hP, hS, lv_sub hl [3, 4, 1, 0] rfl⟩
    · obtain ⟨hP, hS, hl⟩ := hI
      refine lv_iload hx hb dX4_bedFor_29 (lv_at hl 3 rfl) ?_
      refine lv_aload_n hx hb dX4_bedFor_31 rfl (lv_at hl 0 rfl) ?_
      refine va_get (D := D) (ci := 4) (v := .int (nI nb)) (C := RX4) (T := TX4) (N := 8) hx hb hts hinX4 hown hK hP 0 rfl rfl 1 (by decide) hf29 (fun _ h9 => h9) (congrArg (fun z => some (Value.int z)) hC.1) dX4_bedFor_32 ?_
      refine lv_icmp_ge (tgt := 79) hx hb dX4_bedFor_35 (by decide) (fun c => absurd c (nI_ge hki (by omega))) (fun _ => ?_)
      refine lv_aload_n hx hb dX4_bedFor_38 rfl (lv_at hl 0 rfl) ?_
      refine lv_iload hx hb dX4_bedFor_39 (lv_at hl 3 rfl) ?_
      refine lv_iconst (v := 3) hx hb dX4_bedFor_41 (by decide) ?_
      refine zk_R (D := D) (va_runV (As := [.int (nI i), .int 3]) (rest := []) ⟨hx, hb, hml, hown, hts⟩ (c_X4_be l D cI μ th σ (κ) (b := i) (w := 3) (by omega) (by decide) _) (cwV 2 hts gX4_bedFor_X4_be rfl rfl rfl zdX4_be ⟨Nat.le_of_ble_eq_true rfl, Nat.le_of_ble_eq_true rfl⟩) ⟨zbl _, va_recv hK hP (ci := 4) (q0 := 0) rfl rfl, zpr hK hP hD⟩ rfl rfl hl.1 rfl (lv_room (Nat.le_of_ble_eq_true rfl)) dX4_bedFor_42 ⟨Nat.zero_le _, Nat.zero_le _⟩) hS (fun r_4 H locs hw hkp hS => ?_)
      have hP := hkp _ hP
      have hw : r_4 = σ 5 i := hw
      subst hw
      refine lv_iconst (v := (-1)) hx hb dX4_bedFor_45 (by decide) ?_
      refine lv_icmp_ne (tgt := 73) hx hb dX4_bedFor_46 (by decide) (fun c_5 => ?_) (fun c_5 => ?_)
      · refine lv_iinc (v := nI (i + 1)) (lv' := [(4, .int (nI (i + 1))), (0, .ref (μ 0)), (1, .int (nI k)), (3, .int (f_ch σ i))]) hx hb dX4_bedFor_73 hl (k := 3) rfl (nI_1 i) (by decide) rfl (fun ls hl => ?_)
        refine lv_goto (tgt := 29) hx hb dX4_bedFor_76 (by decide) ?_
        have e1 : f_ch σ (i + 1) = f_ch σ i := if_neg (fun z => c_5 z.1)
        exact ih _ _ _ ⟨hP, hS, by rw [e1]; exact lv_sub hl [1, 2, 3, 0] rfl⟩
      · refine lv_iload_n hx hb dX4_bedFor_49 rfl (lv_at hl 2 rfl) ?_
        refine lv_iconst (v := (-1)) hx hb dX4_bedFor_50 (by decide) ?_
        refine lv_icmp_eq (tgt := 70) hx hb dX4_bedFor_51 (by decide) (fun c_6 => ?_) (fun c_6 => ?_)
        · refine lv_iload hx hb dX4_bedFor_70 (lv_at hl 3 rfl) ?_
          refine lv_istore_n (lv' := [(3, .int (nI i)), (0, .ref (μ 0)), (1, .int (nI k)), (4, .int (nI i))]) hx hb dX4_bedFor_72 rfl hl (by decide) rfl (fun ls hl => ?_)
          refine lv_iinc (v := nI (i + 1)) (lv' := [(4, .int (nI (i + 1))), (3, .int (nI i)), (0, .ref (μ 0)), (1, .int (nI k))]) hx hb dX4_bedFor_73 hl (k := 3) rfl (nI_1 i) (by decide) rfl (fun ls hl => ?_)
          refine lv_goto (tgt := 29) hx hb dX4_bedFor_76 (by decide) ?_
          have e1 : f_ch σ (i + 1) = nI i := if_pos ⟨c_5, Or.inl c_6⟩
          exact ih _ _ _ ⟨hP, hS, by rw [e1]; exact lv_sub hl [2, 3, 1, 0] rfl⟩
        · refine lv_aload_n hx hb dX4_bedFor_54 rfl (lv_at hl 0 rfl) ?_
          refine va_get (D := D) (ci := 4) (v := .ref (μ 1)) (C := RX4) (T := TX4) (N := 8) hx hb hts hinX4 hown hK hP 0 rfl rfl 3 (by decide) hf9 (fun _ h9 => h9) rfl dX4_bedFor_55 ?_
          refine lv_iload hx hb dX4_bedFor_58 (lv_at hl 3 rfl) ?_
          refine zk_ld hx hb hK hP 1 0 rfl rfl (k := i) (by omega) (by decide) (v := σ 1 i) rfl dX4_bedFor_60 ?_
          refine lv_aload_n hx hb dX4_bedFor_61 rfl (lv_at hl 0 rfl) ?_
          refine va_get (D := D) (ci := 4) (v := .ref (μ 1)) (C := RX4) (T := TX4) (N := 8) hx hb hts hinX4 hown hK hP 0 rfl rfl 3 (by decide) hf9 (fun _ h9 => h9) rfl dX4_bedFor_62 ?_
          refine lv_iload_n hx hb dX4_bedFor_65 rfl (lv_at hl 2 rfl) ?_
          refine va_iald hx hb hK hP 1 0 rfl rfl (zch_in (by omega) c_6) dX4_bedFor_66 ?_
          refine lv_icmp_ge (tgt := 73) hx hb dX4_bedFor_67 (by decide) (fun c_7 => ?_) (fun c_7 => ?_)
          · refine lv_iinc (v := nI (i + 1)) (lv' := [(4, .int (nI (i + 1))), (0, .ref (μ 0)), (1, .int (nI k)), (3, .int (f_ch σ i))]) hx hb dX4_bedFor_73 hl (k := 3) rfl (nI_1 i) (by decide) rfl (fun ls hl => ?_)
            refine lv_goto (tgt := 29) hx hb dX4_bedFor_76 (by decide) ?_
            have e1 : f_ch σ (i + 1) = f_ch σ i := if_neg (fun z => z.2.elim c_6 (fun y => y c_7))
            exact ih _ _ _ ⟨hP, hS, by rw [e1]; exact lv_sub hl [1, 2, 3, 0] rfl⟩
          · refine lv_iload hx hb dX4_bedFor_70 (lv_at hl 3 rfl) ?_
            refine lv_istore_n (lv' := [(3, .int (nI i)), (0, .ref (μ 0)), (1, .int (nI k)), (4, .int (nI i))]) hx hb dX4_bedFor_72 rfl hl (by decide) rfl (fun ls hl => ?_)
            refine lv_iinc (v := nI (i + 1)) (lv' := [(4, .int (nI (i + 1))), (3, .int (nI i)), (0, .ref (μ 0)), (1, .int (nI k))]) hx hb dX4_bedFor_73 hl (k := 3) rfl (nI_1 i) (by decide) rfl (fun ls hl => ?_)
            refine lv_goto (tgt := 29) hx hb dX4_bedFor_76 (by decide) ?_
            have e1 : f_ch σ (i + 1) = nI i := if_pos ⟨c_5, Or.inr c_7⟩
            exact ih _ _ _ ⟨hP, hS, by rw [e1]; exact lv_sub hl [2, 3, 1, 0] rfl⟩
    · obtain ⟨hP, hS, hl⟩ := hI
      refine lv_iload hx hb dX4_bedFor_29 (lv_at hl 3 rfl) ?_
      refine lv_aload_n hx hb dX4_bedFor_31 rfl (lv_at hl 0 rfl) ?_
      refine va_get (D := D) (ci := 4) (v := .int (nI nb)) (C := RX4) (T := TX4) (N := 8) hx hb hts hinX4 hown hK hP 0 rfl rfl 1 (by decide) hf29 (fun _ h9 => h9) (congrArg (fun z => some (Value.int z)) hC.1) dX4_bedFor_32 ?_
      refine lv_icmp_ge (tgt := 79) hx hb dX4_bedFor_35 (by decide) (fun _ => ?_) (fun c => absurd (Int32.le_refl _) c)
      refine lv_iload_n hx hb dX4_bedFor_79 rfl (lv_at hl 2 rfl) ?_
      exact W.iret (v := f_ch σ nb) hx hb hr (fun t ht hW => ⟨⟨f_ch σ nb, (), rfl, (by rw [f_choose, if_neg hnf]), trivial⟩, hS.F ht⟩) hS.2.2 dX4_bedFor_80
  · obtain ⟨b, hb9, eb⟩ := hs.own c_2
    rw [eb] at hl
    refine lv_aload_n hx hb dX4_bedFor_12 rfl (lv_at hl 1 rfl) ?_
    refine lv_iload_n hx hb dX4_bedFor_13 rfl (lv_at hl 0 rfl) ?_
    refine lv_iconst (v := 3) hx hb dX4_bedFor_14 (by decide) ?_
    refine zk_R (D := D) (va_runV (As := [.int (nI b), .int 3]) (rest := []) ⟨hx, hb, hml, hown, hts⟩ (c_X4_be l D cI μ th σ (κ) (b := b) (w := 3) (by omega) (by decide) _) (cwV 2 hts gX4_bedFor_X4_be rfl rfl rfl zdX4_be ⟨Nat.le_of_ble_eq_true rfl, Nat.le_of_ble_eq_true rfl⟩) ⟨zbl _, va_recv hK hP (ci := 4) (q0 := 0) rfl rfl, zpr hK hP hD⟩ rfl rfl hl.1 rfl (lv_room (Nat.le_of_ble_eq_true rfl)) dX4_bedFor_15 ⟨Nat.zero_le _, Nat.zero_le _⟩) hS (fun r_9 H locs hw hkp hS => ?_)
    have hP := hkp _ hP
    have hw : r_9 = σ 5 b := hw
    subst hw
    refine lv_iconst (v := (-1)) hx hb dX4_bedFor_18 (by decide) ?_
    refine lv_icmp_ne (tgt := 24) hx hb dX4_bedFor_19 (by decide) (fun c_10 => ?_) (fun c_10 => ?_)
    · have hnf : ¬ f_free σ (σ 11 k) := by rw [eb]; exact fun z => c_10 ((zfree_k hC hb9).mp z)
      refine lv_iconst (v := (-1)) hx hb dX4_bedFor_24 (by decide) ?_
      refine lv_istore_n (lv' := [(3, .int (-1)), (2, .int (nI b)), (0, .ref (μ 0)), (1, .int (nI k))]) hx hb dX4_bedFor_25 rfl hl (by decide) rfl (fun ls hl => ?_)
      refine lv_iconst (v := 0) hx hb dX4_bedFor_26 (by decide) ?_
      refine lv_istore (lv' := [(4, .int 0), (3, .int (-1)), (2, .int (nI b)), (0, .ref (μ 0)), (1, .int (nI k))]) hx hb dX4_bedFor_27 hl (by decide) rfl (fun ls hl => ?_)
      refine zk_loop (pc := 29) (fun i H locs ls => va_P D vwCl (zw_M cI μ th σ (κ)) H ∧ va_S (fun _ => False) s.heap H locs ∧ lv_has ls 5 [(0, .ref (μ 0)), (1, .int (nI k)), (3, .int (f_ch σ i)), (4, .int (nI i))]) nb (fun i hki ih H locs ls hI => ?_) (fun H locs ls hI => ?_) _ _ _ ⟨hP, hS, lv_sub hl [3, 4, 1, 0] rfl⟩
      · obtain ⟨hP, hS, hl⟩ := hI
        refine lv_iload hx hb dX4_bedFor_29 (lv_at hl 3 rfl) ?_
        refine lv_aload_n hx hb dX4_bedFor_31 rfl (lv_at hl 0 rfl) ?_
        refine va_get (D := D) (ci := 4) (v := .int (nI nb)) (C := RX4) (T := TX4) (N := 8) hx hb hts hinX4 hown hK hP 0 rfl rfl 1 (by decide) hf29 (fun _ h9 => h9) (congrArg (fun z => some (Value.int z)) hC.1) dX4_bedFor_32 ?_
        refine lv_icmp_ge (tgt := 79) hx hb dX4_bedFor_35 (by decide) (fun c => absurd c (nI_ge hki (by omega))) (fun _ => ?_)
        refine lv_aload_n hx hb dX4_bedFor_38 rfl (lv_at hl 0 rfl) ?_
        refine lv_iload hx hb dX4_bedFor_39 (lv_at hl 3 rfl) ?_
        refine lv_iconst (v := 3) hx hb dX4_bedFor_41 (by decide) ?_
        refine zk_R (D := D) (va_runV (As := [.int (nI i), .int 3]) (rest := []) ⟨hx, hb, hml, hown, hts⟩ (c_X4_be l D cI μ th σ (κ) (b := i) (w := 3) (by omega) (by decide) _) (cwV 2 hts gX4_bedFor_X4_be rfl rfl rfl zdX4_be ⟨Nat.le_of_ble_eq_true rfl, Nat.le_of_ble_eq_true rfl⟩) ⟨zbl _, va_recv hK hP (ci := 4) (q0 := 0) rfl rfl, zpr hK hP hD⟩ rfl rfl hl.1 rfl (lv_room (Nat.le_of_ble_eq_true rfl)) dX4_bedFor_42 ⟨Nat.zero_le _, Nat.zero_le _⟩) hS (fun r_12 H locs hw hkp hS => ?_)
        have hP := hkp _ hP
        have hw : r_12 = σ 5 i := hw
        subst hw
        refine lv_iconst (v := (-1)) hx hb dX4_bedFor_45 (by decide) ?_
        refine lv_icmp_ne (tgt := 73) hx hb dX4_bedFor_46 (by decide) (fun c_13 => ?_) (fun c_13 => ?_)
        · refine lv_iinc (v := nI (i + 1)) (lv' := [(4, .int (nI (i + 1))), (0, .ref (μ 0)), (1, .int (nI k)), (3, .int (f_ch σ i))]) hx hb dX4_bedFor_73 hl (k := 3) rfl (nI_1 i) (by decide) rfl (fun ls hl => ?_)
          refine lv_goto (tgt := 29) hx hb dX4_bedFor_76 (by decide) ?_
          have e1 : f_ch σ (i + 1) = f_ch σ i := if_neg (fun z => c_13 z.1)
          exact ih _ _ _ ⟨hP, hS, by rw [e1]; exact lv_sub hl [1, 2, 3, 0] rfl⟩
        · refine lv_iload_n hx hb dX4_bedFor_49 rfl (lv_at hl 2 rfl) ?_
          refine lv_iconst (v := (-1)) hx hb dX4_bedFor_50 (by decide) ?_
          refine lv_icmp_eq (tgt := 70) hx hb dX4_bedFor_51 (by decide) (fun c_14 => ?_) (fun c_14 => ?_)
          · refine lv_iload hx hb dX4_bedFor_70 (lv_at hl 3 rfl) ?_
            refine lv_istore_n (lv' := [(3, .int (nI i)), (0, .ref (μ 0)), (1, .int (nI k)), (4, .int (nI i))]) hx hb dX4_bedFor_72 rfl hl (by decide) rfl (fun ls hl => ?_)
            refine lv_iinc (v := nI (i + 1)) (lv' := [(4, .int (nI (i + 1))), (3, .int (nI i)), (0, .ref (μ 0)), (1, .int (nI k))]) hx hb dX4_bedFor_73 hl (k := 3) rfl (nI_1 i) (by decide) rfl (fun ls hl => ?_)
            refine lv_goto (tgt := 29) hx hb dX4_bedFor_76 (by decide) ?_
            have e1 : f_ch σ (i + 1) = nI i := if_pos ⟨c_13, Or.inl c_14⟩
            exact ih _ _ _ ⟨hP, hS, by rw [e1]; exact lv_sub hl [2, 3, 1, 0] rfl⟩
          · refine lv_aload_n hx hb dX4_bedFor_54 rfl (lv_at hl 0 rfl) ?_
            refine va_get (D := D) (ci := 4) (v := .ref (μ 1)) (C := RX4) (T := TX4) (N := 8) hx hb hts hinX4 hown hK hP 0 rfl rfl 3 (by decide) hf9 (fun _ h9 => h9) rfl dX4_bedFor_55 ?_
            refine lv_iload hx hb dX4_bedFor_58 (lv_at hl 3 rfl) ?_
            refine zk_ld hx hb hK hP 1 0 rfl rfl (k := i) (by omega) (by decide) (v := σ 1 i) rfl dX4_bedFor_60 ?_
            refine lv_aload_n hx hb dX4_bedFor_61 rfl (lv_at hl 0 rfl) ?_
            refine va_get (D := D) (ci := 4) (v := .ref (μ 1)) (C := RX4) (T := TX4) (N := 8) hx hb hts hinX4 hown hK hP 0 rfl rfl 3 (by decide) hf9 (fun _ h9 => h9) rfl dX4_bedFor_62 ?_
            refine lv_iload_n hx hb dX4_bedFor_65 rfl (lv_at hl 2 rfl) ?_
            refine va_iald hx hb hK hP 1 0 rfl rfl (zch_in (by omega) c_14) dX4_bedFor_66 ?_
            refine lv_icmp_ge (tgt := 73) hx hb dX4_bedFor_67 (by decide) (fun c_15 => ?_) (fun c_15 => ?_)
            · refine lv_iinc (v := nI (i + 1)) (lv' := [(4, .int (nI (i + 1))), (0, .ref (μ 0)), (1, .int (nI k)), (3, .int (f_ch σ i))]) hx hb dX4_bedFor_73 hl (k := 3) rfl (nI_1 i) (by decide) rfl (fun ls hl => ?_)
              refine lv_goto (tgt := 29) hx hb dX4_bedFor_76 (by decide) ?_
              have e1 : f_ch σ (i + 1) = f_ch σ i := if_neg (fun z => z.2.elim c_14 (fun y => y c_15))
              exact ih _ _ _ ⟨hP, hS, by rw [e1]; exact lv_sub hl [1, 2, 3, 0] rfl⟩
            · refine lv_iload hx hb dX4_bedFor_70 (lv_at hl 3 rfl) ?_
              refine lv_istore_n (lv' := [(3, .int (nI i)), (0, .ref (μ 0)), (1, .int (nI k)), (4, .int (nI i))]) hx hb dX4_bedFor_72 rfl hl (by decide) rfl (fun ls hl => ?_)
              refine lv_iinc (v := nI (i + 1)) (lv' := [(4, .int (nI (i + 1))), (3, .int (nI i)), (0, .ref (μ 0)), (1, .int (nI k))]) hx hb dX4_bedFor_73 hl (k := 3) rfl (nI_1 i) (by decide) rfl (fun ls hl => ?_)
              refine lv_goto (tgt := 29) hx hb dX4_bedFor_76 (by decide) ?_
              have e1 : f_ch σ (i + 1) = nI i := if_pos ⟨c_13, Or.inr c_15⟩
              exact ih _ _ _ ⟨hP, hS, by rw [e1]; exact lv_sub hl [2, 3, 1, 0] rfl⟩
      · obtain ⟨hP, hS, hl⟩ := hI
        refine lv_iload hx hb dX4_bedFor_29 (lv_at hl 3 rfl) ?_
        refine lv_aload_n hx hb dX4_bedFor_31 rfl (lv_at hl 0 rfl) ?_
        refine va_get (D := D) (ci := 4) (v := .int (nI nb)) (C := RX4) (T := TX4) (N := 8) hx hb hts hinX4 hown hK hP 0 rfl rfl 1 (by decide) hf29 (fun _ h9 => h9) (congrArg (fun z => some (Value.int z)) hC.1) dX4_bedFor_32 ?_
        refine lv_icmp_ge (tgt := 79) hx hb dX4_bedFor_35 (by decide) (fun _ => ?_) (fun c => absurd (Int32.le_refl _) c)
        refine lv_iload_n hx hb dX4_bedFor_79 rfl (lv_at hl 2 rfl) ?_
        exact W.iret (v := f_ch σ nb) hx hb hr (fun t ht hW => ⟨⟨f_ch σ nb, (), rfl, (by rw [f_choose, if_neg hnf]), trivial⟩, hS.F ht⟩) hS.2.2 dX4_bedFor_80
    · refine lv_iload_n hx hb dX4_bedFor_22 rfl (lv_at hl 0 rfl) ?_
      exact W.iret (v := nI b) hx hb hr (fun t ht hW => ⟨⟨nI b, (), rfl, (by rw [f_choose, eb, if_pos ((zfree_k hC hb9).mpr c_10)]), trivial⟩, hS.F ht⟩) hS.2.2 dX4_bedFor_23

set_option maxHeartbeats 4000000 in
set_option maxRecDepth 100000 in
theorem c_X4_lieDown (l : Launch) (D : va_G) (cI : ClassId) (μ : Nat → Nat) (th : Int32) (σ : zS) (κ : Nat → Int32) {k : Nat} (hk : k < 10) : zMV l yX4_lieDown wsX4_lieDown ({ frames := 1, cells := 0, slots := 0, locals := 23 }) [.ref (μ 0), .int (nI k)] D [(cI, .int)] (zw_M cI μ th σ (κ)) (zw_M cI μ th (f_floor σ k) (κ)) := by
  intro sz
  refine Met.ofW (cc := cX4_lieDown) (maxL := 2) (ret := none) (by decide) rfl ?_
  intro p e s m args below meth c s₁ B hml hv
  obtain ⟨rfl, hsz, hP, hK, hD⟩ := hv
  have hx := B.exec
  have hb := B.bytes
  have hr := B.returns
  have hts := atoms_spec (ws := wsX4_lieDown) B.pre
  have hown : s.vm.findClass RX4 = some m.cls := findClass_of_methodNamed B.named
  have hlocks := B.notSynchronized
  subst hsz
  have hD := hD.self (sz := s.heap.size)
  generalize hAe : va_A (zw_M cI μ th σ (κ)) s.heap.size = A at hD ⊢
  have hA : ∀ q : Nat, s.heap.size ≤ q → A q := fun q h => by rw [← hAe]; exact Or.inr h
  have hS : va_S A s.heap s.heap [] := va_S.rf
  have hP : va_P D vwCl (zw_M cI μ th σ (κ)) s.heap := hP
  have hl := lv_entry ([.ref (μ 0), .int (nI k)]) (n := 2) (Nat.le_of_ble_eq_true rfl)
  rw [lg_entry_eq]
  generalize (lg_sl ([.ref (μ 0), .int (nI k)]) ++ List.replicate (2 - (lg_sl ([.ref (μ 0), .int (nI k)])).length) Slot.unset).toArray = ls at hl ⊢
  have hl : lv_has ls 2 [(0, .ref (μ 0)), (1, .int (nI k))] := hl
  refine lv_aload_n hx hb dX4_lieDown_0 rfl (lv_at hl 0 rfl) ?_
  refine lv_iload_n hx hb dX4_lieDown_1 rfl (lv_at hl 1 rfl) ?_
  refine lv_iconst (v := 4) hx hb dX4_lieDown_2 (by decide) ?_
  refine lv_iconst (v := 2) hx hb dX4_lieDown_3 (by decide) ?_
  have hF := zfree hD hS hA
  refine zk_V (va_runV (As := [.int (nI k), .int 4, .int 2]) (rest := []) ⟨hx, hb, hml, hown, hts⟩ (c_X4_let l D cI μ th σ (κ) (k := k) (w := 4) hk (by decide) 2 _) (cwV 3 hts gX4_lieDown_X4_let rfl rfl rfl zdX4_let ⟨Nat.le_of_ble_eq_true rfl, Nat.le_of_ble_eq_true rfl⟩) ⟨zbl _, va_recv hK hP (ci := 4) (q0 := 0) rfl rfl, zpr hK hP hD⟩ rfl rfl hl.1 rfl (lv_room (Nat.le_of_ble_eq_true rfl)) dX4_lieDown_4 ⟨Nat.zero_le _, Nat.zero_le _⟩) hS hF (fun H locs hkp hP1 hD1 hS => ?_)
  have hP := hP1
  have hD := hD1.weaken (fun _ _ _ z => hF _ z)
  have hP : va_P D vwCl (zw_M cI μ th (zs σ 12 k 2) (κ)) H := hP
  have hD : va_D A (zw_M cI μ th (zs σ 12 k 2) (κ)) := hD
  refine lv_aload_n hx hb dX4_lieDown_7 rfl (lv_at hl 0 rfl) ?_
  refine lv_iload_n hx hb dX4_lieDown_8 rfl (lv_at hl 1 rfl) ?_
  refine lv_bipush (v := 8) hx hb dX4_lieDown_9 (by decide) ?_
  refine lv_iconst (v := 1) hx hb dX4_lieDown_11 (by decide) ?_
  have hF := zfree hD hS hA
  refine zk_V (va_runV (As := [.int (nI k), .int 8, .int 1]) (rest := []) ⟨hx, hb, hml, hown, hts⟩ (c_X4_more l D cI μ th (zs σ 12 k 2) (κ) (k := k) (w := 8) hk (by decide) 1 _) (cwV 3 hts gX4_lieDown_X4_more rfl rfl rfl zdX4_more ⟨Nat.le_of_ble_eq_true rfl, Nat.le_of_ble_eq_true rfl⟩) ⟨zbl _, va_recv hK hP (ci := 4) (q0 := 0) rfl rfl, zpr hK hP hD⟩ rfl rfl hl.1 rfl (lv_room (Nat.le_of_ble_eq_true rfl)) dX4_lieDown_12 ⟨Nat.zero_le _, Nat.zero_le _⟩) hS hF (fun H locs hkp hP1 hD1 hS => ?_)
  have hP := hP1
  have hD := hD1.weaken (fun _ _ _ z => hF _ z)
  have hP : va_P D vwCl (zw_M cI μ th (zs (zs σ 12 k 2) 17 k (((zs σ 12 k 2) 17 k) + 1)) (κ)) H := hP
  have hD : va_D A (zw_M cI μ th (zs (zs σ 12 k 2) 17 k (((zs σ 12 k 2) 17 k) + 1)) (κ)) := hD
  have e9 : f_floor σ k = zs (zs σ 12 k 2) 17 k (((zs σ 12 k 2) 17 k) + 1) := by rfl
  have hP9 : va_P D vwCl (zw_M cI μ th (f_floor σ k) (κ)) H := by rw [e9]; exact hP
  have hD9 : va_D A (zw_M cI μ th (f_floor σ k) (κ)) := by rw [e9]; exact hD
  exact W.vret hx hb hr (fun t ht hW => ⟨⟨(), rfl, trivial, by rw [ht]; exact hP9, va_K.moved hW.alike hK, hD9⟩, hS.F ht⟩) hS.2.2 dX4_lieDown_15

set_option maxHeartbeats 4000000 in
set_option maxRecDepth 100000 in
theorem c_X4_look (l : Launch) (D : va_G) (cI : ClassId) (μ : Nat → Nat) (th : Int32) (σ : zS) (κ : Nat → Int32) {k B : Nat} {nb ns h : Nat} (hC : zC σ nb ns h) (hk : k < 10) (hs : zsk σ nb B k) : zMV l yX4_look wsX4_look ({ frames := 3, cells := 0, slots := 0, locals := 66 }) [.ref (μ 0), .int (nI k)] D [(cI, .int)] (zw_M cI μ th σ (κ)) (zw_M cI μ th (f_look σ nb h k) (κ)) := by
  intro sz
  refine Met.ofW (cc := cX4_look) (maxL := 4) (ret := none) (by decide) rfl ?_
  intro p e s m args below meth c s₁ B hml hv
  obtain ⟨rfl, hsz, hP, hK, hD⟩ := hv
  have hx := B.exec
  have hb := B.bytes
  have hr := B.returns
  have hts := atoms_spec (ws := wsX4_look) B.pre
  have hown : s.vm.findClass RX4 = some m.cls := findClass_of_methodNamed B.named
  have hlocks := B.notSynchronized
  subst hsz
  have hD := hD.self (sz := s.heap.size)
  generalize hAe : va_A (zw_M cI μ th σ (κ)) s.heap.size = A at hD ⊢
  have hA : ∀ q : Nat, s.heap.size ≤ q → A q := fun q h => by rw [← hAe]; exact Or.inr h
  have hS : va_S A s.heap s.heap [] := va_S.rf
  have hP : va_P D vwCl (zw_M cI μ th σ (κ)) s.heap := hP
  have hl := lv_entry ([.ref (μ 0), .int (nI k)]) (n := 4) (Nat.le_of_ble_eq_true rfl)
  rw [lg_entry_eq]
  generalize (lg_sl ([.ref (μ 0), .int (nI k)]) ++ List.replicate (4 - (lg_sl ([.ref (μ 0), .int (nI k)])).length) Slot.unset).toArray = ls at hl ⊢
  have hl : lv_has ls 4 [(0, .ref (μ 0)), (1, .int (nI k))] := hl
  have hf19 := hts (.fieldLink RX4 19 "HotBedsModel" "now" "[I") (by decide +kernel)
  have hf9 := hts (.fieldLink RX4 9 "HotBedsModel" "prices" "[I") (by decide +kernel)
  have hinX4 : ∀ w ∈ u_ws RX4 TX4 8, w ∈ wsX4_look := by decide +kernel
  have hnb := hC.2.1
  have hns := hC.2.2.2.1
  have hh := hC.2.2.2.2.2.1
  refine lv_aload_n hx hb dX4_look_0 rfl (lv_at hl 0 rfl) ?_
  refine lv_iload_n hx hb dX4_look_1 rfl (lv_at hl 1 rfl) ?_
  refine zk_R (D := D) (va_runV (As := [.int (nI k)]) (rest := []) ⟨hx, hb, hml, hown, hts⟩ (c_X4_bedFor l D cI μ th σ (κ) (k := k) hC hk hs _) (cwV 1 hts gX4_look_X4_bedFor rfl rfl rfl zdX4_bedFor ⟨Nat.le_of_ble_eq_true rfl, Nat.le_of_ble_eq_true rfl⟩) ⟨zbl _, va_recv hK hP (ci := 4) (q0 := 0) rfl rfl, zpr hK hP hD⟩ rfl rfl hl.1 rfl (lv_room (Nat.le_of_ble_eq_true rfl)) dX4_look_2 ⟨Nat.zero_le _, Nat.zero_le _⟩) hS (fun r_1 H locs hw hkp hS => ?_)
  have hP := hkp _ hP
  have hw : r_1 = f_choose σ nb k := hw
  subst hw
  refine lv_istore_n (lv' := [(2, .int (f_choose σ nb k)), (0, .ref (μ 0)), (1, .int (nI k))]) hx hb dX4_look_5 rfl hl (by decide) rfl (fun ls hl => ?_)
  refine lv_iload_n hx hb dX4_look_6 rfl (lv_at hl 0 rfl) ?_
  refine lv_iconst (v := (-1)) hx hb dX4_look_7 (by decide) ?_
  refine lv_icmp_ne (tgt := 30) hx hb dX4_look_8 (by decide) (fun c_2 => ?_) (fun c_2 => ?_)
  · obtain ⟨b, hb9, eb⟩ := (zchoose hC hs).resolve_left c_2
    have hhs : f_has σ (f_choose σ nb k) := by rw [eb]; exact zhas_k hC hb9
    rw [eb] at hl
    refine lv_aload_n hx hb dX4_look_30 rfl (lv_at hl 1 rfl) ?_
    refine va_get (D := D) (ci := 4) (v := .ref (μ 1)) (C := RX4) (T := TX4) (N := 8) hx hb hts hinX4 hown hK hP 0 rfl rfl 3 (by decide) hf9 (fun _ h9 => h9) rfl dX4_look_31 ?_
    refine lv_iload_n hx hb dX4_look_34 rfl (lv_at hl 0 rfl) ?_
    refine zk_ld hx hb hK hP 1 0 rfl rfl (k := b) (by omega) (by decide) (v := σ 1 b) rfl dX4_look_35 ?_
    refine lv_istore_n (lv' := [(3, .int (σ 1 b)), (2, .int (nI b)), (0, .ref (μ 0)), (1, .int (nI k))]) hx hb dX4_look_36 rfl hl (by decide) rfl (fun ls hl => ?_)
    refine lv_aload_n hx hb dX4_look_37 rfl (lv_at hl 2 rfl) ?_
    refine lv_iload_n hx hb dX4_look_38 rfl (lv_at hl 3 rfl) ?_
    refine lv_iconst (v := 1) hx hb dX4_look_39 (by decide) ?_
    refine zk_R (D := D) (va_runV (As := [.int (nI k), .int 1]) (rest := []) ⟨hx, hb, hml, hown, hts⟩ (c_X4_sa l D cI μ th σ (κ) (k := k) (w := 1) hk (by decide) _) (cwV 2 hts gX4_look_X4_sa rfl rfl rfl zdX4_sa ⟨Nat.le_of_ble_eq_true rfl, Nat.le_of_ble_eq_true rfl⟩) ⟨zbl _, va_recv hK hP (ci := 4) (q0 := 0) rfl rfl, zpr hK hP hD⟩ rfl rfl hl.1 rfl (lv_room (Nat.le_of_ble_eq_true rfl)) dX4_look_40 ⟨Nat.zero_le _, Nat.zero_le _⟩) hS (fun r_3 H locs hw hkp hS => ?_)
    have hP := hkp _ hP
    have hw : r_3 = σ 9 k := hw
    subst hw
    refine lv_iload_n hx hb dX4_look_43 rfl (lv_at hl 0 rfl) ?_
    refine lv_icmp_ge (tgt := 80) hx hb dX4_look_44 (by decide) (fun c_4 => ?_) (fun c_4 => ?_)
    · refine lv_aload_n hx hb dX4_look_80 rfl (lv_at hl 2 rfl) ?_
      refine lv_iload_n hx hb dX4_look_81 rfl (lv_at hl 3 rfl) ?_
      refine lv_iconst (v := 1) hx hb dX4_look_82 (by decide) ?_
      refine zk_R (D := D) (va_runV (As := [.int (nI k), .int 1]) (rest := []) ⟨hx, hb, hml, hown, hts⟩ (c_X4_sa l D cI μ th σ (κ) (k := k) (w := 1) hk (by decide) _) (cwV 2 hts gX4_look_X4_sa rfl rfl rfl zdX4_sa ⟨Nat.le_of_ble_eq_true rfl, Nat.le_of_ble_eq_true rfl⟩) ⟨zbl _, va_recv hK hP (ci := 4) (q0 := 0) rfl rfl, zpr hK hP hD⟩ rfl rfl hl.1 rfl (lv_room (Nat.le_of_ble_eq_true rfl)) dX4_look_83 ⟨Nat.zero_le _, Nat.zero_le _⟩) hS (fun r_5 H locs hw hkp hS => ?_)
      have hP := hkp _ hP
      have hw : r_5 = σ 9 k := hw
      subst hw
      refine lv_iload_n hx hb dX4_look_86 rfl (lv_at hl 0 rfl) ?_
      refine lv_icmp_ge (tgt := 96) hx hb dX4_look_87 (by decide) (fun c_6 => ?_) (fun c_6 => ?_)
      · refine lv_aload_n hx hb dX4_look_96 rfl (lv_at hl 2 rfl) ?_
        refine lv_iload_n hx hb dX4_look_97 rfl (lv_at hl 3 rfl) ?_
        refine lv_iconst (v := 1) hx hb dX4_look_98 (by decide) ?_
        refine lv_iload_n hx hb dX4_look_99 rfl (lv_at hl 0 rfl) ?_
        refine lv_ineg hx hb dX4_look_100 ?_
        have hF := zfree hD hS hA
        refine zk_V (va_runV (As := [.int (nI k), .int 1, .int (-(σ 1 b))]) (rest := []) ⟨hx, hb, hml, hown, hts⟩ (c_X4_more l D cI μ th σ (κ) (k := k) (w := 1) hk (by decide) (-(σ 1 b)) _) (cwV 3 hts gX4_look_X4_more rfl rfl rfl zdX4_more ⟨Nat.le_of_ble_eq_true rfl, Nat.le_of_ble_eq_true rfl⟩) ⟨zbl _, va_recv hK hP (ci := 4) (q0 := 0) rfl rfl, zpr hK hP hD⟩ rfl rfl hl.1 rfl (lv_room (Nat.le_of_ble_eq_true rfl)) dX4_look_101 ⟨Nat.zero_le _, Nat.zero_le _⟩) hS hF (fun H locs hkp hP1 hD1 hS => ?_)
        have hP := hP1
        have hD := hD1.weaken (fun _ _ _ z => hF _ z)
        have hP : va_P D vwCl (zw_M cI μ th (zs σ 9 k ((σ 9 k) + (-(σ 1 b)))) (κ)) H := hP
        have hD : va_D A (zw_M cI μ th (zs σ 9 k ((σ 9 k) + (-(σ 1 b)))) (κ)) := hD
        refine lv_aload_n hx hb dX4_look_104 rfl (lv_at hl 2 rfl) ?_
        refine lv_iload_n hx hb dX4_look_105 rfl (lv_at hl 3 rfl) ?_
        refine lv_iconst (v := 4) hx hb dX4_look_106 (by decide) ?_
        refine lv_iconst (v := 1) hx hb dX4_look_107 (by decide) ?_
        have hF := zfree hD hS hA
        refine zk_V (va_runV (As := [.int (nI k), .int 4, .int 1]) (rest := []) ⟨hx, hb, hml, hown, hts⟩ (c_X4_let l D cI μ th (zs σ 9 k ((σ 9 k) + (-(σ 1 b)))) (κ) (k := k) (w := 4) hk (by decide) 1 _) (cwV 3 hts gX4_look_X4_let rfl rfl rfl zdX4_let ⟨Nat.le_of_ble_eq_true rfl, Nat.le_of_ble_eq_true rfl⟩) ⟨zbl _, va_recv hK hP (ci := 4) (q0 := 0) rfl rfl, zpr hK hP hD⟩ rfl rfl hl.1 rfl (lv_room (Nat.le_of_ble_eq_true rfl)) dX4_look_108 ⟨Nat.zero_le _, Nat.zero_le _⟩) hS hF (fun H locs hkp hP1 hD1 hS => ?_)
        have hP := hP1
        have hD := hD1.weaken (fun _ _ _ z => hF _ z)
        have hP : va_P D vwCl (zw_M cI μ th (zs (zs σ 9 k ((σ 9 k) + (-(σ 1 b)))) 12 k 1) (κ)) H := hP
        have hD : va_D A (zw_M cI μ th (zs (zs σ 9 k ((σ 9 k) + (-(σ 1 b)))) 12 k 1) (κ)) := hD
        refine lv_aload_n hx hb dX4_look_111 rfl (lv_at hl 2 rfl) ?_
        refine lv_iload_n hx hb dX4_look_112 rfl (lv_at hl 3 rfl) ?_
        refine lv_iconst (v := 5) hx hb dX4_look_113 (by decide) ?_
        refine lv_iload_n hx hb dX4_look_114 rfl (lv_at hl 1 rfl) ?_
        have hF := zfree hD hS hA
        refine zk_V (va_runV (As := [.int (nI k), .int 5, .int (nI b)]) (rest := []) ⟨hx, hb, hml, hown, hts⟩ (c_X4_let l D cI μ th (zs (zs σ 9 k ((σ 9 k) + (-(σ 1 b)))) 12 k 1) (κ) (k := k) (w := 5) hk (by decide) (nI b) _) (cwV 3 hts gX4_look_X4_let rfl rfl rfl zdX4_let ⟨Nat.le_of_ble_eq_true rfl, Nat.le_of_ble_eq_true rfl⟩) ⟨zbl _, va_recv hK hP (ci := 4) (q0 := 0) rfl rfl, zpr hK hP hD⟩ rfl rfl hl.1 rfl (lv_room (Nat.le_of_ble_eq_true rfl)) dX4_look_115 ⟨Nat.zero_le _, Nat.zero_le _⟩) hS hF (fun H locs hkp hP1 hD1 hS => ?_)
        have hP := hP1
        have hD := hD1.weaken (fun _ _ _ z => hF _ z)
        have hP : va_P D vwCl (zw_M cI μ th (zs (zs (zs σ 9 k ((σ 9 k) + (-(σ 1 b)))) 12 k 1) 13 k (nI b)) (κ)) H := hP
        have hD : va_D A (zw_M cI μ th (zs (zs (zs σ 9 k ((σ 9 k) + (-(σ 1 b)))) 12 k 1) 13 k (nI b)) (κ)) := hD
        refine lv_aload_n hx hb dX4_look_118 rfl (lv_at hl 2 rfl) ?_
        refine lv_iload_n hx hb dX4_look_119 rfl (lv_at hl 1 rfl) ?_
        refine lv_iconst (v := 3) hx hb dX4_look_120 (by decide) ?_
        refine lv_iload_n hx hb dX4_look_121 rfl (lv_at hl 3 rfl) ?_
        have hF := zfree hD hS hA
        refine zk_V (va_runV (As := [.int (nI b), .int 3, .int (nI k)]) (rest := []) ⟨hx, hb, hml, hown, hts⟩ (c_X4_letBed l D cI μ th (zs (zs (zs σ 9 k ((σ 9 k) + (-(σ 1 b)))) 12 k 1) 13 k (nI b)) (κ) (b := b) (w := 3) (by omega) (by decide) (nI k) _) (cwV 3 hts gX4_look_X4_letBed rfl rfl rfl zdX4_letBed ⟨Nat.le_of_ble_eq_true rfl, Nat.le_of_ble_eq_true rfl⟩) ⟨zbl _, va_recv hK hP (ci := 4) (q0 := 0) rfl rfl, zpr hK hP hD⟩ rfl rfl hl.1 rfl (lv_room (Nat.le_of_ble_eq_true rfl)) dX4_look_122 ⟨Nat.zero_le _, Nat.zero_le _⟩) hS hF (fun H locs hkp hP1 hD1 hS => ?_)
        have hP := hP1
        have hD := hD1.weaken (fun _ _ _ z => hF _ z)
        have hP : va_P D vwCl (zw_M cI μ th (zs (zs (zs (zs σ 9 k ((σ 9 k) + (-(σ 1 b)))) 12 k 1) 13 k (nI b)) 5 b (nI k)) (κ)) H := hP
        have hD : va_D A (zw_M cI μ th (zs (zs (zs (zs σ 9 k ((σ 9 k) + (-(σ 1 b)))) 12 k 1) 13 k (nI b)) 5 b (nI k)) (κ)) := hD
        refine lv_aload_n hx hb dX4_look_125 rfl (lv_at hl 2 rfl) ?_
        refine lv_iload_n hx hb dX4_look_126 rfl (lv_at hl 1 rfl) ?_
        refine lv_iconst (v := 1) hx hb dX4_look_127 (by decide) ?_
        refine lv_aload_n hx hb dX4_look_128 rfl (lv_at hl 2 rfl) ?_
        refine lv_iload_n hx hb dX4_look_129 rfl (lv_at hl 1 rfl) ?_
        refine lv_iconst (v := 1) hx hb dX4_look_130 (by decide) ?_
        refine zk_R (D := D) (va_runV (As := [.int (nI b), .int 1]) (rest := [.int 1, .int (nI b), .ref (μ 0)]) ⟨hx, hb, hml, hown, hts⟩ (c_X4_be l D cI μ th (zs (zs (zs (zs σ 9 k ((σ 9 k) + (-(σ 1 b)))) 12 k 1) 13 k (nI b)) 5 b (nI k)) (κ) (b := b) (w := 1) (by omega) (by decide) _) (cwV 2 hts gX4_look_X4_be rfl rfl rfl zdX4_be ⟨Nat.le_of_ble_eq_true rfl, Nat.le_of_ble_eq_true rfl⟩) ⟨zbl _, va_recv hK hP (ci := 4) (q0 := 0) rfl rfl, zpr hK hP hD⟩ rfl rfl hl.1 rfl (lv_room (Nat.le_of_ble_eq_true rfl)) dX4_look_131 ⟨Nat.zero_le _, Nat.zero_le _⟩) hS (fun r_7 H locs hw hkp hS => ?_)
        have hP := hkp _ hP
        have hw : r_7 = σ 3 b := hw
        subst hw
        refine lv_iconst (v := 1) hx hb dX4_look_134 (by decide) ?_
        refine lv_iadd hx hb dX4_look_135 ?_
        have hF := zfree hD hS hA
        refine zk_V (va_runV (As := [.int (nI b), .int 1, .int ((σ 3 b) + 1)]) (rest := []) ⟨hx, hb, hml, hown, hts⟩ (c_X4_letBed l D cI μ th (zs (zs (zs (zs σ 9 k ((σ 9 k) + (-(σ 1 b)))) 12 k 1) 13 k (nI b)) 5 b (nI k)) (κ) (b := b) (w := 1) (by omega) (by decide) ((σ 3 b) + 1) _) (cwV 3 hts gX4_look_X4_letBed rfl rfl rfl zdX4_letBed ⟨Nat.le_of_ble_eq_true rfl, Nat.le_of_ble_eq_true rfl⟩) ⟨zbl _, va_recv hK hP (ci := 4) (q0 := 0) rfl rfl, zpr hK hP hD⟩ rfl rfl hl.1 rfl (lv_room (Nat.le_of_ble_eq_true rfl)) dX4_look_136 ⟨Nat.zero_le _, Nat.zero_le _⟩) hS hF (fun H locs hkp hP1 hD1 hS => ?_)
        have hP := hP1
        have hD := hD1.weaken (fun _ _ _ z => hF _ z)
        have hP : va_P D vwCl (zw_M cI μ th (zs (zs (zs (zs (zs σ 9 k ((σ 9 k) + (-(σ 1 b)))) 12 k 1) 13 k (nI b)) 5 b (nI k)) 3 b ((σ 3 b) + 1)) (κ)) H := hP
        have hD : va_D A (zw_M cI μ th (zs (zs (zs (zs (zs σ 9 k ((σ 9 k) + (-(σ 1 b)))) 12 k 1) 13 k (nI b)) 5 b (nI k)) 3 b ((σ 3 b) + 1)) (κ)) := hD
        refine lv_aload_n hx hb dX4_look_139 rfl (lv_at hl 2 rfl) ?_
        refine lv_iload_n hx hb dX4_look_140 rfl (lv_at hl 1 rfl) ?_
        refine lv_iconst (v := 2) hx hb dX4_look_141 (by decide) ?_
        refine lv_aload_n hx hb dX4_look_142 rfl (lv_at hl 2 rfl) ?_
        refine lv_iload_n hx hb dX4_look_143 rfl (lv_at hl 1 rfl) ?_
        refine lv_iconst (v := 2) hx hb dX4_look_144 (by decide) ?_
        refine zk_R (D := D) (va_runV (As := [.int (nI b), .int 2]) (rest := [.int 2, .int (nI b), .ref (μ 0)]) ⟨hx, hb, hml, hown, hts⟩ (c_X4_be l D cI μ th (zs (zs (zs (zs (zs σ 9 k ((σ 9 k) + (-(σ 1 b)))) 12 k 1) 13 k (nI b)) 5 b (nI k)) 3 b ((σ 3 b) + 1)) (κ) (b := b) (w := 2) (by omega) (by decide) _) (cwV 2 hts gX4_look_X4_be rfl rfl rfl zdX4_be ⟨Nat.le_of_ble_eq_true rfl, Nat.le_of_ble_eq_true rfl⟩) ⟨zbl _, va_recv hK hP (ci := 4) (q0 := 0) rfl rfl, zpr hK hP hD⟩ rfl rfl hl.1 rfl (lv_room (Nat.le_of_ble_eq_true rfl)) dX4_look_145 ⟨Nat.zero_le _, Nat.zero_le _⟩) hS (fun r_8 H locs hw hkp hS => ?_)
        have hP := hkp _ hP
        have hw : r_8 = σ 4 b := hw
        subst hw
        refine lv_iload_n hx hb dX4_look_148 rfl (lv_at hl 0 rfl) ?_
        refine lv_iadd hx hb dX4_look_149 ?_
        have hF := zfree hD hS hA
        refine zk_V (va_runV (As := [.int (nI b), .int 2, .int ((σ 4 b) + (σ 1 b))]) (rest := []) ⟨hx, hb, hml, hown, hts⟩ (c_X4_letBed l D cI μ th (zs (zs (zs (zs (zs σ 9 k ((σ 9 k) + (-(σ 1 b)))) 12 k 1) 13 k (nI b)) 5 b (nI k)) 3 b ((σ 3 b) + 1)) (κ) (b := b) (w := 2) (by omega) (by decide) ((σ 4 b) + (σ 1 b)) _) (cwV 3 hts gX4_look_X4_letBed rfl rfl rfl zdX4_letBed ⟨Nat.le_of_ble_eq_true rfl, Nat.le_of_ble_eq_true rfl⟩) ⟨zbl _, va_recv hK hP (ci := 4) (q0 := 0) rfl rfl, zpr hK hP hD⟩ rfl rfl hl.1 rfl (lv_room (Nat.le_of_ble_eq_true rfl)) dX4_look_150 ⟨Nat.zero_le _, Nat.zero_le _⟩) hS hF (fun H locs hkp hP1 hD1 hS => ?_)
        have hP := hP1
        have hD := hD1.weaken (fun _ _ _ z => hF _ z)
        have hP : va_P D vwCl (zw_M cI μ th (zs (zs (zs (zs (zs (zs σ 9 k ((σ 9 k) + (-(σ 1 b)))) 12 k 1) 13 k (nI b)) 5 b (nI k)) 3 b ((σ 3 b) + 1)) 4 b ((σ 4 b) + (σ 1 b))) (κ)) H := hP
        have hD : va_D A (zw_M cI μ th (zs (zs (zs (zs (zs (zs σ 9 k ((σ 9 k) + (-(σ 1 b)))) 12 k 1) 13 k (nI b)) 5 b (nI k)) 3 b ((σ 3 b) + 1)) 4 b ((σ 4 b) + (σ 1 b))) (κ)) := hD
        have e9 : f_look σ nb h k = zs (zs (zs (zs (zs (zs σ 9 k ((σ 9 k) + (-(σ 1 b)))) 12 k 1) 13 k (nI b)) 5 b (nI k)) 3 b ((σ 3 b) + 1)) 4 b ((σ 4 b) + (σ 1 b)) := by rw [f_look, if_pos hhs, eb, nI_clamp (by omega), f_try, show f_try1 σ k b = σ from if_neg (fun z => z.1 c_4), if_neg (Int32.not_lt.mpr c_6), zinto σ k b rfl]
        have hP9 : va_P D vwCl (zw_M cI μ th (f_look σ nb h k) (κ)) H := by rw [e9]; exact hP
        have hD9 : va_D A (zw_M cI μ th (f_look σ nb h k) (κ)) := by rw [e9]; exact hD
        exact W.vret hx hb hr (fun t ht hW => ⟨⟨(), rfl, trivial, by rw [ht]; exact hP9, va_K.moved hW.alike hK, hD9⟩, hS.F ht⟩) hS.2.2 dX4_look_153
      · refine lv_aload_n hx hb dX4_look_90 rfl (lv_at hl 2 rfl) ?_
        refine lv_iload_n hx hb dX4_look_91 rfl (lv_at hl 3 rfl) ?_
        have hF := zfree hD hS hA
        refine zk_V (va_runV (As := [.int (nI k)]) (rest := []) ⟨hx, hb, hml, hown, hts⟩ (c_X4_lieDown l D cI μ th σ (κ) (k := k) hk _) (cwV 1 hts gX4_look_X4_lieDown rfl rfl rfl zdX4_lieDown ⟨Nat.le_of_ble_eq_true rfl, Nat.le_of_ble_eq_true rfl⟩) ⟨zbl _, va_recv hK hP (ci := 4) (q0 := 0) rfl rfl, zpr hK hP hD⟩ rfl rfl hl.1 rfl (lv_room (Nat.le_of_ble_eq_true rfl)) dX4_look_92 ⟨Nat.zero_le _, Nat.zero_le _⟩) hS hF (fun H locs hkp hP1 hD1 hS => ?_)
        have hP := hP1
        have hD := hD1.weaken (fun _ _ _ z => hF _ z)
        have hP : va_P D vwCl (zw_M cI μ th (f_floor σ k) (κ)) H := hP
        have hD : va_D A (zw_M cI μ th (f_floor σ k) (κ)) := hD
        have e9 : f_look σ nb h k = f_floor σ k := by rw [f_look, if_pos hhs, eb, nI_clamp (by omega), f_try, show f_try1 σ k b = σ from if_neg (fun z => z.1 c_4), if_pos (Int32.not_le.mp c_6)]
        have hP9 : va_P D vwCl (zw_M cI μ th (f_look σ nb h k) (κ)) H := by rw [e9]; exact hP
        have hD9 : va_D A (zw_M cI μ th (f_look σ nb h k) (κ)) := by rw [e9]; exact hD
        exact W.vret hx hb hr (fun t ht hW => ⟨⟨(), rfl, trivial, by rw [ht]; exact hP9, va_K.moved hW.alike hK, hD9⟩, hS.F ht⟩) hS.2.2 dX4_look_95
    · refine lv_aload_n hx hb dX4_look_47 rfl (lv_at hl 2 rfl) ?_
      refine lv_iload_n hx hb dX4_look_48 rfl (lv_at hl 3 rfl) ?_
      refine lv_iconst (v := 1) hx hb dX4_look_49 (by decide) ?_
      refine zk_R (D := D) (va_runV (As := [.int (nI k), .int 1]) (rest := []) ⟨hx, hb, hml, hown, hts⟩ (c_X4_sa l D cI μ th σ (κ) (k := k) (w := 1) hk (by decide) _) (cwV 2 hts gX4_look_X4_sa rfl rfl rfl zdX4_sa ⟨Nat.le_of_ble_eq_true rfl, Nat.le_of_ble_eq_true rfl⟩) ⟨zbl _, va_recv hK hP (ci := 4) (q0 := 0) rfl rfl, zpr hK hP hD⟩ rfl rfl hl.1 rfl (lv_room (Nat.le_of_ble_eq_true rfl)) dX4_look_50 ⟨Nat.zero_le _, Nat.zero_le _⟩) hS (fun r_9 H locs hw hkp hS => ?_)
      have hP := hkp _ hP
      have hw : r_9 = σ 9 k := hw
      subst hw
      refine lv_aload_n hx hb dX4_look_53 rfl (lv_at hl 2 rfl) ?_
      refine va_get (D := D) (ci := 4) (v := .ref (μ 4)) (C := RX4) (T := TX4) (N := 8) hx hb hts hinX4 hown hK hP 0 rfl rfl 6 (by decide) hf19 (fun _ h9 => h9) rfl dX4_look_54 ?_
      refine lv_iconst (v := 2) hx hb dX4_look_57 (by decide) ?_
      refine zk_ld hx hb hK hP 4 0 rfl rfl (k := 2) (by omega) (by decide) (v := σ 0 2) (zenc_0 σ (by decide)) dX4_look_58 ?_
      refine lv_iadd hx hb dX4_look_59 ?_
      refine lv_iload_n hx hb dX4_look_60 rfl (lv_at hl 0 rfl) ?_
      refine lv_icmp_lt (tgt := 80) hx hb dX4_look_61 (by decide) (fun c_10 => ?_) (fun c_10 => ?_)
      · refine lv_aload_n hx hb dX4_look_80 rfl (lv_at hl 2 rfl) ?_
        refine lv_iload_n hx hb dX4_look_81 rfl (lv_at hl 3 rfl) ?_
        refine lv_iconst (v := 1) hx hb dX4_look_82 (by decide) ?_
        refine zk_R (D := D) (va_runV (As := [.int (nI k), .int 1]) (rest := []) ⟨hx, hb, hml, hown, hts⟩ (c_X4_sa l D cI μ th σ (κ) (k := k) (w := 1) hk (by decide) _) (cwV 2 hts gX4_look_X4_sa rfl rfl rfl zdX4_sa ⟨Nat.le_of_ble_eq_true rfl, Nat.le_of_ble_eq_true rfl⟩) ⟨zbl _, va_recv hK hP (ci := 4) (q0 := 0) rfl rfl, zpr hK hP hD⟩ rfl rfl hl.1 rfl (lv_room (Nat.le_of_ble_eq_true rfl)) dX4_look_83 ⟨Nat.zero_le _, Nat.zero_le _⟩) hS (fun r_11 H locs hw hkp hS => ?_)
        have hP := hkp _ hP
        have hw : r_11 = σ 9 k := hw
        subst hw
        refine lv_iload_n hx hb dX4_look_86 rfl (lv_at hl 0 rfl) ?_
        refine lv_icmp_ge (tgt := 96) hx hb dX4_look_87 (by decide) (fun c_12 => ?_) (fun c_12 => ?_)
        · refine lv_aload_n hx hb dX4_look_96 rfl (lv_at hl 2 rfl) ?_
          refine lv_iload_n hx hb dX4_look_97 rfl (lv_at hl 3 rfl) ?_
          refine lv_iconst (v := 1) hx hb dX4_look_98 (by decide) ?_
          refine lv_iload_n hx hb dX4_look_99 rfl (lv_at hl 0 rfl) ?_
          refine lv_ineg hx hb dX4_look_100 ?_
          have hF := zfree hD hS hA
          refine zk_V (va_runV (As := [.int (nI k), .int 1, .int (-(σ 1 b))]) (rest := []) ⟨hx, hb, hml, hown, hts⟩ (c_X4_more l D cI μ th σ (κ) (k := k) (w := 1) hk (by decide) (-(σ 1 b)) _) (cwV 3 hts gX4_look_X4_more rfl rfl rfl zdX4_more ⟨Nat.le_of_ble_eq_true rfl, Nat.le_of_ble_eq_true rfl⟩) ⟨zbl _, va_recv hK hP (ci := 4) (q0 := 0) rfl rfl, zpr hK hP hD⟩ rfl rfl hl.1 rfl (lv_room (Nat.le_of_ble_eq_true rfl)) dX4_look_101 ⟨Nat.zero_le _, Nat.zero_le _⟩) hS hF (fun H locs hkp hP1 hD1 hS => ?_)
          have hP := hP1
          have hD := hD1.weaken (fun _ _ _ z => hF _ z)
          have hP : va_P D vwCl (zw_M cI μ th (zs σ 9 k ((σ 9 k) + (-(σ 1 b)))) (κ)) H := hP
          have hD : va_D A (zw_M cI μ th (zs σ 9 k ((σ 9 k) + (-(σ 1 b)))) (κ)) := hD
          refine lv_aload_n hx hb dX4_look_104 rfl (lv_at hl 2 rfl) ?_
          refine lv_iload_n hx hb dX4_look_105 rfl (lv_at hl 3 rfl) ?_
          refine lv_iconst (v := 4) hx hb dX4_look_106 (by decide) ?_
          refine lv_iconst (v := 1) hx hb dX4_look_107 (by decide) ?_
          have hF := zfree hD hS hA
          refine zk_V (va_runV (As := [.int (nI k), .int 4, .int 1]) (rest := []) ⟨hx, hb, hml, hown, hts⟩ (c_X4_let l D cI μ th (zs σ 9 k ((σ 9 k) + (-(σ 1 b)))) (κ) (k := k) (w := 4) hk (by decide) 1 _) (cwV 3 hts gX4_look_X4_let rfl rfl rfl zdX4_let ⟨Nat.le_of_ble_eq_true rfl, Nat.le_of_ble_eq_true rfl⟩) ⟨zbl _, va_recv hK hP (ci := 4) (q0 := 0) rfl rfl, zpr hK hP hD⟩ rfl rfl hl.1 rfl (lv_room (Nat.le_of_ble_eq_true rfl)) dX4_look_108 ⟨Nat.zero_le _, Nat.zero_le _⟩) hS hF (fun H locs hkp hP1 hD1 hS => ?_)
          have hP := hP1
          have hD := hD1.weaken (fun _ _ _ z => hF _ z)
          have hP : va_P D vwCl (zw_M cI μ th (zs (zs σ 9 k ((σ 9 k) + (-(σ 1 b)))) 12 k 1) (κ)) H := hP
          have hD : va_D A (zw_M cI μ th (zs (zs σ 9 k ((σ 9 k) + (-(σ 1 b)))) 12 k 1) (κ)) := hD
          refine lv_aload_n hx hb dX4_look_111 rfl (lv_at hl 2 rfl) ?_
          refine lv_iload_n hx hb dX4_look_112 rfl (lv_at hl 3 rfl) ?_
          refine lv_iconst (v := 5) hx hb dX4_look_113 (by decide) ?_
          refine lv_iload_n hx hb dX4_look_114 rfl (lv_at hl 1 rfl) ?_
          have hF := zfree hD hS hA
          refine zk_V (va_runV (As := [.int (nI k), .int 5, .int (nI b)]) (rest := []) ⟨hx, hb, hml, hown, hts⟩ (c_X4_let l D cI μ th (zs (zs σ 9 k ((σ 9 k) + (-(σ 1 b)))) 12 k 1) (κ) (k := k) (w := 5) hk (by decide) (nI b) _) (cwV 3 hts gX4_look_X4_let rfl rfl rfl zdX4_let ⟨Nat.le_of_ble_eq_true rfl, Nat.le_of_ble_eq_true rfl⟩) ⟨zbl _, va_recv hK hP (ci := 4) (q0 := 0) rfl rfl, zpr hK hP hD⟩ rfl rfl hl.1 rfl (lv_room (Nat.le_of_ble_eq_true rfl)) dX4_look_115 ⟨Nat.zero_le _, Nat.zero_le _⟩) hS hF (fun H locs hkp hP1 hD1 hS => ?_)
          have hP := hP1
          have hD := hD1.weaken (fun _ _ _ z => hF _ z)
          have hP : va_P D vwCl (zw_M cI μ th (zs (zs (zs σ 9 k ((σ 9 k) + (-(σ 1 b)))) 12 k 1) 13 k (nI b)) (κ)) H := hP
          have hD : va_D A (zw_M cI μ th (zs (zs (zs σ 9 k ((σ 9 k) + (-(σ 1 b)))) 12 k 1) 13 k (nI b)) (κ)) := hD
          refine lv_aload_n hx hb dX4_look_118 rfl (lv_at hl 2 rfl) ?_
          refine lv_iload_n hx hb dX4_look_119 rfl (lv_at hl 1 rfl) ?_
          refine lv_iconst (v := 3) hx hb dX4_look_120 (by decide) ?_
          refine lv_iload_n hx hb dX4_look_121 rfl (lv_at hl 3 rfl) ?_
          have hF := zfree hD hS hA
          refine zk_V (va_runV (As := [.int (nI b), .int 3, .int (nI k)]) (rest := []) ⟨hx, hb, hml, hown, hts⟩ (c_X4_letBed l D cI μ th (zs (zs (zs σ 9 k ((σ 9 k) + (-(σ 1 b)))) 12 k 1) 13 k (nI b)) (κ) (b := b) (w := 3) (by omega) (by decide) (nI k) _) (cwV 3 hts gX4_look_X4_letBed rfl rfl rfl zdX4_letBed ⟨Nat.le_of_ble_eq_true rfl, Nat.le_of_ble_eq_true rfl⟩) ⟨zbl _, va_recv hK hP (ci := 4) (q0 := 0) rfl rfl, zpr hK hP hD⟩ rfl rfl hl.1 rfl (lv_room (Nat.le_of_ble_eq_true rfl)) dX4_look_122 ⟨Nat.zero_le _, Nat.zero_le _⟩) hS hF (fun H locs hkp hP1 hD1 hS => ?_)
          have hP := hP1
          have hD := hD1.weaken (fun _ _ _ z => hF _ z)
          have hP : va_P D vwCl (zw_M cI μ th (zs (zs (zs (zs σ 9 k ((σ 9 k) + (-(σ 1 b)))) 12 k 1) 13 k (nI b)) 5 b (nI k)) (κ)) H := hP
          have hD : va_D A (zw_M cI μ th (zs (zs (zs (zs σ 9 k ((σ 9 k) + (-(σ 1 b)))) 12 k 1) 13 k (nI b)) 5 b (nI k)) (κ)) := hD
          refine lv_aload_n hx hb dX4_look_125 rfl (lv_at hl 2 rfl) ?_
          refine lv_iload_n hx hb dX4_look_126 rfl (lv_at hl 1 rfl) ?_
          refine lv_iconst (v := 1) hx hb dX4_look_127 (by decide) ?_
          refine lv_aload_n hx hb dX4_look_128 rfl (lv_at hl 2 rfl) ?_
          refine lv_iload_n hx hb dX4_look_129 rfl (lv_at hl 1 rfl) ?_
          refine lv_iconst (v := 1) hx hb dX4_look_130 (by decide) ?_
          refine zk_R (D := D) (va_runV (As := [.int (nI b), .int 1]) (rest := [.int 1, .int (nI b), .ref (μ 0)]) ⟨hx, hb, hml, hown, hts⟩ (c_X4_be l D cI μ th (zs (zs (zs (zs σ 9 k ((σ 9 k) + (-(σ 1 b)))) 12 k 1) 13 k (nI b)) 5 b (nI k)) (κ) (b := b) (w := 1) (by omega) (by decide) _) (cwV 2 hts gX4_look_X4_be rfl rfl rfl zdX4_be ⟨Nat.le_of_ble_eq_true rfl, Nat.le_of_ble_eq_true rfl⟩) ⟨zbl _, va_recv hK hP (ci := 4) (q0 := 0) rfl rfl, zpr hK hP hD⟩ rfl rfl hl.1 rfl (lv_room (Nat.le_of_ble_eq_true rfl)) dX4_look_131 ⟨Nat.zero_le _, Nat.zero_le _⟩) hS (fun r_13 H locs hw hkp hS => ?_)
          have hP := hkp _ hP
          have hw : r_13 = σ 3 b := hw
          subst hw
          refine lv_iconst (v := 1) hx hb dX4_look_134 (by decide) ?_
          refine lv_iadd hx hb dX4_look_135 ?_
          have hF := zfree hD hS hA
          refine zk_V (va_runV (As := [.int (nI b), .int 1, .int ((σ 3 b) + 1)]) (rest := []) ⟨hx, hb, hml, hown, hts⟩ (c_X4_letBed l D cI μ th (zs (zs (zs (zs σ 9 k ((σ 9 k) + (-(σ 1 b)))) 12 k 1) 13 k (nI b)) 5 b (nI k)) (κ) (b := b) (w := 1) (by omega) (by decide) ((σ 3 b) + 1) _) (cwV 3 hts gX4_look_X4_letBed rfl rfl rfl zdX4_letBed ⟨Nat.le_of_ble_eq_true rfl, Nat.le_of_ble_eq_true rfl⟩) ⟨zbl _, va_recv hK hP (ci := 4) (q0 := 0) rfl rfl, zpr hK hP hD⟩ rfl rfl hl.1 rfl (lv_room (Nat.le_of_ble_eq_true rfl)) dX4_look_136 ⟨Nat.zero_le _, Nat.zero_le _⟩) hS hF (fun H locs hkp hP1 hD1 hS => ?_)
          have hP := hP1
          have hD := hD1.weaken (fun _ _ _ z => hF _ z)
          have hP : va_P D vwCl (zw_M cI μ th (zs (zs (zs (zs (zs σ 9 k ((σ 9 k) + (-(σ 1 b)))) 12 k 1) 13 k (nI b)) 5 b (nI k)) 3 b ((σ 3 b) + 1)) (κ)) H := hP
          have hD : va_D A (zw_M cI μ th (zs (zs (zs (zs (zs σ 9 k ((σ 9 k) + (-(σ 1 b)))) 12 k 1) 13 k (nI b)) 5 b (nI k)) 3 b ((σ 3 b) + 1)) (κ)) := hD
          refine lv_aload_n hx hb dX4_look_139 rfl (lv_at hl 2 rfl) ?_
          refine lv_iload_n hx hb dX4_look_140 rfl (lv_at hl 1 rfl) ?_
          refine lv_iconst (v := 2) hx hb dX4_look_141 (by decide) ?_
          refine lv_aload_n hx hb dX4_look_142 rfl (lv_at hl 2 rfl) ?_
          refine lv_iload_n hx hb dX4_look_143 rfl (lv_at hl 1 rfl) ?_
          refine lv_iconst (v := 2) hx hb dX4_look_144 (by decide) ?_
          refine zk_R (D := D) (va_runV (As := [.int (nI b), .int 2]) (rest := [.int 2, .int (nI b), .ref (μ 0)]) ⟨hx, hb, hml, hown, hts⟩ (c_X4_be l D cI μ th (zs (zs (zs (zs (zs σ 9 k ((σ 9 k) + (-(σ 1 b)))) 12 k 1) 13 k (nI b)) 5 b (nI k)) 3 b ((σ 3 b) + 1)) (κ) (b := b) (w := 2) (by omega) (by decide) _) (cwV 2 hts gX4_look_X4_be rfl rfl rfl zdX4_be ⟨Nat.le_of_ble_eq_true rfl, Nat.le_of_ble_eq_true rfl⟩) ⟨zbl _, va_recv hK hP (ci := 4) (q0 := 0) rfl rfl, zpr hK hP hD⟩ rfl rfl hl.1 rfl (lv_room (Nat.le_of_ble_eq_true rfl)) dX4_look_145 ⟨Nat.zero_le _, Nat.zero_le _⟩) hS (fun r_14 H locs hw hkp hS => ?_)
          have hP := hkp _ hP
          have hw : r_14 = σ 4 b := hw
          subst hw
          refine lv_iload_n hx hb dX4_look_148 rfl (lv_at hl 0 rfl) ?_
          refine lv_iadd hx hb dX4_look_149 ?_
          have hF := zfree hD hS hA
          refine zk_V (va_runV (As := [.int (nI b), .int 2, .int ((σ 4 b) + (σ 1 b))]) (rest := []) ⟨hx, hb, hml, hown, hts⟩ (c_X4_letBed l D cI μ th (zs (zs (zs (zs (zs σ 9 k ((σ 9 k) + (-(σ 1 b)))) 12 k 1) 13 k (nI b)) 5 b (nI k)) 3 b ((σ 3 b) + 1)) (κ) (b := b) (w := 2) (by omega) (by decide) ((σ 4 b) + (σ 1 b)) _) (cwV 3 hts gX4_look_X4_letBed rfl rfl rfl zdX4_letBed ⟨Nat.le_of_ble_eq_true rfl, Nat.le_of_ble_eq_true rfl⟩) ⟨zbl _, va_recv hK hP (ci := 4) (q0 := 0) rfl rfl, zpr hK hP hD⟩ rfl rfl hl.1 rfl (lv_room (Nat.le_of_ble_eq_true rfl)) dX4_look_150 ⟨Nat.zero_le _, Nat.zero_le _⟩) hS hF (fun H locs hkp hP1 hD1 hS => ?_)
          have hP := hP1
          have hD := hD1.weaken (fun _ _ _ z => hF _ z)
          have hP : va_P D vwCl (zw_M cI μ th (zs (zs (zs (zs (zs (zs σ 9 k ((σ 9 k) + (-(σ 1 b)))) 12 k 1) 13 k (nI b)) 5 b (nI k)) 3 b ((σ 3 b) + 1)) 4 b ((σ 4 b) + (σ 1 b))) (κ)) H := hP
          have hD : va_D A (zw_M cI μ th (zs (zs (zs (zs (zs (zs σ 9 k ((σ 9 k) + (-(σ 1 b)))) 12 k 1) 13 k (nI b)) 5 b (nI k)) 3 b ((σ 3 b) + 1)) 4 b ((σ 4 b) + (σ 1 b))) (κ)) := hD
          have e9 : f_look σ nb h k = zs (zs (zs (zs (zs (zs σ 9 k ((σ 9 k) + (-(σ 1 b)))) 12 k 1) 13 k (nI b)) 5 b (nI k)) 3 b ((σ 3 b) + 1)) 4 b ((σ 4 b) + (σ 1 b)) := by rw [f_look, if_pos hhs, eb, nI_clamp (by omega), f_try, show f_try1 σ k b = σ from if_neg (fun z => z.2.1 c_10), if_neg (Int32.not_lt.mpr c_12), zinto σ k b rfl]
          have hP9 : va_P D vwCl (zw_M cI μ th (f_look σ nb h k) (κ)) H := by rw [e9]; exact hP
          have hD9 : va_D A (zw_M cI μ th (f_look σ nb h k) (κ)) := by rw [e9]; exact hD
          exact W.vret hx hb hr (fun t ht hW => ⟨⟨(), rfl, trivial, by rw [ht]; exact hP9, va_K.moved hW.alike hK, hD9⟩, hS.F ht⟩) hS.2.2 dX4_look_153
        · refine lv_aload_n hx hb dX4_look_90 rfl (lv_at hl 2 rfl) ?_
          refine lv_iload_n hx hb dX4_look_91 rfl (lv_at hl 3 rfl) ?_
          have hF := zfree hD hS hA
          refine zk_V (va_runV (As := [.int (nI k)]) (rest := []) ⟨hx, hb, hml, hown, hts⟩ (c_X4_lieDown l D cI μ th σ (κ) (k := k) hk _) (cwV 1 hts gX4_look_X4_lieDown rfl rfl rfl zdX4_lieDown ⟨Nat.le_of_ble_eq_true rfl, Nat.le_of_ble_eq_true rfl⟩) ⟨zbl _, va_recv hK hP (ci := 4) (q0 := 0) rfl rfl, zpr hK hP hD⟩ rfl rfl hl.1 rfl (lv_room (Nat.le_of_ble_eq_true rfl)) dX4_look_92 ⟨Nat.zero_le _, Nat.zero_le _⟩) hS hF (fun H locs hkp hP1 hD1 hS => ?_)
          have hP := hP1
          have hD := hD1.weaken (fun _ _ _ z => hF _ z)
          have hP : va_P D vwCl (zw_M cI μ th (f_floor σ k) (κ)) H := hP
          have hD : va_D A (zw_M cI μ th (f_floor σ k) (κ)) := hD
          have e9 : f_look σ nb h k = f_floor σ k := by rw [f_look, if_pos hhs, eb, nI_clamp (by omega), f_try, show f_try1 σ k b = σ from if_neg (fun z => z.2.1 c_10), if_pos (Int32.not_le.mp c_12)]
          have hP9 : va_P D vwCl (zw_M cI μ th (f_look σ nb h k) (κ)) H := by rw [e9]; exact hP
          have hD9 : va_D A (zw_M cI μ th (f_look σ nb h k) (κ)) := by rw [e9]; exact hD
          exact W.vret hx hb hr (fun t ht hW => ⟨⟨(), rfl, trivial, by rw [ht]; exact hP9, va_K.moved hW.alike hK, hD9⟩, hS.F ht⟩) hS.2.2 dX4_look_95
      · refine lv_aload_n hx hb dX4_look_64 rfl (lv_at hl 2 rfl) ?_
        refine lv_iload_n hx hb dX4_look_65 rfl (lv_at hl 3 rfl) ?_
        refine lv_iconst (v := 2) hx hb dX4_look_66 (by decide) ?_
        refine zk_R (D := D) (va_runV (As := [.int (nI k), .int 2]) (rest := []) ⟨hx, hb, hml, hown, hts⟩ (c_X4_sa l D cI μ th σ (κ) (k := k) (w := 2) hk (by decide) _) (cwV 2 hts gX4_look_X4_sa rfl rfl rfl zdX4_sa ⟨Nat.le_of_ble_eq_true rfl, Nat.le_of_ble_eq_true rfl⟩) ⟨zbl _, va_recv hK hP (ci := 4) (q0 := 0) rfl rfl, zpr hK hP hD⟩ rfl rfl hl.1 rfl (lv_room (Nat.le_of_ble_eq_true rfl)) dX4_look_67 ⟨Nat.zero_le _, Nat.zero_le _⟩) hS (fun r_15 H locs hw hkp hS => ?_)
        have hP := hkp _ hP
        have hw : r_15 = σ 10 k := hw
        subst hw
        refine lv_iconst (v := 1) hx hb dX4_look_70 (by decide) ?_
        refine lv_icmp_ne (tgt := 80) hx hb dX4_look_71 (by decide) (fun c_16 => ?_) (fun c_16 => ?_)
        · refine lv_aload_n hx hb dX4_look_80 rfl (lv_at hl 2 rfl) ?_
          refine lv_iload_n hx hb dX4_look_81 rfl (lv_at hl 3 rfl) ?_
          refine lv_iconst (v := 1) hx hb dX4_look_82 (by decide) ?_
          refine zk_R (D := D) (va_runV (As := [.int (nI k), .int 1]) (rest := []) ⟨hx, hb, hml, hown, hts⟩ (c_X4_sa l D cI μ th σ (κ) (k := k) (w := 1) hk (by decide) _) (cwV 2 hts gX4_look_X4_sa rfl rfl rfl zdX4_sa ⟨Nat.le_of_ble_eq_true rfl, Nat.le_of_ble_eq_true rfl⟩) ⟨zbl _, va_recv hK hP (ci := 4) (q0 := 0) rfl rfl, zpr hK hP hD⟩ rfl rfl hl.1 rfl (lv_room (Nat.le_of_ble_eq_true rfl)) dX4_look_83 ⟨Nat.zero_le _, Nat.zero_le _⟩) hS (fun r_17 H locs hw hkp hS => ?_)
          have hP := hkp _ hP
          have hw : r_17 = σ 9 k := hw
          subst hw
          refine lv_iload_n hx hb dX4_look_86 rfl (lv_at hl 0 rfl) ?_
          refine lv_icmp_ge (tgt := 96) hx hb dX4_look_87 (by decide) (fun c_18 => ?_) (fun c_18 => ?_)
          · refine lv_aload_n hx hb dX4_look_96 rfl (lv_at hl 2 rfl) ?_
            refine lv_iload_n hx hb dX4_look_97 rfl (lv_at hl 3 rfl) ?_
            refine lv_iconst (v := 1) hx hb dX4_look_98 (by decide) ?_
            refine lv_iload_n hx hb dX4_look_99 rfl (lv_at hl 0 rfl) ?_
            refine lv_ineg hx hb dX4_look_100 ?_
            have hF := zfree hD hS hA
            refine zk_V (va_runV (As := [.int (nI k), .int 1, .int (-(σ 1 b))]) (rest := []) ⟨hx, hb, hml, hown, hts⟩ (c_X4_more l D cI μ th σ (κ) (k := k) (w := 1) hk (by decide) (-(σ 1 b)) _) (cwV 3 hts gX4_look_X4_more rfl rfl rfl zdX4_more ⟨Nat.le_of_ble_eq_true rfl, Nat.le_of_ble_eq_true rfl⟩) ⟨zbl _, va_recv hK hP (ci := 4) (q0 := 0) rfl rfl, zpr hK hP hD⟩ rfl rfl hl.1 rfl (lv_room (Nat.le_of_ble_eq_true rfl)) dX4_look_101 ⟨Nat.zero_le _, Nat.zero_le _⟩) hS hF (fun H locs hkp hP1 hD1 hS => ?_)
            have hP := hP1
            have hD := hD1.weaken (fun _ _ _ z => hF _ z)
            have hP : va_P D vwCl (zw_M cI μ th (zs σ 9 k ((σ 9 k) + (-(σ 1 b)))) (κ)) H := hP
            have hD : va_D A (zw_M cI μ th (zs σ 9 k ((σ 9 k) + (-(σ 1 b)))) (κ)) := hD
            refine lv_aload_n hx hb dX4_look_104 rfl (lv_at hl 2 rfl) ?_
            refine lv_iload_n hx hb dX4_look_105 rfl (lv_at hl 3 rfl) ?_
            refine lv_iconst (v := 4) hx hb dX4_look_106 (by decide) ?_
            refine lv_iconst (v := 1) hx hb dX4_look_107 (by decide) ?_
            have hF := zfree hD hS hA
            refine zk_V (va_runV (As := [.int (nI k), .int 4, .int 1]) (rest := []) ⟨hx, hb, hml, hown, hts⟩ (c_X4_let l D cI μ th (zs σ 9 k ((σ 9 k) + (-(σ 1 b)))) (κ) (k := k) (w := 4) hk (by decide) 1 _) (cwV 3 hts gX4_look_X4_let rfl rfl rfl zdX4_let ⟨Nat.le_of_ble_eq_true rfl, Nat.le_of_ble_eq_true rfl⟩) ⟨zbl _, va_recv hK hP (ci := 4) (q0 := 0) rfl rfl, zpr hK hP hD⟩ rfl rfl hl.1 rfl (lv_room (Nat.le_of_ble_eq_true rfl)) dX4_look_108 ⟨Nat.zero_le _, Nat.zero_le _⟩) hS hF (fun H locs hkp hP1 hD1 hS => ?_)
            have hP := hP1
            have hD := hD1.weaken (fun _ _ _ z => hF _ z)
            have hP : va_P D vwCl (zw_M cI μ th (zs (zs σ 9 k ((σ 9 k) + (-(σ 1 b)))) 12 k 1) (κ)) H := hP
            have hD : va_D A (zw_M cI μ th (zs (zs σ 9 k ((σ 9 k) + (-(σ 1 b)))) 12 k 1) (κ)) := hD
            refine lv_aload_n hx hb dX4_look_111 rfl (lv_at hl 2 rfl) ?_
            refine lv_iload_n hx hb dX4_look_112 rfl (lv_at hl 3 rfl) ?_
            refine lv_iconst (v := 5) hx hb dX4_look_113 (by decide) ?_
            refine lv_iload_n hx hb dX4_look_114 rfl (lv_at hl 1 rfl) ?_
            have hF := zfree hD hS hA
            refine zk_V (va_runV (As := [.int (nI k), .int 5, .int (nI b)]) (rest := []) ⟨hx, hb, hml, hown, hts⟩ (c_X4_let l D cI μ th (zs (zs σ 9 k ((σ 9 k) + (-(σ 1 b)))) 12 k 1) (κ) (k := k) (w := 5) hk (by decide) (nI b) _) (cwV 3 hts gX4_look_X4_let rfl rfl rfl zdX4_let ⟨Nat.le_of_ble_eq_true rfl, Nat.le_of_ble_eq_true rfl⟩) ⟨zbl _, va_recv hK hP (ci := 4) (q0 := 0) rfl rfl, zpr hK hP hD⟩ rfl rfl hl.1 rfl (lv_room (Nat.le_of_ble_eq_true rfl)) dX4_look_115 ⟨Nat.zero_le _, Nat.zero_le _⟩) hS hF (fun H locs hkp hP1 hD1 hS => ?_)
            have hP := hP1
            have hD := hD1.weaken (fun _ _ _ z => hF _ z)
            have hP : va_P D vwCl (zw_M cI μ th (zs (zs (zs σ 9 k ((σ 9 k) + (-(σ 1 b)))) 12 k 1) 13 k (nI b)) (κ)) H := hP
            have hD : va_D A (zw_M cI μ th (zs (zs (zs σ 9 k ((σ 9 k) + (-(σ 1 b)))) 12 k 1) 13 k (nI b)) (κ)) := hD
            refine lv_aload_n hx hb dX4_look_118 rfl (lv_at hl 2 rfl) ?_
            refine lv_iload_n hx hb dX4_look_119 rfl (lv_at hl 1 rfl) ?_
            refine lv_iconst (v := 3) hx hb dX4_look_120 (by decide) ?_
            refine lv_iload_n hx hb dX4_look_121 rfl (lv_at hl 3 rfl) ?_
            have hF := zfree hD hS hA
            refine zk_V (va_runV (As := [.int (nI b), .int 3, .int (nI k)]) (rest := []) ⟨hx, hb, hml, hown, hts⟩ (c_X4_letBed l D cI μ th (zs (zs (zs σ 9 k ((σ 9 k) + (-(σ 1 b)))) 12 k 1) 13 k (nI b)) (κ) (b := b) (w := 3) (by omega) (by decide) (nI k) _) (cwV 3 hts gX4_look_X4_letBed rfl rfl rfl zdX4_letBed ⟨Nat.le_of_ble_eq_true rfl, Nat.le_of_ble_eq_true rfl⟩) ⟨zbl _, va_recv hK hP (ci := 4) (q0 := 0) rfl rfl, zpr hK hP hD⟩ rfl rfl hl.1 rfl (lv_room (Nat.le_of_ble_eq_true rfl)) dX4_look_122 ⟨Nat.zero_le _, Nat.zero_le _⟩) hS hF (fun H locs hkp hP1 hD1 hS => ?_)
            have hP := hP1
            have hD := hD1.weaken (fun _ _ _ z => hF _ z)
            have hP : va_P D vwCl (zw_M cI μ th (zs (zs (zs (zs σ 9 k ((σ 9 k) + (-(σ 1 b)))) 12 k 1) 13 k (nI b)) 5 b (nI k)) (κ)) H := hP
            have hD : va_D A (zw_M cI μ th (zs (zs (zs (zs σ 9 k ((σ 9 k) + (-(σ 1 b)))) 12 k 1) 13 k (nI b)) 5 b (nI k)) (κ)) := hD
            refine lv_aload_n hx hb dX4_look_125 rfl (lv_at hl 2 rfl) ?_
            refine lv_iload_n hx hb dX4_look_126 rfl (lv_at hl 1 rfl) ?_
            refine lv_iconst (v := 1) hx hb dX4_look_127 (by decide) ?_
            refine lv_aload_n hx hb dX4_look_128 rfl (lv_at hl 2 rfl) ?_
            refine lv_iload_n hx hb dX4_look_129 rfl (lv_at hl 1 rfl) ?_
            refine lv_iconst (v := 1) hx hb dX4_look_130 (by decide) ?_
            refine zk_R (D := D) (va_runV (As := [.int (nI b), .int 1]) (rest := [.int 1, .int (nI b), .ref (μ 0)]) ⟨hx, hb, hml, hown, hts⟩ (c_X4_be l D cI μ th (zs (zs (zs (zs σ 9 k ((σ 9 k) + (-(σ 1 b)))) 12 k 1) 13 k (nI b)) 5 b (nI k)) (κ) (b := b) (w := 1) (by omega) (by decide) _) (cwV 2 hts gX4_look_X4_be rfl rfl rfl zdX4_be ⟨Nat.le_of_ble_eq_true rfl, Nat.le_of_ble_eq_true rfl⟩) ⟨zbl _, va_recv hK hP (ci := 4) (q0 := 0) rfl rfl, zpr hK hP hD⟩ rfl rfl hl.1 rfl (lv_room (Nat.le_of_ble_eq_true rfl)) dX4_look_131 ⟨Nat.zero_le _, Nat.zero_le _⟩) hS (fun r_19 H locs hw hkp hS => ?_)
            have hP := hkp _ hP
            have hw : r_19 = σ 3 b := hw
            subst hw
            refine lv_iconst (v := 1) hx hb dX4_look_134 (by decide) ?_
            refine lv_iadd hx hb dX4_look_135 ?_
            have hF := zfree hD hS hA
            refine zk_V (va_runV (As := [.int (nI b), .int 1, .int ((σ 3 b) + 1)]) (rest := []) ⟨hx, hb, hml, hown, hts⟩ (c_X4_letBed l D cI μ th (zs (zs (zs (zs σ 9 k ((σ 9 k) + (-(σ 1 b)))) 12 k 1) 13 k (nI b)) 5 b (nI k)) (κ) (b := b) (w := 1) (by omega) (by decide) ((σ 3 b) + 1) _) (cwV 3 hts gX4_look_X4_letBed rfl rfl rfl zdX4_letBed ⟨Nat.le_of_ble_eq_true rfl, Nat.le_of_ble_eq_true rfl⟩) ⟨zbl _, va_recv hK hP (ci := 4) (q0 := 0) rfl rfl, zpr hK hP hD⟩ rfl rfl hl.1 rfl (lv_room (Nat.le_of_ble_eq_true rfl)) dX4_look_136 ⟨Nat.zero_le _, Nat.zero_le _⟩) hS hF (fun H locs hkp hP1 hD1 hS => ?_)
            have hP := hP1
            have hD := hD1.weaken (fun _ _ _ z => hF _ z)
            have hP : va_P D vwCl (zw_M cI μ th (zs (zs (zs (zs (zs σ 9 k ((σ 9 k) + (-(σ 1 b)))) 12 k 1) 13 k (nI b)) 5 b (nI k)) 3 b ((σ 3 b) + 1)) (κ)) H := hP
            have hD : va_D A (zw_M cI μ th (zs (zs (zs (zs (zs σ 9 k ((σ 9 k) + (-(σ 1 b)))) 12 k 1) 13 k (nI b)) 5 b (nI k)) 3 b ((σ 3 b) + 1)) (κ)) := hD
            refine lv_aload_n hx hb dX4_look_139 rfl (lv_at hl 2 rfl) ?_
            refine lv_iload_n hx hb dX4_look_140 rfl (lv_at hl 1 rfl) ?_
            refine lv_iconst (v := 2) hx hb dX4_look_141 (by decide) ?_
            refine lv_aload_n hx hb dX4_look_142 rfl (lv_at hl 2 rfl) ?_
            refine lv_iload_n hx hb dX4_look_143 rfl (lv_at hl 1 rfl) ?_
            refine lv_iconst (v := 2) hx hb dX4_look_144 (by decide) ?_
            refine zk_R (D := D) (va_runV (As := [.int (nI b), .int 2]) (rest := [.int 2, .int (nI b), .ref (μ 0)]) ⟨hx, hb, hml, hown, hts⟩ (c_X4_be l D cI μ th (zs (zs (zs (zs (zs σ 9 k ((σ 9 k) + (-(σ 1 b)))) 12 k 1) 13 k (nI b)) 5 b (nI k)) 3 b ((σ 3 b) + 1)) (κ) (b := b) (w := 2) (by omega) (by decide) _) (cwV 2 hts gX4_look_X4_be rfl rfl rfl zdX4_be ⟨Nat.le_of_ble_eq_true rfl, Nat.le_of_ble_eq_true rfl⟩) ⟨zbl _, va_recv hK hP (ci := 4) (q0 := 0) rfl rfl, zpr hK hP hD⟩ rfl rfl hl.1 rfl (lv_room (Nat.le_of_ble_eq_true rfl)) dX4_look_145 ⟨Nat.zero_le _, Nat.zero_le _⟩) hS (fun r_20 H locs hw hkp hS => ?_)
            have hP := hkp _ hP
            have hw : r_20 = σ 4 b := hw
            subst hw
            refine lv_iload_n hx hb dX4_look_148 rfl (lv_at hl 0 rfl) ?_
            refine lv_iadd hx hb dX4_look_149 ?_
            have hF := zfree hD hS hA
            refine zk_V (va_runV (As := [.int (nI b), .int 2, .int ((σ 4 b) + (σ 1 b))]) (rest := []) ⟨hx, hb, hml, hown, hts⟩ (c_X4_letBed l D cI μ th (zs (zs (zs (zs (zs σ 9 k ((σ 9 k) + (-(σ 1 b)))) 12 k 1) 13 k (nI b)) 5 b (nI k)) 3 b ((σ 3 b) + 1)) (κ) (b := b) (w := 2) (by omega) (by decide) ((σ 4 b) + (σ 1 b)) _) (cwV 3 hts gX4_look_X4_letBed rfl rfl rfl zdX4_letBed ⟨Nat.le_of_ble_eq_true rfl, Nat.le_of_ble_eq_true rfl⟩) ⟨zbl _, va_recv hK hP (ci := 4) (q0 := 0) rfl rfl, zpr hK hP hD⟩ rfl rfl hl.1 rfl (lv_room (Nat.le_of_ble_eq_true rfl)) dX4_look_150 ⟨Nat.zero_le _, Nat.zero_le _⟩) hS hF (fun H locs hkp hP1 hD1 hS => ?_)
            have hP := hP1
            have hD := hD1.weaken (fun _ _ _ z => hF _ z)
            have hP : va_P D vwCl (zw_M cI μ th (zs (zs (zs (zs (zs (zs σ 9 k ((σ 9 k) + (-(σ 1 b)))) 12 k 1) 13 k (nI b)) 5 b (nI k)) 3 b ((σ 3 b) + 1)) 4 b ((σ 4 b) + (σ 1 b))) (κ)) H := hP
            have hD : va_D A (zw_M cI μ th (zs (zs (zs (zs (zs (zs σ 9 k ((σ 9 k) + (-(σ 1 b)))) 12 k 1) 13 k (nI b)) 5 b (nI k)) 3 b ((σ 3 b) + 1)) 4 b ((σ 4 b) + (σ 1 b))) (κ)) := hD
            have e9 : f_look σ nb h k = zs (zs (zs (zs (zs (zs σ 9 k ((σ 9 k) + (-(σ 1 b)))) 12 k 1) 13 k (nI b)) 5 b (nI k)) 3 b ((σ 3 b) + 1)) 4 b ((σ 4 b) + (σ 1 b)) := by rw [f_look, if_pos hhs, eb, nI_clamp (by omega), f_try, show f_try1 σ k b = σ from if_neg (fun z => c_16 z.2.2), if_neg (Int32.not_lt.mpr c_18), zinto σ k b rfl]
            have hP9 : va_P D vwCl (zw_M cI μ th (f_look σ nb h k) (κ)) H := by rw [e9]; exact hP
            have hD9 : va_D A (zw_M cI μ th (f_look σ nb h k) (κ)) := by rw [e9]; exact hD
            exact W.vret hx hb hr (fun t ht hW => ⟨⟨(), rfl, trivial, by rw [ht]; exact hP9, va_K.moved hW.alike hK, hD9⟩, hS.F ht⟩) hS.2.2 dX4_look_153
          · refine lv_aload_n hx hb dX4_look_90 rfl (lv_at hl 2 rfl) ?_
            refine lv_iload_n hx hb dX4_look_91 rfl (lv_at hl 3 rfl) ?_
            have hF := zfree hD hS hA
            refine zk_V (va_runV (As := [.int (nI k)]) (rest := []) ⟨hx, hb, hml, hown, hts⟩ (c_X4_lieDown l D cI μ th σ (κ) (k := k) hk _) (cwV 1 hts gX4_look_X4_lieDown rfl rfl rfl zdX4_lieDown ⟨Nat.le_of_ble_eq_true rfl, Nat.le_of_ble_eq_true rfl⟩) ⟨zbl _, va_recv hK hP (ci := 4) (q0 := 0) rfl rfl, zpr hK hP hD⟩ rfl rfl hl.1 rfl (lv_room (Nat.le_of_ble_eq_true rfl)) dX4_look_92 ⟨Nat.zero_le _, Nat.zero_le _⟩) hS hF (fun H locs hkp hP1 hD1 hS => ?_)
            have hP := hP1
            have hD := hD1.weaken (fun _ _ _ z => hF _ z)
            have hP : va_P D vwCl (zw_M cI μ th (f_floor σ k) (κ)) H := hP
            have hD : va_D A (zw_M cI μ th (f_floor σ k) (κ)) := hD
            have e9 : f_look σ nb h k = f_floor σ k := by rw [f_look, if_pos hhs, eb, nI_clamp (by omega), f_try, show f_try1 σ k b = σ from if_neg (fun z => c_16 z.2.2), if_pos (Int32.not_le.mp c_18)]
            have hP9 : va_P D vwCl (zw_M cI μ th (f_look σ nb h k) (κ)) H := by rw [e9]; exact hP
            have hD9 : va_D A (zw_M cI μ th (f_look σ nb h k) (κ)) := by rw [e9]; exact hD
            exact W.vret hx hb hr (fun t ht hW => ⟨⟨(), rfl, trivial, by rw [ht]; exact hP9, va_K.moved hW.alike hK, hD9⟩, hS.F ht⟩) hS.2.2 dX4_look_95
        · refine lv_aload_n hx hb dX4_look_74 rfl (lv_at hl 2 rfl) ?_
          refine lv_iload_n hx hb dX4_look_75 rfl (lv_at hl 3 rfl) ?_
          have hF := zfree hD hS hA
          refine zk_I (va_runV (As := [.int (nI k)]) (rest := []) ⟨hx, hb, hml, hown, hts⟩ (c_X4_pawns l D cI μ th σ (κ) (k := k) hk _) (cwV 1 hts gX4_look_X4_pawns rfl rfl rfl zdX4_pawns ⟨Nat.le_of_ble_eq_true rfl, Nat.le_of_ble_eq_true rfl⟩) ⟨zbl _, va_recv hK hP (ci := 4) (q0 := 0) rfl rfl, zpr hK hP hD⟩ rfl rfl hl.1 rfl (lv_room (Nat.le_of_ble_eq_true rfl)) dX4_look_76 ⟨Nat.zero_le _, Nat.zero_le _⟩) hS hF (fun r_21 H locs hw hkp hP1 hD1 hS => ?_)
          have hP := hP1
          have hD := hD1.weaken (fun _ _ _ z => hF _ z)
          have hP : va_P D vwCl (zw_M cI μ th (f_pawnB σ k) (κ)) H := hP
          have hD : va_D A (zw_M cI μ th (f_pawnB σ k) (κ)) := hD
          have hw : r_21 = (f_pawnB σ k) 9 k := hw
          subst hw
          refine lv_pop hx hb dX4_look_79 rfl ?_
          refine lv_aload_n hx hb dX4_look_80 rfl (lv_at hl 2 rfl) ?_
          refine lv_iload_n hx hb dX4_look_81 rfl (lv_at hl 3 rfl) ?_
          refine lv_iconst (v := 1) hx hb dX4_look_82 (by decide) ?_
          refine zk_R (D := D) (va_runV (As := [.int (nI k), .int 1]) (rest := []) ⟨hx, hb, hml, hown, hts⟩ (c_X4_sa l D cI μ th (f_pawnB σ k) (κ) (k := k) (w := 1) hk (by decide) _) (cwV 2 hts gX4_look_X4_sa rfl rfl rfl zdX4_sa ⟨Nat.le_of_ble_eq_true rfl, Nat.le_of_ble_eq_true rfl⟩) ⟨zbl _, va_recv hK hP (ci := 4) (q0 := 0) rfl rfl, zpr hK hP hD⟩ rfl rfl hl.1 rfl (lv_room (Nat.le_of_ble_eq_true rfl)) dX4_look_83 ⟨Nat.zero_le _, Nat.zero_le _⟩) hS (fun r_22 H locs hw hkp hS => ?_)
          have hP := hkp _ hP
          have hw : r_22 = (f_pawnB σ k) 9 k := hw
          subst hw
          refine lv_iload_n hx hb dX4_look_86 rfl (lv_at hl 0 rfl) ?_
          refine lv_icmp_ge (tgt := 96) hx hb dX4_look_87 (by decide) (fun c_23 => ?_) (fun c_23 => ?_)
          · refine lv_aload_n hx hb dX4_look_96 rfl (lv_at hl 2 rfl) ?_
            refine lv_iload_n hx hb dX4_look_97 rfl (lv_at hl 3 rfl) ?_
            refine lv_iconst (v := 1) hx hb dX4_look_98 (by decide) ?_
            refine lv_iload_n hx hb dX4_look_99 rfl (lv_at hl 0 rfl) ?_
            refine lv_ineg hx hb dX4_look_100 ?_
            have hF := zfree hD hS hA
            refine zk_V (va_runV (As := [.int (nI k), .int 1, .int (-(σ 1 b))]) (rest := []) ⟨hx, hb, hml, hown, hts⟩ (c_X4_more l D cI μ th (f_pawnB σ k) (κ) (k := k) (w := 1) hk (by decide) (-(σ 1 b)) _) (cwV 3 hts gX4_look_X4_more rfl rfl rfl zdX4_more ⟨Nat.le_of_ble_eq_true rfl, Nat.le_of_ble_eq_true rfl⟩) ⟨zbl _, va_recv hK hP (ci := 4) (q0 := 0) rfl rfl, zpr hK hP hD⟩ rfl rfl hl.1 rfl (lv_room (Nat.le_of_ble_eq_true rfl)) dX4_look_101 ⟨Nat.zero_le _, Nat.zero_le _⟩) hS hF (fun H locs hkp hP1 hD1 hS => ?_)
            have hP := hP1
            have hD := hD1.weaken (fun _ _ _ z => hF _ z)
            have hP : va_P D vwCl (zw_M cI μ th (zs (f_pawnB σ k) 9 k (((f_pawnB σ k) 9 k) + (-(σ 1 b)))) (κ)) H := hP
            have hD : va_D A (zw_M cI μ th (zs (f_pawnB σ k) 9 k (((f_pawnB σ k) 9 k) + (-(σ 1 b)))) (κ)) := hD
            refine lv_aload_n hx hb dX4_look_104 rfl (lv_at hl 2 rfl) ?_
            refine lv_iload_n hx hb dX4_look_105 rfl (lv_at hl 3 rfl) ?_
            refine lv_iconst (v := 4) hx hb dX4_look_106 (by decide) ?_
            refine lv_iconst (v := 1) hx hb dX4_look_107 (by decide) ?_
            have hF := zfree hD hS hA
            refine zk_V (va_runV (As := [.int (nI k), .int 4, .int 1]) (rest := []) ⟨hx, hb, hml, hown, hts⟩ (c_X4_let l D cI μ th (zs (f_pawnB σ k) 9 k (((f_pawnB σ k) 9 k) + (-(σ 1 b)))) (κ) (k := k) (w := 4) hk (by decide) 1 _) (cwV 3 hts gX4_look_X4_let rfl rfl rfl zdX4_let ⟨Nat.le_of_ble_eq_true rfl, Nat.le_of_ble_eq_true rfl⟩) ⟨zbl _, va_recv hK hP (ci := 4) (q0 := 0) rfl rfl, zpr hK hP hD⟩ rfl rfl hl.1 rfl (lv_room (Nat.le_of_ble_eq_true rfl)) dX4_look_108 ⟨Nat.zero_le _, Nat.zero_le _⟩) hS hF (fun H locs hkp hP1 hD1 hS => ?_)
            have hP := hP1
            have hD := hD1.weaken (fun _ _ _ z => hF _ z)
            have hP : va_P D vwCl (zw_M cI μ th (zs (zs (f_pawnB σ k) 9 k (((f_pawnB σ k) 9 k) + (-(σ 1 b)))) 12 k 1) (κ)) H := hP
            have hD : va_D A (zw_M cI μ th (zs (zs (f_pawnB σ k) 9 k (((f_pawnB σ k) 9 k) + (-(σ 1 b)))) 12 k 1) (κ)) := hD
            refine lv_aload_n hx hb dX4_look_111 rfl (lv_at hl 2 rfl) ?_
            refine lv_iload_n hx hb dX4_look_112 rfl (lv_at hl 3 rfl) ?_
            refine lv_iconst (v := 5) hx hb dX4_look_113 (by decide) ?_
            refine lv_iload_n hx hb dX4_look_114 rfl (lv_at hl 1 rfl) ?_
            have hF := zfree hD hS hA
            refine zk_V (va_runV (As := [.int (nI k), .int 5, .int (nI b)]) (rest := []) ⟨hx, hb, hml, hown, hts⟩ (c_X4_let l D cI μ th (zs (zs (f_pawnB σ k) 9 k (((f_pawnB σ k) 9 k) + (-(σ 1 b)))) 12 k 1) (κ) (k := k) (w := 5) hk (by decide) (nI b) _) (cwV 3 hts gX4_look_X4_let rfl rfl rfl zdX4_let ⟨Nat.le_of_ble_eq_true rfl, Nat.le_of_ble_eq_true rfl⟩) ⟨zbl _, va_recv hK hP (ci := 4) (q0 := 0) rfl rfl, zpr hK hP hD⟩ rfl rfl hl.1 rfl (lv_room (Nat.le_of_ble_eq_true rfl)) dX4_look_115 ⟨Nat.zero_le _, Nat.zero_le _⟩) hS hF (fun H locs hkp hP1 hD1 hS => ?_)
            have hP := hP1
            have hD := hD1.weaken (fun _ _ _ z => hF _ z)
            have hP : va_P D vwCl (zw_M cI μ th (zs (zs (zs (f_pawnB σ k) 9 k (((f_pawnB σ k) 9 k) + (-(σ 1 b)))) 12 k 1) 13 k (nI b)) (κ)) H := hP
            have hD : va_D A (zw_M cI μ th (zs (zs (zs (f_pawnB σ k) 9 k (((f_pawnB σ k) 9 k) + (-(σ 1 b)))) 12 k 1) 13 k (nI b)) (κ)) := hD
            refine lv_aload_n hx hb dX4_look_118 rfl (lv_at hl 2 rfl) ?_
            refine lv_iload_n hx hb dX4_look_119 rfl (lv_at hl 1 rfl) ?_
            refine lv_iconst (v := 3) hx hb dX4_look_120 (by decide) ?_
            refine lv_iload_n hx hb dX4_look_121 rfl (lv_at hl 3 rfl) ?_
            have hF := zfree hD hS hA
            refine zk_V (va_runV (As := [.int (nI b), .int 3, .int (nI k)]) (rest := []) ⟨hx, hb, hml, hown, hts⟩ (c_X4_letBed l D cI μ th (zs (zs (zs (f_pawnB σ k) 9 k (((f_pawnB σ k) 9 k) + (-(σ 1 b)))) 12 k 1) 13 k (nI b)) (κ) (b := b) (w := 3) (by omega) (by decide) (nI k) _) (cwV 3 hts gX4_look_X4_letBed rfl rfl rfl zdX4_letBed ⟨Nat.le_of_ble_eq_true rfl, Nat.le_of_ble_eq_true rfl⟩) ⟨zbl _, va_recv hK hP (ci := 4) (q0 := 0) rfl rfl, zpr hK hP hD⟩ rfl rfl hl.1 rfl (lv_room (Nat.le_of_ble_eq_true rfl)) dX4_look_122 ⟨Nat.zero_le _, Nat.zero_le _⟩) hS hF (fun H locs hkp hP1 hD1 hS => ?_)
            have hP := hP1
            have hD := hD1.weaken (fun _ _ _ z => hF _ z)
            have hP : va_P D vwCl (zw_M cI μ th (zs (zs (zs (zs (f_pawnB σ k) 9 k (((f_pawnB σ k) 9 k) + (-(σ 1 b)))) 12 k 1) 13 k (nI b)) 5 b (nI k)) (κ)) H := hP
            have hD : va_D A (zw_M cI μ th (zs (zs (zs (zs (f_pawnB σ k) 9 k (((f_pawnB σ k) 9 k) + (-(σ 1 b)))) 12 k 1) 13 k (nI b)) 5 b (nI k)) (κ)) := hD
            refine lv_aload_n hx hb dX4_look_125 rfl (lv_at hl 2 rfl) ?_
            refine lv_iload_n hx hb dX4_look_126 rfl (lv_at hl 1 rfl) ?_
            refine lv_iconst (v := 1) hx hb dX4_look_127 (by decide) ?_
            refine lv_aload_n hx hb dX4_look_128 rfl (lv_at hl 2 rfl) ?_
            refine lv_iload_n hx hb dX4_look_129 rfl (lv_at hl 1 rfl) ?_
            refine lv_iconst (v := 1) hx hb dX4_look_130 (by decide) ?_
            refine zk_R (D := D) (va_runV (As := [.int (nI b), .int 1]) (rest := [.int 1, .int (nI b), .ref (μ 0)]) ⟨hx, hb, hml, hown, hts⟩ (c_X4_be l D cI μ th (zs (zs (zs (zs (f_pawnB σ k) 9 k (((f_pawnB σ k) 9 k) + (-(σ 1 b)))) 12 k 1) 13 k (nI b)) 5 b (nI k)) (κ) (b := b) (w := 1) (by omega) (by decide) _) (cwV 2 hts gX4_look_X4_be rfl rfl rfl zdX4_be ⟨Nat.le_of_ble_eq_true rfl, Nat.le_of_ble_eq_true rfl⟩) ⟨zbl _, va_recv hK hP (ci := 4) (q0 := 0) rfl rfl, zpr hK hP hD⟩ rfl rfl hl.1 rfl (lv_room (Nat.le_of_ble_eq_true rfl)) dX4_look_131 ⟨Nat.zero_le _, Nat.zero_le _⟩) hS (fun r_24 H locs hw hkp hS => ?_)
            have hP := hkp _ hP
            have hw : r_24 = (f_pawnB σ k) 3 b := hw
            subst hw
            refine lv_iconst (v := 1) hx hb dX4_look_134 (by decide) ?_
            refine lv_iadd hx hb dX4_look_135 ?_
            have hF := zfree hD hS hA
            refine zk_V (va_runV (As := [.int (nI b), .int 1, .int (((f_pawnB σ k) 3 b) + 1)]) (rest := []) ⟨hx, hb, hml, hown, hts⟩ (c_X4_letBed l D cI μ th (zs (zs (zs (zs (f_pawnB σ k) 9 k (((f_pawnB σ k) 9 k) + (-(σ 1 b)))) 12 k 1) 13 k (nI b)) 5 b (nI k)) (κ) (b := b) (w := 1) (by omega) (by decide) (((f_pawnB σ k) 3 b) + 1) _) (cwV 3 hts gX4_look_X4_letBed rfl rfl rfl zdX4_letBed ⟨Nat.le_of_ble_eq_true rfl, Nat.le_of_ble_eq_true rfl⟩) ⟨zbl _, va_recv hK hP (ci := 4) (q0 := 0) rfl rfl, zpr hK hP hD⟩ rfl rfl hl.1 rfl (lv_room (Nat.le_of_ble_eq_true rfl)) dX4_look_136 ⟨Nat.zero_le _, Nat.zero_le _⟩) hS hF (fun H locs hkp hP1 hD1 hS => ?_)
            have hP := hP1
            have hD := hD1.weaken (fun _ _ _ z => hF _ z)
            have hP : va_P D vwCl (zw_M cI μ th (zs (zs (zs (zs (zs (f_pawnB σ k) 9 k (((f_pawnB σ k) 9 k) + (-(σ 1 b)))) 12 k 1) 13 k (nI b)) 5 b (nI k)) 3 b (((f_pawnB σ k) 3 b) + 1)) (κ)) H := hP
            have hD : va_D A (zw_M cI μ th (zs (zs (zs (zs (zs (f_pawnB σ k) 9 k (((f_pawnB σ k) 9 k) + (-(σ 1 b)))) 12 k 1) 13 k (nI b)) 5 b (nI k)) 3 b (((f_pawnB σ k) 3 b) + 1)) (κ)) := hD
            refine lv_aload_n hx hb dX4_look_139 rfl (lv_at hl 2 rfl) ?_
            refine lv_iload_n hx hb dX4_look_140 rfl (lv_at hl 1 rfl) ?_
            refine lv_iconst (v := 2) hx hb dX4_look_141 (by decide) ?_
            refine lv_aload_n hx hb dX4_look_142 rfl (lv_at hl 2 rfl) ?_
            refine lv_iload_n hx hb dX4_look_143 rfl (lv_at hl 1 rfl) ?_
            refine lv_iconst (v := 2) hx hb dX4_look_144 (by decide) ?_
            refine zk_R (D := D) (va_runV (As := [.int (nI b), .int 2]) (rest := [.int 2, .int (nI b), .ref (μ 0)]) ⟨hx, hb, hml, hown, hts⟩ (c_X4_be l D cI μ th (zs (zs (zs (zs (zs (f_pawnB σ k) 9 k (((f_pawnB σ k) 9 k) + (-(σ 1 b)))) 12 k 1) 13 k (nI b)) 5 b (nI k)) 3 b (((f_pawnB σ k) 3 b) + 1)) (κ) (b := b) (w := 2) (by omega) (by decide) _) (cwV 2 hts gX4_look_X4_be rfl rfl rfl zdX4_be ⟨Nat.le_of_ble_eq_true rfl, Nat.le_of_ble_eq_true rfl⟩) ⟨zbl _, va_recv hK hP (ci := 4) (q0 := 0) rfl rfl, zpr hK hP hD⟩ rfl rfl hl.1 rfl (lv_room (Nat.le_of_ble_eq_true rfl)) dX4_look_145 ⟨Nat.zero_le _, Nat.zero_le _⟩) hS (fun r_25 H locs hw hkp hS => ?_)
            have hP := hkp _ hP
            have hw : r_25 = (f_pawnB σ k) 4 b := hw
            subst hw
            refine lv_iload_n hx hb dX4_look_148 rfl (lv_at hl 0 rfl) ?_
            refine lv_iadd hx hb dX4_look_149 ?_
            have hF := zfree hD hS hA
            refine zk_V (va_runV (As := [.int (nI b), .int 2, .int (((f_pawnB σ k) 4 b) + (σ 1 b))]) (rest := []) ⟨hx, hb, hml, hown, hts⟩ (c_X4_letBed l D cI μ th (zs (zs (zs (zs (zs (f_pawnB σ k) 9 k (((f_pawnB σ k) 9 k) + (-(σ 1 b)))) 12 k 1) 13 k (nI b)) 5 b (nI k)) 3 b (((f_pawnB σ k) 3 b) + 1)) (κ) (b := b) (w := 2) (by omega) (by decide) (((f_pawnB σ k) 4 b) + (σ 1 b)) _) (cwV 3 hts gX4_look_X4_letBed rfl rfl rfl zdX4_letBed ⟨Nat.le_of_ble_eq_true rfl, Nat.le_of_ble_eq_true rfl⟩) ⟨zbl _, va_recv hK hP (ci := 4) (q0 := 0) rfl rfl, zpr hK hP hD⟩ rfl rfl hl.1 rfl (lv_room (Nat.le_of_ble_eq_true rfl)) dX4_look_150 ⟨Nat.zero_le _, Nat.zero_le _⟩) hS hF (fun H locs hkp hP1 hD1 hS => ?_)
            have hP := hP1
            have hD := hD1.weaken (fun _ _ _ z => hF _ z)
            have hP : va_P D vwCl (zw_M cI μ th (zs (zs (zs (zs (zs (zs (f_pawnB σ k) 9 k (((f_pawnB σ k) 9 k) + (-(σ 1 b)))) 12 k 1) 13 k (nI b)) 5 b (nI k)) 3 b (((f_pawnB σ k) 3 b) + 1)) 4 b (((f_pawnB σ k) 4 b) + (σ 1 b))) (κ)) H := hP
            have hD : va_D A (zw_M cI μ th (zs (zs (zs (zs (zs (zs (f_pawnB σ k) 9 k (((f_pawnB σ k) 9 k) + (-(σ 1 b)))) 12 k 1) 13 k (nI b)) 5 b (nI k)) 3 b (((f_pawnB σ k) 3 b) + 1)) 4 b (((f_pawnB σ k) 4 b) + (σ 1 b))) (κ)) := hD
            have e9 : f_look σ nb h k = zs (zs (zs (zs (zs (zs (f_pawnB σ k) 9 k (((f_pawnB σ k) 9 k) + (-(σ 1 b)))) 12 k 1) 13 k (nI b)) 5 b (nI k)) 3 b (((f_pawnB σ k) 3 b) + 1)) 4 b (((f_pawnB σ k) 4 b) + (σ 1 b)) := by rw [f_look, if_pos hhs, eb, nI_clamp (by omega), f_try, show f_try1 σ k b = (f_pawnB σ k) from if_pos ⟨c_4, c_10, c_16⟩, if_neg (Int32.not_lt.mpr c_23), zinto (f_pawnB σ k) k b rfl]; rfl
            have hP9 : va_P D vwCl (zw_M cI μ th (f_look σ nb h k) (κ)) H := by rw [e9]; exact hP
            have hD9 : va_D A (zw_M cI μ th (f_look σ nb h k) (κ)) := by rw [e9]; exact hD
            exact W.vret hx hb hr (fun t ht hW => ⟨⟨(), rfl, trivial, by rw [ht]; exact hP9, va_K.moved hW.alike hK, hD9⟩, hS.F ht⟩) hS.2.2 dX4_look_153
          · refine lv_aload_n hx hb dX4_look_90 rfl (lv_at hl 2 rfl) ?_
            refine lv_iload_n hx hb dX4_look_91 rfl (lv_at hl 3 rfl) ?_
            have hF := zfree hD hS hA
            refine zk_V (va_runV (As := [.int (nI k)]) (rest := []) ⟨hx, hb, hml, hown, hts⟩ (c_X4_lieDown l D cI μ th (f_pawnB σ k) (κ) (k := k) hk _) (cwV 1 hts gX4_look_X4_lieDown rfl rfl rfl zdX4_lieDown ⟨Nat.le_of_ble_eq_true rfl, Nat.le_of_ble_eq_true rfl⟩) ⟨zbl _, va_recv hK hP (ci := 4) (q0 := 0) rfl rfl, zpr hK hP hD⟩ rfl rfl hl.1 rfl (lv_room (Nat.le_of_ble_eq_true rfl)) dX4_look_92 ⟨Nat.zero_le _, Nat.zero_le _⟩) hS hF (fun H locs hkp hP1 hD1 hS => ?_)
            have hP := hP1
            have hD := hD1.weaken (fun _ _ _ z => hF _ z)
            have hP : va_P D vwCl (zw_M cI μ th (f_floor (f_pawnB σ k) k) (κ)) H := hP
            have hD : va_D A (zw_M cI μ th (f_floor (f_pawnB σ k) k) (κ)) := hD
            have e9 : f_look σ nb h k = f_floor (f_pawnB σ k) k := by rw [f_look, if_pos hhs, eb, nI_clamp (by omega), f_try, show f_try1 σ k b = (f_pawnB σ k) from if_pos ⟨c_4, c_10, c_16⟩, if_pos (Int32.not_le.mp c_23)]
            have hP9 : va_P D vwCl (zw_M cI μ th (f_look σ nb h k) (κ)) H := by rw [e9]; exact hP
            have hD9 : va_D A (zw_M cI μ th (f_look σ nb h k) (κ)) := by rw [e9]; exact hD
            exact W.vret hx hb hr (fun t ht hW => ⟨⟨(), rfl, trivial, by rw [ht]; exact hP9, va_K.moved hW.alike hK, hD9⟩, hS.F ht⟩) hS.2.2 dX4_look_95
  · have hnh : ¬ f_has σ (f_choose σ nb k) := by rw [c_2]; exact zhas_m1
    refine lv_aload_n hx hb dX4_look_11 rfl (lv_at hl 1 rfl) ?_
    refine va_get (D := D) (ci := 4) (v := .ref (μ 4)) (C := RX4) (T := TX4) (N := 8) hx hb hts hinX4 hown hK hP 0 rfl rfl 6 (by decide) hf19 (fun _ h9 => h9) rfl dX4_look_12 ?_
    refine lv_iconst (v := 0) hx hb dX4_look_15 (by decide) ?_
    refine zk_ld hx hb hK hP 4 0 rfl rfl (k := 0) (by omega) (by decide) (v := nI h) ((zenc_0 σ (by decide)).trans hC.2.2.2.2.1) dX4_look_16 ?_
    refine lv_bipush (v := 8) hx hb dX4_look_17 (by decide) ?_
    refine zk_rem (x := h) (y := 8) hx hb dX4_look_19 (by omega) (by decide) (by decide) ?_
    refine lv_iconst (v := 4) hx hb dX4_look_20 (by decide) ?_
    refine lv_icmp_lt (tgt := 29) hx hb dX4_look_21 (by decide) (fun c_26 => ?_) (fun c_26 => ?_)
    · have e9 : f_look σ nb h k = σ := by rw [f_look, if_neg hnh, if_pos c_26]
      have hP9 : va_P D vwCl (zw_M cI μ th (f_look σ nb h k) (κ)) H := by rw [e9]; exact hP
      have hD9 : va_D A (zw_M cI μ th (f_look σ nb h k) (κ)) := by rw [e9]; exact hD
      exact W.vret hx hb hr (fun t ht hW => ⟨⟨(), rfl, trivial, by rw [ht]; exact hP9, va_K.moved hW.alike hK, hD9⟩, hS.F ht⟩) hS.2.2 dX4_look_29
    · refine lv_aload_n hx hb dX4_look_24 rfl (lv_at hl 1 rfl) ?_
      refine lv_iload_n hx hb dX4_look_25 rfl (lv_at hl 2 rfl) ?_
      have hF := zfree hD hS hA
      refine zk_V (va_runV (As := [.int (nI k)]) (rest := []) ⟨hx, hb, hml, hown, hts⟩ (c_X4_lieDown l D cI μ th σ (κ) (k := k) hk _) (cwV 1 hts gX4_look_X4_lieDown rfl rfl rfl zdX4_lieDown ⟨Nat.le_of_ble_eq_true rfl, Nat.le_of_ble_eq_true rfl⟩) ⟨zbl _, va_recv hK hP (ci := 4) (q0 := 0) rfl rfl, zpr hK hP hD⟩ rfl rfl hl.1 rfl (lv_room (Nat.le_of_ble_eq_true rfl)) dX4_look_26 ⟨Nat.zero_le _, Nat.zero_le _⟩) hS hF (fun H locs hkp hP1 hD1 hS => ?_)
      have hP := hP1
      have hD := hD1.weaken (fun _ _ _ z => hF _ z)
      have hP : va_P D vwCl (zw_M cI μ th (f_floor σ k) (κ)) H := hP
      have hD : va_D A (zw_M cI μ th (f_floor σ k) (κ)) := hD
      have e9 : f_look σ nb h k = f_floor σ k := by rw [f_look, if_neg hnh, if_neg c_26]
      have hP9 : va_P D vwCl (zw_M cI μ th (f_look σ nb h k) (κ)) H := by rw [e9]; exact hP
      have hD9 : va_D A (zw_M cI μ th (f_look σ nb h k) (κ)) := by rw [e9]; exact hD
      exact W.vret hx hb hr (fun t ht hW => ⟨⟨(), rfl, trivial, by rw [ht]; exact hP9, va_K.moved hW.alike hK, hD9⟩, hS.F ht⟩) hS.2.2 dX4_look_29
