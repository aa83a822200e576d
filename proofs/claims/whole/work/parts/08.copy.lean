def f_cp (f g : Nat → Int32) (i : Nat) : Nat → Int32 := fun j => if j < i then f j else g j
theorem f_cp_s (f g : Nat → Int32) (i : Nat) : f_cp f g (i + 1) = upd (f_cp f g i) i (f i) := by
  funext j
  unfold f_cp upd
  by_cases h : j = i
  · subst h
    rw [if_pos (Nat.lt_succ_self _), if_pos rfl]
  · rw [if_neg h]
    show (if j < i + 1 then f j else g j) = (if j < i then f j else g j)
    by_cases h2 : j < i
    · rw [if_pos h2, if_pos (by omega)]
    · rw [if_neg h2, if_neg (by omega)]
theorem f_cp_0 (f g : Nat → Int32) : f_cp f g 0 = g := rfl

set_option maxHeartbeats 4000000 in
set_option maxRecDepth 100000 in
theorem c_X3_copyRow (l : Launch) (D : va_G) (cI : ClassId) (u0 v0 n : Nat) (f g : Nat → Int32) (hn : n < 2 ^ 31)  : zMV l yX3_copyRow wsX3_copyRow ({ frames := 0, cells := 0, slots := 0, locals := 0 }) [.ref u0, .ref v0] D [(cI, .int)] ([(u0, .inl (cI, n, .inl f)), (v0, .inl (cI, n, .inl g))]) ([(u0, .inl (cI, n, .inl f)), (v0, .inl (cI, n, .inl f))]) := by
  intro sz
  refine Met.ofW (cc := cX3_copyRow) (maxL := 3) (ret := none) (by decide) rfl ?_
  intro p e s m args below meth c s₁ B hml hv
  obtain ⟨rfl, hsz, hP, hK, hD⟩ := hv
  have hx := B.exec
  have hb := B.bytes
  have hr := B.returns
  have hts := atoms_spec (ws := wsX3_copyRow) B.pre
  have hown : s.vm.findClass RX3 = some m.cls := findClass_of_methodNamed B.named
  have hlocks := B.notSynchronized
  subst hsz
  have hD := hD.self (sz := s.heap.size)
  generalize hAe : va_A ([(u0, .inl (cI, n, .inl f)), (v0, .inl (cI, n, .inl g))]) s.heap.size = A at hD ⊢
  have hA : ∀ q : Nat, s.heap.size ≤ q → A q := fun q h => by rw [← hAe]; exact Or.inr h
  have hS : va_S A s.heap s.heap [] := va_S.rf
  have hP : va_P D vwCl ([(u0, .inl (cI, n, .inl f)), (v0, .inl (cI, n, .inl g))]) s.heap := hP
  have hl := lv_entry ([.ref u0, .ref v0]) (n := 3) (Nat.le_of_ble_eq_true rfl)
  rw [lg_entry_eq]
  generalize (lg_sl ([.ref u0, .ref v0]) ++ List.replicate (3 - (lg_sl ([.ref u0, .ref v0])).length) Slot.unset).toArray = ls at hl ⊢
  have hl : lv_has ls 3 [(0, .ref u0), (1, .ref v0)] := hl
  refine lv_iconst (v := 0) hx hb dX3_copyRow_0 (by decide) ?_
  refine lv_istore_n (lv' := [(2, .int 0), (0, .ref u0), (1, .ref v0)]) hx hb dX3_copyRow_1 rfl hl (by decide) rfl (fun ls hl => ?_)
  refine zk_loop (pc := 2) (fun i H locs ls => va_P D vwCl ([(u0, .inl (cI, n, .inl f)), (v0, .inl (cI, n, .inl (f_cp f g i)))]) H ∧ va_D A ([(u0, .inl (cI, n, .inl f)), (v0, .inl (cI, n, .inl (f_cp f g i)))]) ∧ va_S A s.heap H locs ∧ lv_has ls 3 [(0, .ref u0), (1, .ref v0), (2, .int (nI i))]) n (fun i hki ih H locs ls hI => ?_) (fun H locs ls hI => ?_) _ _ _ ⟨hP, hD, hS, lv_sub hl [1, 2, 0] rfl⟩
  · obtain ⟨hP, hD, hS, hl⟩ := hI
    refine lv_iload_n hx hb dX3_copyRow_2 rfl (lv_at hl 2 rfl) ?_
    refine lv_aload_n hx hb dX3_copyRow_3 rfl (lv_at hl 0 rfl) ?_
    refine va_alen hx hb hK hP 0 0 rfl rfl (v := nI n) rfl dX3_copyRow_4 ?_
    refine lv_icmp_ge (tgt := 26) hx hb dX3_copyRow_5 (by decide) (fun c => absurd c (nI_ge hki hn)) (fun _ => ?_)
    refine lv_iload_n hx hb dX3_copyRow_8 rfl (lv_at hl 2 rfl) ?_
    refine lv_aload_n hx hb dX3_copyRow_9 rfl (lv_at hl 1 rfl) ?_
    refine va_alen hx hb hK hP 1 0 rfl rfl (v := nI n) rfl dX3_copyRow_10 ?_
    refine lv_icmp_ge (tgt := 26) hx hb dX3_copyRow_11 (by decide) (fun c => absurd c (nI_ge hki hn)) (fun _ => ?_)
    refine lv_aload_n hx hb dX3_copyRow_14 rfl (lv_at hl 1 rfl) ?_
    refine lv_iload_n hx hb dX3_copyRow_15 rfl (lv_at hl 2 rfl) ?_
    refine lv_aload_n hx hb dX3_copyRow_16 rfl (lv_at hl 0 rfl) ?_
    refine lv_iload_n hx hb dX3_copyRow_17 rfl (lv_at hl 2 rfl) ?_
    refine zk_ld hx hb hK hP 0 0 rfl rfl (k := i) hki hn (v := f i) rfl dX3_copyRow_18 ?_
    refine zk_st hx hb hK hP hD hS 1 0 rfl rfl (k := i) hki hn rfl dX3_copyRow_19 (fun H locs hP hD hS => ?_)
    have hP : va_P D vwCl ([(u0, .inl (cI, n, .inl f)), (v0, .inl (cI, n, .inl (upd (f_cp f g i) i (f i))))]) H := hP
    have hD : va_D A ([(u0, .inl (cI, n, .inl f)), (v0, .inl (cI, n, .inl (upd (f_cp f g i) i (f i))))]) := hD
    refine lv_iinc (v := nI (i + 1)) (lv' := [(2, .int (nI (i + 1))), (0, .ref u0), (1, .ref v0)]) hx hb dX3_copyRow_20 hl (k := 2) rfl (nI_1 i) (by decide) rfl (fun ls hl => ?_)
    refine lv_goto (tgt := 2) hx hb dX3_copyRow_23 (by decide) ?_
    have e1 := f_cp_s f g i
    exact ih _ _ _ ⟨by rw [e1]; exact hP, by rw [e1]; exact hD, hS, lv_sub hl [1, 2, 0] rfl⟩
  · obtain ⟨hP, hD, hS, hl⟩ := hI
    refine lv_iload_n hx hb dX3_copyRow_2 rfl (lv_at hl 2 rfl) ?_
    refine lv_aload_n hx hb dX3_copyRow_3 rfl (lv_at hl 0 rfl) ?_
    refine va_alen hx hb hK hP 0 0 rfl rfl (v := nI n) rfl dX3_copyRow_4 ?_
    refine lv_icmp_ge (tgt := 26) hx hb dX3_copyRow_5 (by decide) (fun _ => ?_) (fun c => absurd (Int32.le_refl _) c)
    have hP9 : va_P D vwCl [(u0, .inl (cI, n, .inl f)), (v0, .inl (cI, n, .inl f))] H := fun k q hk => by
      match k, hk with
      | 0, hk => exact hP 0 q hk
      | 1, hk => cases hk; exact fr_row (fun j hj => if_pos hj) (hP 1 _ rfl)
      | k + 2, hk => simp at hk
    have hD9 : va_D A [(u0, .inl (cI, n, .inl f)), (v0, .inl (cI, n, .inl f))] := hD.set (p := 1) (a := v0) rfl
    exact W.vret hx hb hr (fun t ht hW => ⟨⟨(), rfl, trivial, by rw [ht]; exact hP9, va_K.moved hW.alike hK, hD9⟩, hS.F ht⟩) hS.2.2 dX3_copyRow_26

/-- a row put in another's place -/
def zr (σ : zS) (r : Nat) (f : Nat → Int32) : zS := fun r' => if r' = r then f else σ r'
def zw_2 (cI : ClassId) (a b : Nat → Nat) (σ τ : zS) : va_W := zw_H cI a σ ++ zw_H cI b τ

def f_cpB (σ τ : zS) : zS := zr (zr (zr (zr (zr (zs τ 0 3 (σ 0 3)) 1 (σ 1)) 2 (σ 2)) 3 (σ 3)) 4 (σ 4)) 5 (σ 5)
def f_cpS (σ τ : zS) : zS := zr (zr (zr (zr (zr (zr (zr (zr (zr (zr (zr (zr (zs τ 0 4 (σ 0 4)) 6 (σ 6)) 7 (σ 7)) 8 (σ 8)) 9 (σ 9)) 10 (σ 10)) 11 (σ 11)) 12 (σ 12)) 13 (σ 13)) 14 (σ 14)) 15 (σ 15)) 16 (σ 16)) 17 (σ 17)

set_option maxHeartbeats 4000000 in
set_option maxRecDepth 100000 in
theorem c_X0_copyFrom (l : Launch) (D : va_G) (cI : ClassId) (a b : Nat → Nat) (σ τ : zS)  : zNV l yX0_copyFrom wsX0_copyFrom ({ frames := 1, cells := 0, slots := 0, locals := 22 }) [.ref (b 1), .ref (a 1)] D [(cI, .int)] (zw_2 cI a b σ (τ)) (zw_2 cI a b σ (f_cpB σ τ)) := by
  intro sz
  refine Met.ofW (cc := cX0_copyFrom) (maxL := 2) (ret := none) (by decide) rfl ?_
  intro p e s m args below meth c s₁ B hml hv
  obtain ⟨rfl, ⟨hsz, hP, hK, hD⟩, hL⟩ := hv
  have hx := B.exec
  have hb := B.bytes
  have hr := B.returns
  have hts := atoms_spec (ws := wsX0_copyFrom) B.pre
  have hown : s.vm.findClass RX0 = some m.cls := findClass_of_methodNamed B.named
  have hlocks := B.notSynchronized
  subst hsz
  have hD := hD.self (sz := s.heap.size)
  generalize hAe : va_A (zw_2 cI a b σ (τ)) s.heap.size = A at hD ⊢
  have hA : ∀ q : Nat, s.heap.size ≤ q → A q := fun q h => by rw [← hAe]; exact Or.inr h
  have hS : va_S A s.heap s.heap [] := va_S.rf
  have hP : va_P D vwCl (zw_2 cI a b σ (τ)) s.heap := hP
  have hl := lv_entry ([.ref (b 1), .ref (a 1)]) (n := 2) (Nat.le_of_ble_eq_true rfl)
  rw [lg_entry_eq]
  generalize (lg_sl ([.ref (b 1), .ref (a 1)]) ++ List.replicate (2 - (lg_sl ([.ref (b 1), .ref (a 1)])).length) Slot.unset).toArray = ls at hl ⊢
  have hl : lv_has ls 2 [(0, .ref (b 1)), (1, .ref (a 1))] := hl
  have hf13 := hts (.fieldLink RX0 13 "HotBeds$Beds" "price" "[I") (by decide +kernel)
  have hf17 := hts (.fieldLink RX0 17 "HotBeds$Beds" "warmth" "[I") (by decide +kernel)
  have hf20 := hts (.fieldLink RX0 20 "HotBeds$Beds" "entries" "[I") (by decide +kernel)
  have hf23 := hts (.fieldLink RX0 23 "HotBeds$Beds" "paid" "[I") (by decide +kernel)
  have hf26 := hts (.fieldLink RX0 26 "HotBeds$Beds" "sleeper" "[I") (by decide +kernel)
  have hf7 := hts (.fieldLink RX0 7 "HotBeds$Beds" "size" "I") (by decide +kernel)
  have hinX0 : ∀ w ∈ u_ws RX0 TX0 6, w ∈ wsX0_copyFrom := by decide +kernel
  refine lv_aload_n hx hb dX0_copyFrom_0 rfl (lv_at hl 0 rfl) ?_
  refine lv_aload_n hx hb dX0_copyFrom_1 rfl (lv_at hl 1 rfl) ?_
  refine va_get (D := D) (ci := 0) (v := .int (σ 0 3)) (C := RX0) (T := TX0) (N := 6) hx hb hts hinX0 hown hK hP 1 rfl rfl 0 (by decide) hf7 (fun _ h9 => h9) rfl dX0_copyFrom_2 ?_
  refine va_put (D := D) (ci := 0) (v := .int (σ 0 3)) (ty := .int) (C := RX0) (T := TX0) (N := 6) hx hb hts hinX0 tyX0 tyX0_ok nmX0 hown hK hP hD hS 21 rfl rfl 0 (by decide) hf7 (fun _ h9 => h9)  rfl (by decide +kernel) rfl rfl (Nat.le_of_ble_eq_true rfl) dX0_copyFrom_5 (fun H locs hP hD hS => ?_)
  have hP : va_P D vwCl (zw_2 cI a b σ (zs (τ) 0 3 (σ 0 3))) H := hP
  have hD : va_D A (zw_2 cI a b σ (zs (τ) 0 3 (σ 0 3))) := hD
  refine lv_aload_n hx hb dX0_copyFrom_8 rfl (lv_at hl 1 rfl) ?_
  refine va_get (D := D) (ci := 0) (v := .ref (a 3)) (C := RX0) (T := TX0) (N := 6) hx hb hts hinX0 hown hK hP 1 rfl rfl 1 (by decide) hf13 (fun _ h9 => h9) rfl dX0_copyFrom_9 ?_
  refine lv_aload_n hx hb dX0_copyFrom_12 rfl (lv_at hl 0 rfl) ?_
  refine va_get (D := D) (ci := 0) (v := .ref (b 3)) (C := RX0) (T := TX0) (N := 6) hx hb hts hinX0 hown hK hP 21 rfl rfl 1 (by decide) hf13 (fun _ h9 => h9) rfl dX0_copyFrom_13 ?_
  have hF := zfree (hD.sub (ws' := [(a 3, .inl (cI, 6, .inl (σ 1))), (b 3, .inl (cI, 6, .inl ((zs (τ) 0 3 (σ 0 3)) 1)))]) [3, 23] (by decide) rfl) hS hA
  refine zk_V (va_runSN (host := RX3) (As := [.ref (a 3), .ref (b 3)]) (rest := []) ⟨hx, hb, hml, hown, hts⟩ (c_X3_copyRow l D cI (a 3) (b 3) 6 (σ 1) ((zs (τ) 0 3 (σ 0 3)) 1) (by decide) _) ⟨va_cnB 2 hts gX0_copyFrom_X3_copyRow_n36 rfl rfl rfl (hL.2.2.1 (RX0, 36, yX3_copyRow, RX3) (by decide +kernel)) (hts (.initialized RX3) (by decide +kernel)) zdX3_copyRow.2 ⟨Nat.le_of_ble_eq_true rfl, Nat.le_of_ble_eq_true rfl⟩, hts (.static yX3_copyRow) (by decide +kernel), trivial⟩ ⟨zbl _, zpr hK (hP.sub (ws' := [(a 3, .inl (cI, 6, .inl (σ 1))), (b 3, .inl (cI, 6, .inl ((zs (τ) 0 3 (σ 0 3)) 1)))]) [3, 23] rfl) (hD.sub (ws' := [(a 3, .inl (cI, 6, .inl (σ 1))), (b 3, .inl (cI, 6, .inl ((zs (τ) 0 3 (σ 0 3)) 1)))]) [3, 23] (by decide) rfl)⟩ rfl rfl hl.1 rfl (lv_room (Nat.le_of_ble_eq_true rfl)) dX0_copyFrom_16 ⟨Nat.zero_le _, Nat.zero_le _⟩) hS hF (fun H locs hkp hP1 hD1 hS => ?_)
  obtain ⟨hP, hD⟩ := fr_set (i := 3) (k := 23) rfl rfl hP hD hkp hP1
  have hP : va_P D vwCl (zw_2 cI a b σ (zr (zs (τ) 0 3 (σ 0 3)) 1 (σ 1))) H := hP
  have hD : va_D A (zw_2 cI a b σ (zr (zs (τ) 0 3 (σ 0 3)) 1 (σ 1))) := hD
  refine lv_aload_n hx hb dX0_copyFrom_19 rfl (lv_at hl 1 rfl) ?_
  refine va_get (D := D) (ci := 0) (v := .ref (a 4)) (C := RX0) (T := TX0) (N := 6) hx hb hts hinX0 hown hK hP 1 rfl rfl 2 (by decide) hf17 (fun _ h9 => h9) rfl dX0_copyFrom_20 ?_
  refine lv_aload_n hx hb dX0_copyFrom_23 rfl (lv_at hl 0 rfl) ?_
  refine va_get (D := D) (ci := 0) (v := .ref (b 4)) (C := RX0) (T := TX0) (N := 6) hx hb hts hinX0 hown hK hP 21 rfl rfl 2 (by decide) hf17 (fun _ h9 => h9) rfl dX0_copyFrom_24 ?_
  have hF := zfree (hD.sub (ws' := [(a 4, .inl (cI, 6, .inl (σ 2))), (b 4, .inl (cI, 6, .inl ((zr (zs (τ) 0 3 (σ 0 3)) 1 (σ 1)) 2)))]) [4, 24] (by decide) rfl) hS hA
  refine zk_V (va_runSN (host := RX3) (As := [.ref (a 4), .ref (b 4)]) (rest := []) ⟨hx, hb, hml, hown, hts⟩ (c_X3_copyRow l D cI (a 4) (b 4) 6 (σ 2) ((zr (zs (τ) 0 3 (σ 0 3)) 1 (σ 1)) 2) (by decide) _) ⟨va_cnB 2 hts gX0_copyFrom_X3_copyRow_n36 rfl rfl rfl (hL.2.2.1 (RX0, 36, yX3_copyRow, RX3) (by decide +kernel)) (hts (.initialized RX3) (by decide +kernel)) zdX3_copyRow.2 ⟨Nat.le_of_ble_eq_true rfl, Nat.le_of_ble_eq_true rfl⟩, hts (.static yX3_copyRow) (by decide +kernel), trivial⟩ ⟨zbl _, zpr hK (hP.sub (ws' := [(a 4, .inl (cI, 6, .inl (σ 2))), (b 4, .inl (cI, 6, .inl ((zr (zs (τ) 0 3 (σ 0 3)) 1 (σ 1)) 2)))]) [4, 24] rfl) (hD.sub (ws' := [(a 4, .inl (cI, 6, .inl (σ 2))), (b 4, .inl (cI, 6, .inl ((zr (zs (τ) 0 3 (σ 0 3)) 1 (σ 1)) 2)))]) [4, 24] (by decide) rfl)⟩ rfl rfl hl.1 rfl (lv_room (Nat.le_of_ble_eq_true rfl)) dX0_copyFrom_27 ⟨Nat.zero_le _, Nat.zero_le _⟩) hS hF (fun H locs hkp hP1 hD1 hS => ?_)
  obtain ⟨hP, hD⟩ := fr_set (i := 4) (k := 24) rfl rfl hP hD hkp hP1
  have hP : va_P D vwCl (zw_2 cI a b σ (zr (zr (zs (τ) 0 3 (σ 0 3)) 1 (σ 1)) 2 (σ 2))) H := hP
  have hD : va_D A (zw_2 cI a b σ (zr (zr (zs (τ) 0 3 (σ 0 3)) 1 (σ 1)) 2 (σ 2))) := hD
  refine lv_aload_n hx hb dX0_copyFrom_30 rfl (lv_at hl 1 rfl) ?_
  refine va_get (D := D) (ci := 0) (v := .ref (a 5)) (C := RX0) (T := TX0) (N := 6) hx hb hts hinX0 hown hK hP 1 rfl rfl 3 (by decide) hf20 (fun _ h9 => h9) rfl dX0_copyFrom_31 ?_
  refine lv_aload_n hx hb dX0_copyFrom_34 rfl (lv_at hl 0 rfl) ?_
  refine va_get (D := D) (ci := 0) (v := .ref (b 5)) (C := RX0) (T := TX0) (N := 6) hx hb hts hinX0 hown hK hP 21 rfl rfl 3 (by decide) hf20 (fun _ h9 => h9) rfl dX0_copyFrom_35 ?_
  have hF := zfree (hD.sub (ws' := [(a 5, .inl (cI, 6, .inl (σ 3))), (b 5, .inl (cI, 6, .inl ((zr (zr (zs (τ) 0 3 (σ 0 3)) 1 (σ 1)) 2 (σ 2)) 3)))]) [5, 25] (by decide) rfl) hS hA
  refine zk_V (va_runSN (host := RX3) (As := [.ref (a 5), .ref (b 5)]) (rest := []) ⟨hx, hb, hml, hown, hts⟩ (c_X3_copyRow l D cI (a 5) (b 5) 6 (σ 3) ((zr (zr (zs (τ) 0 3 (σ 0 3)) 1 (σ 1)) 2 (σ 2)) 3) (by decide) _) ⟨va_cnB 2 hts gX0_copyFrom_X3_copyRow_n36 rfl rfl rfl (hL.2.2.1 (RX0, 36, yX3_copyRow, RX3) (by decide +kernel)) (hts (.initialized RX3) (by decide +kernel)) zdX3_copyRow.2 ⟨Nat.le_of_ble_eq_true rfl, Nat.le_of_ble_eq_true rfl⟩, hts (.static yX3_copyRow) (by decide +kernel), trivial⟩ ⟨zbl _, zpr hK (hP.sub (ws' := [(a 5, .inl (cI, 6, .inl (σ 3))), (b 5, .inl (cI, 6, .inl ((zr (zr (zs (τ) 0 3 (σ 0 3)) 1 (σ 1)) 2 (σ 2)) 3)))]) [5, 25] rfl) (hD.sub (ws' := [(a 5, .inl (cI, 6, .inl (σ 3))), (b 5, .inl (cI, 6, .inl ((zr (zr (zs (τ) 0 3 (σ 0 3)) 1 (σ 1)) 2 (σ 2)) 3)))]) [5, 25] (by decide) rfl)⟩ rfl rfl hl.1 rfl (lv_room (Nat.le_of_ble_eq_true rfl)) dX0_copyFrom_38 ⟨Nat.zero_le _, Nat.zero_le _⟩) hS hF (fun H locs hkp hP1 hD1 hS => ?_)
  obtain ⟨hP, hD⟩ := fr_set (i := 5) (k := 25) rfl rfl hP hD hkp hP1
  have hP : va_P D vwCl (zw_2 cI a b σ (zr (zr (zr (zs (τ) 0 3 (σ 0 3)) 1 (σ 1)) 2 (σ 2)) 3 (σ 3))) H := hP
  have hD : va_D A (zw_2 cI a b σ (zr (zr (zr (zs (τ) 0 3 (σ 0 3)) 1 (σ 1)) 2 (σ 2)) 3 (σ 3))) := hD
  refine lv_aload_n hx hb dX0_copyFrom_41 rfl (lv_at hl 1 rfl) ?_
  refine va_get (D := D) (ci := 0) (v := .ref (a 6)) (C := RX0) (T := TX0) (N := 6) hx hb hts hinX0 hown hK hP 1 rfl rfl 4 (by decide) hf23 (fun _ h9 => h9) rfl dX0_copyFrom_42 ?_
  refine lv_aload_n hx hb dX0_copyFrom_45 rfl (lv_at hl 0 rfl) ?_
  refine va_get (D := D) (ci := 0) (v := .ref (b 6)) (C := RX0) (T := TX0) (N := 6) hx hb hts hinX0 hown hK hP 21 rfl rfl 4 (by decide) hf23 (fun _ h9 => h9) rfl dX0_copyFrom_46 ?_
  have hF := zfree (hD.sub (ws' := [(a 6, .inl (cI, 6, .inl (σ 4))), (b 6, .inl (cI, 6, .inl ((zr (zr (zr (zs (τ) 0 3 (σ 0 3)) 1 (σ 1)) 2 (σ 2)) 3 (σ 3)) 4)))]) [6, 26] (by decide) rfl) hS hA
  refine zk_V (va_runSN (host := RX3) (As := [.ref (a 6), .ref (b 6)]) (rest := []) ⟨hx, hb, hml, hown, hts⟩ (c_X3_copyRow l D cI (a 6) (b 6) 6 (σ 4) ((zr (zr (zr (zs (τ) 0 3 (σ 0 3)) 1 (σ 1)) 2 (σ 2)) 3 (σ 3)) 4) (by decide) _) ⟨va_cnB 2 hts gX0_copyFrom_X3_copyRow_n36 rfl rfl rfl (hL.2.2.1 (RX0, 36, yX3_copyRow, RX3) (by decide +kernel)) (hts (.initialized RX3) (by decide +kernel)) zdX3_copyRow.2 ⟨Nat.le_of_ble_eq_true rfl, Nat.le_of_ble_eq_true rfl⟩, hts (.static yX3_copyRow) (by decide +kernel), trivial⟩ ⟨zbl _, zpr hK (hP.sub (ws' := [(a 6, .inl (cI, 6, .inl (σ 4))), (b 6, .inl (cI, 6, .inl ((zr (zr (zr (zs (τ) 0 3 (σ 0 3)) 1 (σ 1)) 2 (σ 2)) 3 (σ 3)) 4)))]) [6, 26] rfl) (hD.sub (ws' := [(a 6, .inl (cI, 6, .inl (σ 4))), (b 6, .inl (cI, 6, .inl ((zr (zr (zr (zs (τ) 0 3 (σ 0 3)) 1 (σ 1)) 2 (σ 2)) 3 (σ 3)) 4)))]) [6, 26] (by decide) rfl)⟩ rfl rfl hl.1 rfl (lv_room (Nat.le_of_ble_eq_true rfl)) dX0_copyFrom_49 ⟨Nat.zero_le _, Nat.zero_le _⟩) hS hF (fun H locs hkp hP1 hD1 hS => ?_)
  obtain ⟨hP, hD⟩ := fr_set (i := 6) (k := 26) rfl rfl hP hD hkp hP1
  have hP : va_P D vwCl (zw_2 cI a b σ (zr (zr (zr (zr (zs (τ) 0 3 (σ 0 3)) 1 (σ 1)) 2 (σ 2)) 3 (σ 3)) 4 (σ 4))) H := hP
  have hD : va_D A (zw_2 cI a b σ (zr (zr (zr (zr (zs (τ) 0 3 (σ 0 3)) 1 (σ 1)) 2 (σ 2)) 3 (σ 3)) 4 (σ 4))) := hD
  refine lv_aload_n hx hb dX0_copyFrom_52 rfl (lv_at hl 1 rfl) ?_
  refine va_get (D := D) (ci := 0) (v := .ref (a 7)) (C := RX0) (T := TX0) (N := 6) hx hb hts hinX0 hown hK hP 1 rfl rfl 5 (by decide) hf26 (fun _ h9 => h9) rfl dX0_copyFrom_53 ?_
  refine lv_aload_n hx hb dX0_copyFrom_56 rfl (lv_at hl 0 rfl) ?_
  refine va_get (D := D) (ci := 0) (v := .ref (b 7)) (C := RX0) (T := TX0) (N := 6) hx hb hts hinX0 hown hK hP 21 rfl rfl 5 (by decide) hf26 (fun _ h9 => h9) rfl dX0_copyFrom_57 ?_
  have hF := zfree (hD.sub (ws' := [(a 7, .inl (cI, 6, .inl (σ 5))), (b 7, .inl (cI, 6, .inl ((zr (zr (zr (zr (zs (τ) 0 3 (σ 0 3)) 1 (σ 1)) 2 (σ 2)) 3 (σ 3)) 4 (σ 4)) 5)))]) [7, 27] (by decide) rfl) hS hA
  refine zk_V (va_runSN (host := RX3) (As := [.ref (a 7), .ref (b 7)]) (rest := []) ⟨hx, hb, hml, hown, hts⟩ (c_X3_copyRow l D cI (a 7) (b 7) 6 (σ 5) ((zr (zr (zr (zr (zs (τ) 0 3 (σ 0 3)) 1 (σ 1)) 2 (σ 2)) 3 (σ 3)) 4 (σ 4)) 5) (by decide) _) ⟨va_cnB 2 hts gX0_copyFrom_X3_copyRow_n36 rfl rfl rfl (hL.2.2.1 (RX0, 36, yX3_copyRow, RX3) (by decide +kernel)) (hts (.initialized RX3) (by decide +kernel)) zdX3_copyRow.2 ⟨Nat.le_of_ble_eq_true rfl, Nat.le_of_ble_eq_true rfl⟩, hts (.static yX3_copyRow) (by decide +kernel), trivial⟩ ⟨zbl _, zpr hK (hP.sub (ws' := [(a 7, .inl (cI, 6, .inl (σ 5))), (b 7, .inl (cI, 6, .inl ((zr (zr (zr (zr (zs (τ) 0 3 (σ 0 3)) 1 (σ 1)) 2 (σ 2)) 3 (σ 3)) 4 (σ 4)) 5)))]) [7, 27] rfl) (hD.sub (ws' := [(a 7, .inl (cI, 6, .inl (σ 5))), (b 7, .inl (cI, 6, .inl ((zr (zr (zr (zr (zs (τ) 0 3 (σ 0 3)) 1 (σ 1)) 2 (σ 2)) 3 (σ 3)) 4 (σ 4)) 5)))]) [7, 27] (by decide) rfl)⟩ rfl rfl hl.1 rfl (lv_room (Nat.le_of_ble_eq_true rfl)) dX0_copyFrom_60 ⟨Nat.zero_le _, Nat.zero_le _⟩) hS hF (fun H locs hkp hP1 hD1 hS => ?_)
  obtain ⟨hP, hD⟩ := fr_set (i := 7) (k := 27) rfl rfl hP hD hkp hP1
  have hP : va_P D vwCl (zw_2 cI a b σ (zr (zr (zr (zr (zr (zs (τ) 0 3 (σ 0 3)) 1 (σ 1)) 2 (σ 2)) 3 (σ 3)) 4 (σ 4)) 5 (σ 5))) H := hP
  have hD : va_D A (zw_2 cI a b σ (zr (zr (zr (zr (zr (zs (τ) 0 3 (σ 0 3)) 1 (σ 1)) 2 (σ 2)) 3 (σ 3)) 4 (σ 4)) 5 (σ 5))) := hD
  have hP9 : va_P D vwCl (zw_2 cI a b σ (f_cpB σ τ)) H := hP
  have hD9 : va_D A (zw_2 cI a b σ (f_cpB σ τ)) := hD
  exact W.vret hx hb hr (fun t ht hW => ⟨⟨(), rfl, trivial, by rw [ht]; exact hP9, va_K.moved hW.alike hK, hD9⟩, hS.F ht⟩) hS.2.2 dX0_copyFrom_63

set_option maxHeartbeats 4000000 in
set_option maxRecDepth 100000 in
theorem c_X2_copyFrom (l : Launch) (D : va_G) (cI : ClassId) (a b : Nat → Nat) (σ τ : zS)  : zNV l yX2_copyFrom wsX2_copyFrom ({ frames := 1, cells := 0, slots := 0, locals := 22 }) [.ref (b 2), .ref (a 2)] D [(cI, .int)] (zw_2 cI a b σ (τ)) (zw_2 cI a b σ (f_cpS σ τ)) := by
  intro sz
  refine Met.ofW (cc := cX2_copyFrom) (maxL := 2) (ret := none) (by decide) rfl ?_
  intro p e s m args below meth c s₁ B hml hv
  obtain ⟨rfl, ⟨hsz, hP, hK, hD⟩, hL⟩ := hv
  have hx := B.exec
  have hb := B.bytes
  have hr := B.returns
  have hts := atoms_spec (ws := wsX2_copyFrom) B.pre
  have hown : s.vm.findClass RX2 = some m.cls := findClass_of_methodNamed B.named
  have hlocks := B.notSynchronized
  subst hsz
  have hD := hD.self (sz := s.heap.size)
  generalize hAe : va_A (zw_2 cI a b σ (τ)) s.heap.size = A at hD ⊢
  have hA : ∀ q : Nat, s.heap.size ≤ q → A q := fun q h => by rw [← hAe]; exact Or.inr h
  have hS : va_S A s.heap s.heap [] := va_S.rf
  have hP : va_P D vwCl (zw_2 cI a b σ (τ)) s.heap := hP
  have hl := lv_entry ([.ref (b 2), .ref (a 2)]) (n := 2) (Nat.le_of_ble_eq_true rfl)
  rw [lg_entry_eq]
  generalize (lg_sl ([.ref (b 2), .ref (a 2)]) ++ List.replicate (2 - (lg_sl ([.ref (b 2), .ref (a 2)])).length) Slot.unset).toArray = ls at hl ⊢
  have hl : lv_has ls 2 [(0, .ref (b 2)), (1, .ref (a 2))] := hl
  have hf13 := hts (.fieldLink RX2 13 "HotBeds$Sailors" "watch" "[I") (by decide +kernel)
  have hf17 := hts (.fieldLink RX2 17 "HotBeds$Sailors" "heavy" "[I") (by decide +kernel)
  have hf20 := hts (.fieldLink RX2 20 "HotBeds$Sailors" "wage" "[I") (by decide +kernel)
  have hf23 := hts (.fieldLink RX2 23 "HotBeds$Sailors" "purse" "[I") (by decide +kernel)
  have hf26 := hts (.fieldLink RX2 26 "HotBeds$Sailors" "boots" "[I") (by decide +kernel)
  have hf29 := hts (.fieldLink RX2 29 "HotBeds$Sailors" "kept" "[I") (by decide +kernel)
  have hf32 := hts (.fieldLink RX2 32 "HotBeds$Sailors" "place" "[I") (by decide +kernel)
  have hf35 := hts (.fieldLink RX2 35 "HotBeds$Sailors" "bed" "[I") (by decide +kernel)
  have hf38 := hts (.fieldLink RX2 38 "HotBeds$Sailors" "rest" "[I") (by decide +kernel)
  have hf41 := hts (.fieldLink RX2 41 "HotBeds$Sailors" "late" "[I") (by decide +kernel)
  have hf44 := hts (.fieldLink RX2 44 "HotBeds$Sailors" "lateSincePay" "[I") (by decide +kernel)
  have hf47 := hts (.fieldLink RX2 47 "HotBeds$Sailors" "floors" "[I") (by decide +kernel)
  have hf7 := hts (.fieldLink RX2 7 "HotBeds$Sailors" "size" "I") (by decide +kernel)
  have hinX2 : ∀ w ∈ u_ws RX2 TX2 13, w ∈ wsX2_copyFrom := by decide +kernel
  refine lv_aload_n hx hb dX2_copyFrom_0 rfl (lv_at hl 0 rfl) ?_
  refine lv_aload_n hx hb dX2_copyFrom_1 rfl (lv_at hl 1 rfl) ?_
  refine va_get (D := D) (ci := 2) (v := .int (σ 0 4)) (C := RX2) (T := TX2) (N := 13) hx hb hts hinX2 hown hK hP 2 rfl rfl 0 (by decide) hf7 (fun _ h9 => h9) rfl dX2_copyFrom_2 ?_
  refine va_put (D := D) (ci := 2) (v := .int (σ 0 4)) (ty := .int) (C := RX2) (T := TX2) (N := 13) hx hb hts hinX2 tyX2 tyX2_ok nmX2 hown hK hP hD hS 22 rfl rfl 0 (by decide) hf7 (fun _ h9 => h9)  rfl (by decide +kernel) rfl rfl (Nat.le_of_ble_eq_true rfl) dX2_copyFrom_5 (fun H locs hP hD hS => ?_)
  have hP : va_P D vwCl (zw_2 cI a b σ (zs (τ) 0 4 (σ 0 4))) H := hP
  have hD : va_D A (zw_2 cI a b σ (zs (τ) 0 4 (σ 0 4))) := hD
  refine lv_aload_n hx hb dX2_copyFrom_8 rfl (lv_at hl 1 rfl) ?_
  refine va_get (D := D) (ci := 2) (v := .ref (a 8)) (C := RX2) (T := TX2) (N := 13) hx hb hts hinX2 hown hK hP 2 rfl rfl 1 (by decide) hf13 (fun _ h9 => h9) rfl dX2_copyFrom_9 ?_
  refine lv_aload_n hx hb dX2_copyFrom_12 rfl (lv_at hl 0 rfl) ?_
  refine va_get (D := D) (ci := 2) (v := .ref (b 8)) (C := RX2) (T := TX2) (N := 13) hx hb hts hinX2 hown hK hP 22 rfl rfl 1 (by decide) hf13 (fun _ h9 => h9) rfl dX2_copyFrom_13 ?_
  have hF := zfree (hD.sub (ws' := [(a 8, .inl (cI, 10, .inl (σ 6))), (b 8, .inl (cI, 10, .inl ((zs (τ) 0 4 (σ 0 4)) 6)))]) [8, 28] (by decide) rfl) hS hA
  refine zk_V (va_runSN (host := RX3) (As := [.ref (a 8), .ref (b 8)]) (rest := []) ⟨hx, hb, hml, hown, hts⟩ (c_X3_copyRow l D cI (a 8) (b 8) 10 (σ 6) ((zs (τ) 0 4 (σ 0 4)) 6) (by decide) _) ⟨va_cnB 2 hts gX2_copyFrom_X3_copyRow_n59 rfl rfl rfl (hL.2.2.1 (RX2, 59, yX3_copyRow, RX3) (by decide +kernel)) (hts (.initialized RX3) (by decide +kernel)) zdX3_copyRow.2 ⟨Nat.le_of_ble_eq_true rfl, Nat.le_of_ble_eq_true rfl⟩, hts (.static yX3_copyRow) (by decide +kernel), trivial⟩ ⟨zbl _, zpr hK (hP.sub (ws' := [(a 8, .inl (cI, 10, .inl (σ 6))), (b 8, .inl (cI, 10, .inl ((zs (τ) 0 4 (σ 0 4)) 6)))]) [8, 28] rfl) (hD.sub (ws' := [(a 8, .inl (cI, 10, .inl (σ 6))), (b 8, .inl (cI, 10, .inl ((zs (τ) 0 4 (σ 0 4)) 6)))]) [8, 28] (by decide) rfl)⟩ rfl rfl hl.1 rfl (lv_room (Nat.le_of_ble_eq_true rfl)) dX2_copyFrom_16 ⟨Nat.zero_le _, Nat.zero_le _⟩) hS hF (fun H locs hkp hP1 hD1 hS => ?_)
  obtain ⟨hP, hD⟩ := fr_set (i := 8) (k := 28) rfl rfl hP hD hkp hP1
  have hP : va_P D vwCl (zw_2 cI a b σ (zr (zs (τ) 0 4 (σ 0 4)) 6 (σ 6))) H := hP
  have hD : va_D A (zw_2 cI a b σ (zr (zs (τ) 0 4 (σ 0 4)) 6 (σ 6))) := hD
  refine lv_aload_n hx hb dX2_copyFrom_19 rfl (lv_at hl 1 rfl) ?_
  refine va_get (D := D) (ci := 2) (v := .ref (a 9)) (C := RX2) (T := TX2) (N := 13) hx hb hts hinX2 hown hK hP 2 rfl rfl 2 (by decide) hf17 (fun _ h9 => h9) rfl dX2_copyFrom_20 ?_
  refine lv_aload_n hx hb dX2_copyFrom_23 rfl (lv_at hl 0 rfl) ?_
  refine va_get (D := D) (ci := 2) (v := .ref (b 9)) (C := RX2) (T := TX2) (N := 13) hx hb hts hinX2 hown hK hP 22 rfl rfl 2 (by decide) hf17 (fun _ h9 => h9) rfl dX2_copyFrom_24 ?_
  have hF := zfree (hD.sub (ws' := [(a 9, .inl (cI, 10, .inl (σ 7))), (b 9, .inl (cI, 10, .inl ((zr (zs (τ) 0 4 (σ 0 4)) 6 (σ 6)) 7)))]) [9, 29] (by decide) rfl) hS hA
  refine zk_V (va_runSN (host := RX3) (As := [.ref (a 9), .ref (b 9)]) (rest := []) ⟨hx, hb, hml, hown, hts⟩ (c_X3_copyRow l D cI (a 9) (b 9) 10 (σ 7) ((zr (zs (τ) 0 4 (σ 0 4)) 6 (σ 6)) 7) (by decide) _) ⟨va_cnB 2 hts gX2_copyFrom_X3_copyRow_n59 rfl rfl rfl (hL.2.2.1 (RX2, 59, yX3_copyRow, RX3) (by decide +kernel)) (hts (.initialized RX3) (by decide +kernel)) zdX3_copyRow.2 ⟨Nat.le_of_ble_eq_true rfl, Nat.le_of_ble_eq_true rfl⟩, hts (.static yX3_copyRow) (by decide +kernel), trivial⟩ ⟨zbl _, zpr hK (hP.sub (ws' := [(a 9, .inl (cI, 10, .inl (σ 7))), (b 9, .inl (cI, 10, .inl ((zr (zs (τ) 0 4 (σ 0 4)) 6 (σ 6)) 7)))]) [9, 29] rfl) (hD.sub (ws' := [(a 9, .inl (cI, 10, .inl (σ 7))), (b 9, .inl (cI, 10, .inl ((zr (zs (τ) 0 4 (σ 0 4)) 6 (σ 6)) 7)))]) [9, 29] (by decide) rfl)⟩ rfl rfl hl.1 rfl (lv_room (Nat.le_of_ble_eq_true rfl)) dX2_copyFrom_27 ⟨Nat.zero_le _, Nat.zero_le _⟩) hS hF (fun H locs hkp hP1 hD1 hS => ?_)
  obtain ⟨hP, hD⟩ := fr_set (i := 9) (k := 29) rfl rfl hP hD hkp hP1
  have hP : va_P D vwCl (zw_2 cI a b σ (zr (zr (zs (τ) 0 4 (σ 0 4)) 6 (σ 6)) 7 (σ 7))) H := hP
  have hD : va_D A (zw_2 cI a b σ (zr (zr (zs (τ) 0 4 (σ 0 4)) 6 (σ 6)) 7 (σ 7))) := hD
  refine lv_aload_n hx hb dX2_copyFrom_30 rfl (lv_at hl 1 rfl) ?_
  refine va_get (D := D) (ci := 2) (v := .ref (a 10)) (C := RX2) (T := TX2) (N := 13) hx hb hts hinX2 hown hK hP 2 rfl rfl 3 (by decide) hf20 (fun _ h9 => h9) rfl dX2_copyFrom_31 ?_
  refine lv_aload_n hx hb dX2_copyFrom_34 rfl (lv_at hl 0 rfl) ?_
  refine va_get (D := D) (ci := 2) (v := .ref (b 10)) (C := RX2) (T := TX2) (N := 13) hx hb hts hinX2 hown hK hP 22 rfl rfl 3 (by decide) hf20 (fun _ h9 => h9) rfl dX2_copyFrom_35 ?_
  have hF := zfree (hD.sub (ws' := [(a 10, .inl (cI, 10, .inl (σ 8))), (b 10, .inl (cI, 10, .inl ((zr (zr (zs (τ) 0 4 (σ 0 4)) 6 (σ 6)) 7 (σ 7)) 8)))]) [10, 30] (by decide) rfl) hS hA
  refine zk_V (va_runSN (host := RX3) (As := [.ref (a 10), .ref (b 10)]) (rest := []) ⟨hx, hb, hml, hown, hts⟩ (c_X3_copyRow l D cI (a 10) (b 10) 10 (σ 8) ((zr (zr (zs (τ) 0 4 (σ 0 4)) 6 (σ 6)) 7 (σ 7)) 8) (by decide) _) ⟨va_cnB 2 hts gX2_copyFrom_X3_copyRow_n59 rfl rfl rfl (hL.2.2.1 (RX2, 59, yX3_copyRow, RX3) (by decide +kernel)) (hts (.initialized RX3) (by decide +kernel)) zdX3_copyRow.2 ⟨Nat.le_of_ble_eq_true rfl, Nat.le_of_ble_eq_true rfl⟩, hts (.static yX3_copyRow) (by decide +kernel), trivial⟩ ⟨zbl _, zpr hK (hP.sub (ws' := [(a 10, .inl (cI, 10, .inl (σ 8))), (b 10, .inl (cI, 10, .inl ((zr (zr (zs (τ) 0 4 (σ 0 4)) 6 (σ 6)) 7 (σ 7)) 8)))]) [10, 30] rfl) (hD.sub (ws' := [(a 10, .inl (cI, 10, .inl (σ 8))), (b 10, .inl (cI, 10, .inl ((zr (zr (zs (τ) 0 4 (σ 0 4)) 6 (σ 6)) 7 (σ 7)) 8)))]) [10, 30] (by decide) rfl)⟩ rfl rfl hl.1 rfl (lv_room (Nat.le_of_ble_eq_true rfl)) dX2_copyFrom_38 ⟨Nat.zero_le _, Nat.zero_le _⟩) hS hF (fun H locs hkp hP1 hD1 hS => ?_)
  obtain ⟨hP, hD⟩ := fr_set (i := 10) (k := 30) rfl rfl hP hD hkp hP1
  have hP : va_P D vwCl (zw_2 cI a b σ (zr (zr (zr (zs (τ) 0 4 (σ 0 4)) 6 (σ 6)) 7 (σ 7)) 8 (σ 8))) H := hP
  have hD : va_D A (zw_2 cI a b σ (zr (zr (zr (zs (τ) 0 4 (σ 0 4)) 6 (σ 6)) 7 (σ 7)) 8 (σ 8))) := hD
  refine lv_aload_n hx hb dX2_copyFrom_41 rfl (lv_at hl 1 rfl) ?_
  refine va_get (D := D) (ci := 2) (v := .ref (a 11)) (C := RX2) (T := TX2) (N := 13) hx hb hts hinX2 hown hK hP 2 rfl rfl 4 (by decide) hf23 (fun _ h9 => h9) rfl dX2_copyFrom_42 ?_
  refine lv_aload_n hx hb dX2_copyFrom_45 rfl (lv_at hl 0 rfl) ?_
  refine va_get (D := D) (ci := 2) (v := .ref (b 11)) (C := RX2) (T := TX2) (N := 13) hx hb hts hinX2 hown hK hP 22 rfl rfl 4 (by decide) hf23 (fun _ h9 => h9) rfl dX2_copyFrom_46 ?_
  have hF := zfree (hD.sub (ws' := [(a 11, .inl (cI, 10, .inl (σ 9))), (b 11, .inl (cI, 10, .inl ((zr (zr (zr (zs (τ) 0 4 (σ 0 4)) 6 (σ 6)) 7 (σ 7)) 8 (σ 8)) 9)))]) [11, 31] (by decide) rfl) hS hA
  refine zk_V (va_runSN (host := RX3) (As := [.ref (a 11), .ref (b 11)]) (rest := []) ⟨hx, hb, hml, hown, hts⟩ (c_X3_copyRow l D cI (a 11) (b 11) 10 (σ 9) ((zr (zr (zr (zs (τ) 0 4 (σ 0 4)) 6 (σ 6)) 7 (σ 7)) 8 (σ 8)) 9) (by decide) _) ⟨va_cnB 2 hts gX2_copyFrom_X3_copyRow_n59 rfl rfl rfl (hL.2.2.1 (RX2, 59, yX3_copyRow, RX3) (by decide +kernel)) (hts (.initialized RX3) (by decide +kernel)) zdX3_copyRow.2 ⟨Nat.le_of_ble_eq_true rfl, Nat.le_of_ble_eq_true rfl⟩, hts (.static yX3_copyRow) (by decide +kernel), trivial⟩ ⟨zbl _, zpr hK (hP.sub (ws' := [(a 11, .inl (cI, 10, .inl (σ 9))), (b 11, .inl (cI, 10, .inl ((zr (zr (zr (zs (τ) 0 4 (σ 0 4)) 6 (σ 6)) 7 (σ 7)) 8 (σ 8)) 9)))]) [11, 31] rfl) (hD.sub (ws' := [(a 11, .inl (cI, 10, .inl (σ 9))), (b 11, .inl (cI, 10, .inl ((zr (zr (zr (zs (τ) 0 4 (σ 0 4)) 6 (σ 6)) 7 (σ 7)) 8 (σ 8)) 9)))]) [11, 31] (by decide) rfl)⟩ rfl rfl hl.1 rfl (lv_room (Nat.le_of_ble_eq_true rfl)) dX2_copyFrom_49 ⟨Nat.zero_le _, Nat.zero_le _⟩) hS hF (fun H locs hkp hP1 hD1 hS => ?_)
  obtain ⟨hP, hD⟩ := fr_set (i := 11) (k := 31) rfl rfl hP hD hkp hP1
  have hP : va_P D vwCl (zw_2 cI a b σ (zr (zr (zr (zr (zs (τ) 0 4 (σ 0 4)) 6 (σ 6)) 7 (σ 7)) 8 (σ 8)) 9 (σ 9))) H := hP
  have hD : va_D A (zw_2 cI a b σ (zr (zr (zr (zr (zs (τ) 0 4 (σ 0 4)) 6 (σ 6)) 7 (σ 7)) 8 (σ 8)) 9 (σ 9))) := hD
  refine lv_aload_n hx hb dX2_copyFrom_52 rfl (lv_at hl 1 rfl) ?_
  refine va_get (D := D) (ci := 2) (v := .ref (a 12)) (C := RX2) (T := TX2) (N := 13) hx hb hts hinX2 hown hK hP 2 rfl rfl 5 (by decide) hf26 (fun _ h9 => h9) rfl dX2_copyFrom_53 ?_
  refine lv_aload_n hx hb dX2_copyFrom_56 rfl (lv_at hl 0 rfl) ?_
  refine va_get (D := D) (ci := 2) (v := .ref (b 12)) (C := RX2) (T := TX2) (N := 13) hx hb hts hinX2 hown hK hP 22 rfl rfl 5 (by decide) hf26 (fun _ h9 => h9) rfl dX2_copyFrom_57 ?_
  have hF := zfree (hD.sub (ws' := [(a 12, .inl (cI, 10, .inl (σ 10))), (b 12, .inl (cI, 10, .inl ((zr (zr (zr (zr (zs (τ) 0 4 (σ 0 4)) 6 (σ 6)) 7 (σ 7)) 8 (σ 8)) 9 (σ 9)) 10)))]) [12, 32] (by decide) rfl) hS hA
  refine zk_V (va_runSN (host := RX3) (As := [.ref (a 12), .ref (b 12)]) (rest := []) ⟨hx, hb, hml, hown, hts⟩ (c_X3_copyRow l D cI (a 12) (b 12) 10 (σ 10) ((zr (zr (zr (zr (zs (τ) 0 4 (σ 0 4)) 6 (σ 6)) 7 (σ 7)) 8 (σ 8)) 9 (σ 9)) 10) (by decide) _) ⟨va_cnB 2 hts gX2_copyFrom_X3_copyRow_n59 rfl rfl rfl (hL.2.2.1 (RX2, 59, yX3_copyRow, RX3) (by decide +kernel)) (hts (.initialized RX3) (by decide +kernel)) zdX3_copyRow.2 ⟨Nat.le_of_ble_eq_true rfl, Nat.le_of_ble_eq_true rfl⟩, hts (.static yX3_copyRow) (by decide +kernel), trivial⟩ ⟨zbl _, zpr hK (hP.sub (ws' := [(a 12, .inl (cI, 10, .inl (σ 10))), (b 12, .inl (cI, 10, .inl ((zr (zr (zr (zr (zs (τ) 0 4 (σ 0 4)) 6 (σ 6)) 7 (σ 7)) 8 (σ 8)) 9 (σ 9)) 10)))]) [12, 32] rfl) (hD.sub (ws' := [(a 12, .inl (cI, 10, .inl (σ 10))), (b 12, .inl (cI, 10, .inl ((zr (zr (zr (zr (zs (τ) 0 4 (σ 0 4)) 6 (σ 6)) 7 (σ 7)) 8 (σ 8)) 9 (σ 9)) 10)))]) [12, 32] (by decide) rfl)⟩ rfl rfl hl.1 rfl (lv_room (Nat.le_of_ble_eq_true rfl)) dX2_copyFrom_60 ⟨Nat.zero_le _, Nat.zero_le _⟩) hS hF (fun H locs hkp hP1 hD1 hS => ?_)
  obtain ⟨hP, hD⟩ := fr_set (i := 12) (k := 32) rfl rfl hP hD hkp hP1
  have hP : va_P D vwCl (zw_2 cI a b σ (zr (zr (zr (zr (zr (zs (τ) 0 4 (σ 0 4)) 6 (σ 6)) 7 (σ 7)) 8 (σ 8)) 9 (σ 9)) 10 (σ 10))) H := hP
  have hD : va_D A (zw_2 cI a b σ (zr (zr (zr (zr (zr (zs (τ) 0 4 (σ 0 4)) 6 (σ 6)) 7 (σ 7)) 8 (σ 8)) 9 (σ 9)) 10 (σ 10))) := hD
  refine lv_aload_n hx hb dX2_copyFrom_63 rfl (lv_at hl 1 rfl) ?_
  refine va_get (D := D) (ci := 2) (v := .ref (a 13)) (C := RX2) (T := TX2) (N := 13) hx hb hts hinX2 hown hK hP 2 rfl rfl 6 (by decide) hf29 (fun _ h9 => h9) rfl dX2_copyFrom_64 ?_
  refine lv_aload_n hx hb dX2_copyFrom_67 rfl (lv_at hl 0 rfl) ?_
  refine va_get (D := D) (ci := 2) (v := .ref (b 13)) (C := RX2) (T := TX2) (N := 13) hx hb hts hinX2 hown hK hP 22 rfl rfl 6 (by decide) hf29 (fun _ h9 => h9) rfl dX2_copyFrom_68 ?_
  have hF := zfree (hD.sub (ws' := [(a 13, .inl (cI, 10, .inl (σ 11))), (b 13, .inl (cI, 10, .inl ((zr (zr (zr (zr (zr (zs (τ) 0 4 (σ 0 4)) 6 (σ 6)) 7 (σ 7)) 8 (σ 8)) 9 (σ 9)) 10 (σ 10)) 11)))]) [13, 33] (by decide) rfl) hS hA
  refine zk_V (va_runSN (host := RX3) (As := [.ref (a 13), .ref (b 13)]) (rest := []) ⟨hx, hb, hml, hown, hts⟩ (c_X3_copyRow l D cI (a 13) (b 13) 10 (σ 11) ((zr (zr (zr (zr (zr (zs (τ) 0 4 (σ 0 4)) 6 (σ 6)) 7 (σ 7)) 8 (σ 8)) 9 (σ 9)) 10 (σ 10)) 11) (by decide) _) ⟨va_cnB 2 hts gX2_copyFrom_X3_copyRow_n59 rfl rfl rfl (hL.2.2.1 (RX2, 59, yX3_copyRow, RX3) (by decide +kernel)) (hts (.initialized RX3) (by decide +kernel)) zdX3_copyRow.2 ⟨Nat.le_of_ble_eq_true rfl, Nat.le_of_ble_eq_true rfl⟩, hts (.static yX3_copyRow) (by decide +kernel), trivial⟩ ⟨zbl _, zpr hK (hP.sub (ws' := [(a 13, .inl (cI, 10, .inl (σ 11))), (b 13, .inl (cI, 10, .inl ((zr (zr (zr (zr (zr (zs (τ) 0 4 (σ 0 4)) 6 (σ 6)) 7 (σ 7)) 8 (σ 8)) 9 (σ 9)) 10 (σ 10)) 11)))]) [13, 33] rfl) (hD.sub (ws' := [(a 13, .inl (cI, 10, .inl (σ 11))), (b 13, .inl (cI, 10, .inl ((zr (zr (zr (zr (zr (zs (τ) 0 4 (σ 0 4)) 6 (σ 6)) 7 (σ 7)) 8 (σ 8)) 9 (σ 9)) 10 (σ 10)) 11)))]) [13, 33] (by decide) rfl)⟩ rfl rfl hl.1 rfl (lv_room (Nat.le_of_ble_eq_true rfl)) dX2_copyFrom_71 ⟨Nat.zero_le _, Nat.zero_le _⟩) hS hF (fun H locs hkp hP1 hD1 hS => ?_)
  obtain ⟨hP, hD⟩ := fr_set (i := 13) (k := 33) rfl rfl hP hD hkp hP1
  have hP : va_P D vwCl (zw_2 cI a b σ (zr (zr (zr (zr (zr (zr (zs (τ) 0 4 (σ 0 4)) 6 (σ 6)) 7 (σ 7)) 8 (σ 8)) 9 (σ 9)) 10 (σ 10)) 11 (σ 11))) H := hP
  have hD : va_D A (zw_2 cI a b σ (zr (zr (zr (zr (zr (zr (zs (τ) 0 4 (σ 0 4)) 6 (σ 6)) 7 (σ 7)) 8 (σ 8)) 9 (σ 9)) 10 (σ 10)) 11 (σ 11))) := hD
  refine lv_aload_n hx hb dX2_copyFrom_74 rfl (lv_at hl 1 rfl) ?_
  refine va_get (D := D) (ci := 2) (v := .ref (a 14)) (C := RX2) (T := TX2) (N := 13) hx hb hts hinX2 hown hK hP 2 rfl rfl 7 (by decide) hf32 (fun _ h9 => h9) rfl dX2_copyFrom_75 ?_
  refine lv_aload_n hx hb dX2_copyFrom_78 rfl (lv_at hl 0 rfl) ?_
  refine va_get (D := D) (ci := 2) (v := .ref (b 14)) (C := RX2) (T := TX2) (N := 13) hx hb hts hinX2 hown hK hP 22 rfl rfl 7 (by decide) hf32 (fun _ h9 => h9) rfl dX2_copyFrom_79 ?_
  have hF := zfree (hD.sub (ws' := [(a 14, .inl (cI, 10, .inl (σ 12))), (b 14, .inl (cI, 10, .inl ((zr (zr (zr (zr (zr (zr (zs (τ) 0 4 (σ 0 4)) 6 (σ 6)) 7 (σ 7)) 8 (σ 8)) 9 (σ 9)) 10 (σ 10)) 11 (σ 11)) 12)))]) [14, 34] (by decide) rfl) hS hA
  refine zk_V (va_runSN (host := RX3) (As := [.ref (a 14), .ref (b 14)]) (rest := []) ⟨hx, hb, hml, hown, hts⟩ (c_X3_copyRow l D cI (a 14) (b 14) 10 (σ 12) ((zr (zr (zr (zr (zr (zr (zs (τ) 0 4 (σ 0 4)) 6 (σ 6)) 7 (σ 7)) 8 (σ 8)) 9 (σ 9)) 10 (σ 10)) 11 (σ 11)) 12) (by decide) _) ⟨va_cnB 2 hts gX2_copyFrom_X3_copyRow_n59 rfl rfl rfl (hL.2.2.1 (RX2, 59, yX3_copyRow, RX3) (by decide +kernel)) (hts (.initialized RX3) (by decide +kernel)) zdX3_copyRow.2 ⟨Nat.le_of_ble_eq_true rfl, Nat.le_of_ble_eq_true rfl⟩, hts (.static yX3_copyRow) (by decide +kernel), trivial⟩ ⟨zbl _, zpr hK (hP.sub (ws' := [(a 14, .inl (cI, 10, .inl (σ 12))), (b 14, .inl (cI, 10, .inl ((zr (zr (zr (zr (zr (zr (zs (τ) 0 4 (σ 0 4)) 6 (σ 6)) 7 (σ 7)) 8 (σ 8)) 9 (σ 9)) 10 (σ 10)) 11 (σ 11)) 12)))]) [14, 34] rfl) (hD.sub (ws' := [(a 14, .inl (cI, 10, .inl (σ 12))), (b 14, .inl (cI, 10, .inl ((zr (zr (zr (zr (zr (zr (zs (τ) 0 4 (σ 0 4)) 6 (σ 6)) 7 (σ 7)) 8 (σ 8)) 9 (σ 9)) 10 (σ 10)) 11 (σ 11)) 12)))]) [14, 34] (by decide) rfl)⟩ rfl rfl hl.1 rfl (lv_room (Nat.le_of_ble_eq_true rfl)) dX2_copyFrom_82 ⟨Nat.zero_le _, Nat.zero_le _⟩) hS hF (fun H locs hkp hP1 hD1 hS => ?_)
  obtain ⟨hP, hD⟩ := fr_set (i := 14) (k := 34) rfl rfl hP hD hkp hP1
  have hP : va_P D vwCl (zw_2 cI a b σ (zr (zr (zr (zr (zr (zr (zr (zs (τ) 0 4 (σ 0 4)) 6 (σ 6)) 7 (σ 7)) 8 (σ 8)) 9 (σ 9)) 10 (σ 10)) 11 (σ 11)) 12 (σ 12))) H := hP
  have hD : va_D A (zw_2 cI a b σ (zr (zr (zr (zr (zr (zr (zr (zs (τ) 0 4 (σ 0 4)) 6 (σ 6)) 7 (σ 7)) 8 (σ 8)) 9 (σ 9)) 10 (σ 10)) 11 (σ 11)) 12 (σ 12))) := hD
  refine lv_aload_n hx hb dX2_copyFrom_85 rfl (lv_at hl 1 rfl) ?_
  refine va_get (D := D) (ci := 2) (v := .ref (a 15)) (C := RX2) (T := TX2) (N := 13) hx hb hts hinX2 hown hK hP 2 rfl rfl 8 (by decide) hf35 (fun _ h9 => h9) rfl dX2_copyFrom_86 ?_
  refine lv_aload_n hx hb dX2_copyFrom_89 rfl (lv_at hl 0 rfl) ?_
  refine va_get (D := D) (ci := 2) (v := .ref (b 15)) (C := RX2) (T := TX2) (N := 13) hx hb hts hinX2 hown hK hP 22 rfl rfl 8 (by decide) hf35 (fun _ h9 => h9) rfl dX2_copyFrom_90 ?_
  have hF := zfree (hD.sub (ws' := [(a 15, .inl (cI, 10, .inl (σ 13))), (b 15, .inl (cI, 10, .inl ((zr (zr (zr (zr (zr (zr (zr (zs (τ) 0 4 (σ 0 4)) 6 (σ 6)) 7 (σ 7)) 8 (σ 8)) 9 (σ 9)) 10 (σ 10)) 11 (σ 11)) 12 (σ 12)) 13)))]) [15, 35] (by decide) rfl) hS hA
  refine zk_V (va_runSN (host := RX3) (As := [.ref (a 15), .ref (b 15)]) (rest := []) ⟨hx, hb, hml, hown, hts⟩ (c_X3_copyRow l D cI (a 15) (b 15) 10 (σ 13) ((zr (zr (zr (zr (zr (zr (zr (zs (τ) 0 4 (σ 0 4)) 6 (σ 6)) 7 (σ 7)) 8 (σ 8)) 9 (σ 9)) 10 (σ 10)) 11 (σ 11)) 12 (σ 12)) 13) (by decide) _) ⟨va_cnB 2 hts gX2_copyFrom_X3_copyRow_n59 rfl rfl rfl (hL.2.2.1 (RX2, 59, yX3_copyRow, RX3) (by decide +kernel)) (hts (.initialized RX3) (by decide +kernel)) zdX3_copyRow.2 ⟨Nat.le_of_ble_eq_true rfl, Nat.le_of_ble_eq_true rfl⟩, hts (.static yX3_copyRow) (by decide +kernel), trivial⟩ ⟨zbl _, zpr hK (hP.sub (ws' := [(a 15, .inl (cI, 10, .inl (σ 13))), (b 15, .inl (cI, 10, .inl ((zr (zr (zr (zr (zr (zr (zr (zs (τ) 0 4 (σ 0 4)) 6 (σ 6)) 7 (σ 7)) 8 (σ 8)) 9 (σ 9)) 10 (σ 10)) 11 (σ 11)) 12 (σ 12)) 13)))]) [15, 35] rfl) (hD.sub (ws' := [(a 15, .inl (cI, 10, .inl (σ 13))), (b 15, .inl (cI, 10, .inl ((zr (zr (zr (zr (zr (zr (zr (zs (τ) 0 4 (σ 0 4)) 6 (σ 6)) 7 (σ 7)) 8 (σ 8)) 9 (σ 9)) 10 (σ 10)) 11 (σ 11)) 12 (σ 12)) 13)))]) [15, 35] (by decide) rfl)⟩ rfl rfl hl.1 rfl (lv_room (Nat.le_of_ble_eq_true rfl)) dX2_copyFrom_93 ⟨Nat.zero_le _, Nat.zero_le _⟩) hS hF (fun H locs hkp hP1 hD1 hS => ?_)
  obtain ⟨hP, hD⟩ := fr_set (i := 15) (k := 35) rfl rfl hP hD hkp hP1
  have hP : va_P D vwCl (zw_2 cI a b σ (zr (zr (zr (zr (zr (zr (zr (zr (zs (τ) 0 4 (σ 0 4)) 6 (σ 6)) 7 (σ 7)) 8 (σ 8)) 9 (σ 9)) 10 (σ 10)) 11 (σ 11)) 12 (σ 12)) 13 (σ 13))) H := hP
  have hD : va_D A (zw_2 cI a b σ (zr (zr (zr (zr (zr (zr (zr (zr (zs (τ) 0 4 (σ 0 4)) 6 (σ 6)) 7 (σ 7)) 8 (σ 8)) 9 (σ 9)) 10 (σ 10)) 11 (σ 11)) 12 (σ 12)) 13 (σ 13))) := hD
  refine lv_aload_n hx hb dX2_copyFrom_96 rfl (lv_at hl 1 rfl) ?_
  refine va_get (D := D) (ci := 2) (v := .ref (a 16)) (C := RX2) (T := TX2) (N := 13) hx hb hts hinX2 hown hK hP 2 rfl rfl 9 (by decide) hf38 (fun _ h9 => h9) rfl dX2_copyFrom_97 ?_
  refine lv_aload_n hx hb dX2_copyFrom_100 rfl (lv_at hl 0 rfl) ?_
  refine va_get (D := D) (ci := 2) (v := .ref (b 16)) (C := RX2) (T := TX2) (N := 13) hx hb hts hinX2 hown hK hP 22 rfl rfl 9 (by decide) hf38 (fun _ h9 => h9) rfl dX2_copyFrom_101 ?_
  have hF := zfree (hD.sub (ws' := [(a 16, .inl (cI, 10, .inl (σ 14))), (b 16, .inl (cI, 10, .inl ((zr (zr (zr (zr (zr (zr (zr (zr (zs (τ) 0 4 (σ 0 4)) 6 (σ 6)) 7 (σ 7)) 8 (σ 8)) 9 (σ 9)) 10 (σ 10)) 11 (σ 11)) 12 (σ 12)) 13 (σ 13)) 14)))]) [16, 36] (by decide) rfl) hS hA
  refine zk_V (va_runSN (host := RX3) (As := [.ref (a 16), .ref (b 16)]) (rest := []) ⟨hx, hb, hml, hown, hts⟩ (c_X3_copyRow l D cI (a 16) (b 16) 10 (σ 14) ((zr (zr (zr (zr (zr (zr (zr (zr (zs (τ) 0 4 (σ 0 4)) 6 (σ 6)) 7 (σ 7)) 8 (σ 8)) 9 (σ 9)) 10 (σ 10)) 11 (σ 11)) 12 (σ 12)) 13 (σ 13)) 14) (by decide) _) ⟨va_cnB 2 hts gX2_copyFrom_X3_copyRow_n59 rfl rfl rfl (hL.2.2.1 (RX2, 59, yX3_copyRow, RX3) (by decide +kernel)) (hts (.initialized RX3) (by decide +kernel)) zdX3_copyRow.2 ⟨Nat.le_of_ble_eq_true rfl, Nat.le_of_ble_eq_true rfl⟩, hts (.static yX3_copyRow) (by decide +kernel), trivial⟩ ⟨zbl _, zpr hK (hP.sub (ws' := [(a 16, .inl (cI, 10, .inl (σ 14))), (b 16, .inl (cI, 10, .inl ((zr (zr (zr (zr (zr (zr (zr (zr (zs (τ) 0 4 (σ 0 4)) 6 (σ 6)) 7 (σ 7)) 8 (σ 8)) 9 (σ 9)) 10 (σ 10)) 11 (σ 11)) 12 (σ 12)) 13 (σ 13)) 14)))]) [16, 36] rfl) (hD.sub (ws' := [(a 16, .inl (cI, 10, .inl (σ 14))), (b 16, .inl (cI, 10, .inl ((zr (zr (zr (zr (zr (zr (zr (zr (zs (τ) 0 4 (σ 0 4)) 6 (σ 6)) 7 (σ 7)) 8 (σ 8)) 9 (σ 9)) 10 (σ 10)) 11 (σ 11)) 12 (σ 12)) 13 (σ 13)) 14)))]) [16, 36] (by decide) rfl)⟩ rfl rfl hl.1 rfl (lv_room (Nat.le_of_ble_eq_true rfl)) dX2_copyFrom_104 ⟨Nat.zero_le _, Nat.zero_le _⟩) hS hF (fun H locs hkp hP1 hD1 hS => ?_)
  obtain ⟨hP, hD⟩ := fr_set (i := 16) (k := 36) rfl rfl hP hD hkp hP1
  have hP : va_P D vwCl (zw_2 cI a b σ (zr (zr (zr (zr (zr (zr (zr (zr (zr (zs (τ) 0 4 (σ 0 4)) 6 (σ 6)) 7 (σ 7)) 8 (σ 8)) 9 (σ 9)) 10 (σ 10)) 11 (σ 11)) 12 (σ 12)) 13 (σ 13)) 14 (σ 14))) H := hP
  have hD : va_D A (zw_2 cI a b σ (zr (zr (zr (zr (zr (zr (zr (zr (zr (zs (τ) 0 4 (σ 0 4)) 6 (σ 6)) 7 (σ 7)) 8 (σ 8)) 9 (σ 9)) 10 (σ 10)) 11 (σ 11)) 12 (σ 12)) 13 (σ 13)) 14 (σ 14))) := hD
  refine lv_aload_n hx hb dX2_copyFrom_107 rfl (lv_at hl 1 rfl) ?_
  refine va_get (D := D) (ci := 2) (v := .ref (a 17)) (C := RX2) (T := TX2) (N := 13) hx hb hts hinX2 hown hK hP 2 rfl rfl 10 (by decide) hf41 (fun _ h9 => h9) rfl dX2_copyFrom_108 ?_
  refine lv_aload_n hx hb dX2_copyFrom_111 rfl (lv_at hl 0 rfl) ?_
  refine va_get (D := D) (ci := 2) (v := .ref (b 17)) (C := RX2) (T := TX2) (N := 13) hx hb hts hinX2 hown hK hP 22 rfl rfl 10 (by decide) hf41 (fun _ h9 => h9) rfl dX2_copyFrom_112 ?_
  have hF := zfree (hD.sub (ws' := [(a 17, .inl (cI, 10, .inl (σ 15))), (b 17, .inl (cI, 10, .inl ((zr (zr (zr (zr (zr (zr (zr (zr (zr (zs (τ) 0 4 (σ 0 4)) 6 (σ 6)) 7 (σ 7)) 8 (σ 8)) 9 (σ 9)) 10 (σ 10)) 11 (σ 11)) 12 (σ 12)) 13 (σ 13)) 14 (σ 14)) 15)))]) [17, 37] (by decide) rfl) hS hA
  refine zk_V (va_runSN (host := RX3) (As := [.ref (a 17), .ref (b 17)]) (rest := []) ⟨hx, hb, hml, hown, hts⟩ (c_X3_copyRow l D cI (a 17) (b 17) 10 (σ 15) ((zr (zr (zr (zr (zr (zr (zr (zr (zr (zs (τ) 0 4 (σ 0 4)) 6 (σ 6)) 7 (σ 7)) 8 (σ 8)) 9 (σ 9)) 10 (σ 10)) 11 (σ 11)) 12 (σ 12)) 13 (σ 13)) 14 (σ 14)) 15) (by decide) _) ⟨va_cnB 2 hts gX2_copyFrom_X3_copyRow_n59 rfl rfl rfl (hL.2.2.1 (RX2, 59, yX3_copyRow, RX3) (by decide +kernel)) (hts (.initialized RX3) (by decide +kernel)) zdX3_copyRow.2 ⟨Nat.le_of_ble_eq_true rfl, Nat.le_of_ble_eq_true rfl⟩, hts (.static yX3_copyRow) (by decide +kernel), trivial⟩ ⟨zbl _, zpr hK (hP.sub (ws' := [(a 17, .inl (cI, 10, .inl (σ 15))), (b 17, .inl (cI, 10, .inl ((zr (zr (zr (zr (zr (zr (zr (zr (zr (zs (τ) 0 4 (σ 0 4)) 6 (σ 6)) 7 (σ 7)) 8 (σ 8)) 9 (σ 9)) 10 (σ 10)) 11 (σ 11)) 12 (σ 12)) 13 (σ 13)) 14 (σ 14)) 15)))]) [17, 37] rfl) (hD.sub (ws' := [(a 17, .inl (cI, 10, .inl (σ 15))), (b 17, .inl (cI, 10, .inl ((zr (zr (zr (zr (zr (zr (zr (zr (zr (zs (τ) 0 4 (σ 0 4)) 6 (σ 6)) 7 (σ 7)) 8 (σ 8)) 9 (σ 9)) 10 (σ 10)) 11 (σ 11)) 12 (σ 12)) 13 (σ 13)) 14 (σ 14)) 15)))]) [17, 37] (by decide) rfl)⟩ rfl rfl hl.1 rfl (lv_room (Nat.le_of_ble_eq_true rfl)) dX2_copyFrom_115 ⟨Nat.zero_le _, Nat.zero_le _⟩) hS hF (fun H locs hkp hP1 hD1 hS => ?_)
  obtain ⟨hP, hD⟩ := fr_set (i := 17) (k := 37) rfl rfl hP hD hkp hP1
  have hP : va_P D vwCl (zw_2 cI a b σ (zr (zr (zr (zr (zr (zr (zr (zr (zr (zr (zs (τ) 0 4 (σ 0 4)) 6 (σ 6)) 7 (σ 7)) 8 (σ 8)) 9 (σ 9)) 10 (σ 10)) 11 (σ 11)) 12 (σ 12)) 13 (σ 13)) 14 (σ 14)) 15 (σ 15))) H := hP
  have hD : va_D A (zw_2 cI a b σ (zr (zr (zr (zr (zr (zr (zr (zr (zr (zr (zs (τ) 0 4 (σ 0 4)) 6 (σ 6)) 7 (σ 7)) 8 (σ 8)) 9 (σ 9)) 10 (σ 10)) 11 (σ 11)) 12 (σ 12)) 13 (σ 13)) 14 (σ 14)) 15 (σ 15))) := hD
  refine lv_aload_n hx hb dX2_copyFrom_118 rfl (lv_at hl 1 rfl) ?_
  refine va_get (D := D) (ci := 2) (v := .ref (a 18)) (C := RX2) (T := TX2) (N := 13) hx hb hts hinX2 hown hK hP 2 rfl rfl 11 (by decide) hf44 (fun _ h9 => h9) rfl dX2_copyFrom_119 ?_
  refine lv_aload_n hx hb dX2_copyFrom_122 rfl (lv_at hl 0 rfl) ?_
  refine va_get (D := D) (ci := 2) (v := .ref (b 18)) (C := RX2) (T := TX2) (N := 13) hx hb hts hinX2 hown hK hP 22 rfl rfl 11 (by decide) hf44 (fun _ h9 => h9) rfl dX2_copyFrom_123 ?_
  have hF := zfree (hD.sub (ws' := [(a 18, .inl (cI, 10, .inl (σ 16))), (b 18, .inl (cI, 10, .inl ((zr (zr (zr (zr (zr (zr (zr (zr (zr (zr (zs (τ) 0 4 (σ 0 4)) 6 (σ 6)) 7 (σ 7)) 8 (σ 8)) 9 (σ 9)) 10 (σ 10)) 11 (σ 11)) 12 (σ 12)) 13 (σ 13)) 14 (σ 14)) 15 (σ 15)) 16)))]) [18, 38] (by decide) rfl) hS hA
  refine zk_V (va_runSN (host := RX3) (As := [.ref (a 18), .ref (b 18)]) (rest := []) ⟨hx, hb, hml, hown, hts⟩ (c_X3_copyRow l D cI (a 18) (b 18) 10 (σ 16) ((zr (zr (zr (zr (zr (zr (zr (zr (zr (zr (zs (τ) 0 4 (σ 0 4)) 6 (σ 6)) 7 (σ 7)) 8 (σ 8)) 9 (σ 9)) 10 (σ 10)) 11 (σ 11)) 12 (σ 12)) 13 (σ 13)) 14 (σ 14)) 15 (σ 15)) 16) (by decide) _) ⟨va_cnB 2 hts gX2_copyFrom_X3_copyRow_n59 rfl rfl rfl (hL.2.2.1 (RX2, 59, yX3_copyRow, RX3) (by decide +kernel)) (hts (.initialized RX3) (by decide +kernel)) zdX3_copyRow.2 ⟨Nat.le_of_ble_eq_true rfl, Nat.le_of_ble_eq_true rfl⟩, hts (.static yX3_copyRow) (by decide +kernel), trivial⟩ ⟨zbl _, zpr hK (hP.sub (ws' := [(a 18, .inl (cI, 10, .inl (σ 16))), (b 18, .inl (cI, 10, .inl ((zr (zr (zr (zr (zr (zr (zr (zr (zr (zr (zs (τ) 0 4 (σ 0 4)) 6 (σ 6)) 7 (σ 7)) 8 (σ 8)) 9 (σ 9)) 10 (σ 10)) 11 (σ 11)) 12 (σ 12)) 13 (σ 13)) 14 (σ 14)) 15 (σ 15)) 16)))]) [18, 38] rfl) (hD.sub (ws' := [(a 18, .inl (cI, 10, .inl (σ 16))), (b 18, .inl (cI, 10, .inl ((zr (zr (zr (zr (zr (zr (zr (zr (zr (zr (zs (τ) 0 4 (σ 0 4)) 6 (σ 6)) 7 (σ 7)) 8 (σ 8)) 9 (σ 9)) 10 (σ 10)) 11 (σ 11)) 12 (σ 12)) 13 (σ 13)) 14 (σ 14)) 15 (σ 15)) 16)))]) [18, 38] (by decide) rfl)⟩ rfl rfl hl.1 rfl (lv_room (Nat.le_of_ble_eq_true rfl)) dX2_copyFrom_126 ⟨Nat.zero_le _, Nat.zero_le _⟩) hS hF (fun H locs hkp hP1 hD1 hS => ?_)
  obtain ⟨hP, hD⟩ := fr_set (i := 18) (k := 38) rfl rfl hP hD hkp hP1
  have hP : va_P D vwCl (zw_2 cI a b σ (zr (zr (zr (zr (zr (zr (zr (zr (zr (zr (zr (zs (τ) 0 4 (σ 0 4)) 6 (σ 6)) 7 (σ 7)) 8 (σ 8)) 9 (σ 9)) 10 (σ 10)) 11 (σ 11)) 12 (σ 12)) 13 (σ 13)) 14 (σ 14)) 15 (σ 15)) 16 (σ 16))) H := hP
  have hD : va_D A (zw_2 cI a b σ (zr (zr (zr (zr (zr (zr (zr (zr (zr (zr (zr (zs (τ) 0 4 (σ 0 4)) 6 (σ 6)) 7 (σ 7)) 8 (σ 8)) 9 (σ 9)) 10 (σ 10)) 11 (σ 11)) 12 (σ 12)) 13 (σ 13)) 14 (σ 14)) 15 (σ 15)) 16 (σ 16))) := hD
  refine lv_aload_n hx hb dX2_copyFrom_129 rfl (lv_at hl 1 rfl) ?_
  refine va_get (D := D) (ci := 2) (v := .ref (a 19)) (C := RX2) (T := TX2) (N := 13) hx hb hts hinX2 hown hK hP 2 rfl rfl 12 (by decide) hf47 (fun _ h9 => h9) rfl dX2_copyFrom_130 ?_
  refine lv_aload_n hx hb dX2_copyFrom_133 rfl (lv_at hl 0 rfl) ?_
  refine va_get (D := D) (ci := 2) (v := .ref (b 19)) (C := RX2) (T := TX2) (N := 13) hx hb hts hinX2 hown hK hP 22 rfl rfl 12 (by decide) hf47 (fun _ h9 => h9) rfl dX2_copyFrom_134 ?_
  have hF := zfree (hD.sub (ws' := [(a 19, .inl (cI, 10, .inl (σ 17))), (b 19, .inl (cI, 10, .inl ((zr (zr (zr (zr (zr (zr (zr (zr (zr (zr (zr (zs (τ) 0 4 (σ 0 4)) 6 (σ 6)) 7 (σ 7)) 8 (σ 8)) 9 (σ 9)) 10 (σ 10)) 11 (σ 11)) 12 (σ 12)) 13 (σ 13)) 14 (σ 14)) 15 (σ 15)) 16 (σ 16)) 17)))]) [19, 39] (by decide) rfl) hS hA
  refine zk_V (va_runSN (host := RX3) (As := [.ref (a 19), .ref (b 19)]) (rest := []) ⟨hx, hb, hml, hown, hts⟩ (c_X3_copyRow l D cI (a 19) (b 19) 10 (σ 17) ((zr (zr (zr (zr (zr (zr (zr (zr (zr (zr (zr (zs (τ) 0 4 (σ 0 4)) 6 (σ 6)) 7 (σ 7)) 8 (σ 8)) 9 (σ 9)) 10 (σ 10)) 11 (σ 11)) 12 (σ 12)) 13 (σ 13)) 14 (σ 14)) 15 (σ 15)) 16 (σ 16)) 17) (by decide) _) ⟨va_cnB 2 hts gX2_copyFrom_X3_copyRow_n59 rfl rfl rfl (hL.2.2.1 (RX2, 59, yX3_copyRow, RX3) (by decide +kernel)) (hts (.initialized RX3) (by decide +kernel)) zdX3_copyRow.2 ⟨Nat.le_of_ble_eq_true rfl, Nat.le_of_ble_eq_true rfl⟩, hts (.static yX3_copyRow) (by decide +kernel), trivial⟩ ⟨zbl _, zpr hK (hP.sub (ws' := [(a 19, .inl (cI, 10, .inl (σ 17))), (b 19, .inl (cI, 10, .inl ((zr (zr (zr (zr (zr (zr (zr (zr (zr (zr (zr (zs (τ) 0 4 (σ 0 4)) 6 (σ 6)) 7 (σ 7)) 8 (σ 8)) 9 (σ 9)) 10 (σ 10)) 11 (σ 11)) 12 (σ 12)) 13 (σ 13)) 14 (σ 14)) 15 (σ 15)) 16 (σ 16)) 17)))]) [19, 39] rfl) (hD.sub (ws' := [(a 19, .inl (cI, 10, .inl (σ 17))), (b 19, .inl (cI, 10, .inl ((zr (zr (zr (zr (zr (zr (zr (zr (zr (zr (zr (zs (τ) 0 4 (σ 0 4)) 6 (σ 6)) 7 (σ 7)) 8 (σ 8)) 9 (σ 9)) 10 (σ 10)) 11 (σ 11)) 12 (σ 12)) 13 (σ 13)) 14 (σ 14)) 15 (σ 15)) 16 (σ 16)) 17)))]) [19, 39] (by decide) rfl)⟩ rfl rfl hl.1 rfl (lv_room (Nat.le_of_ble_eq_true rfl)) dX2_copyFrom_137 ⟨Nat.zero_le _, Nat.zero_le _⟩) hS hF (fun H locs hkp hP1 hD1 hS => ?_)
  obtain ⟨hP, hD⟩ := fr_set (i := 19) (k := 39) rfl rfl hP hD hkp hP1
  have hP : va_P D vwCl (zw_2 cI a b σ (zr (zr (zr (zr (zr (zr (zr (zr (zr (zr (zr (zr (zs (τ) 0 4 (σ 0 4)) 6 (σ 6)) 7 (σ 7)) 8 (σ 8)) 9 (σ 9)) 10 (σ 10)) 11 (σ 11)) 12 (σ 12)) 13 (σ 13)) 14 (σ 14)) 15 (σ 15)) 16 (σ 16)) 17 (σ 17))) H := hP
  have hD : va_D A (zw_2 cI a b σ (zr (zr (zr (zr (zr (zr (zr (zr (zr (zr (zr (zr (zs (τ) 0 4 (σ 0 4)) 6 (σ 6)) 7 (σ 7)) 8 (σ 8)) 9 (σ 9)) 10 (σ 10)) 11 (σ 11)) 12 (σ 12)) 13 (σ 13)) 14 (σ 14)) 15 (σ 15)) 16 (σ 16)) 17 (σ 17))) := hD
  have hP9 : va_P D vwCl (zw_2 cI a b σ (f_cpS σ τ)) H := hP
  have hD9 : va_D A (zw_2 cI a b σ (f_cpS σ τ)) := hD
  exact W.vret hx hb hr (fun t ht hW => ⟨⟨(), rfl, trivial, by rw [ht]; exact hP9, va_K.moved hW.alike hK, hD9⟩, hS.F ht⟩) hS.2.2 dX2_copyFrom_140

set_option maxHeartbeats 4000000 in
set_option maxRecDepth 100000 in
theorem c_X1_copyFrom (l : Launch) (D : va_G) (cI : ClassId) (a b : Nat → Nat) (σ τ : zS)  : zNV l yX1_copyFrom wsX1_copyFrom ({ frames := 2, cells := 0, slots := 0, locals := 43 }) [.ref (b 0), .ref (a 0)] D [(cI, .int)] (zw_2 cI a b σ (τ)) (zw_2 cI a b σ σ) := by
  intro sz
  refine Met.ofW (cc := cX1_copyFrom) (maxL := 2) (ret := none) (by decide) rfl ?_
  intro p e s m args below meth c s₁ B hml hv
  obtain ⟨rfl, ⟨hsz, hP, hK, hD⟩, hL⟩ := hv
  have hx := B.exec
  have hb := B.bytes
  have hr := B.returns
  have hts := atoms_spec (ws := wsX1_copyFrom) B.pre
  have hown : s.vm.findClass RX1 = some m.cls := findClass_of_methodNamed B.named
  have hlocks := B.notSynchronized
  subst hsz
  have hD := hD.self (sz := s.heap.size)
  generalize hAe : va_A (zw_2 cI a b σ (τ)) s.heap.size = A at hD ⊢
  have hA : ∀ q : Nat, s.heap.size ≤ q → A q := fun q h => by rw [← hAe]; exact Or.inr h
  have hS : va_S A s.heap s.heap [] := va_S.rf
  have hP : va_P D vwCl (zw_2 cI a b σ (τ)) s.heap := hP
  have hl := lv_entry ([.ref (b 0), .ref (a 0)]) (n := 2) (Nat.le_of_ble_eq_true rfl)
  rw [lg_entry_eq]
  generalize (lg_sl ([.ref (b 0), .ref (a 0)]) ++ List.replicate (2 - (lg_sl ([.ref (b 0), .ref (a 0)])).length) Slot.unset).toArray = ls at hl ⊢
  have hl : lv_has ls 2 [(0, .ref (b 0)), (1, .ref (a 0))] := hl
  have hf13 := hts (.fieldLink RX1 13 "HotBeds$House" "bell" "I") (by decide +kernel)
  have hf16 := hts (.fieldLink RX1 16 "HotBeds$House" "pawn" "I") (by decide +kernel)
  have hf22 := hts (.fieldLink RX1 22 "HotBeds$House" "beds" "LHotBeds$Beds;") (by decide +kernel)
  have hf29 := hts (.fieldLink RX1 29 "HotBeds$House" "sailors" "LHotBeds$Sailors;") (by decide +kernel)
  have hf7 := hts (.fieldLink RX1 7 "HotBeds$House" "hour" "I") (by decide +kernel)
  have hinX1 : ∀ w ∈ u_ws RX1 TX1 5, w ∈ wsX1_copyFrom := by decide +kernel
  refine lv_aload_n hx hb dX1_copyFrom_0 rfl (lv_at hl 0 rfl) ?_
  refine lv_aload_n hx hb dX1_copyFrom_1 rfl (lv_at hl 1 rfl) ?_
  refine va_get (D := D) (ci := 1) (v := .int (σ 0 0)) (C := RX1) (T := TX1) (N := 5) hx hb hts hinX1 hown hK hP 0 rfl rfl 0 (by decide) hf7 (fun _ h9 => h9) rfl dX1_copyFrom_2 ?_
  refine va_put (D := D) (ci := 1) (v := .int (σ 0 0)) (ty := .int) (C := RX1) (T := TX1) (N := 5) hx hb hts hinX1 tyX1 tyX1_ok nmX1 hown hK hP hD hS 20 rfl rfl 0 (by decide) hf7 (fun _ h9 => h9)  rfl (by decide +kernel) rfl rfl (Nat.le_of_ble_eq_true rfl) dX1_copyFrom_5 (fun H locs hP hD hS => ?_)
  have hP : va_P D vwCl (zw_2 cI a b σ (zs (τ) 0 0 (σ 0 0))) H := hP
  have hD : va_D A (zw_2 cI a b σ (zs (τ) 0 0 (σ 0 0))) := hD
  refine lv_aload_n hx hb dX1_copyFrom_8 rfl (lv_at hl 0 rfl) ?_
  refine lv_aload_n hx hb dX1_copyFrom_9 rfl (lv_at hl 1 rfl) ?_
  refine va_get (D := D) (ci := 1) (v := .int (σ 0 1)) (C := RX1) (T := TX1) (N := 5) hx hb hts hinX1 hown hK hP 0 rfl rfl 1 (by decide) hf13 (fun _ h9 => h9) rfl dX1_copyFrom_10 ?_
  refine va_put (D := D) (ci := 1) (v := .int (σ 0 1)) (ty := .int) (C := RX1) (T := TX1) (N := 5) hx hb hts hinX1 tyX1 tyX1_ok nmX1 hown hK hP hD hS 20 rfl rfl 1 (by decide) hf13 (fun _ h9 => h9)  rfl (by decide +kernel) rfl rfl (Nat.le_of_ble_eq_true rfl) dX1_copyFrom_13 (fun H locs hP hD hS => ?_)
  have hP : va_P D vwCl (zw_2 cI a b σ (zs (zs (τ) 0 0 (σ 0 0)) 0 1 (σ 0 1))) H := hP
  have hD : va_D A (zw_2 cI a b σ (zs (zs (τ) 0 0 (σ 0 0)) 0 1 (σ 0 1))) := hD
  refine lv_aload_n hx hb dX1_copyFrom_16 rfl (lv_at hl 0 rfl) ?_
  refine lv_aload_n hx hb dX1_copyFrom_17 rfl (lv_at hl 1 rfl) ?_
  refine va_get (D := D) (ci := 1) (v := .int (σ 0 2)) (C := RX1) (T := TX1) (N := 5) hx hb hts hinX1 hown hK hP 0 rfl rfl 2 (by decide) hf16 (fun _ h9 => h9) rfl dX1_copyFrom_18 ?_
  refine va_put (D := D) (ci := 1) (v := .int (σ 0 2)) (ty := .int) (C := RX1) (T := TX1) (N := 5) hx hb hts hinX1 tyX1 tyX1_ok nmX1 hown hK hP hD hS 20 rfl rfl 2 (by decide) hf16 (fun _ h9 => h9)  rfl (by decide +kernel) rfl rfl (Nat.le_of_ble_eq_true rfl) dX1_copyFrom_21 (fun H locs hP hD hS => ?_)
  have hP : va_P D vwCl (zw_2 cI a b σ (zs (zs (zs (τ) 0 0 (σ 0 0)) 0 1 (σ 0 1)) 0 2 (σ 0 2))) H := hP
  have hD : va_D A (zw_2 cI a b σ (zs (zs (zs (τ) 0 0 (σ 0 0)) 0 1 (σ 0 1)) 0 2 (σ 0 2))) := hD
  refine lv_aload_n hx hb dX1_copyFrom_24 rfl (lv_at hl 0 rfl) ?_
  refine va_get (D := D) (ci := 1) (v := .ref (b 1)) (C := RX1) (T := TX1) (N := 5) hx hb hts hinX1 hown hK hP 20 rfl rfl 3 (by decide) hf22 (fun _ h9 => h9) rfl dX1_copyFrom_25 ?_
  refine lv_aload_n hx hb dX1_copyFrom_28 rfl (lv_at hl 1 rfl) ?_
  refine va_get (D := D) (ci := 1) (v := .ref (a 1)) (C := RX1) (T := TX1) (N := 5) hx hb hts hinX1 hown hK hP 0 rfl rfl 3 (by decide) hf22 (fun _ h9 => h9) rfl dX1_copyFrom_29 ?_
  have hF := zfree hD hS hA
  refine zk_V (va_runV (As := [.ref (a 1)]) (rest := []) ⟨hx, hb, hml, hown, hts⟩ (c_X0_copyFrom l D cI a b σ (zs (zs (zs (τ) 0 0 (σ 0 0)) 0 1 (σ 0 1)) 0 2 (σ 0 2)) _) (cwV 1 hts gX1_copyFrom_X0_copyFrom rfl rfl rfl zdX0_copyFrom ⟨Nat.le_of_ble_eq_true rfl, Nat.le_of_ble_eq_true rfl⟩) ⟨zblL _, va_recv hK hP (ci := 0) (q0 := 21) rfl rfl, zprL hK hP hD hL⟩ rfl rfl hl.1 rfl (lv_room (Nat.le_of_ble_eq_true rfl)) dX1_copyFrom_32 ⟨Nat.zero_le _, Nat.zero_le _⟩) hS hF (fun H locs hkp hP1 hD1 hS => ?_)
  have hP := hP1
  have hD := hD1.weaken (fun _ _ _ z => hF _ z)
  have hP : va_P D vwCl (zw_2 cI a b σ (f_cpB σ (zs (zs (zs (τ) 0 0 (σ 0 0)) 0 1 (σ 0 1)) 0 2 (σ 0 2)))) H := hP
  have hD : va_D A (zw_2 cI a b σ (f_cpB σ (zs (zs (zs (τ) 0 0 (σ 0 0)) 0 1 (σ 0 1)) 0 2 (σ 0 2)))) := hD
  refine lv_aload_n hx hb dX1_copyFrom_35 rfl (lv_at hl 0 rfl) ?_
  refine va_get (D := D) (ci := 1) (v := .ref (b 2)) (C := RX1) (T := TX1) (N := 5) hx hb hts hinX1 hown hK hP 20 rfl rfl 4 (by decide) hf29 (fun _ h9 => h9) rfl dX1_copyFrom_36 ?_
  refine lv_aload_n hx hb dX1_copyFrom_39 rfl (lv_at hl 1 rfl) ?_
  refine va_get (D := D) (ci := 1) (v := .ref (a 2)) (C := RX1) (T := TX1) (N := 5) hx hb hts hinX1 hown hK hP 0 rfl rfl 4 (by decide) hf29 (fun _ h9 => h9) rfl dX1_copyFrom_40 ?_
  have hF := zfree hD hS hA
  refine zk_V (va_runV (As := [.ref (a 2)]) (rest := []) ⟨hx, hb, hml, hown, hts⟩ (c_X2_copyFrom l D cI a b σ (f_cpB σ (zs (zs (zs (τ) 0 0 (σ 0 0)) 0 1 (σ 0 1)) 0 2 (σ 0 2))) _) (cwV 1 hts gX1_copyFrom_X2_copyFrom rfl rfl rfl zdX2_copyFrom ⟨Nat.le_of_ble_eq_true rfl, Nat.le_of_ble_eq_true rfl⟩) ⟨zblL _, va_recv hK hP (ci := 2) (q0 := 22) rfl rfl, zprL hK hP hD hL⟩ rfl rfl hl.1 rfl (lv_room (Nat.le_of_ble_eq_true rfl)) dX1_copyFrom_43 ⟨Nat.zero_le _, Nat.zero_le _⟩) hS hF (fun H locs hkp hP1 hD1 hS => ?_)
  have hP := hP1
  have hD := hD1.weaken (fun _ _ _ z => hF _ z)
  have hP : va_P D vwCl (zw_2 cI a b σ (f_cpS σ (f_cpB σ (zs (zs (zs (τ) 0 0 (σ 0 0)) 0 1 (σ 0 1)) 0 2 (σ 0 2))))) H := hP
  have hD : va_D A (zw_2 cI a b σ (f_cpS σ (f_cpB σ (zs (zs (zs (τ) 0 0 (σ 0 0)) 0 1 (σ 0 1)) 0 2 (σ 0 2))))) := hD
  have hP9 : va_P D vwCl (zw_2 cI a b σ σ) H := hP
  have hD9 : va_D A (zw_2 cI a b σ σ) := hD
  exact W.vret hx hb hr (fun t ht hW => ⟨⟨(), rfl, trivial, by rw [ht]; exact hP9, va_K.moved hW.alike hK, hD9⟩, hS.F ht⟩) hS.2.2 dX1_copyFrom_46
