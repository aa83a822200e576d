set_option maxHeartbeats 4000000 in
set_option maxRecDepth 100000 in
theorem c_X1_watchNow (l : Launch) (D : va_G) (cI : ClassId) (a : Nat → Nat) (σ : zS) {nb ns h : Nat} (hC : zC σ nb ns h) : zMR l yX1_watchNow wsX1_watchNow ({ frames := 0, cells := 0, slots := 0, locals := 0 }) [.ref (a 0)] D [(cI, .int)] (zw_H cI a σ) (fun r => r = nI (h % 24 / 8)) := by
  intro sz
  refine Met.ofW (cc := cX1_watchNow) (maxL := 1) (ret := (some .int)) (by decide) rfl ?_
  intro p e s m args below meth c s₁ B hml hv
  obtain ⟨rfl, hsz, hP, hK, hD⟩ := hv
  have hx := B.exec
  have hb := B.bytes
  have hr := B.returns
  have hts := atoms_spec (ws := wsX1_watchNow) B.pre
  have hown : s.vm.findClass RX1 = some m.cls := findClass_of_methodNamed B.named
  have hlocks := B.notSynchronized
  have hS : va_S (fun _ => False) s.heap s.heap [] := va_S.rf
  have hP : va_P D vwCl (zw_H cI a σ) s.heap := hP
  have hl := lv_entry ([.ref (a 0)]) (n := 1) (Nat.le_of_ble_eq_true rfl)
  rw [lg_entry_eq]
  generalize (lg_sl ([.ref (a 0)]) ++ List.replicate (1 - (lg_sl ([.ref (a 0)])).length) Slot.unset).toArray = ls at hl ⊢
  have hl : lv_has ls 1 [(0, .ref (a 0))] := hl
  have hf7 := hts (.fieldLink RX1 7 "HotBeds$House" "hour" "I") (by decide +kernel)
  have hinX1 : ∀ w ∈ u_ws RX1 TX1 5, w ∈ wsX1_watchNow := by decide +kernel
  have hnb := hC.2.1
  have hns := hC.2.2.2.1
  have hh := hC.2.2.2.2.2.1
  refine lv_aload_n hx hb dX1_watchNow_0 rfl (lv_at hl 0 rfl) ?_
  refine va_get (D := D) (ci := 1) (v := .int (nI h)) (C := RX1) (T := TX1) (N := 5) hx hb hts hinX1 hown hK hP 0 rfl rfl 0 (by decide) hf7 (fun _ h9 => h9) (congrArg (fun z => some (Value.int z)) hC.2.2.2.2.1) dX1_watchNow_1 ?_
  refine lv_bipush (v := 24) hx hb dX1_watchNow_4 (by decide) ?_
  refine zk_rem (x := h) (y := 24) hx hb dX1_watchNow_6 (by omega) (by decide) (by decide) ?_
  refine lv_bipush (v := 8) hx hb dX1_watchNow_7 (by decide) ?_
  refine zk_div (x := (h % 24)) (y := 8) hx hb dX1_watchNow_9 (by omega) (by decide) (by decide) ?_
  exact W.iret (v := nI ((h % 24) / 8)) hx hb hr (fun t ht hW => ⟨⟨nI ((h % 24) / 8), (), rfl, rfl, trivial⟩, hS.F ht⟩) hS.2.2 dX1_watchNow_10

set_option maxHeartbeats 4000000 in
set_option maxRecDepth 100000 in
theorem c_X1_isInWatch (l : Launch) (D : va_G) (cI : ClassId) (a : Nat → Nat) (σ : zS) {k : Nat} (hk : k < 10) {nb ns h : Nat} (hC : zC σ nb ns h) : zMR l yX1_isInWatch wsX1_isInWatch ({ frames := 1, cells := 0, slots := 0, locals := 20 }) [.ref (a 0), .int (nI k)] D [(cI, .int)] (zw_H cI a σ) (zb (σ 6 k = nI (h % 24 / 8))) := by
  intro sz
  refine Met.ofW (cc := cX1_isInWatch) (maxL := 2) (ret := (some .boolean)) (by decide) rfl ?_
  intro p e s m args below meth c s₁ B hml hv
  obtain ⟨rfl, hsz, hP, hK, hD⟩ := hv
  have hx := B.exec
  have hb := B.bytes
  have hr := B.returns
  have hts := atoms_spec (ws := wsX1_isInWatch) B.pre
  have hown : s.vm.findClass RX1 = some m.cls := findClass_of_methodNamed B.named
  have hlocks := B.notSynchronized
  have hS : va_S (fun _ => False) s.heap s.heap [] := va_S.rf
  have hP : va_P D vwCl (zw_H cI a σ) s.heap := hP
  have hl := lv_entry ([.ref (a 0), .int (nI k)]) (n := 2) (Nat.le_of_ble_eq_true rfl)
  rw [lg_entry_eq]
  generalize (lg_sl ([.ref (a 0), .int (nI k)]) ++ List.replicate (2 - (lg_sl ([.ref (a 0), .int (nI k)])).length) Slot.unset).toArray = ls at hl ⊢
  have hl : lv_has ls 2 [(0, .ref (a 0)), (1, .int (nI k))] := hl
  have hf105 := hts (.fieldLink RX1 105 "HotBeds$Sailors" "watch" "[I") (by decide +kernel)
  have hf29 := hts (.fieldLink RX1 29 "HotBeds$House" "sailors" "LHotBeds$Sailors;") (by decide +kernel)
  have hinX1 : ∀ w ∈ u_ws RX1 TX1 5, w ∈ wsX1_isInWatch := by decide +kernel
  have hinX2 : ∀ w ∈ u_ws RX2 TX2 13, w ∈ wsX1_isInWatch := by decide +kernel
  have hnb := hC.2.1
  have hns := hC.2.2.2.1
  have hh := hC.2.2.2.2.2.1
  refine lv_aload_n hx hb dX1_isInWatch_0 rfl (lv_at hl 0 rfl) ?_
  refine va_get (D := D) (ci := 1) (v := .ref (a 2)) (C := RX1) (T := TX1) (N := 5) hx hb hts hinX1 hown hK hP 0 rfl rfl 4 (by decide) hf29 (fun _ h9 => h9) rfl dX1_isInWatch_1 ?_
  refine va_get (D := D) (ci := 2) (v := .ref (a 8)) (C := RX2) (T := TX2) (N := 13) hx hb hts hinX2 hown hK hP 2 rfl rfl 1 (by decide) hf105 (fun _ h9 => h9) rfl dX1_isInWatch_4 ?_
  refine lv_iload_n hx hb dX1_isInWatch_7 rfl (lv_at hl 1 rfl) ?_
  refine zk_ld hx hb hK hP 8 0 (zwq6 cI a _) rfl (k := k) hk (by decide) (v := σ 6 k) rfl dX1_isInWatch_8 ?_
  refine lv_aload_n hx hb dX1_isInWatch_9 rfl (lv_at hl 0 rfl) ?_
  refine zk_R (D := D) (va_runV (As := []) (rest := [.int (σ 6 k)]) ⟨hx, hb, hml, hown, hts⟩ (c_X1_watchNow l D cI a σ hC _) (cwV 0 hts gX1_isInWatch_X1_watchNow rfl rfl rfl zdX1_watchNow ⟨Nat.le_of_ble_eq_true rfl, Nat.le_of_ble_eq_true rfl⟩) ⟨zbl _, va_recv hK hP (ci := 1) (q0 := 0) rfl rfl, zpr hK hP hD⟩ rfl rfl hl.1 rfl (lv_room (Nat.le_of_ble_eq_true rfl)) dX1_isInWatch_10 ⟨Nat.zero_le _, Nat.zero_le _⟩) hS (fun r_1 H locs hw hkp hS => ?_)
  have hP := hkp _ hP
  subst hw
  refine lv_icmp_ne (tgt := 20) hx hb dX1_isInWatch_13 (by decide) (fun c_2 => ?_) (fun c_2 => ?_)
  · refine lv_iconst (v := 0) hx hb dX1_isInWatch_20 (by decide) ?_
    exact W.zret (v := 0) hx hb hr rfl (fun t ht hW => ⟨⟨0, (), rfl, Or.inr ⟨(fun z => c_2 z), rfl⟩, trivial⟩, hS.F ht⟩) hS.2.2 dX1_isInWatch_21
  · refine lv_iconst (v := 1) hx hb dX1_isInWatch_16 (by decide) ?_
    refine lv_goto (tgt := 21) hx hb dX1_isInWatch_17 (by decide) ?_
    exact W.zret (v := 1) hx hb hr rfl (fun t ht hW => ⟨⟨1, (), rfl, Or.inl ⟨c_2, rfl⟩, trivial⟩, hS.F ht⟩) hS.2.2 dX1_isInWatch_21

set_option maxHeartbeats 4000000 in
set_option maxRecDepth 100000 in
theorem c_X1_hoursSinceWatch (l : Launch) (D : va_G) (cI : ClassId) (a : Nat → Nat) (σ : zS) {k : Nat} (hk : k < 10) {nb ns h : Nat} (hC : zC σ nb ns h) : zMR l yX1_hoursSinceWatch wsX1_hoursSinceWatch ({ frames := 0, cells := 0, slots := 0, locals := 0 }) [.ref (a 0), .int (nI k)] D [(cI, .int)] (zw_H cI a σ) (fun r => r = nI ((h % 24 + 24 - ((σ 6 k).toNatClampNeg + 1) * 8) % 24)) := by
  intro sz
  refine Met.ofW (cc := cX1_hoursSinceWatch) (maxL := 3) (ret := (some .int)) (by decide) rfl ?_
  intro p e s m args below meth c s₁ B hml hv
  obtain ⟨rfl, hsz, hP, hK, hD⟩ := hv
  have hx := B.exec
  have hb := B.bytes
  have hr := B.returns
  have hts := atoms_spec (ws := wsX1_hoursSinceWatch) B.pre
  have hown : s.vm.findClass RX1 = some m.cls := findClass_of_methodNamed B.named
  have hlocks := B.notSynchronized
  have hS : va_S (fun _ => False) s.heap s.heap [] := va_S.rf
  have hP : va_P D vwCl (zw_H cI a σ) s.heap := hP
  have hl := lv_entry ([.ref (a 0), .int (nI k)]) (n := 3) (Nat.le_of_ble_eq_true rfl)
  rw [lg_entry_eq]
  generalize (lg_sl ([.ref (a 0), .int (nI k)]) ++ List.replicate (3 - (lg_sl ([.ref (a 0), .int (nI k)])).length) Slot.unset).toArray = ls at hl ⊢
  have hl : lv_has ls 3 [(0, .ref (a 0)), (1, .int (nI k))] := hl
  have hf105 := hts (.fieldLink RX1 105 "HotBeds$Sailors" "watch" "[I") (by decide +kernel)
  have hf29 := hts (.fieldLink RX1 29 "HotBeds$House" "sailors" "LHotBeds$Sailors;") (by decide +kernel)
  have hf7 := hts (.fieldLink RX1 7 "HotBeds$House" "hour" "I") (by decide +kernel)
  have hinX1 : ∀ w ∈ u_ws RX1 TX1 5, w ∈ wsX1_hoursSinceWatch := by decide +kernel
  have hinX2 : ∀ w ∈ u_ws RX2 TX2 13, w ∈ wsX1_hoursSinceWatch := by decide +kernel
  have hnb := hC.2.1
  have hns := hC.2.2.2.1
  have hh := hC.2.2.2.2.2.1
  obtain ⟨w, hw3, ew⟩ := hC.2.2.2.2.2.2 k hk
  refine lv_aload_n hx hb dX1_hoursSinceWatch_0 rfl (lv_at hl 0 rfl) ?_
  refine va_get (D := D) (ci := 1) (v := .ref (a 2)) (C := RX1) (T := TX1) (N := 5) hx hb hts hinX1 hown hK hP 0 rfl rfl 4 (by decide) hf29 (fun _ h9 => h9) rfl dX1_hoursSinceWatch_1 ?_
  refine va_get (D := D) (ci := 2) (v := .ref (a 8)) (C := RX2) (T := TX2) (N := 13) hx hb hts hinX2 hown hK hP 2 rfl rfl 1 (by decide) hf105 (fun _ h9 => h9) rfl dX1_hoursSinceWatch_4 ?_
  refine lv_iload_n hx hb dX1_hoursSinceWatch_7 rfl (lv_at hl 1 rfl) ?_
  refine zk_ld hx hb hK hP 8 0 (zwq6 cI a _) rfl (k := k) hk (by decide) (v := nI w) ew dX1_hoursSinceWatch_8 ?_
  refine lv_iconst (v := 1) hx hb dX1_hoursSinceWatch_9 (by decide) ?_
  refine zk_add (x := w) (y := 1) hx hb dX1_hoursSinceWatch_10 ?_
  refine lv_bipush (v := 8) hx hb dX1_hoursSinceWatch_11 (by decide) ?_
  refine zk_mul (x := (w + 1)) (y := 8) hx hb dX1_hoursSinceWatch_13 ?_
  refine lv_istore_n (lv' := [(2, .int (nI ((w + 1) * 8))), (0, .ref (a 0)), (1, .int (nI k))]) hx hb dX1_hoursSinceWatch_14 rfl hl (by decide) rfl (fun ls hl => ?_)
  refine lv_aload_n hx hb dX1_hoursSinceWatch_15 rfl (lv_at hl 1 rfl) ?_
  refine va_get (D := D) (ci := 1) (v := .int (nI h)) (C := RX1) (T := TX1) (N := 5) hx hb hts hinX1 hown hK hP 0 rfl rfl 0 (by decide) hf7 (fun _ h9 => h9) (congrArg (fun z => some (Value.int z)) hC.2.2.2.2.1) dX1_hoursSinceWatch_16 ?_
  refine lv_bipush (v := 24) hx hb dX1_hoursSinceWatch_19 (by decide) ?_
  refine zk_rem (x := h) (y := 24) hx hb dX1_hoursSinceWatch_21 (by omega) (by decide) (by decide) ?_
  refine lv_bipush (v := 24) hx hb dX1_hoursSinceWatch_22 (by decide) ?_
  refine zk_add (x := (h % 24)) (y := 24) hx hb dX1_hoursSinceWatch_24 ?_
  refine lv_iload_n hx hb dX1_hoursSinceWatch_25 rfl (lv_at hl 0 rfl) ?_
  refine zk_sub (x := ((h % 24) + 24)) (y := ((w + 1) * 8)) hx hb dX1_hoursSinceWatch_26 (by omega) ?_
  refine lv_bipush (v := 24) hx hb dX1_hoursSinceWatch_27 (by decide) ?_
  refine zk_rem (x := (((h % 24) + 24) - ((w + 1) * 8))) (y := 24) hx hb dX1_hoursSinceWatch_29 (by omega) (by decide) (by decide) ?_
  exact W.iret (v := nI ((((h % 24) + 24) - ((w + 1) * 8)) % 24)) hx hb hr (fun t ht hW => ⟨⟨nI ((((h % 24) + 24) - ((w + 1) * 8)) % 24), (), rfl, (by rw [ew, nI_clamp (by omega)]), trivial⟩, hS.F ht⟩) hS.2.2 dX1_hoursSinceWatch_30

set_option maxHeartbeats 4000000 in
set_option maxRecDepth 100000 in
theorem c_X1_getUp (l : Launch) (D : va_G) (cI : ClassId) (a : Nat → Nat) (σ : zS) {k : Nat} (hk : k < 10) {nb ns h : Nat} (hC : zC σ nb ns h) : zMV l yX1_getUp wsX1_getUp ({ frames := 1, cells := 0, slots := 0, locals := 21 }) [.ref (a 0), .int (nI k)] D [(cI, .int)] (zw_H cI a σ) (zw_H cI a (f_getUp σ k)) := by
  intro sz
  refine Met.ofW (cc := cX1_getUp) (maxL := 3) (ret := none) (by decide) rfl ?_
  intro p e s m args below meth c s₁ B hml hv
  obtain ⟨rfl, hsz, hP, hK, hD⟩ := hv
  have hx := B.exec
  have hb := B.bytes
  have hr := B.returns
  have hts := atoms_spec (ws := wsX1_getUp) B.pre
  have hown : s.vm.findClass RX1 = some m.cls := findClass_of_methodNamed B.named
  have hlocks := B.notSynchronized
  subst hsz
  have hD := hD.self (sz := s.heap.size)
  generalize hAe : va_A (zw_H cI a σ) s.heap.size = A at hD ⊢
  have hA : ∀ q : Nat, s.heap.size ≤ q → A q := fun q h => by rw [← hAe]; exact Or.inr h
  have hS : va_S A s.heap s.heap [] := va_S.rf
  have hP : va_P D vwCl (zw_H cI a σ) s.heap := hP
  have hl := lv_entry ([.ref (a 0), .int (nI k)]) (n := 3) (Nat.le_of_ble_eq_true rfl)
  rw [lg_entry_eq]
  generalize (lg_sl ([.ref (a 0), .int (nI k)]) ++ List.replicate (3 - (lg_sl ([.ref (a 0), .int (nI k)])).length) Slot.unset).toArray = ls at hl ⊢
  have hl : lv_has ls 3 [(0, .ref (a 0)), (1, .int (nI k))] := hl
  have hf22 := hts (.fieldLink RX1 22 "HotBeds$House" "beds" "LHotBeds$Beds;") (by decide +kernel)
  have hf29 := hts (.fieldLink RX1 29 "HotBeds$House" "sailors" "LHotBeds$Sailors;") (by decide +kernel)
  have hf61 := hts (.fieldLink RX1 61 "HotBeds$Sailors" "bed" "[I") (by decide +kernel)
  have hf68 := hts (.fieldLink RX1 68 "HotBeds$Beds" "sleeper" "[I") (by decide +kernel)
  have hf71 := hts (.fieldLink RX1 71 "HotBeds$Sailors" "place" "[I") (by decide +kernel)
  have hinX0 : ∀ w ∈ u_ws RX0 TX0 6, w ∈ wsX1_getUp := by decide +kernel
  have hinX1 : ∀ w ∈ u_ws RX1 TX1 5, w ∈ wsX1_getUp := by decide +kernel
  have hinX2 : ∀ w ∈ u_ws RX2 TX2 13, w ∈ wsX1_getUp := by decide +kernel
  have hnb := hC.2.1
  have hns := hC.2.2.2.1
  have hh := hC.2.2.2.2.2.1
  refine lv_aload_n hx hb dX1_getUp_0 rfl (lv_at hl 0 rfl) ?_
  refine va_get (D := D) (ci := 1) (v := .ref (a 2)) (C := RX1) (T := TX1) (N := 5) hx hb hts hinX1 hown hK hP 0 rfl rfl 4 (by decide) hf29 (fun _ h9 => h9) rfl dX1_getUp_1 ?_
  refine va_get (D := D) (ci := 2) (v := .ref (a 15)) (C := RX2) (T := TX2) (N := 13) hx hb hts hinX2 hown hK hP 2 rfl rfl 8 (by decide) hf61 (fun _ h9 => h9) rfl dX1_getUp_4 ?_
  refine lv_iload_n hx hb dX1_getUp_7 rfl (lv_at hl 1 rfl) ?_
  refine zk_ld hx hb hK hP 15 0 (zwq13 cI a _) rfl (k := k) hk (by decide) (v := σ 13 k) rfl dX1_getUp_8 ?_
  refine lv_istore_n (lv' := [(2, .int (σ 13 k)), (0, .ref (a 0)), (1, .int (nI k))]) hx hb dX1_getUp_9 rfl hl (by decide) rfl (fun ls hl => ?_)
  refine lv_aload_n hx hb dX1_getUp_10 rfl (lv_at hl 1 rfl) ?_
  refine va_get (D := D) (ci := 1) (v := .ref (a 1)) (C := RX1) (T := TX1) (N := 5) hx hb hts hinX1 hown hK hP 0 rfl rfl 3 (by decide) hf22 (fun _ h9 => h9) rfl dX1_getUp_11 ?_
  refine lv_iload_n hx hb dX1_getUp_14 rfl (lv_at hl 0 rfl) ?_
  refine zk_R (D := D) (va_runV (As := [.int (σ 13 k)]) (rest := []) ⟨hx, hb, hml, hown, hts⟩ (c_X0_has l D cI a σ (σ 13 k) _) (cwV 1 hts gX1_getUp_X0_has rfl rfl rfl zdX0_has ⟨Nat.le_of_ble_eq_true rfl, Nat.le_of_ble_eq_true rfl⟩) ⟨zbl _, va_recv hK hP (ci := 0) (q0 := 1) rfl rfl, zpr hK hP hD⟩ rfl rfl hl.1 rfl (lv_room (Nat.le_of_ble_eq_true rfl)) dX1_getUp_15 ⟨Nat.zero_le _, Nat.zero_le _⟩) hS (fun r_1 H locs hw hkp hS => ?_)
  have hP := hkp _ hP
  rcases hw with ⟨c_2, rfl⟩ | ⟨c_2, rfl⟩
  · refine lv_if_eq (tgt := 31) hx hb dX1_getUp_18 (by decide) (fun c => absurd c (by decide)) (fun _ => ?_)
    refine lv_aload_n hx hb dX1_getUp_21 rfl (lv_at hl 1 rfl) ?_
    refine va_get (D := D) (ci := 1) (v := .ref (a 1)) (C := RX1) (T := TX1) (N := 5) hx hb hts hinX1 hown hK hP 0 rfl rfl 3 (by decide) hf22 (fun _ h9 => h9) rfl dX1_getUp_22 ?_
    refine va_get (D := D) (ci := 0) (v := .ref (a 7)) (C := RX0) (T := TX0) (N := 6) hx hb hts hinX0 hown hK hP 1 rfl rfl 5 (by decide) hf68 (fun _ h9 => h9) rfl dX1_getUp_25 ?_
    refine lv_iload_n hx hb dX1_getUp_28 rfl (lv_at hl 0 rfl) ?_
    refine lv_iconst (v := (-1)) hx hb dX1_getUp_29 (by decide) ?_
    refine va_iast hx hb hK hP hD hS 7 0 (zwq5 cI a _) rfl (zin hC c_2) dX1_getUp_30 (fun H locs hP hD hS => ?_)
    have hP : va_P D vwCl (zw_H cI a (zs σ 5 ((σ 13 k).toNatClampNeg) (-1))) H := hP
    have hD : va_D A (zw_H cI a (zs σ 5 ((σ 13 k).toNatClampNeg) (-1))) := hD
    refine lv_aload_n hx hb dX1_getUp_31 rfl (lv_at hl 1 rfl) ?_
    refine va_get (D := D) (ci := 1) (v := .ref (a 2)) (C := RX1) (T := TX1) (N := 5) hx hb hts hinX1 hown hK hP 0 rfl rfl 4 (by decide) hf29 (fun _ h9 => h9) rfl dX1_getUp_32 ?_
    refine va_get (D := D) (ci := 2) (v := .ref (a 15)) (C := RX2) (T := TX2) (N := 13) hx hb hts hinX2 hown hK hP 2 rfl rfl 8 (by decide) hf61 (fun _ h9 => h9) rfl dX1_getUp_35 ?_
    refine lv_iload_n hx hb dX1_getUp_38 rfl (lv_at hl 2 rfl) ?_
    refine lv_iconst (v := (-1)) hx hb dX1_getUp_39 (by decide) ?_
    refine zk_st hx hb hK hP hD hS 15 0 (zwq13 cI a _) rfl (k := k) hk (by decide) (zws13 cI a _ _ _) dX1_getUp_40 (fun H locs hP hD hS => ?_)
    have hP : va_P D vwCl (zw_H cI a (zs (zs σ 5 ((σ 13 k).toNatClampNeg) (-1)) 13 k (-1))) H := hP
    have hD : va_D A (zw_H cI a (zs (zs σ 5 ((σ 13 k).toNatClampNeg) (-1)) 13 k (-1))) := hD
    refine lv_aload_n hx hb dX1_getUp_41 rfl (lv_at hl 1 rfl) ?_
    refine va_get (D := D) (ci := 1) (v := .ref (a 2)) (C := RX1) (T := TX1) (N := 5) hx hb hts hinX1 hown hK hP 0 rfl rfl 4 (by decide) hf29 (fun _ h9 => h9) rfl dX1_getUp_42 ?_
    refine va_get (D := D) (ci := 2) (v := .ref (a 14)) (C := RX2) (T := TX2) (N := 13) hx hb hts hinX2 hown hK hP 2 rfl rfl 7 (by decide) hf71 (fun _ h9 => h9) rfl dX1_getUp_45 ?_
    refine lv_iload_n hx hb dX1_getUp_48 rfl (lv_at hl 2 rfl) ?_
    refine lv_iconst (v := 0) hx hb dX1_getUp_49 (by decide) ?_
    refine zk_st hx hb hK hP hD hS 14 0 (zwq12 cI a _) rfl (k := k) hk (by decide) (zws12 cI a _ _ _) dX1_getUp_50 (fun H locs hP hD hS => ?_)
    have hP : va_P D vwCl (zw_H cI a (zs (zs (zs σ 5 ((σ 13 k).toNatClampNeg) (-1)) 13 k (-1)) 12 k 0)) H := hP
    have hD : va_D A (zw_H cI a (zs (zs (zs σ 5 ((σ 13 k).toNatClampNeg) (-1)) 13 k (-1)) 12 k 0)) := hD
    have e9 : f_getUp σ k = zs (zs (zs σ 5 ((σ 13 k).toNatClampNeg) (-1)) 13 k (-1)) 12 k 0 := by simp only [f_getUp, f_leave, if_pos c_2]
    have hP9 : va_P D vwCl (zw_H cI a (f_getUp σ k)) H := by rw [e9]; exact hP
    have hD9 : va_D A (zw_H cI a (f_getUp σ k)) := by rw [e9]; exact hD
    exact W.vret hx hb hr (fun t ht hW => ⟨⟨(), rfl, trivial, by rw [ht]; exact hP9, va_K.moved hW.alike hK, hD9⟩, hS.F ht⟩) hS.2.2 dX1_getUp_51
  · refine lv_if_eq (tgt := 31) hx hb dX1_getUp_18 (by decide) (fun _ => ?_) (fun c => absurd (by decide) c)
    refine lv_aload_n hx hb dX1_getUp_31 rfl (lv_at hl 1 rfl) ?_
    refine va_get (D := D) (ci := 1) (v := .ref (a 2)) (C := RX1) (T := TX1) (N := 5) hx hb hts hinX1 hown hK hP 0 rfl rfl 4 (by decide) hf29 (fun _ h9 => h9) rfl dX1_getUp_32 ?_
    refine va_get (D := D) (ci := 2) (v := .ref (a 15)) (C := RX2) (T := TX2) (N := 13) hx hb hts hinX2 hown hK hP 2 rfl rfl 8 (by decide) hf61 (fun _ h9 => h9) rfl dX1_getUp_35 ?_
    refine lv_iload_n hx hb dX1_getUp_38 rfl (lv_at hl 2 rfl) ?_
    refine lv_iconst (v := (-1)) hx hb dX1_getUp_39 (by decide) ?_
    refine zk_st hx hb hK hP hD hS 15 0 (zwq13 cI a _) rfl (k := k) hk (by decide) (zws13 cI a _ _ _) dX1_getUp_40 (fun H locs hP hD hS => ?_)
    have hP : va_P D vwCl (zw_H cI a (zs σ 13 k (-1))) H := hP
    have hD : va_D A (zw_H cI a (zs σ 13 k (-1))) := hD
    refine lv_aload_n hx hb dX1_getUp_41 rfl (lv_at hl 1 rfl) ?_
    refine va_get (D := D) (ci := 1) (v := .ref (a 2)) (C := RX1) (T := TX1) (N := 5) hx hb hts hinX1 hown hK hP 0 rfl rfl 4 (by decide) hf29 (fun _ h9 => h9) rfl dX1_getUp_42 ?_
    refine va_get (D := D) (ci := 2) (v := .ref (a 14)) (C := RX2) (T := TX2) (N := 13) hx hb hts hinX2 hown hK hP 2 rfl rfl 7 (by decide) hf71 (fun _ h9 => h9) rfl dX1_getUp_45 ?_
    refine lv_iload_n hx hb dX1_getUp_48 rfl (lv_at hl 2 rfl) ?_
    refine lv_iconst (v := 0) hx hb dX1_getUp_49 (by decide) ?_
    refine zk_st hx hb hK hP hD hS 14 0 (zwq12 cI a _) rfl (k := k) hk (by decide) (zws12 cI a _ _ _) dX1_getUp_50 (fun H locs hP hD hS => ?_)
    have hP : va_P D vwCl (zw_H cI a (zs (zs σ 13 k (-1)) 12 k 0)) H := hP
    have hD : va_D A (zw_H cI a (zs (zs σ 13 k (-1)) 12 k 0)) := hD
    have e9 : f_getUp σ k = zs (zs σ 13 k (-1)) 12 k 0 := by simp only [f_getUp, f_leave, if_neg c_2]
    have hP9 : va_P D vwCl (zw_H cI a (f_getUp σ k)) H := by rw [e9]; exact hP
    have hD9 : va_D A (zw_H cI a (f_getUp σ k)) := by rw [e9]; exact hD
    exact W.vret hx hb hr (fun t ht hW => ⟨⟨(), rfl, trivial, by rw [ht]; exact hP9, va_K.moved hW.alike hK, hD9⟩, hS.F ht⟩) hS.2.2 dX1_getUp_51

set_option maxHeartbeats 4000000 in
set_option maxRecDepth 100000 in
theorem c_X1_pawnBoots (l : Launch) (D : va_G) (cI : ClassId) (a : Nat → Nat) (σ : zS) {k : Nat} (hk : k < 10) : zMV l yX1_pawnBoots wsX1_pawnBoots ({ frames := 2, cells := 0, slots := 0, locals := 37 }) [.ref (a 0), .int (nI k)] D [(cI, .int)] (zw_H cI a σ) (zw_H cI a (f_pawnB σ k)) := by
  intro sz
  refine Met.ofW (cc := cX1_pawnBoots) (maxL := 2) (ret := none) (by decide) rfl ?_
  intro p e s m args below meth c s₁ B hml hv
  obtain ⟨rfl, hsz, hP, hK, hD⟩ := hv
  have hx := B.exec
  have hb := B.bytes
  have hr := B.returns
  have hts := atoms_spec (ws := wsX1_pawnBoots) B.pre
  have hown : s.vm.findClass RX1 = some m.cls := findClass_of_methodNamed B.named
  have hlocks := B.notSynchronized
  subst hsz
  have hD := hD.self (sz := s.heap.size)
  generalize hAe : va_A (zw_H cI a σ) s.heap.size = A at hD ⊢
  have hA : ∀ q : Nat, s.heap.size ≤ q → A q := fun q h => by rw [← hAe]; exact Or.inr h
  have hS : va_S A s.heap s.heap [] := va_S.rf
  have hP : va_P D vwCl (zw_H cI a σ) s.heap := hP
  have hl := lv_entry ([.ref (a 0), .int (nI k)]) (n := 2) (Nat.le_of_ble_eq_true rfl)
  rw [lg_entry_eq]
  generalize (lg_sl ([.ref (a 0), .int (nI k)]) ++ List.replicate (2 - (lg_sl ([.ref (a 0), .int (nI k)])).length) Slot.unset).toArray = ls at hl ⊢
  have hl : lv_has ls 2 [(0, .ref (a 0)), (1, .int (nI k))] := hl
  have hf16 := hts (.fieldLink RX1 16 "HotBeds$House" "pawn" "I") (by decide +kernel)
  have hf29 := hts (.fieldLink RX1 29 "HotBeds$House" "sailors" "LHotBeds$Sailors;") (by decide +kernel)
  have hf74 := hts (.fieldLink RX1 74 "HotBeds$Sailors" "boots" "[I") (by decide +kernel)
  have hinX1 : ∀ w ∈ u_ws RX1 TX1 5, w ∈ wsX1_pawnBoots := by decide +kernel
  have hinX2 : ∀ w ∈ u_ws RX2 TX2 13, w ∈ wsX1_pawnBoots := by decide +kernel
  refine lv_aload_n hx hb dX1_pawnBoots_0 rfl (lv_at hl 0 rfl) ?_
  refine va_get (D := D) (ci := 1) (v := .ref (a 2)) (C := RX1) (T := TX1) (N := 5) hx hb hts hinX1 hown hK hP 0 rfl rfl 4 (by decide) hf29 (fun _ h9 => h9) rfl dX1_pawnBoots_1 ?_
  refine va_get (D := D) (ci := 2) (v := .ref (a 12)) (C := RX2) (T := TX2) (N := 13) hx hb hts hinX2 hown hK hP 2 rfl rfl 5 (by decide) hf74 (fun _ h9 => h9) rfl dX1_pawnBoots_4 ?_
  refine lv_iload_n hx hb dX1_pawnBoots_7 rfl (lv_at hl 1 rfl) ?_
  refine lv_iconst (v := 0) hx hb dX1_pawnBoots_8 (by decide) ?_
  refine zk_st hx hb hK hP hD hS 12 0 (zwq10 cI a _) rfl (k := k) hk (by decide) (zws10 cI a _ _ _) dX1_pawnBoots_9 (fun H locs hP hD hS => ?_)
  have hP : va_P D vwCl (zw_H cI a (zs σ 10 k 0)) H := hP
  have hD : va_D A (zw_H cI a (zs σ 10 k 0)) := hD
  refine lv_aload_n hx hb dX1_pawnBoots_10 rfl (lv_at hl 0 rfl) ?_
  refine va_get (D := D) (ci := 1) (v := .ref (a 2)) (C := RX1) (T := TX1) (N := 5) hx hb hts hinX1 hown hK hP 0 rfl rfl 4 (by decide) hf29 (fun _ h9 => h9) rfl dX1_pawnBoots_11 ?_
  refine lv_iload_n hx hb dX1_pawnBoots_14 rfl (lv_at hl 1 rfl) ?_
  refine lv_aload_n hx hb dX1_pawnBoots_15 rfl (lv_at hl 0 rfl) ?_
  refine va_get (D := D) (ci := 1) (v := .int (σ 0 2)) (C := RX1) (T := TX1) (N := 5) hx hb hts hinX1 hown hK hP 0 rfl rfl 2 (by decide) hf16 (fun _ h9 => h9) rfl dX1_pawnBoots_16 ?_
  have hF := zfree hD hS hA
  refine zk_V (va_runV (As := [.int (nI k), .int (σ 0 2)]) (rest := []) ⟨hx, hb, hml, hown, hts⟩ (c_X2_earn l D cI a (zs σ 10 k 0) (k := k) hk (σ 0 2) _) (cwV 2 hts gX1_pawnBoots_X2_earn rfl rfl rfl zdX2_earn ⟨Nat.le_of_ble_eq_true rfl, Nat.le_of_ble_eq_true rfl⟩) ⟨zbl _, va_recv hK hP (ci := 2) (q0 := 2) rfl rfl, zpr hK hP hD⟩ rfl rfl hl.1 rfl (lv_room (Nat.le_of_ble_eq_true rfl)) dX1_pawnBoots_19 ⟨Nat.zero_le _, Nat.zero_le _⟩) hS hF (fun H locs hkp hP1 hD1 hS => ?_)
  have hP := hP1
  have hD := hD1.weaken (fun _ _ _ z => hF _ z)
  have hP : va_P D vwCl (zw_H cI a (f_earn (zs σ 10 k 0) k (σ 0 2))) H := hP
  have hD : va_D A (zw_H cI a (f_earn (zs σ 10 k 0) k (σ 0 2))) := hD
  have e9 : f_pawnB σ k = f_earn (zs σ 10 k 0) k (σ 0 2) := by simp only [f_pawnB]
  have hP9 : va_P D vwCl (zw_H cI a (f_pawnB σ k)) H := by rw [e9]; exact hP
  have hD9 : va_D A (zw_H cI a (f_pawnB σ k)) := by rw [e9]; exact hD
  exact W.vret hx hb hr (fun t ht hW => ⟨⟨(), rfl, trivial, by rw [ht]; exact hP9, va_K.moved hW.alike hK, hD9⟩, hS.F ht⟩) hS.2.2 dX1_pawnBoots_22

set_option maxHeartbeats 4000000 in
set_option maxRecDepth 100000 in
theorem c_X1_canRedeemBoots (l : Launch) (D : va_G) (cI : ClassId) (a : Nat → Nat) (σ : zS) {k : Nat} (hk : k < 10) : zMR l yX1_canRedeemBoots wsX1_canRedeemBoots ({ frames := 1, cells := 0, slots := 0, locals := 21 }) [.ref (a 0), .int (nI k)] D [(cI, .int)] (zw_H cI a σ) (zb (f_can σ k)) := by
  intro sz
  refine Met.ofW (cc := cX1_canRedeemBoots) (maxL := 2) (ret := (some .boolean)) (by decide) rfl ?_
  intro p e s m args below meth c s₁ B hml hv
  obtain ⟨rfl, hsz, hP, hK, hD⟩ := hv
  have hx := B.exec
  have hb := B.bytes
  have hr := B.returns
  have hts := atoms_spec (ws := wsX1_canRedeemBoots) B.pre
  have hown : s.vm.findClass RX1 = some m.cls := findClass_of_methodNamed B.named
  have hlocks := B.notSynchronized
  have hS : va_S (fun _ => False) s.heap s.heap [] := va_S.rf
  have hP : va_P D vwCl (zw_H cI a σ) s.heap := hP
  have hl := lv_entry ([.ref (a 0), .int (nI k)]) (n := 2) (Nat.le_of_ble_eq_true rfl)
  rw [lg_entry_eq]
  generalize (lg_sl ([.ref (a 0), .int (nI k)]) ++ List.replicate (2 - (lg_sl ([.ref (a 0), .int (nI k)])).length) Slot.unset).toArray = ls at hl ⊢
  have hl : lv_has ls 2 [(0, .ref (a 0)), (1, .int (nI k))] := hl
  have hf16 := hts (.fieldLink RX1 16 "HotBeds$House" "pawn" "I") (by decide +kernel)
  have hf29 := hts (.fieldLink RX1 29 "HotBeds$House" "sailors" "LHotBeds$Sailors;") (by decide +kernel)
  have hf84 := hts (.fieldLink RX1 84 "HotBeds$Sailors" "purse" "[I") (by decide +kernel)
  have hinX1 : ∀ w ∈ u_ws RX1 TX1 5, w ∈ wsX1_canRedeemBoots := by decide +kernel
  have hinX2 : ∀ w ∈ u_ws RX2 TX2 13, w ∈ wsX1_canRedeemBoots := by decide +kernel
  refine lv_aload_n hx hb dX1_canRedeemBoots_0 rfl (lv_at hl 0 rfl) ?_
  refine va_get (D := D) (ci := 1) (v := .ref (a 2)) (C := RX1) (T := TX1) (N := 5) hx hb hts hinX1 hown hK hP 0 rfl rfl 4 (by decide) hf29 (fun _ h9 => h9) rfl dX1_canRedeemBoots_1 ?_
  refine lv_iload_n hx hb dX1_canRedeemBoots_4 rfl (lv_at hl 1 rfl) ?_
  refine zk_R (D := D) (va_runV (As := [.int (nI k)]) (rest := []) ⟨hx, hb, hml, hown, hts⟩ (c_X2_hasBoots l D cI a σ (k := k) hk _) (cwV 1 hts gX1_canRedeemBoots_X2_hasBoots rfl rfl rfl zdX2_hasBoots ⟨Nat.le_of_ble_eq_true rfl, Nat.le_of_ble_eq_true rfl⟩) ⟨zbl _, va_recv hK hP (ci := 2) (q0 := 2) rfl rfl, zpr hK hP hD⟩ rfl rfl hl.1 rfl (lv_room (Nat.le_of_ble_eq_true rfl)) dX1_canRedeemBoots_5 ⟨Nat.zero_le _, Nat.zero_le _⟩) hS (fun r_1 H locs hw hkp hS => ?_)
  have hP := hkp _ hP
  rcases hw with ⟨c_2, rfl⟩ | ⟨c_2, rfl⟩
  · refine lv_if_ne (tgt := 33) hx hb dX1_canRedeemBoots_8 (by decide) (fun _ => ?_) (fun c => absurd c (by decide))
    refine lv_iconst (v := 0) hx hb dX1_canRedeemBoots_33 (by decide) ?_
    exact W.zret (v := 0) hx hb hr rfl (fun t ht hW => ⟨⟨0, (), rfl, Or.inr ⟨(fun z => z.1 c_2), rfl⟩, trivial⟩, hS.F ht⟩) hS.2.2 dX1_canRedeemBoots_34
  · refine lv_if_ne (tgt := 33) hx hb dX1_canRedeemBoots_8 (by decide) (fun c => absurd (by decide) c) (fun _ => ?_)
    refine lv_aload_n hx hb dX1_canRedeemBoots_11 rfl (lv_at hl 0 rfl) ?_
    refine va_get (D := D) (ci := 1) (v := .ref (a 2)) (C := RX1) (T := TX1) (N := 5) hx hb hts hinX1 hown hK hP 0 rfl rfl 4 (by decide) hf29 (fun _ h9 => h9) rfl dX1_canRedeemBoots_12 ?_
    refine va_get (D := D) (ci := 2) (v := .ref (a 11)) (C := RX2) (T := TX2) (N := 13) hx hb hts hinX2 hown hK hP 2 rfl rfl 4 (by decide) hf84 (fun _ h9 => h9) rfl dX1_canRedeemBoots_15 ?_
    refine lv_iload_n hx hb dX1_canRedeemBoots_18 rfl (lv_at hl 1 rfl) ?_
    refine zk_ld hx hb hK hP 11 0 (zwq9 cI a _) rfl (k := k) hk (by decide) (v := σ 9 k) rfl dX1_canRedeemBoots_19 ?_
    refine lv_aload_n hx hb dX1_canRedeemBoots_20 rfl (lv_at hl 0 rfl) ?_
    refine va_get (D := D) (ci := 1) (v := .int (σ 0 2)) (C := RX1) (T := TX1) (N := 5) hx hb hts hinX1 hown hK hP 0 rfl rfl 2 (by decide) hf16 (fun _ h9 => h9) rfl dX1_canRedeemBoots_21 ?_
    refine lv_iconst (v := 2) hx hb dX1_canRedeemBoots_24 (by decide) ?_
    refine lv_iadd hx hb dX1_canRedeemBoots_25 ?_
    refine lv_icmp_lt (tgt := 33) hx hb dX1_canRedeemBoots_26 (by decide) (fun c_5 => ?_) (fun c_5 => ?_)
    · refine lv_iconst (v := 0) hx hb dX1_canRedeemBoots_33 (by decide) ?_
      exact W.zret (v := 0) hx hb hr rfl (fun t ht hW => ⟨⟨0, (), rfl, Or.inr ⟨(fun z => z.2 c_5), rfl⟩, trivial⟩, hS.F ht⟩) hS.2.2 dX1_canRedeemBoots_34
    · refine lv_iconst (v := 1) hx hb dX1_canRedeemBoots_29 (by decide) ?_
      refine lv_goto (tgt := 34) hx hb dX1_canRedeemBoots_30 (by decide) ?_
      exact W.zret (v := 1) hx hb hr rfl (fun t ht hW => ⟨⟨1, (), rfl, Or.inl ⟨⟨c_2, c_5⟩, rfl⟩, trivial⟩, hS.F ht⟩) hS.2.2 dX1_canRedeemBoots_34

set_option maxHeartbeats 4000000 in
set_option maxRecDepth 100000 in
theorem c_X1_redeemBoots (l : Launch) (D : va_G) (cI : ClassId) (a : Nat → Nat) (σ : zS) {k : Nat} (hk : k < 10) : zMV l yX1_redeemBoots wsX1_redeemBoots ({ frames := 0, cells := 0, slots := 0, locals := 0 }) [.ref (a 0), .int (nI k)] D [(cI, .int)] (zw_H cI a σ) (zw_H cI a (f_red σ k)) := by
  intro sz
  refine Met.ofW (cc := cX1_redeemBoots) (maxL := 2) (ret := none) (by decide) rfl ?_
  intro p e s m args below meth c s₁ B hml hv
  obtain ⟨rfl, hsz, hP, hK, hD⟩ := hv
  have hx := B.exec
  have hb := B.bytes
  have hr := B.returns
  have hts := atoms_spec (ws := wsX1_redeemBoots) B.pre
  have hown : s.vm.findClass RX1 = some m.cls := findClass_of_methodNamed B.named
  have hlocks := B.notSynchronized
  subst hsz
  have hD := hD.self (sz := s.heap.size)
  generalize hAe : va_A (zw_H cI a σ) s.heap.size = A at hD ⊢
  have hA : ∀ q : Nat, s.heap.size ≤ q → A q := fun q h => by rw [← hAe]; exact Or.inr h
  have hS : va_S A s.heap s.heap [] := va_S.rf
  have hP : va_P D vwCl (zw_H cI a σ) s.heap := hP
  have hl := lv_entry ([.ref (a 0), .int (nI k)]) (n := 2) (Nat.le_of_ble_eq_true rfl)
  rw [lg_entry_eq]
  generalize (lg_sl ([.ref (a 0), .int (nI k)]) ++ List.replicate (2 - (lg_sl ([.ref (a 0), .int (nI k)])).length) Slot.unset).toArray = ls at hl ⊢
  have hl : lv_has ls 2 [(0, .ref (a 0)), (1, .int (nI k))] := hl
  have hf16 := hts (.fieldLink RX1 16 "HotBeds$House" "pawn" "I") (by decide +kernel)
  have hf29 := hts (.fieldLink RX1 29 "HotBeds$House" "sailors" "LHotBeds$Sailors;") (by decide +kernel)
  have hf74 := hts (.fieldLink RX1 74 "HotBeds$Sailors" "boots" "[I") (by decide +kernel)
  have hf84 := hts (.fieldLink RX1 84 "HotBeds$Sailors" "purse" "[I") (by decide +kernel)
  have hinX1 : ∀ w ∈ u_ws RX1 TX1 5, w ∈ wsX1_redeemBoots := by decide +kernel
  have hinX2 : ∀ w ∈ u_ws RX2 TX2 13, w ∈ wsX1_redeemBoots := by decide +kernel
  refine lv_aload_n hx hb dX1_redeemBoots_0 rfl (lv_at hl 0 rfl) ?_
  refine va_get (D := D) (ci := 1) (v := .ref (a 2)) (C := RX1) (T := TX1) (N := 5) hx hb hts hinX1 hown hK hP 0 rfl rfl 4 (by decide) hf29 (fun _ h9 => h9) rfl dX1_redeemBoots_1 ?_
  refine va_get (D := D) (ci := 2) (v := .ref (a 11)) (C := RX2) (T := TX2) (N := 13) hx hb hts hinX2 hown hK hP 2 rfl rfl 4 (by decide) hf84 (fun _ h9 => h9) rfl dX1_redeemBoots_4 ?_
  refine lv_iload_n hx hb dX1_redeemBoots_7 rfl (lv_at hl 1 rfl) ?_
  refine lv_dup2_11 hx hb dX1_redeemBoots_8 rfl rfl ?_
  refine zk_ld hx hb hK hP 11 0 (zwq9 cI a _) rfl (k := k) hk (by decide) (v := σ 9 k) rfl dX1_redeemBoots_9 ?_
  refine lv_aload_n hx hb dX1_redeemBoots_10 rfl (lv_at hl 0 rfl) ?_
  refine va_get (D := D) (ci := 1) (v := .int (σ 0 2)) (C := RX1) (T := TX1) (N := 5) hx hb hts hinX1 hown hK hP 0 rfl rfl 2 (by decide) hf16 (fun _ h9 => h9) rfl dX1_redeemBoots_11 ?_
  refine lv_iconst (v := 2) hx hb dX1_redeemBoots_14 (by decide) ?_
  refine lv_iadd hx hb dX1_redeemBoots_15 ?_
  refine lv_isub hx hb dX1_redeemBoots_16 ?_
  refine zk_st hx hb hK hP hD hS 11 0 (zwq9 cI a _) rfl (k := k) hk (by decide) (zws9 cI a _ _ _) dX1_redeemBoots_17 (fun H locs hP hD hS => ?_)
  have hP : va_P D vwCl (zw_H cI a (zs σ 9 k ((σ 9 k) - ((σ 0 2) + 2)))) H := hP
  have hD : va_D A (zw_H cI a (zs σ 9 k ((σ 9 k) - ((σ 0 2) + 2)))) := hD
  refine lv_aload_n hx hb dX1_redeemBoots_18 rfl (lv_at hl 0 rfl) ?_
  refine va_get (D := D) (ci := 1) (v := .ref (a 2)) (C := RX1) (T := TX1) (N := 5) hx hb hts hinX1 hown hK hP 0 rfl rfl 4 (by decide) hf29 (fun _ h9 => h9) rfl dX1_redeemBoots_19 ?_
  refine va_get (D := D) (ci := 2) (v := .ref (a 12)) (C := RX2) (T := TX2) (N := 13) hx hb hts hinX2 hown hK hP 2 rfl rfl 5 (by decide) hf74 (fun _ h9 => h9) rfl dX1_redeemBoots_22 ?_
  refine lv_iload_n hx hb dX1_redeemBoots_25 rfl (lv_at hl 1 rfl) ?_
  refine lv_iconst (v := 1) hx hb dX1_redeemBoots_26 (by decide) ?_
  refine zk_st hx hb hK hP hD hS 12 0 (zwq10 cI a _) rfl (k := k) hk (by decide) (zws10 cI a _ _ _) dX1_redeemBoots_27 (fun H locs hP hD hS => ?_)
  have hP : va_P D vwCl (zw_H cI a (zs (zs σ 9 k ((σ 9 k) - ((σ 0 2) + 2))) 10 k 1)) H := hP
  have hD : va_D A (zw_H cI a (zs (zs σ 9 k ((σ 9 k) - ((σ 0 2) + 2))) 10 k 1)) := hD
  have e9 : f_red σ k = zs (zs σ 9 k ((σ 9 k) - ((σ 0 2) + 2))) 10 k 1 := by simp only [f_red]
  have hP9 : va_P D vwCl (zw_H cI a (f_red σ k)) H := by rw [e9]; exact hP
  have hD9 : va_D A (zw_H cI a (f_red σ k)) := by rw [e9]; exact hD
  exact W.vret hx hb hr (fun t ht hW => ⟨⟨(), rfl, trivial, by rw [ht]; exact hP9, va_K.moved hW.alike hK, hD9⟩, hS.F ht⟩) hS.2.2 dX1_redeemBoots_28

set_option maxHeartbeats 4000000 in
set_option maxRecDepth 100000 in
theorem c_X1_ringBell (l : Launch) (D : va_G) (cI : ClassId) (a : Nat → Nat) (σ : zS) {k : Nat} (hk : k < 10) {nb ns h : Nat} (hC : zC σ nb ns h) : zMV l yX1_ringBell wsX1_ringBell ({ frames := 2, cells := 0, slots := 0, locals := 43 }) [.ref (a 0), .int (nI k)] D [(cI, .int)] (zw_H cI a σ) (zw_H cI a (f_ring σ h k)) := by
  intro sz
  refine Met.ofW (cc := cX1_ringBell) (maxL := 3) (ret := none) (by decide) rfl ?_
  intro p e s m args below meth c s₁ B hml hv
  obtain ⟨rfl, hsz, hP, hK, hD⟩ := hv
  have hx := B.exec
  have hb := B.bytes
  have hr := B.returns
  have hts := atoms_spec (ws := wsX1_ringBell) B.pre
  have hown : s.vm.findClass RX1 = some m.cls := findClass_of_methodNamed B.named
  have hlocks := B.notSynchronized
  subst hsz
  have hD := hD.self (sz := s.heap.size)
  generalize hAe : va_A (zw_H cI a σ) s.heap.size = A at hD ⊢
  have hA : ∀ q : Nat, s.heap.size ≤ q → A q := fun q h => by rw [← hAe]; exact Or.inr h
  have hS : va_S A s.heap s.heap [] := va_S.rf
  have hP : va_P D vwCl (zw_H cI a σ) s.heap := hP
  have hl := lv_entry ([.ref (a 0), .int (nI k)]) (n := 3) (Nat.le_of_ble_eq_true rfl)
  rw [lg_entry_eq]
  generalize (lg_sl ([.ref (a 0), .int (nI k)]) ++ List.replicate (3 - (lg_sl ([.ref (a 0), .int (nI k)])).length) Slot.unset).toArray = ls at hl ⊢
  have hl : lv_has ls 3 [(0, .ref (a 0)), (1, .int (nI k))] := hl
  have hf13 := hts (.fieldLink RX1 13 "HotBeds$House" "bell" "I") (by decide +kernel)
  have hf29 := hts (.fieldLink RX1 29 "HotBeds$House" "sailors" "LHotBeds$Sailors;") (by decide +kernel)
  have hf96 := hts (.fieldLink RX1 96 "HotBeds$Sailors" "heavy" "[I") (by decide +kernel)
  have hinX1 : ∀ w ∈ u_ws RX1 TX1 5, w ∈ wsX1_ringBell := by decide +kernel
  have hinX2 : ∀ w ∈ u_ws RX2 TX2 13, w ∈ wsX1_ringBell := by decide +kernel
  have hnb := hC.2.1
  have hns := hC.2.2.2.1
  have hh := hC.2.2.2.2.2.1
  refine lv_aload_n hx hb dX1_ringBell_0 rfl (lv_at hl 0 rfl) ?_
  refine va_get (D := D) (ci := 1) (v := .ref (a 2)) (C := RX1) (T := TX1) (N := 5) hx hb hts hinX1 hown hK hP 0 rfl rfl 4 (by decide) hf29 (fun _ h9 => h9) rfl dX1_ringBell_1 ?_
  refine lv_iload_n hx hb dX1_ringBell_4 rfl (lv_at hl 1 rfl) ?_
  refine zk_R (D := D) (va_runV (As := [.int (nI k)]) (rest := []) ⟨hx, hb, hml, hown, hts⟩ (c_X2_isUp l D cI a σ (k := k) hk _) (cwV 1 hts gX1_ringBell_X2_isUp rfl rfl rfl zdX2_isUp ⟨Nat.le_of_ble_eq_true rfl, Nat.le_of_ble_eq_true rfl⟩) ⟨zbl _, va_recv hK hP (ci := 2) (q0 := 2) rfl rfl, zpr hK hP hD⟩ rfl rfl hl.1 rfl (lv_room (Nat.le_of_ble_eq_true rfl)) dX1_ringBell_5 ⟨Nat.zero_le _, Nat.zero_le _⟩) hS (fun r_1 H locs hw hkp hS => ?_)
  have hP := hkp _ hP
  rcases hw with ⟨c_2, rfl⟩ | ⟨c_2, rfl⟩
  · refine lv_if_ne (tgt := 19) hx hb dX1_ringBell_8 (by decide) (fun _ => ?_) (fun c => absurd c (by decide))
    have e9 : f_ring σ h k = σ := by simp only [f_ring, if_pos c_2]
    have hP9 : va_P D vwCl (zw_H cI a (f_ring σ h k)) H := by rw [e9]; exact hP
    have hD9 : va_D A (zw_H cI a (f_ring σ h k)) := by rw [e9]; exact hD
    exact W.vret hx hb hr (fun t ht hW => ⟨⟨(), rfl, trivial, by rw [ht]; exact hP9, va_K.moved hW.alike hK, hD9⟩, hS.F ht⟩) hS.2.2 dX1_ringBell_19
  · refine lv_if_ne (tgt := 19) hx hb dX1_ringBell_8 (by decide) (fun c => absurd (by decide) c) (fun _ => ?_)
    refine lv_aload_n hx hb dX1_ringBell_11 rfl (lv_at hl 0 rfl) ?_
    refine lv_iload_n hx hb dX1_ringBell_12 rfl (lv_at hl 1 rfl) ?_
    refine zk_R (D := D) (va_runV (As := [.int (nI k)]) (rest := []) ⟨hx, hb, hml, hown, hts⟩ (c_X1_isInWatch l D cI a σ (k := k) hk hC _) (cwV 1 hts gX1_ringBell_X1_isInWatch rfl rfl rfl zdX1_isInWatch ⟨Nat.le_of_ble_eq_true rfl, Nat.le_of_ble_eq_true rfl⟩) ⟨zbl _, va_recv hK hP (ci := 1) (q0 := 0) rfl rfl, zpr hK hP hD⟩ rfl rfl hl.1 rfl (lv_room (Nat.le_of_ble_eq_true rfl)) dX1_ringBell_13 ⟨Nat.zero_le _, Nat.zero_le _⟩) hS (fun r_5 H locs hw hkp hS => ?_)
    have hP := hkp _ hP
    rcases hw with ⟨c_6, rfl⟩ | ⟨c_6, rfl⟩
    · refine lv_if_eq (tgt := 20) hx hb dX1_ringBell_16 (by decide) (fun c => absurd c (by decide)) (fun _ => ?_)
      have e9 : f_ring σ h k = σ := by simp only [f_ring, if_neg c_2, if_pos c_6]
      have hP9 : va_P D vwCl (zw_H cI a (f_ring σ h k)) H := by rw [e9]; exact hP
      have hD9 : va_D A (zw_H cI a (f_ring σ h k)) := by rw [e9]; exact hD
      exact W.vret hx hb hr (fun t ht hW => ⟨⟨(), rfl, trivial, by rw [ht]; exact hP9, va_K.moved hW.alike hK, hD9⟩, hS.F ht⟩) hS.2.2 dX1_ringBell_19
    · refine lv_if_eq (tgt := 20) hx hb dX1_ringBell_16 (by decide) (fun _ => ?_) (fun c => absurd (by decide) c)
      refine lv_aload_n hx hb dX1_ringBell_20 rfl (lv_at hl 0 rfl) ?_
      refine va_get (D := D) (ci := 1) (v := .int (σ 0 1)) (C := RX1) (T := TX1) (N := 5) hx hb hts hinX1 hown hK hP 0 rfl rfl 1 (by decide) hf13 (fun _ h9 => h9) rfl dX1_ringBell_21 ?_
      refine lv_iconst (v := 2) hx hb dX1_ringBell_24 (by decide) ?_
      refine lv_aload_n hx hb dX1_ringBell_25 rfl (lv_at hl 0 rfl) ?_
      refine lv_iload_n hx hb dX1_ringBell_26 rfl (lv_at hl 1 rfl) ?_
      refine zk_R (D := D) (va_runV (As := [.int (nI k)]) (rest := [.int 2, .int (σ 0 1)]) ⟨hx, hb, hml, hown, hts⟩ (c_X1_hoursSinceWatch l D cI a σ (k := k) hk hC _) (cwV 1 hts gX1_ringBell_X1_hoursSinceWatch rfl rfl rfl zdX1_hoursSinceWatch ⟨Nat.le_of_ble_eq_true rfl, Nat.le_of_ble_eq_true rfl⟩) ⟨zbl _, va_recv hK hP (ci := 1) (q0 := 0) rfl rfl, zpr hK hP hD⟩ rfl rfl hl.1 rfl (lv_room (Nat.le_of_ble_eq_true rfl)) dX1_ringBell_27 ⟨Nat.zero_le _, Nat.zero_le _⟩) hS (fun r_9 H locs hw hkp hS => ?_)
      have hP := hkp _ hP
      subst hw
      refine lv_imul hx hb dX1_ringBell_30 ?_
      refine lv_iadd hx hb dX1_ringBell_31 ?_
      refine lv_istore_n (lv' := [(2, .int ((σ 0 1) + (2 * (nI ((h % 24 + 24 - ((σ 6 k).toNatClampNeg + 1) * 8) % 24))))), (0, .ref (a 0)), (1, .int (nI k))]) hx hb dX1_ringBell_32 rfl hl (by decide) rfl (fun ls hl => ?_)
      refine lv_iload_n hx hb dX1_ringBell_33 rfl (lv_at hl 0 rfl) ?_
      refine lv_aload_n hx hb dX1_ringBell_34 rfl (lv_at hl 1 rfl) ?_
      refine va_get (D := D) (ci := 1) (v := .ref (a 2)) (C := RX1) (T := TX1) (N := 5) hx hb hts hinX1 hown hK hP 0 rfl rfl 4 (by decide) hf29 (fun _ h9 => h9) rfl dX1_ringBell_35 ?_
      refine va_get (D := D) (ci := 2) (v := .ref (a 9)) (C := RX2) (T := TX2) (N := 13) hx hb hts hinX2 hown hK hP 2 rfl rfl 2 (by decide) hf96 (fun _ h9 => h9) rfl dX1_ringBell_38 ?_
      refine lv_iload_n hx hb dX1_ringBell_41 rfl (lv_at hl 2 rfl) ?_
      refine zk_ld hx hb hK hP 9 0 (zwq7 cI a _) rfl (k := k) hk (by decide) (v := σ 7 k) rfl dX1_ringBell_42 ?_
      refine lv_icmp_lt (tgt := 54) hx hb dX1_ringBell_43 (by decide) (fun c_10 => ?_) (fun c_10 => ?_)
      · refine lv_aload_n hx hb dX1_ringBell_54 rfl (lv_at hl 1 rfl) ?_
        refine va_get (D := D) (ci := 1) (v := .ref (a 2)) (C := RX1) (T := TX1) (N := 5) hx hb hts hinX1 hown hK hP 0 rfl rfl 4 (by decide) hf29 (fun _ h9 => h9) rfl dX1_ringBell_55 ?_
        refine lv_iload_n hx hb dX1_ringBell_58 rfl (lv_at hl 2 rfl) ?_
        have hF := zfree hD hS hA
        refine zk_V (va_runV (As := [.int (nI k)]) (rest := []) ⟨hx, hb, hml, hown, hts⟩ (c_X2_beLate l D cI a σ (k := k) hk _) (cwV 1 hts gX1_ringBell_X2_beLate rfl rfl rfl zdX2_beLate ⟨Nat.le_of_ble_eq_true rfl, Nat.le_of_ble_eq_true rfl⟩) ⟨zbl _, va_recv hK hP (ci := 2) (q0 := 2) rfl rfl, zpr hK hP hD⟩ rfl rfl hl.1 rfl (lv_room (Nat.le_of_ble_eq_true rfl)) dX1_ringBell_59 ⟨Nat.zero_le _, Nat.zero_le _⟩) hS hF (fun H locs hkp hP1 hD1 hS => ?_)
        have hP := hP1
        have hD := hD1.weaken (fun _ _ _ z => hF _ z)
        have hP : va_P D vwCl (zw_H cI a (f_late σ k)) H := hP
        have hD : va_D A (zw_H cI a (f_late σ k)) := hD
        have e9 : f_ring σ h k = f_late σ k := by simp only [f_ring, if_neg c_2, if_neg c_6, if_pos c_10]
        have hP9 : va_P D vwCl (zw_H cI a (f_ring σ h k)) H := by rw [e9]; exact hP
        have hD9 : va_D A (zw_H cI a (f_ring σ h k)) := by rw [e9]; exact hD
        exact W.vret hx hb hr (fun t ht hW => ⟨⟨(), rfl, trivial, by rw [ht]; exact hP9, va_K.moved hW.alike hK, hD9⟩, hS.F ht⟩) hS.2.2 dX1_ringBell_62
      · refine lv_aload_n hx hb dX1_ringBell_46 rfl (lv_at hl 1 rfl) ?_
        refine lv_iload_n hx hb dX1_ringBell_47 rfl (lv_at hl 2 rfl) ?_
        have hF := zfree hD hS hA
        refine zk_V (va_runV (As := [.int (nI k)]) (rest := []) ⟨hx, hb, hml, hown, hts⟩ (c_X1_getUp l D cI a σ (k := k) hk hC _) (cwV 1 hts gX1_ringBell_X1_getUp rfl rfl rfl zdX1_getUp ⟨Nat.le_of_ble_eq_true rfl, Nat.le_of_ble_eq_true rfl⟩) ⟨zbl _, va_recv hK hP (ci := 1) (q0 := 0) rfl rfl, zpr hK hP hD⟩ rfl rfl hl.1 rfl (lv_room (Nat.le_of_ble_eq_true rfl)) dX1_ringBell_48 ⟨Nat.zero_le _, Nat.zero_le _⟩) hS hF (fun H locs hkp hP1 hD1 hS => ?_)
        have hP := hP1
        have hD := hD1.weaken (fun _ _ _ z => hF _ z)
        have hP : va_P D vwCl (zw_H cI a (f_getUp σ k)) H := hP
        have hD : va_D A (zw_H cI a (f_getUp σ k)) := hD
        refine lv_goto (tgt := 62) hx hb dX1_ringBell_51 (by decide) ?_
        have e9 : f_ring σ h k = f_getUp σ k := by simp only [f_ring, if_neg c_2, if_neg c_6, if_neg c_10]
        have hP9 : va_P D vwCl (zw_H cI a (f_ring σ h k)) H := by rw [e9]; exact hP
        have hD9 : va_D A (zw_H cI a (f_ring σ h k)) := by rw [e9]; exact hD
        exact W.vret hx hb hr (fun t ht hW => ⟨⟨(), rfl, trivial, by rw [ht]; exact hP9, va_K.moved hW.alike hK, hD9⟩, hS.F ht⟩) hS.2.2 dX1_ringBell_62

set_option maxHeartbeats 4000000 in
set_option maxRecDepth 100000 in
theorem c_X1_getInto (l : Launch) (D : va_G) (cI : ClassId) (a : Nat → Nat) (σ : zS) {k b : Nat} (hk : k < 10) (hb6 : b < 6) : zMV l yX1_getInto wsX1_getInto ({ frames := 0, cells := 0, slots := 0, locals := 0 }) [.ref (a 0), .int (nI k), .int (nI b)] D [(cI, .int)] (zw_H cI a σ) (zw_H cI a (f_into σ k b)) := by
  intro sz
  refine Met.ofW (cc := cX1_getInto) (maxL := 4) (ret := none) (by decide) rfl ?_
  intro p e s m args below meth c s₁ B hml hv
  obtain ⟨rfl, hsz, hP, hK, hD⟩ := hv
  have hx := B.exec
  have hb := B.bytes
  have hr := B.returns
  have hts := atoms_spec (ws := wsX1_getInto) B.pre
  have hown : s.vm.findClass RX1 = some m.cls := findClass_of_methodNamed B.named
  have hlocks := B.notSynchronized
  subst hsz
  have hD := hD.self (sz := s.heap.size)
  generalize hAe : va_A (zw_H cI a σ) s.heap.size = A at hD ⊢
  have hA : ∀ q : Nat, s.heap.size ≤ q → A q := fun q h => by rw [← hAe]; exact Or.inr h
  have hS : va_S A s.heap s.heap [] := va_S.rf
  have hP : va_P D vwCl (zw_H cI a σ) s.heap := hP
  have hl := lv_entry ([.ref (a 0), .int (nI k), .int (nI b)]) (n := 4) (Nat.le_of_ble_eq_true rfl)
  rw [lg_entry_eq]
  generalize (lg_sl ([.ref (a 0), .int (nI k), .int (nI b)]) ++ List.replicate (4 - (lg_sl ([.ref (a 0), .int (nI k), .int (nI b)])).length) Slot.unset).toArray = ls at hl ⊢
  have hl : lv_has ls 4 [(0, .ref (a 0)), (1, .int (nI k)), (2, .int (nI b))] := hl
  have hf139 := hts (.fieldLink RX1 139 "HotBeds$Beds" "price" "[I") (by decide +kernel)
  have hf148 := hts (.fieldLink RX1 148 "HotBeds$Beds" "paid" "[I") (by decide +kernel)
  have hf151 := hts (.fieldLink RX1 151 "HotBeds$Beds" "entries" "[I") (by decide +kernel)
  have hf22 := hts (.fieldLink RX1 22 "HotBeds$House" "beds" "LHotBeds$Beds;") (by decide +kernel)
  have hf29 := hts (.fieldLink RX1 29 "HotBeds$House" "sailors" "LHotBeds$Sailors;") (by decide +kernel)
  have hf61 := hts (.fieldLink RX1 61 "HotBeds$Sailors" "bed" "[I") (by decide +kernel)
  have hf68 := hts (.fieldLink RX1 68 "HotBeds$Beds" "sleeper" "[I") (by decide +kernel)
  have hf71 := hts (.fieldLink RX1 71 "HotBeds$Sailors" "place" "[I") (by decide +kernel)
  have hf84 := hts (.fieldLink RX1 84 "HotBeds$Sailors" "purse" "[I") (by decide +kernel)
  have hinX0 : ∀ w ∈ u_ws RX0 TX0 6, w ∈ wsX1_getInto := by decide +kernel
  have hinX1 : ∀ w ∈ u_ws RX1 TX1 5, w ∈ wsX1_getInto := by decide +kernel
  have hinX2 : ∀ w ∈ u_ws RX2 TX2 13, w ∈ wsX1_getInto := by decide +kernel
  refine lv_aload_n hx hb dX1_getInto_0 rfl (lv_at hl 0 rfl) ?_
  refine va_get (D := D) (ci := 1) (v := .ref (a 1)) (C := RX1) (T := TX1) (N := 5) hx hb hts hinX1 hown hK hP 0 rfl rfl 3 (by decide) hf22 (fun _ h9 => h9) rfl dX1_getInto_1 ?_
  refine va_get (D := D) (ci := 0) (v := .ref (a 3)) (C := RX0) (T := TX0) (N := 6) hx hb hts hinX0 hown hK hP 1 rfl rfl 1 (by decide) hf139 (fun _ h9 => h9) rfl dX1_getInto_4 ?_
  refine lv_iload_n hx hb dX1_getInto_7 rfl (lv_at hl 2 rfl) ?_
  refine zk_ld hx hb hK hP 3 0 (zwq1 cI a _) rfl (k := b) hb6 (by decide) (v := σ 1 b) rfl dX1_getInto_8 ?_
  refine lv_istore_n (lv' := [(3, .int (σ 1 b)), (0, .ref (a 0)), (1, .int (nI k)), (2, .int (nI b))]) hx hb dX1_getInto_9 rfl hl (by decide) rfl (fun ls hl => ?_)
  refine lv_aload_n hx hb dX1_getInto_10 rfl (lv_at hl 1 rfl) ?_
  refine va_get (D := D) (ci := 1) (v := .ref (a 2)) (C := RX1) (T := TX1) (N := 5) hx hb hts hinX1 hown hK hP 0 rfl rfl 4 (by decide) hf29 (fun _ h9 => h9) rfl dX1_getInto_11 ?_
  refine va_get (D := D) (ci := 2) (v := .ref (a 11)) (C := RX2) (T := TX2) (N := 13) hx hb hts hinX2 hown hK hP 2 rfl rfl 4 (by decide) hf84 (fun _ h9 => h9) rfl dX1_getInto_14 ?_
  refine lv_iload_n hx hb dX1_getInto_17 rfl (lv_at hl 2 rfl) ?_
  refine lv_dup2_11 hx hb dX1_getInto_18 rfl rfl ?_
  refine zk_ld hx hb hK hP 11 0 (zwq9 cI a _) rfl (k := k) hk (by decide) (v := σ 9 k) rfl dX1_getInto_19 ?_
  refine lv_iload_n hx hb dX1_getInto_20 rfl (lv_at hl 0 rfl) ?_
  refine lv_isub hx hb dX1_getInto_21 ?_
  refine zk_st hx hb hK hP hD hS 11 0 (zwq9 cI a _) rfl (k := k) hk (by decide) (zws9 cI a _ _ _) dX1_getInto_22 (fun H locs hP hD hS => ?_)
  have hP : va_P D vwCl (zw_H cI a (zs σ 9 k ((σ 9 k) - (σ 1 b)))) H := hP
  have hD : va_D A (zw_H cI a (zs σ 9 k ((σ 9 k) - (σ 1 b)))) := hD
  refine lv_aload_n hx hb dX1_getInto_23 rfl (lv_at hl 1 rfl) ?_
  refine va_get (D := D) (ci := 1) (v := .ref (a 2)) (C := RX1) (T := TX1) (N := 5) hx hb hts hinX1 hown hK hP 0 rfl rfl 4 (by decide) hf29 (fun _ h9 => h9) rfl dX1_getInto_24 ?_
  refine va_get (D := D) (ci := 2) (v := .ref (a 14)) (C := RX2) (T := TX2) (N := 13) hx hb hts hinX2 hown hK hP 2 rfl rfl 7 (by decide) hf71 (fun _ h9 => h9) rfl dX1_getInto_27 ?_
  refine lv_iload_n hx hb dX1_getInto_30 rfl (lv_at hl 2 rfl) ?_
  refine lv_iconst (v := 1) hx hb dX1_getInto_31 (by decide) ?_
  refine zk_st hx hb hK hP hD hS 14 0 (zwq12 cI a _) rfl (k := k) hk (by decide) (zws12 cI a _ _ _) dX1_getInto_32 (fun H locs hP hD hS => ?_)
  have hP : va_P D vwCl (zw_H cI a (zs (zs σ 9 k ((σ 9 k) - (σ 1 b))) 12 k 1)) H := hP
  have hD : va_D A (zw_H cI a (zs (zs σ 9 k ((σ 9 k) - (σ 1 b))) 12 k 1)) := hD
  refine lv_aload_n hx hb dX1_getInto_33 rfl (lv_at hl 1 rfl) ?_
  refine va_get (D := D) (ci := 1) (v := .ref (a 2)) (C := RX1) (T := TX1) (N := 5) hx hb hts hinX1 hown hK hP 0 rfl rfl 4 (by decide) hf29 (fun _ h9 => h9) rfl dX1_getInto_34 ?_
  refine va_get (D := D) (ci := 2) (v := .ref (a 15)) (C := RX2) (T := TX2) (N := 13) hx hb hts hinX2 hown hK hP 2 rfl rfl 8 (by decide) hf61 (fun _ h9 => h9) rfl dX1_getInto_37 ?_
  refine lv_iload_n hx hb dX1_getInto_40 rfl (lv_at hl 2 rfl) ?_
  refine lv_iload_n hx hb dX1_getInto_41 rfl (lv_at hl 3 rfl) ?_
  refine zk_st hx hb hK hP hD hS 15 0 (zwq13 cI a _) rfl (k := k) hk (by decide) (zws13 cI a _ _ _) dX1_getInto_42 (fun H locs hP hD hS => ?_)
  have hP : va_P D vwCl (zw_H cI a (zs (zs (zs σ 9 k ((σ 9 k) - (σ 1 b))) 12 k 1) 13 k (nI b))) H := hP
  have hD : va_D A (zw_H cI a (zs (zs (zs σ 9 k ((σ 9 k) - (σ 1 b))) 12 k 1) 13 k (nI b))) := hD
  refine lv_aload_n hx hb dX1_getInto_43 rfl (lv_at hl 1 rfl) ?_
  refine va_get (D := D) (ci := 1) (v := .ref (a 1)) (C := RX1) (T := TX1) (N := 5) hx hb hts hinX1 hown hK hP 0 rfl rfl 3 (by decide) hf22 (fun _ h9 => h9) rfl dX1_getInto_44 ?_
  refine va_get (D := D) (ci := 0) (v := .ref (a 6)) (C := RX0) (T := TX0) (N := 6) hx hb hts hinX0 hown hK hP 1 rfl rfl 4 (by decide) hf148 (fun _ h9 => h9) rfl dX1_getInto_47 ?_
  refine lv_iload_n hx hb dX1_getInto_50 rfl (lv_at hl 3 rfl) ?_
  refine lv_dup2_11 hx hb dX1_getInto_51 rfl rfl ?_
  refine zk_ld hx hb hK hP 6 0 (zwq4 cI a _) rfl (k := b) hb6 (by decide) (v := σ 4 b) rfl dX1_getInto_52 ?_
  refine lv_iload_n hx hb dX1_getInto_53 rfl (lv_at hl 0 rfl) ?_
  refine lv_iadd hx hb dX1_getInto_54 ?_
  refine zk_st hx hb hK hP hD hS 6 0 (zwq4 cI a _) rfl (k := b) hb6 (by decide) (zws4 cI a _ _ _) dX1_getInto_55 (fun H locs hP hD hS => ?_)
  have hP : va_P D vwCl (zw_H cI a (zs (zs (zs (zs σ 9 k ((σ 9 k) - (σ 1 b))) 12 k 1) 13 k (nI b)) 4 b ((σ 4 b) + (σ 1 b)))) H := hP
  have hD : va_D A (zw_H cI a (zs (zs (zs (zs σ 9 k ((σ 9 k) - (σ 1 b))) 12 k 1) 13 k (nI b)) 4 b ((σ 4 b) + (σ 1 b)))) := hD
  refine lv_aload_n hx hb dX1_getInto_56 rfl (lv_at hl 1 rfl) ?_
  refine va_get (D := D) (ci := 1) (v := .ref (a 1)) (C := RX1) (T := TX1) (N := 5) hx hb hts hinX1 hown hK hP 0 rfl rfl 3 (by decide) hf22 (fun _ h9 => h9) rfl dX1_getInto_57 ?_
  refine va_get (D := D) (ci := 0) (v := .ref (a 5)) (C := RX0) (T := TX0) (N := 6) hx hb hts hinX0 hown hK hP 1 rfl rfl 3 (by decide) hf151 (fun _ h9 => h9) rfl dX1_getInto_60 ?_
  refine lv_iload_n hx hb dX1_getInto_63 rfl (lv_at hl 3 rfl) ?_
  refine lv_dup2_11 hx hb dX1_getInto_64 rfl rfl ?_
  refine zk_ld hx hb hK hP 5 0 (zwq3 cI a _) rfl (k := b) hb6 (by decide) (v := σ 3 b) rfl dX1_getInto_65 ?_
  refine lv_iconst (v := 1) hx hb dX1_getInto_66 (by decide) ?_
  refine lv_iadd hx hb dX1_getInto_67 ?_
  refine zk_st hx hb hK hP hD hS 5 0 (zwq3 cI a _) rfl (k := b) hb6 (by decide) (zws3 cI a _ _ _) dX1_getInto_68 (fun H locs hP hD hS => ?_)
  have hP : va_P D vwCl (zw_H cI a (zs (zs (zs (zs (zs σ 9 k ((σ 9 k) - (σ 1 b))) 12 k 1) 13 k (nI b)) 4 b ((σ 4 b) + (σ 1 b))) 3 b ((σ 3 b) + 1))) H := hP
  have hD : va_D A (zw_H cI a (zs (zs (zs (zs (zs σ 9 k ((σ 9 k) - (σ 1 b))) 12 k 1) 13 k (nI b)) 4 b ((σ 4 b) + (σ 1 b))) 3 b ((σ 3 b) + 1))) := hD
  refine lv_aload_n hx hb dX1_getInto_69 rfl (lv_at hl 1 rfl) ?_
  refine va_get (D := D) (ci := 1) (v := .ref (a 1)) (C := RX1) (T := TX1) (N := 5) hx hb hts hinX1 hown hK hP 0 rfl rfl 3 (by decide) hf22 (fun _ h9 => h9) rfl dX1_getInto_70 ?_
  refine va_get (D := D) (ci := 0) (v := .ref (a 7)) (C := RX0) (T := TX0) (N := 6) hx hb hts hinX0 hown hK hP 1 rfl rfl 5 (by decide) hf68 (fun _ h9 => h9) rfl dX1_getInto_73 ?_
  refine lv_iload_n hx hb dX1_getInto_76 rfl (lv_at hl 3 rfl) ?_
  refine lv_iload_n hx hb dX1_getInto_77 rfl (lv_at hl 2 rfl) ?_
  refine zk_st hx hb hK hP hD hS 7 0 (zwq5 cI a _) rfl (k := b) hb6 (by decide) (zws5 cI a _ _ _) dX1_getInto_78 (fun H locs hP hD hS => ?_)
  have hP : va_P D vwCl (zw_H cI a (zs (zs (zs (zs (zs (zs σ 9 k ((σ 9 k) - (σ 1 b))) 12 k 1) 13 k (nI b)) 4 b ((σ 4 b) + (σ 1 b))) 3 b ((σ 3 b) + 1)) 5 b (nI k))) H := hP
  have hD : va_D A (zw_H cI a (zs (zs (zs (zs (zs (zs σ 9 k ((σ 9 k) - (σ 1 b))) 12 k 1) 13 k (nI b)) 4 b ((σ 4 b) + (σ 1 b))) 3 b ((σ 3 b) + 1)) 5 b (nI k))) := hD
  have e9 : f_into σ k b = zs (zs (zs (zs (zs (zs σ 9 k ((σ 9 k) - (σ 1 b))) 12 k 1) 13 k (nI b)) 4 b ((σ 4 b) + (σ 1 b))) 3 b ((σ 3 b) + 1)) 5 b (nI k) := by simp only [f_into]
  have hP9 : va_P D vwCl (zw_H cI a (f_into σ k b)) H := by rw [e9]; exact hP
  have hD9 : va_D A (zw_H cI a (f_into σ k b)) := by rw [e9]; exact hD
  exact W.vret hx hb hr (fun t ht hW => ⟨⟨(), rfl, trivial, by rw [ht]; exact hP9, va_K.moved hW.alike hK, hD9⟩, hS.F ht⟩) hS.2.2 dX1_getInto_79

set_option maxHeartbeats 4000000 in
set_option maxRecDepth 100000 in
theorem c_X1_tryBed (l : Launch) (D : va_G) (cI : ClassId) (a : Nat → Nat) (σ : zS) {k b : Nat} (hk : k < 10) (hb6 : b < 6) : zMV l yX1_tryBed wsX1_tryBed ({ frames := 3, cells := 0, slots := 0, locals := 58 }) [.ref (a 0), .int (nI k), .int (nI b)] D [(cI, .int)] (zw_H cI a σ) (zw_H cI a (f_try σ k b)) := by
  intro sz
  refine Met.ofW (cc := cX1_tryBed) (maxL := 5) (ret := none) (by decide) rfl ?_
  intro p e s m args below meth c s₁ B hml hv
  obtain ⟨rfl, hsz, hP, hK, hD⟩ := hv
  have hx := B.exec
  have hb := B.bytes
  have hr := B.returns
  have hts := atoms_spec (ws := wsX1_tryBed) B.pre
  have hown : s.vm.findClass RX1 = some m.cls := findClass_of_methodNamed B.named
  have hlocks := B.notSynchronized
  subst hsz
  have hD := hD.self (sz := s.heap.size)
  generalize hAe : va_A (zw_H cI a σ) s.heap.size = A at hD ⊢
  have hA : ∀ q : Nat, s.heap.size ≤ q → A q := fun q h => by rw [← hAe]; exact Or.inr h
  have hS : va_S A s.heap s.heap [] := va_S.rf
  have hP : va_P D vwCl (zw_H cI a σ) s.heap := hP
  have hl := lv_entry ([.ref (a 0), .int (nI k), .int (nI b)]) (n := 5) (Nat.le_of_ble_eq_true rfl)
  rw [lg_entry_eq]
  generalize (lg_sl ([.ref (a 0), .int (nI k), .int (nI b)]) ++ List.replicate (5 - (lg_sl ([.ref (a 0), .int (nI k), .int (nI b)])).length) Slot.unset).toArray = ls at hl ⊢
  have hl : lv_has ls 5 [(0, .ref (a 0)), (1, .int (nI k)), (2, .int (nI b))] := hl
  have hf139 := hts (.fieldLink RX1 139 "HotBeds$Beds" "price" "[I") (by decide +kernel)
  have hf16 := hts (.fieldLink RX1 16 "HotBeds$House" "pawn" "I") (by decide +kernel)
  have hf22 := hts (.fieldLink RX1 22 "HotBeds$House" "beds" "LHotBeds$Beds;") (by decide +kernel)
  have hf29 := hts (.fieldLink RX1 29 "HotBeds$House" "sailors" "LHotBeds$Sailors;") (by decide +kernel)
  have hf84 := hts (.fieldLink RX1 84 "HotBeds$Sailors" "purse" "[I") (by decide +kernel)
  have hinX0 : ∀ w ∈ u_ws RX0 TX0 6, w ∈ wsX1_tryBed := by decide +kernel
  have hinX1 : ∀ w ∈ u_ws RX1 TX1 5, w ∈ wsX1_tryBed := by decide +kernel
  have hinX2 : ∀ w ∈ u_ws RX2 TX2 13, w ∈ wsX1_tryBed := by decide +kernel
  refine lv_aload_n hx hb dX1_tryBed_0 rfl (lv_at hl 0 rfl) ?_
  refine va_get (D := D) (ci := 1) (v := .ref (a 1)) (C := RX1) (T := TX1) (N := 5) hx hb hts hinX1 hown hK hP 0 rfl rfl 3 (by decide) hf22 (fun _ h9 => h9) rfl dX1_tryBed_1 ?_
  refine va_get (D := D) (ci := 0) (v := .ref (a 3)) (C := RX0) (T := TX0) (N := 6) hx hb hts hinX0 hown hK hP 1 rfl rfl 1 (by decide) hf139 (fun _ h9 => h9) rfl dX1_tryBed_4 ?_
  refine lv_iload_n hx hb dX1_tryBed_7 rfl (lv_at hl 2 rfl) ?_
  refine zk_ld hx hb hK hP 3 0 (zwq1 cI a _) rfl (k := b) hb6 (by decide) (v := σ 1 b) rfl dX1_tryBed_8 ?_
  refine lv_istore_n (lv' := [(3, .int (σ 1 b)), (0, .ref (a 0)), (1, .int (nI k)), (2, .int (nI b))]) hx hb dX1_tryBed_9 rfl hl (by decide) rfl (fun ls hl => ?_)
  refine lv_aload_n hx hb dX1_tryBed_10 rfl (lv_at hl 1 rfl) ?_
  refine va_get (D := D) (ci := 1) (v := .ref (a 2)) (C := RX1) (T := TX1) (N := 5) hx hb hts hinX1 hown hK hP 0 rfl rfl 4 (by decide) hf29 (fun _ h9 => h9) rfl dX1_tryBed_11 ?_
  refine va_get (D := D) (ci := 2) (v := .ref (a 11)) (C := RX2) (T := TX2) (N := 13) hx hb hts hinX2 hown hK hP 2 rfl rfl 4 (by decide) hf84 (fun _ h9 => h9) rfl dX1_tryBed_14 ?_
  refine lv_iload_n hx hb dX1_tryBed_17 rfl (lv_at hl 2 rfl) ?_
  refine zk_ld hx hb hK hP 11 0 (zwq9 cI a _) rfl (k := k) hk (by decide) (v := σ 9 k) rfl dX1_tryBed_18 ?_
  refine lv_istore (lv' := [(4, .int (σ 9 k)), (3, .int (σ 1 b)), (0, .ref (a 0)), (1, .int (nI k)), (2, .int (nI b))]) hx hb dX1_tryBed_19 hl (by decide) rfl (fun ls hl => ?_)
  refine lv_iload hx hb dX1_tryBed_21 (lv_at hl 0 rfl) ?_
  refine lv_iload_n hx hb dX1_tryBed_23 rfl (lv_at hl 1 rfl) ?_
  refine lv_icmp_ge (tgt := 54) hx hb dX1_tryBed_24 (by decide) (fun c_1 => ?_) (fun c_1 => ?_)
  · refine lv_aload_n hx hb dX1_tryBed_54 rfl (lv_at hl 2 rfl) ?_
    refine va_get (D := D) (ci := 1) (v := .ref (a 2)) (C := RX1) (T := TX1) (N := 5) hx hb hts hinX1 hown hK hP 0 rfl rfl 4 (by decide) hf29 (fun _ h9 => h9) rfl dX1_tryBed_55 ?_
    refine va_get (D := D) (ci := 2) (v := .ref (a 11)) (C := RX2) (T := TX2) (N := 13) hx hb hts hinX2 hown hK hP 2 rfl rfl 4 (by decide) hf84 (fun _ h9 => h9) rfl dX1_tryBed_58 ?_
    refine lv_iload_n hx hb dX1_tryBed_61 rfl (lv_at hl 3 rfl) ?_
    refine zk_ld hx hb hK hP 11 0 (zwq9 cI a _) rfl (k := k) hk (by decide) (v := σ 9 k) rfl dX1_tryBed_62 ?_
    refine lv_iload_n hx hb dX1_tryBed_63 rfl (lv_at hl 1 rfl) ?_
    refine lv_icmp_lt (tgt := 76) hx hb dX1_tryBed_64 (by decide) (fun c_2 => ?_) (fun c_2 => ?_)
    · refine lv_aload_n hx hb dX1_tryBed_76 rfl (lv_at hl 2 rfl) ?_
      refine va_get (D := D) (ci := 1) (v := .ref (a 2)) (C := RX1) (T := TX1) (N := 5) hx hb hts hinX1 hown hK hP 0 rfl rfl 4 (by decide) hf29 (fun _ h9 => h9) rfl dX1_tryBed_77 ?_
      refine lv_iload_n hx hb dX1_tryBed_80 rfl (lv_at hl 3 rfl) ?_
      have hF := zfree hD hS hA
      refine zk_V (va_runV (As := [.int (nI k)]) (rest := []) ⟨hx, hb, hml, hown, hts⟩ (c_X2_lieOnFloor l D cI a σ (k := k) hk _) (cwV 1 hts gX1_tryBed_X2_lieOnFloor rfl rfl rfl zdX2_lieOnFloor ⟨Nat.le_of_ble_eq_true rfl, Nat.le_of_ble_eq_true rfl⟩) ⟨zbl _, va_recv hK hP (ci := 2) (q0 := 2) rfl rfl, zpr hK hP hD⟩ rfl rfl hl.1 rfl (lv_room (Nat.le_of_ble_eq_true rfl)) dX1_tryBed_81 ⟨Nat.zero_le _, Nat.zero_le _⟩) hS hF (fun H locs hkp hP1 hD1 hS => ?_)
      have hP := hP1
      have hD := hD1.weaken (fun _ _ _ z => hF _ z)
      have hP : va_P D vwCl (zw_H cI a (f_floor σ k)) H := hP
      have hD : va_D A (zw_H cI a (f_floor σ k)) := hD
      have e9 : f_try σ k b = f_floor σ k := by rw [f_try, show f_try1 σ k b = σ from if_neg (fun z => z.1 c_1), if_pos c_2]
      have hP9 : va_P D vwCl (zw_H cI a (f_try σ k b)) H := by rw [e9]; exact hP
      have hD9 : va_D A (zw_H cI a (f_try σ k b)) := by rw [e9]; exact hD
      exact W.vret hx hb hr (fun t ht hW => ⟨⟨(), rfl, trivial, by rw [ht]; exact hP9, va_K.moved hW.alike hK, hD9⟩, hS.F ht⟩) hS.2.2 dX1_tryBed_84
    · refine lv_aload_n hx hb dX1_tryBed_67 rfl (lv_at hl 2 rfl) ?_
      refine lv_iload_n hx hb dX1_tryBed_68 rfl (lv_at hl 3 rfl) ?_
      refine lv_iload_n hx hb dX1_tryBed_69 rfl (lv_at hl 4 rfl) ?_
      have hF := zfree hD hS hA
      refine zk_V (va_runV (As := [.int (nI k), .int (nI b)]) (rest := []) ⟨hx, hb, hml, hown, hts⟩ (c_X1_getInto l D cI a σ (k := k) (b := b) hk hb6 _) (cwV 2 hts gX1_tryBed_X1_getInto rfl rfl rfl zdX1_getInto ⟨Nat.le_of_ble_eq_true rfl, Nat.le_of_ble_eq_true rfl⟩) ⟨zbl _, va_recv hK hP (ci := 1) (q0 := 0) rfl rfl, zpr hK hP hD⟩ rfl rfl hl.1 rfl (lv_room (Nat.le_of_ble_eq_true rfl)) dX1_tryBed_70 ⟨Nat.zero_le _, Nat.zero_le _⟩) hS hF (fun H locs hkp hP1 hD1 hS => ?_)
      have hP := hP1
      have hD := hD1.weaken (fun _ _ _ z => hF _ z)
      have hP : va_P D vwCl (zw_H cI a (f_into σ k b)) H := hP
      have hD : va_D A (zw_H cI a (f_into σ k b)) := hD
      refine lv_goto (tgt := 84) hx hb dX1_tryBed_73 (by decide) ?_
      have e9 : f_try σ k b = f_into σ k b := by rw [f_try, show f_try1 σ k b = σ from if_neg (fun z => z.1 c_1), if_neg c_2]
      have hP9 : va_P D vwCl (zw_H cI a (f_try σ k b)) H := by rw [e9]; exact hP
      have hD9 : va_D A (zw_H cI a (f_try σ k b)) := by rw [e9]; exact hD
      exact W.vret hx hb hr (fun t ht hW => ⟨⟨(), rfl, trivial, by rw [ht]; exact hP9, va_K.moved hW.alike hK, hD9⟩, hS.F ht⟩) hS.2.2 dX1_tryBed_84
  · refine lv_iload hx hb dX1_tryBed_27 (lv_at hl 0 rfl) ?_
    refine lv_aload_n hx hb dX1_tryBed_29 rfl (lv_at hl 2 rfl) ?_
    refine va_get (D := D) (ci := 1) (v := .int (σ 0 2)) (C := RX1) (T := TX1) (N := 5) hx hb hts hinX1 hown hK hP 0 rfl rfl 2 (by decide) hf16 (fun _ h9 => h9) rfl dX1_tryBed_30 ?_
    refine lv_iadd hx hb dX1_tryBed_33 ?_
    refine lv_iload_n hx hb dX1_tryBed_34 rfl (lv_at hl 1 rfl) ?_
    refine lv_icmp_lt (tgt := 54) hx hb dX1_tryBed_35 (by decide) (fun c_3 => ?_) (fun c_3 => ?_)
    · refine lv_aload_n hx hb dX1_tryBed_54 rfl (lv_at hl 2 rfl) ?_
      refine va_get (D := D) (ci := 1) (v := .ref (a 2)) (C := RX1) (T := TX1) (N := 5) hx hb hts hinX1 hown hK hP 0 rfl rfl 4 (by decide) hf29 (fun _ h9 => h9) rfl dX1_tryBed_55 ?_
      refine va_get (D := D) (ci := 2) (v := .ref (a 11)) (C := RX2) (T := TX2) (N := 13) hx hb hts hinX2 hown hK hP 2 rfl rfl 4 (by decide) hf84 (fun _ h9 => h9) rfl dX1_tryBed_58 ?_
      refine lv_iload_n hx hb dX1_tryBed_61 rfl (lv_at hl 3 rfl) ?_
      refine zk_ld hx hb hK hP 11 0 (zwq9 cI a _) rfl (k := k) hk (by decide) (v := σ 9 k) rfl dX1_tryBed_62 ?_
      refine lv_iload_n hx hb dX1_tryBed_63 rfl (lv_at hl 1 rfl) ?_
      refine lv_icmp_lt (tgt := 76) hx hb dX1_tryBed_64 (by decide) (fun c_4 => ?_) (fun c_4 => ?_)
      · refine lv_aload_n hx hb dX1_tryBed_76 rfl (lv_at hl 2 rfl) ?_
        refine va_get (D := D) (ci := 1) (v := .ref (a 2)) (C := RX1) (T := TX1) (N := 5) hx hb hts hinX1 hown hK hP 0 rfl rfl 4 (by decide) hf29 (fun _ h9 => h9) rfl dX1_tryBed_77 ?_
        refine lv_iload_n hx hb dX1_tryBed_80 rfl (lv_at hl 3 rfl) ?_
        have hF := zfree hD hS hA
        refine zk_V (va_runV (As := [.int (nI k)]) (rest := []) ⟨hx, hb, hml, hown, hts⟩ (c_X2_lieOnFloor l D cI a σ (k := k) hk _) (cwV 1 hts gX1_tryBed_X2_lieOnFloor rfl rfl rfl zdX2_lieOnFloor ⟨Nat.le_of_ble_eq_true rfl, Nat.le_of_ble_eq_true rfl⟩) ⟨zbl _, va_recv hK hP (ci := 2) (q0 := 2) rfl rfl, zpr hK hP hD⟩ rfl rfl hl.1 rfl (lv_room (Nat.le_of_ble_eq_true rfl)) dX1_tryBed_81 ⟨Nat.zero_le _, Nat.zero_le _⟩) hS hF (fun H locs hkp hP1 hD1 hS => ?_)
        have hP := hP1
        have hD := hD1.weaken (fun _ _ _ z => hF _ z)
        have hP : va_P D vwCl (zw_H cI a (f_floor σ k)) H := hP
        have hD : va_D A (zw_H cI a (f_floor σ k)) := hD
        have e9 : f_try σ k b = f_floor σ k := by rw [f_try, show f_try1 σ k b = σ from if_neg (fun z => z.2.1 c_3), if_pos c_4]
        have hP9 : va_P D vwCl (zw_H cI a (f_try σ k b)) H := by rw [e9]; exact hP
        have hD9 : va_D A (zw_H cI a (f_try σ k b)) := by rw [e9]; exact hD
        exact W.vret hx hb hr (fun t ht hW => ⟨⟨(), rfl, trivial, by rw [ht]; exact hP9, va_K.moved hW.alike hK, hD9⟩, hS.F ht⟩) hS.2.2 dX1_tryBed_84
      · refine lv_aload_n hx hb dX1_tryBed_67 rfl (lv_at hl 2 rfl) ?_
        refine lv_iload_n hx hb dX1_tryBed_68 rfl (lv_at hl 3 rfl) ?_
        refine lv_iload_n hx hb dX1_tryBed_69 rfl (lv_at hl 4 rfl) ?_
        have hF := zfree hD hS hA
        refine zk_V (va_runV (As := [.int (nI k), .int (nI b)]) (rest := []) ⟨hx, hb, hml, hown, hts⟩ (c_X1_getInto l D cI a σ (k := k) (b := b) hk hb6 _) (cwV 2 hts gX1_tryBed_X1_getInto rfl rfl rfl zdX1_getInto ⟨Nat.le_of_ble_eq_true rfl, Nat.le_of_ble_eq_true rfl⟩) ⟨zbl _, va_recv hK hP (ci := 1) (q0 := 0) rfl rfl, zpr hK hP hD⟩ rfl rfl hl.1 rfl (lv_room (Nat.le_of_ble_eq_true rfl)) dX1_tryBed_70 ⟨Nat.zero_le _, Nat.zero_le _⟩) hS hF (fun H locs hkp hP1 hD1 hS => ?_)
        have hP := hP1
        have hD := hD1.weaken (fun _ _ _ z => hF _ z)
        have hP : va_P D vwCl (zw_H cI a (f_into σ k b)) H := hP
        have hD : va_D A (zw_H cI a (f_into σ k b)) := hD
        refine lv_goto (tgt := 84) hx hb dX1_tryBed_73 (by decide) ?_
        have e9 : f_try σ k b = f_into σ k b := by rw [f_try, show f_try1 σ k b = σ from if_neg (fun z => z.2.1 c_3), if_neg c_4]
        have hP9 : va_P D vwCl (zw_H cI a (f_try σ k b)) H := by rw [e9]; exact hP
        have hD9 : va_D A (zw_H cI a (f_try σ k b)) := by rw [e9]; exact hD
        exact W.vret hx hb hr (fun t ht hW => ⟨⟨(), rfl, trivial, by rw [ht]; exact hP9, va_K.moved hW.alike hK, hD9⟩, hS.F ht⟩) hS.2.2 dX1_tryBed_84
    · refine lv_aload_n hx hb dX1_tryBed_38 rfl (lv_at hl 2 rfl) ?_
      refine va_get (D := D) (ci := 1) (v := .ref (a 2)) (C := RX1) (T := TX1) (N := 5) hx hb hts hinX1 hown hK hP 0 rfl rfl 4 (by decide) hf29 (fun _ h9 => h9) rfl dX1_tryBed_39 ?_
      refine lv_iload_n hx hb dX1_tryBed_42 rfl (lv_at hl 3 rfl) ?_
      refine zk_R (D := D) (va_runV (As := [.int (nI k)]) (rest := []) ⟨hx, hb, hml, hown, hts⟩ (c_X2_hasBoots l D cI a σ (k := k) hk _) (cwV 1 hts gX1_tryBed_X2_hasBoots rfl rfl rfl zdX2_hasBoots ⟨Nat.le_of_ble_eq_true rfl, Nat.le_of_ble_eq_true rfl⟩) ⟨zbl _, va_recv hK hP (ci := 2) (q0 := 2) rfl rfl, zpr hK hP hD⟩ rfl rfl hl.1 rfl (lv_room (Nat.le_of_ble_eq_true rfl)) dX1_tryBed_43 ⟨Nat.zero_le _, Nat.zero_le _⟩) hS (fun r_5 H locs hw hkp hS => ?_)
      have hP := hkp _ hP
      rcases hw with ⟨c_6, rfl⟩ | ⟨c_6, rfl⟩
      · refine lv_if_eq (tgt := 54) hx hb dX1_tryBed_46 (by decide) (fun c => absurd c (by decide)) (fun _ => ?_)
        refine lv_aload_n hx hb dX1_tryBed_49 rfl (lv_at hl 2 rfl) ?_
        refine lv_iload_n hx hb dX1_tryBed_50 rfl (lv_at hl 3 rfl) ?_
        have hF := zfree hD hS hA
        refine zk_V (va_runV (As := [.int (nI k)]) (rest := []) ⟨hx, hb, hml, hown, hts⟩ (c_X1_pawnBoots l D cI a σ (k := k) hk _) (cwV 1 hts gX1_tryBed_X1_pawnBoots rfl rfl rfl zdX1_pawnBoots ⟨Nat.le_of_ble_eq_true rfl, Nat.le_of_ble_eq_true rfl⟩) ⟨zbl _, va_recv hK hP (ci := 1) (q0 := 0) rfl rfl, zpr hK hP hD⟩ rfl rfl hl.1 rfl (lv_room (Nat.le_of_ble_eq_true rfl)) dX1_tryBed_51 ⟨Nat.zero_le _, Nat.zero_le _⟩) hS hF (fun H locs hkp hP1 hD1 hS => ?_)
        have hP := hP1
        have hD := hD1.weaken (fun _ _ _ z => hF _ z)
        have hP : va_P D vwCl (zw_H cI a (f_pawnB σ k)) H := hP
        have hD : va_D A (zw_H cI a (f_pawnB σ k)) := hD
        refine lv_aload_n hx hb dX1_tryBed_54 rfl (lv_at hl 2 rfl) ?_
        refine va_get (D := D) (ci := 1) (v := .ref (a 2)) (C := RX1) (T := TX1) (N := 5) hx hb hts hinX1 hown hK hP 0 rfl rfl 4 (by decide) hf29 (fun _ h9 => h9) rfl dX1_tryBed_55 ?_
        refine va_get (D := D) (ci := 2) (v := .ref (a 11)) (C := RX2) (T := TX2) (N := 13) hx hb hts hinX2 hown hK hP 2 rfl rfl 4 (by decide) hf84 (fun _ h9 => h9) rfl dX1_tryBed_58 ?_
        refine lv_iload_n hx hb dX1_tryBed_61 rfl (lv_at hl 3 rfl) ?_
        refine zk_ld hx hb hK hP 11 0 (zwq9 cI a _) rfl (k := k) hk (by decide) (v := (f_pawnB σ k) 9 k) rfl dX1_tryBed_62 ?_
        refine lv_iload_n hx hb dX1_tryBed_63 rfl (lv_at hl 1 rfl) ?_
        refine lv_icmp_lt (tgt := 76) hx hb dX1_tryBed_64 (by decide) (fun c_8 => ?_) (fun c_8 => ?_)
        · refine lv_aload_n hx hb dX1_tryBed_76 rfl (lv_at hl 2 rfl) ?_
          refine va_get (D := D) (ci := 1) (v := .ref (a 2)) (C := RX1) (T := TX1) (N := 5) hx hb hts hinX1 hown hK hP 0 rfl rfl 4 (by decide) hf29 (fun _ h9 => h9) rfl dX1_tryBed_77 ?_
          refine lv_iload_n hx hb dX1_tryBed_80 rfl (lv_at hl 3 rfl) ?_
          have hF := zfree hD hS hA
          refine zk_V (va_runV (As := [.int (nI k)]) (rest := []) ⟨hx, hb, hml, hown, hts⟩ (c_X2_lieOnFloor l D cI a (f_pawnB σ k) (k := k) hk _) (cwV 1 hts gX1_tryBed_X2_lieOnFloor rfl rfl rfl zdX2_lieOnFloor ⟨Nat.le_of_ble_eq_true rfl, Nat.le_of_ble_eq_true rfl⟩) ⟨zbl _, va_recv hK hP (ci := 2) (q0 := 2) rfl rfl, zpr hK hP hD⟩ rfl rfl hl.1 rfl (lv_room (Nat.le_of_ble_eq_true rfl)) dX1_tryBed_81 ⟨Nat.zero_le _, Nat.zero_le _⟩) hS hF (fun H locs hkp hP1 hD1 hS => ?_)
          have hP := hP1
          have hD := hD1.weaken (fun _ _ _ z => hF _ z)
          have hP : va_P D vwCl (zw_H cI a (f_floor (f_pawnB σ k) k)) H := hP
          have hD : va_D A (zw_H cI a (f_floor (f_pawnB σ k) k)) := hD
          have e9 : f_try σ k b = f_floor (f_pawnB σ k) k := by rw [f_try, show f_try1 σ k b = (f_pawnB σ k) from if_pos ⟨c_1, c_3, c_6⟩, if_pos c_8]
          have hP9 : va_P D vwCl (zw_H cI a (f_try σ k b)) H := by rw [e9]; exact hP
          have hD9 : va_D A (zw_H cI a (f_try σ k b)) := by rw [e9]; exact hD
          exact W.vret hx hb hr (fun t ht hW => ⟨⟨(), rfl, trivial, by rw [ht]; exact hP9, va_K.moved hW.alike hK, hD9⟩, hS.F ht⟩) hS.2.2 dX1_tryBed_84
        · refine lv_aload_n hx hb dX1_tryBed_67 rfl (lv_at hl 2 rfl) ?_
          refine lv_iload_n hx hb dX1_tryBed_68 rfl (lv_at hl 3 rfl) ?_
          refine lv_iload_n hx hb dX1_tryBed_69 rfl (lv_at hl 4 rfl) ?_
          have hF := zfree hD hS hA
          refine zk_V (va_runV (As := [.int (nI k), .int (nI b)]) (rest := []) ⟨hx, hb, hml, hown, hts⟩ (c_X1_getInto l D cI a (f_pawnB σ k) (k := k) (b := b) hk hb6 _) (cwV 2 hts gX1_tryBed_X1_getInto rfl rfl rfl zdX1_getInto ⟨Nat.le_of_ble_eq_true rfl, Nat.le_of_ble_eq_true rfl⟩) ⟨zbl _, va_recv hK hP (ci := 1) (q0 := 0) rfl rfl, zpr hK hP hD⟩ rfl rfl hl.1 rfl (lv_room (Nat.le_of_ble_eq_true rfl)) dX1_tryBed_70 ⟨Nat.zero_le _, Nat.zero_le _⟩) hS hF (fun H locs hkp hP1 hD1 hS => ?_)
          have hP := hP1
          have hD := hD1.weaken (fun _ _ _ z => hF _ z)
          have hP : va_P D vwCl (zw_H cI a (f_into (f_pawnB σ k) k b)) H := hP
          have hD : va_D A (zw_H cI a (f_into (f_pawnB σ k) k b)) := hD
          refine lv_goto (tgt := 84) hx hb dX1_tryBed_73 (by decide) ?_
          have e9 : f_try σ k b = f_into (f_pawnB σ k) k b := by rw [f_try, show f_try1 σ k b = (f_pawnB σ k) from if_pos ⟨c_1, c_3, c_6⟩, if_neg c_8]
          have hP9 : va_P D vwCl (zw_H cI a (f_try σ k b)) H := by rw [e9]; exact hP
          have hD9 : va_D A (zw_H cI a (f_try σ k b)) := by rw [e9]; exact hD
          exact W.vret hx hb hr (fun t ht hW => ⟨⟨(), rfl, trivial, by rw [ht]; exact hP9, va_K.moved hW.alike hK, hD9⟩, hS.F ht⟩) hS.2.2 dX1_tryBed_84
      · refine lv_if_eq (tgt := 54) hx hb dX1_tryBed_46 (by decide) (fun _ => ?_) (fun c => absurd (by decide) c)
        refine lv_aload_n hx hb dX1_tryBed_54 rfl (lv_at hl 2 rfl) ?_
        refine va_get (D := D) (ci := 1) (v := .ref (a 2)) (C := RX1) (T := TX1) (N := 5) hx hb hts hinX1 hown hK hP 0 rfl rfl 4 (by decide) hf29 (fun _ h9 => h9) rfl dX1_tryBed_55 ?_
        refine va_get (D := D) (ci := 2) (v := .ref (a 11)) (C := RX2) (T := TX2) (N := 13) hx hb hts hinX2 hown hK hP 2 rfl rfl 4 (by decide) hf84 (fun _ h9 => h9) rfl dX1_tryBed_58 ?_
        refine lv_iload_n hx hb dX1_tryBed_61 rfl (lv_at hl 3 rfl) ?_
        refine zk_ld hx hb hK hP 11 0 (zwq9 cI a _) rfl (k := k) hk (by decide) (v := σ 9 k) rfl dX1_tryBed_62 ?_
        refine lv_iload_n hx hb dX1_tryBed_63 rfl (lv_at hl 1 rfl) ?_
        refine lv_icmp_lt (tgt := 76) hx hb dX1_tryBed_64 (by decide) (fun c_10 => ?_) (fun c_10 => ?_)
        · refine lv_aload_n hx hb dX1_tryBed_76 rfl (lv_at hl 2 rfl) ?_
          refine va_get (D := D) (ci := 1) (v := .ref (a 2)) (C := RX1) (T := TX1) (N := 5) hx hb hts hinX1 hown hK hP 0 rfl rfl 4 (by decide) hf29 (fun _ h9 => h9) rfl dX1_tryBed_77 ?_
          refine lv_iload_n hx hb dX1_tryBed_80 rfl (lv_at hl 3 rfl) ?_
          have hF := zfree hD hS hA
          refine zk_V (va_runV (As := [.int (nI k)]) (rest := []) ⟨hx, hb, hml, hown, hts⟩ (c_X2_lieOnFloor l D cI a σ (k := k) hk _) (cwV 1 hts gX1_tryBed_X2_lieOnFloor rfl rfl rfl zdX2_lieOnFloor ⟨Nat.le_of_ble_eq_true rfl, Nat.le_of_ble_eq_true rfl⟩) ⟨zbl _, va_recv hK hP (ci := 2) (q0 := 2) rfl rfl, zpr hK hP hD⟩ rfl rfl hl.1 rfl (lv_room (Nat.le_of_ble_eq_true rfl)) dX1_tryBed_81 ⟨Nat.zero_le _, Nat.zero_le _⟩) hS hF (fun H locs hkp hP1 hD1 hS => ?_)
          have hP := hP1
          have hD := hD1.weaken (fun _ _ _ z => hF _ z)
          have hP : va_P D vwCl (zw_H cI a (f_floor σ k)) H := hP
          have hD : va_D A (zw_H cI a (f_floor σ k)) := hD
          have e9 : f_try σ k b = f_floor σ k := by rw [f_try, show f_try1 σ k b = σ from if_neg (fun z => c_6 z.2.2), if_pos c_10]
          have hP9 : va_P D vwCl (zw_H cI a (f_try σ k b)) H := by rw [e9]; exact hP
          have hD9 : va_D A (zw_H cI a (f_try σ k b)) := by rw [e9]; exact hD
          exact W.vret hx hb hr (fun t ht hW => ⟨⟨(), rfl, trivial, by rw [ht]; exact hP9, va_K.moved hW.alike hK, hD9⟩, hS.F ht⟩) hS.2.2 dX1_tryBed_84
        · refine lv_aload_n hx hb dX1_tryBed_67 rfl (lv_at hl 2 rfl) ?_
          refine lv_iload_n hx hb dX1_tryBed_68 rfl (lv_at hl 3 rfl) ?_
          refine lv_iload_n hx hb dX1_tryBed_69 rfl (lv_at hl 4 rfl) ?_
          have hF := zfree hD hS hA
          refine zk_V (va_runV (As := [.int (nI k), .int (nI b)]) (rest := []) ⟨hx, hb, hml, hown, hts⟩ (c_X1_getInto l D cI a σ (k := k) (b := b) hk hb6 _) (cwV 2 hts gX1_tryBed_X1_getInto rfl rfl rfl zdX1_getInto ⟨Nat.le_of_ble_eq_true rfl, Nat.le_of_ble_eq_true rfl⟩) ⟨zbl _, va_recv hK hP (ci := 1) (q0 := 0) rfl rfl, zpr hK hP hD⟩ rfl rfl hl.1 rfl (lv_room (Nat.le_of_ble_eq_true rfl)) dX1_tryBed_70 ⟨Nat.zero_le _, Nat.zero_le _⟩) hS hF (fun H locs hkp hP1 hD1 hS => ?_)
          have hP := hP1
          have hD := hD1.weaken (fun _ _ _ z => hF _ z)
          have hP : va_P D vwCl (zw_H cI a (f_into σ k b)) H := hP
          have hD : va_D A (zw_H cI a (f_into σ k b)) := hD
          refine lv_goto (tgt := 84) hx hb dX1_tryBed_73 (by decide) ?_
          have e9 : f_try σ k b = f_into σ k b := by rw [f_try, show f_try1 σ k b = σ from if_neg (fun z => c_6 z.2.2), if_neg c_10]
          have hP9 : va_P D vwCl (zw_H cI a (f_try σ k b)) H := by rw [e9]; exact hP
          have hD9 : va_D A (zw_H cI a (f_try σ k b)) := by rw [e9]; exact hD
          exact W.vret hx hb hr (fun t ht hW => ⟨⟨(), rfl, trivial, by rw [ht]; exact hP9, va_K.moved hW.alike hK, hD9⟩, hS.F ht⟩) hS.2.2 dX1_tryBed_84

theorem zhas_of {σ : zS} {nb ns h : Nat} {x : Int32} (hC : zC σ nb ns h) (hx : f_has σ x) : ∃ b, b < nb ∧ x = nI b := by
  have h3 := hx.2
  rw [hC.1] at h3
  obtain ⟨j, hj, rfl⟩ := nI_of hx.1
  have hb := hC.2.1
  exact ⟨j, by have := mt (nI_leI (a := nb) (b := j) (by omega) hj).mpr h3; omega, rfl⟩

set_option maxHeartbeats 4000000 in
set_option maxRecDepth 100000 in
theorem c_X1_lookForBed (l : Launch) (D : va_G) (cI : ClassId) (a : Nat → Nat) (σ : zS) {k : Nat} (hk : k < 10) {nb ns h : Nat} (hC : zC σ nb ns h) : zMV l yX1_lookForBed wsX1_lookForBed ({ frames := 4, cells := 0, slots := 0, locals := 82 }) [.ref (a 0), .int (nI k)] D [(cI, .int)] (zw_H cI a σ) (zw_H cI a (f_look σ nb h k)) := by
  intro sz
  refine Met.ofW (cc := cX1_lookForBed) (maxL := 4) (ret := none) (by decide) rfl ?_
  intro p e s m args below meth c s₁ B hml hv
  obtain ⟨rfl, hsz, hP, hK, hD⟩ := hv
  have hx := B.exec
  have hb := B.bytes
  have hr := B.returns
  have hts := atoms_spec (ws := wsX1_lookForBed) B.pre
  have hown : s.vm.findClass RX1 = some m.cls := findClass_of_methodNamed B.named
  have hlocks := B.notSynchronized
  subst hsz
  have hD := hD.self (sz := s.heap.size)
  generalize hAe : va_A (zw_H cI a σ) s.heap.size = A at hD ⊢
  have hA : ∀ q : Nat, s.heap.size ≤ q → A q := fun q h => by rw [← hAe]; exact Or.inr h
  have hS : va_S A s.heap s.heap [] := va_S.rf
  have hP : va_P D vwCl (zw_H cI a σ) s.heap := hP
  have hl := lv_entry ([.ref (a 0), .int (nI k)]) (n := 4) (Nat.le_of_ble_eq_true rfl)
  rw [lg_entry_eq]
  generalize (lg_sl ([.ref (a 0), .int (nI k)]) ++ List.replicate (4 - (lg_sl ([.ref (a 0), .int (nI k)])).length) Slot.unset).toArray = ls at hl ⊢
  have hl : lv_has ls 4 [(0, .ref (a 0)), (1, .int (nI k))] := hl
  have hf124 := hts (.fieldLink RX1 124 "HotBeds$Sailors" "kept" "[I") (by decide +kernel)
  have hf22 := hts (.fieldLink RX1 22 "HotBeds$House" "beds" "LHotBeds$Beds;") (by decide +kernel)
  have hf29 := hts (.fieldLink RX1 29 "HotBeds$House" "sailors" "LHotBeds$Sailors;") (by decide +kernel)
  have hf7 := hts (.fieldLink RX1 7 "HotBeds$House" "hour" "I") (by decide +kernel)
  have hinX1 : ∀ w ∈ u_ws RX1 TX1 5, w ∈ wsX1_lookForBed := by decide +kernel
  have hinX2 : ∀ w ∈ u_ws RX2 TX2 13, w ∈ wsX1_lookForBed := by decide +kernel
  have hnb := hC.2.1
  have hns := hC.2.2.2.1
  have hh := hC.2.2.2.2.2.1
  refine lv_aload_n hx hb dX1_lookForBed_0 rfl (lv_at hl 0 rfl) ?_
  refine va_get (D := D) (ci := 1) (v := .ref (a 2)) (C := RX1) (T := TX1) (N := 5) hx hb hts hinX1 hown hK hP 0 rfl rfl 4 (by decide) hf29 (fun _ h9 => h9) rfl dX1_lookForBed_1 ?_
  refine va_get (D := D) (ci := 2) (v := .ref (a 13)) (C := RX2) (T := TX2) (N := 13) hx hb hts hinX2 hown hK hP 2 rfl rfl 6 (by decide) hf124 (fun _ h9 => h9) rfl dX1_lookForBed_4 ?_
  refine lv_iload_n hx hb dX1_lookForBed_7 rfl (lv_at hl 1 rfl) ?_
  refine zk_ld hx hb hK hP 13 0 (zwq11 cI a _) rfl (k := k) hk (by decide) (v := σ 11 k) rfl dX1_lookForBed_8 ?_
  refine lv_istore_n (lv' := [(2, .int (σ 11 k)), (0, .ref (a 0)), (1, .int (nI k))]) hx hb dX1_lookForBed_9 rfl hl (by decide) rfl (fun ls hl => ?_)
  refine lv_aload_n hx hb dX1_lookForBed_10 rfl (lv_at hl 1 rfl) ?_
  refine va_get (D := D) (ci := 1) (v := .ref (a 1)) (C := RX1) (T := TX1) (N := 5) hx hb hts hinX1 hown hK hP 0 rfl rfl 3 (by decide) hf22 (fun _ h9 => h9) rfl dX1_lookForBed_11 ?_
  refine lv_iload_n hx hb dX1_lookForBed_14 rfl (lv_at hl 0 rfl) ?_
  refine zk_R (D := D) (va_runV (As := [.int (σ 11 k)]) (rest := []) ⟨hx, hb, hml, hown, hts⟩ (c_X0_isFree l D cI a σ (σ 11 k) hC _) (cwV 1 hts gX1_lookForBed_X0_isFree rfl rfl rfl zdX0_isFree ⟨Nat.le_of_ble_eq_true rfl, Nat.le_of_ble_eq_true rfl⟩) ⟨zbl _, va_recv hK hP (ci := 0) (q0 := 1) rfl rfl, zpr hK hP hD⟩ rfl rfl hl.1 rfl (lv_room (Nat.le_of_ble_eq_true rfl)) dX1_lookForBed_15 ⟨Nat.zero_le _, Nat.zero_le _⟩) hS (fun r_1 H locs hw hkp hS => ?_)
  have hP := hkp _ hP
  rcases hw with ⟨c_2, rfl⟩ | ⟨c_2, rfl⟩
  · refine lv_if_eq (tgt := 25) hx hb dX1_lookForBed_18 (by decide) (fun c => absurd c (by decide)) (fun _ => ?_)
    refine lv_iload_n hx hb dX1_lookForBed_21 rfl (lv_at hl 0 rfl) ?_
    refine lv_goto (tgt := 32) hx hb dX1_lookForBed_22 (by decide) ?_
    refine lv_istore_n (lv' := [(3, .int (σ 11 k)), (2, .int (σ 11 k)), (0, .ref (a 0)), (1, .int (nI k))]) hx hb dX1_lookForBed_32 rfl hl (by decide) rfl (fun ls hl => ?_)
    refine lv_aload_n hx hb dX1_lookForBed_33 rfl (lv_at hl 2 rfl) ?_
    refine va_get (D := D) (ci := 1) (v := .ref (a 1)) (C := RX1) (T := TX1) (N := 5) hx hb hts hinX1 hown hK hP 0 rfl rfl 3 (by decide) hf22 (fun _ h9 => h9) rfl dX1_lookForBed_34 ?_
    refine lv_iload_n hx hb dX1_lookForBed_37 rfl (lv_at hl 0 rfl) ?_
    refine zk_R (D := D) (va_runV (As := [.int (σ 11 k)]) (rest := []) ⟨hx, hb, hml, hown, hts⟩ (c_X0_has l D cI a σ (σ 11 k) _) (cwV 1 hts gX1_lookForBed_X0_has rfl rfl rfl zdX0_has ⟨Nat.le_of_ble_eq_true rfl, Nat.le_of_ble_eq_true rfl⟩) ⟨zbl _, va_recv hK hP (ci := 0) (q0 := 1) rfl rfl, zpr hK hP hD⟩ rfl rfl hl.1 rfl (lv_room (Nat.le_of_ble_eq_true rfl)) dX1_lookForBed_38 ⟨Nat.zero_le _, Nat.zero_le _⟩) hS (fun r_4 H locs hw hkp hS => ?_)
    have hP := hkp _ hP
    rcases hw with ⟨c_5, rfl⟩ | ⟨c_5, rfl⟩
    · have e7 : f_choose σ nb k = σ 11 k := if_pos c_2
      obtain ⟨b, hb9, eb⟩ := zhas_of hC c_5
      rw [eb] at hl
      refine lv_if_eq (tgt := 53) hx hb dX1_lookForBed_41 (by decide) (fun c => absurd c (by decide)) (fun _ => ?_)
      refine lv_aload_n hx hb dX1_lookForBed_44 rfl (lv_at hl 2 rfl) ?_
      refine lv_iload_n hx hb dX1_lookForBed_45 rfl (lv_at hl 3 rfl) ?_
      refine lv_iload_n hx hb dX1_lookForBed_46 rfl (lv_at hl 0 rfl) ?_
      have hF := zfree hD hS hA
      refine zk_V (va_runV (As := [.int (nI k), .int (nI b)]) (rest := []) ⟨hx, hb, hml, hown, hts⟩ (c_X1_tryBed l D cI a σ (k := k) (b := b) hk (by omega) _) (cwV 2 hts gX1_lookForBed_X1_tryBed rfl rfl rfl zdX1_tryBed ⟨Nat.le_of_ble_eq_true rfl, Nat.le_of_ble_eq_true rfl⟩) ⟨zbl _, va_recv hK hP (ci := 1) (q0 := 0) rfl rfl, zpr hK hP hD⟩ rfl rfl hl.1 rfl (lv_room (Nat.le_of_ble_eq_true rfl)) dX1_lookForBed_47 ⟨Nat.zero_le _, Nat.zero_le _⟩) hS hF (fun H locs hkp hP1 hD1 hS => ?_)
      have hP := hP1
      have hD := hD1.weaken (fun _ _ _ z => hF _ z)
      have hP : va_P D vwCl (zw_H cI a (f_try σ k b)) H := hP
      have hD : va_D A (zw_H cI a (f_try σ k b)) := hD
      refine lv_goto (tgt := 72) hx hb dX1_lookForBed_50 (by decide) ?_
      have e9 : f_look σ nb h k = f_try σ k b := by rw [f_look, e7, if_pos c_5, eb, nI_clamp (by omega)]
      have hP9 : va_P D vwCl (zw_H cI a (f_look σ nb h k)) H := by rw [e9]; exact hP
      have hD9 : va_D A (zw_H cI a (f_look σ nb h k)) := by rw [e9]; exact hD
      exact W.vret hx hb hr (fun t ht hW => ⟨⟨(), rfl, trivial, by rw [ht]; exact hP9, va_K.moved hW.alike hK, hD9⟩, hS.F ht⟩) hS.2.2 dX1_lookForBed_72
    · have e7 : f_choose σ nb k = σ 11 k := if_pos c_2
      refine lv_if_eq (tgt := 53) hx hb dX1_lookForBed_41 (by decide) (fun _ => ?_) (fun c => absurd (by decide) c)
      refine lv_aload_n hx hb dX1_lookForBed_53 rfl (lv_at hl 2 rfl) ?_
      refine va_get (D := D) (ci := 1) (v := .int (nI h)) (C := RX1) (T := TX1) (N := 5) hx hb hts hinX1 hown hK hP 0 rfl rfl 0 (by decide) hf7 (fun _ h9 => h9) (congrArg (fun z => some (Value.int z)) hC.2.2.2.2.1) dX1_lookForBed_54 ?_
      refine lv_bipush (v := 8) hx hb dX1_lookForBed_57 (by decide) ?_
      refine zk_rem (x := h) (y := 8) hx hb dX1_lookForBed_59 (by omega) (by decide) (by decide) ?_
      refine lv_iconst (v := 4) hx hb dX1_lookForBed_60 (by decide) ?_
      refine lv_icmp_lt (tgt := 72) hx hb dX1_lookForBed_61 (by decide) (fun c_8 => ?_) (fun c_8 => ?_)
      · have e9 : f_look σ nb h k = σ := by rw [f_look, e7, if_neg c_5, if_pos c_8]
        have hP9 : va_P D vwCl (zw_H cI a (f_look σ nb h k)) H := by rw [e9]; exact hP
        have hD9 : va_D A (zw_H cI a (f_look σ nb h k)) := by rw [e9]; exact hD
        exact W.vret hx hb hr (fun t ht hW => ⟨⟨(), rfl, trivial, by rw [ht]; exact hP9, va_K.moved hW.alike hK, hD9⟩, hS.F ht⟩) hS.2.2 dX1_lookForBed_72
      · refine lv_aload_n hx hb dX1_lookForBed_64 rfl (lv_at hl 2 rfl) ?_
        refine va_get (D := D) (ci := 1) (v := .ref (a 2)) (C := RX1) (T := TX1) (N := 5) hx hb hts hinX1 hown hK hP 0 rfl rfl 4 (by decide) hf29 (fun _ h9 => h9) rfl dX1_lookForBed_65 ?_
        refine lv_iload_n hx hb dX1_lookForBed_68 rfl (lv_at hl 3 rfl) ?_
        have hF := zfree hD hS hA
        refine zk_V (va_runV (As := [.int (nI k)]) (rest := []) ⟨hx, hb, hml, hown, hts⟩ (c_X2_lieOnFloor l D cI a σ (k := k) hk _) (cwV 1 hts gX1_lookForBed_X2_lieOnFloor rfl rfl rfl zdX2_lieOnFloor ⟨Nat.le_of_ble_eq_true rfl, Nat.le_of_ble_eq_true rfl⟩) ⟨zbl _, va_recv hK hP (ci := 2) (q0 := 2) rfl rfl, zpr hK hP hD⟩ rfl rfl hl.1 rfl (lv_room (Nat.le_of_ble_eq_true rfl)) dX1_lookForBed_69 ⟨Nat.zero_le _, Nat.zero_le _⟩) hS hF (fun H locs hkp hP1 hD1 hS => ?_)
        have hP := hP1
        have hD := hD1.weaken (fun _ _ _ z => hF _ z)
        have hP : va_P D vwCl (zw_H cI a (f_floor σ k)) H := hP
        have hD : va_D A (zw_H cI a (f_floor σ k)) := hD
        have e9 : f_look σ nb h k = f_floor σ k := by rw [f_look, e7, if_neg c_5, if_neg c_8]
        have hP9 : va_P D vwCl (zw_H cI a (f_look σ nb h k)) H := by rw [e9]; exact hP
        have hD9 : va_D A (zw_H cI a (f_look σ nb h k)) := by rw [e9]; exact hD
        exact W.vret hx hb hr (fun t ht hW => ⟨⟨(), rfl, trivial, by rw [ht]; exact hP9, va_K.moved hW.alike hK, hD9⟩, hS.F ht⟩) hS.2.2 dX1_lookForBed_72
  · refine lv_if_eq (tgt := 25) hx hb dX1_lookForBed_18 (by decide) (fun _ => ?_) (fun c => absurd (by decide) c)
    refine lv_aload_n hx hb dX1_lookForBed_25 rfl (lv_at hl 1 rfl) ?_
    refine va_get (D := D) (ci := 1) (v := .ref (a 1)) (C := RX1) (T := TX1) (N := 5) hx hb hts hinX1 hown hK hP 0 rfl rfl 3 (by decide) hf22 (fun _ h9 => h9) rfl dX1_lookForBed_26 ?_
    refine zk_R (D := D) (va_runV (As := []) (rest := []) ⟨hx, hb, hml, hown, hts⟩ (c_X0_cheapestFree l D cI a σ hC _) (cwV 0 hts gX1_lookForBed_X0_cheapestFree rfl rfl rfl zdX0_cheapestFree ⟨Nat.le_of_ble_eq_true rfl, Nat.le_of_ble_eq_true rfl⟩) ⟨zbl _, va_recv hK hP (ci := 0) (q0 := 1) rfl rfl, zpr hK hP hD⟩ rfl rfl hl.1 rfl (lv_room (Nat.le_of_ble_eq_true rfl)) dX1_lookForBed_29 ⟨Nat.zero_le _, Nat.zero_le _⟩) hS (fun r_10 H locs hw hkp hS => ?_)
    have hP := hkp _ hP
    subst hw
    refine lv_istore_n (lv' := [(3, .int (f_ch σ nb)), (2, .int (σ 11 k)), (0, .ref (a 0)), (1, .int (nI k))]) hx hb dX1_lookForBed_32 rfl hl (by decide) rfl (fun ls hl => ?_)
    refine lv_aload_n hx hb dX1_lookForBed_33 rfl (lv_at hl 2 rfl) ?_
    refine va_get (D := D) (ci := 1) (v := .ref (a 1)) (C := RX1) (T := TX1) (N := 5) hx hb hts hinX1 hown hK hP 0 rfl rfl 3 (by decide) hf22 (fun _ h9 => h9) rfl dX1_lookForBed_34 ?_
    refine lv_iload_n hx hb dX1_lookForBed_37 rfl (lv_at hl 0 rfl) ?_
    refine zk_R (D := D) (va_runV (As := [.int (f_ch σ nb)]) (rest := []) ⟨hx, hb, hml, hown, hts⟩ (c_X0_has l D cI a σ (f_ch σ nb) _) (cwV 1 hts gX1_lookForBed_X0_has rfl rfl rfl zdX0_has ⟨Nat.le_of_ble_eq_true rfl, Nat.le_of_ble_eq_true rfl⟩) ⟨zbl _, va_recv hK hP (ci := 0) (q0 := 1) rfl rfl, zpr hK hP hD⟩ rfl rfl hl.1 rfl (lv_room (Nat.le_of_ble_eq_true rfl)) dX1_lookForBed_38 ⟨Nat.zero_le _, Nat.zero_le _⟩) hS (fun r_11 H locs hw hkp hS => ?_)
    have hP := hkp _ hP
    rcases hw with ⟨c_12, rfl⟩ | ⟨c_12, rfl⟩
    · have e7 : f_choose σ nb k = f_ch σ nb := if_neg c_2
      obtain ⟨b, hb9, eb⟩ := zhas_of hC c_12
      rw [eb] at hl
      refine lv_if_eq (tgt := 53) hx hb dX1_lookForBed_41 (by decide) (fun c => absurd c (by decide)) (fun _ => ?_)
      refine lv_aload_n hx hb dX1_lookForBed_44 rfl (lv_at hl 2 rfl) ?_
      refine lv_iload_n hx hb dX1_lookForBed_45 rfl (lv_at hl 3 rfl) ?_
      refine lv_iload_n hx hb dX1_lookForBed_46 rfl (lv_at hl 0 rfl) ?_
      have hF := zfree hD hS hA
      refine zk_V (va_runV (As := [.int (nI k), .int (nI b)]) (rest := []) ⟨hx, hb, hml, hown, hts⟩ (c_X1_tryBed l D cI a σ (k := k) (b := b) hk (by omega) _) (cwV 2 hts gX1_lookForBed_X1_tryBed rfl rfl rfl zdX1_tryBed ⟨Nat.le_of_ble_eq_true rfl, Nat.le_of_ble_eq_true rfl⟩) ⟨zbl _, va_recv hK hP (ci := 1) (q0 := 0) rfl rfl, zpr hK hP hD⟩ rfl rfl hl.1 rfl (lv_room (Nat.le_of_ble_eq_true rfl)) dX1_lookForBed_47 ⟨Nat.zero_le _, Nat.zero_le _⟩) hS hF (fun H locs hkp hP1 hD1 hS => ?_)
      have hP := hP1
      have hD := hD1.weaken (fun _ _ _ z => hF _ z)
      have hP : va_P D vwCl (zw_H cI a (f_try σ k b)) H := hP
      have hD : va_D A (zw_H cI a (f_try σ k b)) := hD
      refine lv_goto (tgt := 72) hx hb dX1_lookForBed_50 (by decide) ?_
      have e9 : f_look σ nb h k = f_try σ k b := by rw [f_look, e7, if_pos c_12, eb, nI_clamp (by omega)]
      have hP9 : va_P D vwCl (zw_H cI a (f_look σ nb h k)) H := by rw [e9]; exact hP
      have hD9 : va_D A (zw_H cI a (f_look σ nb h k)) := by rw [e9]; exact hD
      exact W.vret hx hb hr (fun t ht hW => ⟨⟨(), rfl, trivial, by rw [ht]; exact hP9, va_K.moved hW.alike hK, hD9⟩, hS.F ht⟩) hS.2.2 dX1_lookForBed_72
    · have e7 : f_choose σ nb k = f_ch σ nb := if_neg c_2
      refine lv_if_eq (tgt := 53) hx hb dX1_lookForBed_41 (by decide) (fun _ => ?_) (fun c => absurd (by decide) c)
      refine lv_aload_n hx hb dX1_lookForBed_53 rfl (lv_at hl 2 rfl) ?_
      refine va_get (D := D) (ci := 1) (v := .int (nI h)) (C := RX1) (T := TX1) (N := 5) hx hb hts hinX1 hown hK hP 0 rfl rfl 0 (by decide) hf7 (fun _ h9 => h9) (congrArg (fun z => some (Value.int z)) hC.2.2.2.2.1) dX1_lookForBed_54 ?_
      refine lv_bipush (v := 8) hx hb dX1_lookForBed_57 (by decide) ?_
      refine zk_rem (x := h) (y := 8) hx hb dX1_lookForBed_59 (by omega) (by decide) (by decide) ?_
      refine lv_iconst (v := 4) hx hb dX1_lookForBed_60 (by decide) ?_
      refine lv_icmp_lt (tgt := 72) hx hb dX1_lookForBed_61 (by decide) (fun c_15 => ?_) (fun c_15 => ?_)
      · have e9 : f_look σ nb h k = σ := by rw [f_look, e7, if_neg c_12, if_pos c_15]
        have hP9 : va_P D vwCl (zw_H cI a (f_look σ nb h k)) H := by rw [e9]; exact hP
        have hD9 : va_D A (zw_H cI a (f_look σ nb h k)) := by rw [e9]; exact hD
        exact W.vret hx hb hr (fun t ht hW => ⟨⟨(), rfl, trivial, by rw [ht]; exact hP9, va_K.moved hW.alike hK, hD9⟩, hS.F ht⟩) hS.2.2 dX1_lookForBed_72
      · refine lv_aload_n hx hb dX1_lookForBed_64 rfl (lv_at hl 2 rfl) ?_
        refine va_get (D := D) (ci := 1) (v := .ref (a 2)) (C := RX1) (T := TX1) (N := 5) hx hb hts hinX1 hown hK hP 0 rfl rfl 4 (by decide) hf29 (fun _ h9 => h9) rfl dX1_lookForBed_65 ?_
        refine lv_iload_n hx hb dX1_lookForBed_68 rfl (lv_at hl 3 rfl) ?_
        have hF := zfree hD hS hA
        refine zk_V (va_runV (As := [.int (nI k)]) (rest := []) ⟨hx, hb, hml, hown, hts⟩ (c_X2_lieOnFloor l D cI a σ (k := k) hk _) (cwV 1 hts gX1_lookForBed_X2_lieOnFloor rfl rfl rfl zdX2_lieOnFloor ⟨Nat.le_of_ble_eq_true rfl, Nat.le_of_ble_eq_true rfl⟩) ⟨zbl _, va_recv hK hP (ci := 2) (q0 := 2) rfl rfl, zpr hK hP hD⟩ rfl rfl hl.1 rfl (lv_room (Nat.le_of_ble_eq_true rfl)) dX1_lookForBed_69 ⟨Nat.zero_le _, Nat.zero_le _⟩) hS hF (fun H locs hkp hP1 hD1 hS => ?_)
        have hP := hP1
        have hD := hD1.weaken (fun _ _ _ z => hF _ z)
        have hP : va_P D vwCl (zw_H cI a (f_floor σ k)) H := hP
        have hD : va_D A (zw_H cI a (f_floor σ k)) := hD
        have e9 : f_look σ nb h k = f_floor σ k := by rw [f_look, e7, if_neg c_12, if_neg c_15]
        have hP9 : va_P D vwCl (zw_H cI a (f_look σ nb h k)) H := by rw [e9]; exact hP
        have hD9 : va_D A (zw_H cI a (f_look σ nb h k)) := by rw [e9]; exact hD
        exact W.vret hx hb hr (fun t ht hW => ⟨⟨(), rfl, trivial, by rw [ht]; exact hP9, va_K.moved hW.alike hK, hD9⟩, hS.F ht⟩) hS.2.2 dX1_lookForBed_72

theorem f_pay_0 (σ : zS) (k : Nat) : f_pay σ k 0 = σ 0 := rfl
theorem f_pay_6 (σ : zS) (k : Nat) : f_pay σ k 6 = σ 6 := rfl
theorem f_red_0 (σ : zS) (k : Nat) : f_red σ k 0 = σ 0 := rfl
theorem f_red_6 (σ : zS) (k : Nat) : f_red σ k 6 = σ 6 := rfl

set_option maxHeartbeats 4000000 in
set_option maxRecDepth 100000 in
theorem c_X1_serve (l : Launch) (D : va_G) (cI : ClassId) (a : Nat → Nat) (σ : zS) {k : Nat} (hk : k < 10) {nb ns h : Nat} (hC : zC σ nb ns h) : zMV l yX1_serve wsX1_serve ({ frames := 5, cells := 0, slots := 0, locals := 105 }) [.ref (a 0), .int (nI k)] D [(cI, .int)] (zw_H cI a σ) (zw_H cI a (f_serve σ nb h k)) := by
  intro sz
  refine Met.ofW (cc := cX1_serve) (maxL := 2) (ret := none) (by decide) rfl ?_
  intro p e s m args below meth c s₁ B hml hv
  obtain ⟨rfl, hsz, hP, hK, hD⟩ := hv
  have hx := B.exec
  have hb := B.bytes
  have hr := B.returns
  have hts := atoms_spec (ws := wsX1_serve) B.pre
  have hown : s.vm.findClass RX1 = some m.cls := findClass_of_methodNamed B.named
  have hlocks := B.notSynchronized
  subst hsz
  have hD := hD.self (sz := s.heap.size)
  generalize hAe : va_A (zw_H cI a σ) s.heap.size = A at hD ⊢
  have hA : ∀ q : Nat, s.heap.size ≤ q → A q := fun q h => by rw [← hAe]; exact Or.inr h
  have hS : va_S A s.heap s.heap [] := va_S.rf
  have hP : va_P D vwCl (zw_H cI a σ) s.heap := hP
  have hl := lv_entry ([.ref (a 0), .int (nI k)]) (n := 2) (Nat.le_of_ble_eq_true rfl)
  rw [lg_entry_eq]
  generalize (lg_sl ([.ref (a 0), .int (nI k)]) ++ List.replicate (2 - (lg_sl ([.ref (a 0), .int (nI k)])).length) Slot.unset).toArray = ls at hl ⊢
  have hl : lv_has ls 2 [(0, .ref (a 0)), (1, .int (nI k))] := hl
  have hf29 := hts (.fieldLink RX1 29 "HotBeds$House" "sailors" "LHotBeds$Sailors;") (by decide +kernel)
  have hf7 := hts (.fieldLink RX1 7 "HotBeds$House" "hour" "I") (by decide +kernel)
  have hinX1 : ∀ w ∈ u_ws RX1 TX1 5, w ∈ wsX1_serve := by decide +kernel
  have hnb := hC.2.1
  have hns := hC.2.2.2.1
  have hh := hC.2.2.2.2.2.1
  refine lv_aload_n hx hb dX1_serve_0 rfl (lv_at hl 0 rfl) ?_
  refine lv_iload_n hx hb dX1_serve_1 rfl (lv_at hl 1 rfl) ?_
  refine zk_R (D := D) (va_runV (As := [.int (nI k)]) (rest := []) ⟨hx, hb, hml, hown, hts⟩ (c_X1_isInWatch l D cI a σ (k := k) hk hC _) (cwV 1 hts gX1_serve_X1_isInWatch rfl rfl rfl zdX1_isInWatch ⟨Nat.le_of_ble_eq_true rfl, Nat.le_of_ble_eq_true rfl⟩) ⟨zbl _, va_recv hK hP (ci := 1) (q0 := 0) rfl rfl, zpr hK hP hD⟩ rfl rfl hl.1 rfl (lv_room (Nat.le_of_ble_eq_true rfl)) dX1_serve_2 ⟨Nat.zero_le _, Nat.zero_le _⟩) hS (fun r_1 H locs hw hkp hS => ?_)
  have hP := hkp _ hP
  rcases hw with ⟨c_2, rfl⟩ | ⟨c_2, rfl⟩
  · refine lv_if_ne (tgt := 9) hx hb dX1_serve_5 (by decide) (fun _ => ?_) (fun c => absurd c (by decide))
    refine lv_aload_n hx hb dX1_serve_9 rfl (lv_at hl 0 rfl) ?_
    refine va_get (D := D) (ci := 1) (v := .int (nI h)) (C := RX1) (T := TX1) (N := 5) hx hb hts hinX1 hown hK hP 0 rfl rfl 0 (by decide) hf7 (fun _ h9 => h9) (congrArg (fun z => some (Value.int z)) hC.2.2.2.2.1) dX1_serve_10 ?_
    refine lv_bipush (v := 8) hx hb dX1_serve_13 (by decide) ?_
    refine zk_rem (x := h) (y := 8) hx hb dX1_serve_15 (by omega) (by decide) (by decide) ?_
    refine lv_if_ne (tgt := 40) hx hb dX1_serve_16 (by decide) (fun c_4 => ?_) (fun c_4 => ?_)
    · refine lv_aload_n hx hb dX1_serve_40 rfl (lv_at hl 0 rfl) ?_
      refine va_get (D := D) (ci := 1) (v := .ref (a 2)) (C := RX1) (T := TX1) (N := 5) hx hb hts hinX1 hown hK hP 0 rfl rfl 4 (by decide) hf29 (fun _ h9 => h9) rfl dX1_serve_41 ?_
      refine lv_iload_n hx hb dX1_serve_44 rfl (lv_at hl 1 rfl) ?_
      refine zk_R (D := D) (va_runV (As := [.int (nI k)]) (rest := []) ⟨hx, hb, hml, hown, hts⟩ (c_X2_isUp l D cI a σ (k := k) hk _) (cwV 1 hts gX1_serve_X2_isUp rfl rfl rfl zdX2_isUp ⟨Nat.le_of_ble_eq_true rfl, Nat.le_of_ble_eq_true rfl⟩) ⟨zbl _, va_recv hK hP (ci := 2) (q0 := 2) rfl rfl, zpr hK hP hD⟩ rfl rfl hl.1 rfl (lv_room (Nat.le_of_ble_eq_true rfl)) dX1_serve_45 ⟨Nat.zero_le _, Nat.zero_le _⟩) hS (fun r_5 H locs hw hkp hS => ?_)
      have hP := hkp _ hP
      rcases hw with ⟨c_6, rfl⟩ | ⟨c_6, rfl⟩
      · refine lv_if_eq (tgt := 56) hx hb dX1_serve_48 (by decide) (fun c => absurd c (by decide)) (fun _ => ?_)
        refine lv_aload_n hx hb dX1_serve_51 rfl (lv_at hl 0 rfl) ?_
        refine lv_iload_n hx hb dX1_serve_52 rfl (lv_at hl 1 rfl) ?_
        have hF := zfree hD hS hA
        refine zk_V (va_runV (As := [.int (nI k)]) (rest := []) ⟨hx, hb, hml, hown, hts⟩ (c_X1_lookForBed l D cI a σ (k := k) hk hC _) (cwV 1 hts gX1_serve_X1_lookForBed rfl rfl rfl zdX1_lookForBed ⟨Nat.le_of_ble_eq_true rfl, Nat.le_of_ble_eq_true rfl⟩) ⟨zbl _, va_recv hK hP (ci := 1) (q0 := 0) rfl rfl, zpr hK hP hD⟩ rfl rfl hl.1 rfl (lv_room (Nat.le_of_ble_eq_true rfl)) dX1_serve_53 ⟨Nat.zero_le _, Nat.zero_le _⟩) hS hF (fun H locs hkp hP1 hD1 hS => ?_)
        have hP := hP1
        have hD := hD1.weaken (fun _ _ _ z => hF _ z)
        have hP : va_P D vwCl (zw_H cI a (f_look σ nb h k)) H := hP
        have hD : va_D A (zw_H cI a (f_look σ nb h k)) := hD
        have e9 : f_serve σ nb h k = f_look σ nb h k := by simp only [f_serve, f_payR, if_pos c_2, if_neg c_4, if_pos c_6]
        have hP9 : va_P D vwCl (zw_H cI a (f_serve σ nb h k)) H := by rw [e9]; exact hP
        have hD9 : va_D A (zw_H cI a (f_serve σ nb h k)) := by rw [e9]; exact hD
        exact W.vret hx hb hr (fun t ht hW => ⟨⟨(), rfl, trivial, by rw [ht]; exact hP9, va_K.moved hW.alike hK, hD9⟩, hS.F ht⟩) hS.2.2 dX1_serve_56
      · refine lv_if_eq (tgt := 56) hx hb dX1_serve_48 (by decide) (fun _ => ?_) (fun c => absurd (by decide) c)
        have e9 : f_serve σ nb h k = σ := by simp only [f_serve, f_payR, if_pos c_2, if_neg c_4, if_neg c_6]
        have hP9 : va_P D vwCl (zw_H cI a (f_serve σ nb h k)) H := by rw [e9]; exact hP
        have hD9 : va_D A (zw_H cI a (f_serve σ nb h k)) := by rw [e9]; exact hD
        exact W.vret hx hb hr (fun t ht hW => ⟨⟨(), rfl, trivial, by rw [ht]; exact hP9, va_K.moved hW.alike hK, hD9⟩, hS.F ht⟩) hS.2.2 dX1_serve_56
    · refine lv_aload_n hx hb dX1_serve_19 rfl (lv_at hl 0 rfl) ?_
      refine va_get (D := D) (ci := 1) (v := .ref (a 2)) (C := RX1) (T := TX1) (N := 5) hx hb hts hinX1 hown hK hP 0 rfl rfl 4 (by decide) hf29 (fun _ h9 => h9) rfl dX1_serve_20 ?_
      refine lv_iload_n hx hb dX1_serve_23 rfl (lv_at hl 1 rfl) ?_
      have hF := zfree hD hS hA
      refine zk_V (va_runV (As := [.int (nI k)]) (rest := []) ⟨hx, hb, hml, hown, hts⟩ (c_X2_payWage l D cI a σ (k := k) hk _) (cwV 1 hts gX1_serve_X2_payWage rfl rfl rfl zdX2_payWage ⟨Nat.le_of_ble_eq_true rfl, Nat.le_of_ble_eq_true rfl⟩) ⟨zbl _, va_recv hK hP (ci := 2) (q0 := 2) rfl rfl, zpr hK hP hD⟩ rfl rfl hl.1 rfl (lv_room (Nat.le_of_ble_eq_true rfl)) dX1_serve_24 ⟨Nat.zero_le _, Nat.zero_le _⟩) hS hF (fun H locs hkp hP1 hD1 hS => ?_)
      have hP := hP1
      have hD := hD1.weaken (fun _ _ _ z => hF _ z)
      have hP : va_P D vwCl (zw_H cI a (f_pay σ k)) H := hP
      have hD : va_D A (zw_H cI a (f_pay σ k)) := hD
      have hC := hC.to (f_pay_0 σ k) (f_pay_6 σ k)
      refine lv_aload_n hx hb dX1_serve_27 rfl (lv_at hl 0 rfl) ?_
      refine lv_iload_n hx hb dX1_serve_28 rfl (lv_at hl 1 rfl) ?_
      refine zk_R (D := D) (va_runV (As := [.int (nI k)]) (rest := []) ⟨hx, hb, hml, hown, hts⟩ (c_X1_canRedeemBoots l D cI a (f_pay σ k) (k := k) hk _) (cwV 1 hts gX1_serve_X1_canRedeemBoots rfl rfl rfl zdX1_canRedeemBoots ⟨Nat.le_of_ble_eq_true rfl, Nat.le_of_ble_eq_true rfl⟩) ⟨zbl _, va_recv hK hP (ci := 1) (q0 := 0) rfl rfl, zpr hK hP hD⟩ rfl rfl hl.1 rfl (lv_room (Nat.le_of_ble_eq_true rfl)) dX1_serve_29 ⟨Nat.zero_le _, Nat.zero_le _⟩) hS (fun r_9 H locs hw hkp hS => ?_)
      have hP := hkp _ hP
      rcases hw with ⟨c_10, rfl⟩ | ⟨c_10, rfl⟩
      · refine lv_if_eq (tgt := 40) hx hb dX1_serve_32 (by decide) (fun c => absurd c (by decide)) (fun _ => ?_)
        refine lv_aload_n hx hb dX1_serve_35 rfl (lv_at hl 0 rfl) ?_
        refine lv_iload_n hx hb dX1_serve_36 rfl (lv_at hl 1 rfl) ?_
        have hF := zfree hD hS hA
        refine zk_V (va_runV (As := [.int (nI k)]) (rest := []) ⟨hx, hb, hml, hown, hts⟩ (c_X1_redeemBoots l D cI a (f_pay σ k) (k := k) hk _) (cwV 1 hts gX1_serve_X1_redeemBoots rfl rfl rfl zdX1_redeemBoots ⟨Nat.le_of_ble_eq_true rfl, Nat.le_of_ble_eq_true rfl⟩) ⟨zbl _, va_recv hK hP (ci := 1) (q0 := 0) rfl rfl, zpr hK hP hD⟩ rfl rfl hl.1 rfl (lv_room (Nat.le_of_ble_eq_true rfl)) dX1_serve_37 ⟨Nat.zero_le _, Nat.zero_le _⟩) hS hF (fun H locs hkp hP1 hD1 hS => ?_)
        have hP := hP1
        have hD := hD1.weaken (fun _ _ _ z => hF _ z)
        have hP : va_P D vwCl (zw_H cI a (f_red (f_pay σ k) k)) H := hP
        have hD : va_D A (zw_H cI a (f_red (f_pay σ k) k)) := hD
        have hC := hC.to (f_red_0 (f_pay σ k) k) (f_red_6 (f_pay σ k) k)
        refine lv_aload_n hx hb dX1_serve_40 rfl (lv_at hl 0 rfl) ?_
        refine va_get (D := D) (ci := 1) (v := .ref (a 2)) (C := RX1) (T := TX1) (N := 5) hx hb hts hinX1 hown hK hP 0 rfl rfl 4 (by decide) hf29 (fun _ h9 => h9) rfl dX1_serve_41 ?_
        refine lv_iload_n hx hb dX1_serve_44 rfl (lv_at hl 1 rfl) ?_
        refine zk_R (D := D) (va_runV (As := [.int (nI k)]) (rest := []) ⟨hx, hb, hml, hown, hts⟩ (c_X2_isUp l D cI a (f_red (f_pay σ k) k) (k := k) hk _) (cwV 1 hts gX1_serve_X2_isUp rfl rfl rfl zdX2_isUp ⟨Nat.le_of_ble_eq_true rfl, Nat.le_of_ble_eq_true rfl⟩) ⟨zbl _, va_recv hK hP (ci := 2) (q0 := 2) rfl rfl, zpr hK hP hD⟩ rfl rfl hl.1 rfl (lv_room (Nat.le_of_ble_eq_true rfl)) dX1_serve_45 ⟨Nat.zero_le _, Nat.zero_le _⟩) hS (fun r_12 H locs hw hkp hS => ?_)
        have hP := hkp _ hP
        rcases hw with ⟨c_13, rfl⟩ | ⟨c_13, rfl⟩
        · refine lv_if_eq (tgt := 56) hx hb dX1_serve_48 (by decide) (fun c => absurd c (by decide)) (fun _ => ?_)
          refine lv_aload_n hx hb dX1_serve_51 rfl (lv_at hl 0 rfl) ?_
          refine lv_iload_n hx hb dX1_serve_52 rfl (lv_at hl 1 rfl) ?_
          have hF := zfree hD hS hA
          refine zk_V (va_runV (As := [.int (nI k)]) (rest := []) ⟨hx, hb, hml, hown, hts⟩ (c_X1_lookForBed l D cI a (f_red (f_pay σ k) k) (k := k) hk hC _) (cwV 1 hts gX1_serve_X1_lookForBed rfl rfl rfl zdX1_lookForBed ⟨Nat.le_of_ble_eq_true rfl, Nat.le_of_ble_eq_true rfl⟩) ⟨zbl _, va_recv hK hP (ci := 1) (q0 := 0) rfl rfl, zpr hK hP hD⟩ rfl rfl hl.1 rfl (lv_room (Nat.le_of_ble_eq_true rfl)) dX1_serve_53 ⟨Nat.zero_le _, Nat.zero_le _⟩) hS hF (fun H locs hkp hP1 hD1 hS => ?_)
          have hP := hP1
          have hD := hD1.weaken (fun _ _ _ z => hF _ z)
          have hP : va_P D vwCl (zw_H cI a (f_look (f_red (f_pay σ k) k) nb h k)) H := hP
          have hD : va_D A (zw_H cI a (f_look (f_red (f_pay σ k) k) nb h k)) := hD
          have e9 : f_serve σ nb h k = f_look (f_red (f_pay σ k) k) nb h k := by simp only [f_serve, f_payR, if_pos c_2, if_pos c_4, if_pos c_10, if_pos c_13]
          have hP9 : va_P D vwCl (zw_H cI a (f_serve σ nb h k)) H := by rw [e9]; exact hP
          have hD9 : va_D A (zw_H cI a (f_serve σ nb h k)) := by rw [e9]; exact hD
          exact W.vret hx hb hr (fun t ht hW => ⟨⟨(), rfl, trivial, by rw [ht]; exact hP9, va_K.moved hW.alike hK, hD9⟩, hS.F ht⟩) hS.2.2 dX1_serve_56
        · refine lv_if_eq (tgt := 56) hx hb dX1_serve_48 (by decide) (fun _ => ?_) (fun c => absurd (by decide) c)
          have e9 : f_serve σ nb h k = f_red (f_pay σ k) k := by simp only [f_serve, f_payR, if_pos c_2, if_pos c_4, if_pos c_10, if_neg c_13]
          have hP9 : va_P D vwCl (zw_H cI a (f_serve σ nb h k)) H := by rw [e9]; exact hP
          have hD9 : va_D A (zw_H cI a (f_serve σ nb h k)) := by rw [e9]; exact hD
          exact W.vret hx hb hr (fun t ht hW => ⟨⟨(), rfl, trivial, by rw [ht]; exact hP9, va_K.moved hW.alike hK, hD9⟩, hS.F ht⟩) hS.2.2 dX1_serve_56
      · refine lv_if_eq (tgt := 40) hx hb dX1_serve_32 (by decide) (fun _ => ?_) (fun c => absurd (by decide) c)
        refine lv_aload_n hx hb dX1_serve_40 rfl (lv_at hl 0 rfl) ?_
        refine va_get (D := D) (ci := 1) (v := .ref (a 2)) (C := RX1) (T := TX1) (N := 5) hx hb hts hinX1 hown hK hP 0 rfl rfl 4 (by decide) hf29 (fun _ h9 => h9) rfl dX1_serve_41 ?_
        refine lv_iload_n hx hb dX1_serve_44 rfl (lv_at hl 1 rfl) ?_
        refine zk_R (D := D) (va_runV (As := [.int (nI k)]) (rest := []) ⟨hx, hb, hml, hown, hts⟩ (c_X2_isUp l D cI a (f_pay σ k) (k := k) hk _) (cwV 1 hts gX1_serve_X2_isUp rfl rfl rfl zdX2_isUp ⟨Nat.le_of_ble_eq_true rfl, Nat.le_of_ble_eq_true rfl⟩) ⟨zbl _, va_recv hK hP (ci := 2) (q0 := 2) rfl rfl, zpr hK hP hD⟩ rfl rfl hl.1 rfl (lv_room (Nat.le_of_ble_eq_true rfl)) dX1_serve_45 ⟨Nat.zero_le _, Nat.zero_le _⟩) hS (fun r_17 H locs hw hkp hS => ?_)
        have hP := hkp _ hP
        rcases hw with ⟨c_18, rfl⟩ | ⟨c_18, rfl⟩
        · refine lv_if_eq (tgt := 56) hx hb dX1_serve_48 (by decide) (fun c => absurd c (by decide)) (fun _ => ?_)
          refine lv_aload_n hx hb dX1_serve_51 rfl (lv_at hl 0 rfl) ?_
          refine lv_iload_n hx hb dX1_serve_52 rfl (lv_at hl 1 rfl) ?_
          have hF := zfree hD hS hA
          refine zk_V (va_runV (As := [.int (nI k)]) (rest := []) ⟨hx, hb, hml, hown, hts⟩ (c_X1_lookForBed l D cI a (f_pay σ k) (k := k) hk hC _) (cwV 1 hts gX1_serve_X1_lookForBed rfl rfl rfl zdX1_lookForBed ⟨Nat.le_of_ble_eq_true rfl, Nat.le_of_ble_eq_true rfl⟩) ⟨zbl _, va_recv hK hP (ci := 1) (q0 := 0) rfl rfl, zpr hK hP hD⟩ rfl rfl hl.1 rfl (lv_room (Nat.le_of_ble_eq_true rfl)) dX1_serve_53 ⟨Nat.zero_le _, Nat.zero_le _⟩) hS hF (fun H locs hkp hP1 hD1 hS => ?_)
          have hP := hP1
          have hD := hD1.weaken (fun _ _ _ z => hF _ z)
          have hP : va_P D vwCl (zw_H cI a (f_look (f_pay σ k) nb h k)) H := hP
          have hD : va_D A (zw_H cI a (f_look (f_pay σ k) nb h k)) := hD
          have e9 : f_serve σ nb h k = f_look (f_pay σ k) nb h k := by simp only [f_serve, f_payR, if_pos c_2, if_pos c_4, if_neg c_10, if_pos c_18]
          have hP9 : va_P D vwCl (zw_H cI a (f_serve σ nb h k)) H := by rw [e9]; exact hP
          have hD9 : va_D A (zw_H cI a (f_serve σ nb h k)) := by rw [e9]; exact hD
          exact W.vret hx hb hr (fun t ht hW => ⟨⟨(), rfl, trivial, by rw [ht]; exact hP9, va_K.moved hW.alike hK, hD9⟩, hS.F ht⟩) hS.2.2 dX1_serve_56
        · refine lv_if_eq (tgt := 56) hx hb dX1_serve_48 (by decide) (fun _ => ?_) (fun c => absurd (by decide) c)
          have e9 : f_serve σ nb h k = f_pay σ k := by simp only [f_serve, f_payR, if_pos c_2, if_pos c_4, if_neg c_10, if_neg c_18]
          have hP9 : va_P D vwCl (zw_H cI a (f_serve σ nb h k)) H := by rw [e9]; exact hP
          have hD9 : va_D A (zw_H cI a (f_serve σ nb h k)) := by rw [e9]; exact hD
          exact W.vret hx hb hr (fun t ht hW => ⟨⟨(), rfl, trivial, by rw [ht]; exact hP9, va_K.moved hW.alike hK, hD9⟩, hS.F ht⟩) hS.2.2 dX1_serve_56
  · refine lv_if_ne (tgt := 9) hx hb dX1_serve_5 (by decide) (fun c => absurd (by decide) c) (fun _ => ?_)
    have e9 : f_serve σ nb h k = σ := by simp only [f_serve, f_payR, if_neg c_2]
    have hP9 : va_P D vwCl (zw_H cI a (f_serve σ nb h k)) H := by rw [e9]; exact hP
    have hD9 : va_D A (zw_H cI a (f_serve σ nb h k)) := by rw [e9]; exact hD
    exact W.vret hx hb hr (fun t ht hW => ⟨⟨(), rfl, trivial, by rw [ht]; exact hP9, va_K.moved hW.alike hK, hD9⟩, hS.F ht⟩) hS.2.2 dX1_serve_8
