set_option maxHeartbeats 4000000 in
set_option maxRecDepth 100000 in
theorem c_X2_isUp (l : Launch) (D : va_G) (cI : ClassId) (a : Nat → Nat) (σ : zS) {k : Nat} (hk : k < 10) : zMR l yX2_isUp wsX2_isUp ({ frames := 0, cells := 0, slots := 0, locals := 0 }) [.ref (a 2), .int (nI k)] D [(cI, .int)] (zw_H cI a σ) (zb (σ 12 k = 0)) := by
  intro sz
  refine Met.ofW (cc := cX2_isUp) (maxL := 2) (ret := (some .boolean)) (by decide) rfl ?_
  intro p e s m args below meth c s₁ B hml hv
  obtain ⟨rfl, hsz, hP, hK, hD⟩ := hv
  have hx := B.exec
  have hb := B.bytes
  have hr := B.returns
  have hts := atoms_spec (ws := wsX2_isUp) B.pre
  have hown : s.vm.findClass RX2 = some m.cls := findClass_of_methodNamed B.named
  have hlocks := B.notSynchronized
  have hS : va_S (fun _ => False) s.heap s.heap [] := va_S.rf
  have hP : va_P D vwCl (zw_H cI a σ) s.heap := hP
  have hl := lv_entry ([.ref (a 2), .int (nI k)]) (n := 2) (Nat.le_of_ble_eq_true rfl)
  rw [lg_entry_eq]
  generalize (lg_sl ([.ref (a 2), .int (nI k)]) ++ List.replicate (2 - (lg_sl ([.ref (a 2), .int (nI k)])).length) Slot.unset).toArray = ls at hl ⊢
  have hl : lv_has ls 2 [(0, .ref (a 2)), (1, .int (nI k))] := hl
  have hf32 := hts (.fieldLink RX2 32 "HotBeds$Sailors" "place" "[I") (by decide +kernel)
  have hinX2 : ∀ w ∈ u_ws RX2 TX2 13, w ∈ wsX2_isUp := by decide +kernel
  refine lv_aload_n hx hb dX2_isUp_0 rfl (lv_at hl 0 rfl) ?_
  refine va_get (D := D) (ci := 2) (v := .ref (a 14)) (C := RX2) (T := TX2) (N := 13) hx hb hts hinX2 hown hK hP 2 rfl rfl 7 (by decide) hf32 (fun _ h9 => h9) rfl dX2_isUp_1 ?_
  refine lv_iload_n hx hb dX2_isUp_4 rfl (lv_at hl 1 rfl) ?_
  refine zk_ld hx hb hK hP 14 0 (zwq12 cI a _) rfl (k := k) hk (by decide) (v := σ 12 k) rfl dX2_isUp_5 ?_
  refine lv_if_ne (tgt := 13) hx hb dX2_isUp_6 (by decide) (fun c_1 => ?_) (fun c_1 => ?_)
  · refine lv_iconst (v := 0) hx hb dX2_isUp_13 (by decide) ?_
    exact W.zret (v := 0) hx hb hr rfl (fun t ht hW => ⟨⟨0, (), rfl, Or.inr ⟨(fun z => c_1 z), rfl⟩, trivial⟩, hS.F ht⟩) hS.2.2 dX2_isUp_14
  · refine lv_iconst (v := 1) hx hb dX2_isUp_9 (by decide) ?_
    refine lv_goto (tgt := 14) hx hb dX2_isUp_10 (by decide) ?_
    exact W.zret (v := 1) hx hb hr rfl (fun t ht hW => ⟨⟨1, (), rfl, Or.inl ⟨c_1, rfl⟩, trivial⟩, hS.F ht⟩) hS.2.2 dX2_isUp_14

set_option maxHeartbeats 4000000 in
set_option maxRecDepth 100000 in
theorem c_X2_hasBoots (l : Launch) (D : va_G) (cI : ClassId) (a : Nat → Nat) (σ : zS) {k : Nat} (hk : k < 10) : zMR l yX2_hasBoots wsX2_hasBoots ({ frames := 0, cells := 0, slots := 0, locals := 0 }) [.ref (a 2), .int (nI k)] D [(cI, .int)] (zw_H cI a σ) (zb (σ 10 k = 1)) := by
  intro sz
  refine Met.ofW (cc := cX2_hasBoots) (maxL := 2) (ret := (some .boolean)) (by decide) rfl ?_
  intro p e s m args below meth c s₁ B hml hv
  obtain ⟨rfl, hsz, hP, hK, hD⟩ := hv
  have hx := B.exec
  have hb := B.bytes
  have hr := B.returns
  have hts := atoms_spec (ws := wsX2_hasBoots) B.pre
  have hown : s.vm.findClass RX2 = some m.cls := findClass_of_methodNamed B.named
  have hlocks := B.notSynchronized
  have hS : va_S (fun _ => False) s.heap s.heap [] := va_S.rf
  have hP : va_P D vwCl (zw_H cI a σ) s.heap := hP
  have hl := lv_entry ([.ref (a 2), .int (nI k)]) (n := 2) (Nat.le_of_ble_eq_true rfl)
  rw [lg_entry_eq]
  generalize (lg_sl ([.ref (a 2), .int (nI k)]) ++ List.replicate (2 - (lg_sl ([.ref (a 2), .int (nI k)])).length) Slot.unset).toArray = ls at hl ⊢
  have hl : lv_has ls 2 [(0, .ref (a 2)), (1, .int (nI k))] := hl
  have hf26 := hts (.fieldLink RX2 26 "HotBeds$Sailors" "boots" "[I") (by decide +kernel)
  have hinX2 : ∀ w ∈ u_ws RX2 TX2 13, w ∈ wsX2_hasBoots := by decide +kernel
  refine lv_aload_n hx hb dX2_hasBoots_0 rfl (lv_at hl 0 rfl) ?_
  refine va_get (D := D) (ci := 2) (v := .ref (a 12)) (C := RX2) (T := TX2) (N := 13) hx hb hts hinX2 hown hK hP 2 rfl rfl 5 (by decide) hf26 (fun _ h9 => h9) rfl dX2_hasBoots_1 ?_
  refine lv_iload_n hx hb dX2_hasBoots_4 rfl (lv_at hl 1 rfl) ?_
  refine zk_ld hx hb hK hP 12 0 (zwq10 cI a _) rfl (k := k) hk (by decide) (v := σ 10 k) rfl dX2_hasBoots_5 ?_
  refine lv_iconst (v := 1) hx hb dX2_hasBoots_6 (by decide) ?_
  refine lv_icmp_ne (tgt := 14) hx hb dX2_hasBoots_7 (by decide) (fun c_1 => ?_) (fun c_1 => ?_)
  · refine lv_iconst (v := 0) hx hb dX2_hasBoots_14 (by decide) ?_
    exact W.zret (v := 0) hx hb hr rfl (fun t ht hW => ⟨⟨0, (), rfl, Or.inr ⟨(fun z => c_1 z), rfl⟩, trivial⟩, hS.F ht⟩) hS.2.2 dX2_hasBoots_15
  · refine lv_iconst (v := 1) hx hb dX2_hasBoots_10 (by decide) ?_
    refine lv_goto (tgt := 15) hx hb dX2_hasBoots_11 (by decide) ?_
    exact W.zret (v := 1) hx hb hr rfl (fun t ht hW => ⟨⟨1, (), rfl, Or.inl ⟨c_1, rfl⟩, trivial⟩, hS.F ht⟩) hS.2.2 dX2_hasBoots_15

set_option maxHeartbeats 4000000 in
set_option maxRecDepth 100000 in
theorem c_X2_earn (l : Launch) (D : va_G) (cI : ClassId) (a : Nat → Nat) (σ : zS) {k : Nat} (hk : k < 10) (v : Int32) : zMV l yX2_earn wsX2_earn ({ frames := 1, cells := 0, slots := 0, locals := 15 }) [.ref (a 2), .int (nI k), .int v] D [(cI, .int)] (zw_H cI a σ) (zw_H cI a (f_earn σ k v)) := by
  intro sz
  refine Met.ofW (cc := cX2_earn) (maxL := 3) (ret := none) (by decide) rfl ?_
  intro p e s m args below meth c s₁ B hml hv
  obtain ⟨rfl, hsz, hP, hK, hD⟩ := hv
  have hx := B.exec
  have hb := B.bytes
  have hr := B.returns
  have hts := atoms_spec (ws := wsX2_earn) B.pre
  have hown : s.vm.findClass RX2 = some m.cls := findClass_of_methodNamed B.named
  have hlocks := B.notSynchronized
  subst hsz
  have hD := hD.self (sz := s.heap.size)
  generalize hAe : va_A (zw_H cI a σ) s.heap.size = A at hD ⊢
  have hA : ∀ q : Nat, s.heap.size ≤ q → A q := fun q h => by rw [← hAe]; exact Or.inr h
  have hS : va_S A s.heap s.heap [] := va_S.rf
  have hP : va_P D vwCl (zw_H cI a σ) s.heap := hP
  have hl := lv_entry ([.ref (a 2), .int (nI k), .int v]) (n := 3) (Nat.le_of_ble_eq_true rfl)
  rw [lg_entry_eq]
  generalize (lg_sl ([.ref (a 2), .int (nI k), .int v]) ++ List.replicate (3 - (lg_sl ([.ref (a 2), .int (nI k), .int v])).length) Slot.unset).toArray = ls at hl ⊢
  have hl : lv_has ls 3 [(0, .ref (a 2)), (1, .int (nI k)), (2, .int v)] := hl
  have hf23 := hts (.fieldLink RX2 23 "HotBeds$Sailors" "purse" "[I") (by decide +kernel)
  have hinX2 : ∀ w ∈ u_ws RX2 TX2 13, w ∈ wsX2_earn := by decide +kernel
  have hcomin := hts (.code Lib.Math.min.name Lib.Math.min.code 2 (some .int)) (by decide +kernel)
  have hinM := hts (.initialized "java/lang/Math") (by decide +kernel)
  have hml65 := hts (.methodLink RX2 65 Lib.Math.min.name) (by decide +kernel)
  have hstmin := hts (.static Lib.Math.min.name) (by decide +kernel)
  refine lv_aload_n hx hb dX2_earn_0 rfl (lv_at hl 0 rfl) ?_
  refine va_get (D := D) (ci := 2) (v := .ref (a 11)) (C := RX2) (T := TX2) (N := 13) hx hb hts hinX2 hown hK hP 2 rfl rfl 4 (by decide) hf23 (fun _ h9 => h9) rfl dX2_earn_1 ?_
  refine lv_iload_n hx hb dX2_earn_4 rfl (lv_at hl 1 rfl) ?_
  refine lv_bipush (v := 99) hx hb dX2_earn_5 (by decide) ?_
  refine lv_aload_n hx hb dX2_earn_7 rfl (lv_at hl 0 rfl) ?_
  refine va_get (D := D) (ci := 2) (v := .ref (a 11)) (C := RX2) (T := TX2) (N := 13) hx hb hts hinX2 hown hK hP 2 rfl rfl 4 (by decide) hf23 (fun _ h9 => h9) rfl dX2_earn_8 ?_
  refine lv_iload_n hx hb dX2_earn_11 rfl (lv_at hl 1 rfl) ?_
  refine zk_ld hx hb hK hP 11 0 (zwq9 cI a _) rfl (k := k) hk (by decide) (v := σ 9 k) rfl dX2_earn_12 ?_
  refine lv_iload_n hx hb dX2_earn_13 rfl (lv_at hl 2 rfl) ?_
  refine lv_iadd hx hb dX2_earn_14 ?_
  refine va_mmin hx hb (hml.trans hl.1.symm) hown hml65 hstmin hinM hcomin (Nat.le_of_ble_eq_true rfl) (Nat.le_of_ble_eq_true rfl) (Nat.zero_le _) (Nat.zero_le _) dX2_earn_15 ?_
  refine zk_st hx hb hK hP hD hS 11 0 (zwq9 cI a _) rfl (k := k) hk (by decide) (zws9 cI a _ _ _) dX2_earn_18 (fun H locs hP hD hS => ?_)
  have hP : va_P D vwCl (zw_H cI a (zs σ 9 k (f_min99 ((σ 9 k) + v)))) H := hP
  have hD : va_D A (zw_H cI a (zs σ 9 k (f_min99 ((σ 9 k) + v)))) := hD
  have e9 : f_earn σ k v = zs σ 9 k (f_min99 ((σ 9 k) + v)) := by simp only [f_earn]
  have hP9 : va_P D vwCl (zw_H cI a (f_earn σ k v)) H := by rw [e9]; exact hP
  have hD9 : va_D A (zw_H cI a (f_earn σ k v)) := by rw [e9]; exact hD
  exact W.vret hx hb hr (fun t ht hW => ⟨⟨(), rfl, trivial, by rw [ht]; exact hP9, va_K.moved hW.alike hK, hD9⟩, hS.F ht⟩) hS.2.2 dX2_earn_19

set_option maxHeartbeats 4000000 in
set_option maxRecDepth 100000 in
theorem c_X2_beLate (l : Launch) (D : va_G) (cI : ClassId) (a : Nat → Nat) (σ : zS) {k : Nat} (hk : k < 10) : zMV l yX2_beLate wsX2_beLate ({ frames := 0, cells := 0, slots := 0, locals := 0 }) [.ref (a 2), .int (nI k)] D [(cI, .int)] (zw_H cI a σ) (zw_H cI a (f_late σ k)) := by
  intro sz
  refine Met.ofW (cc := cX2_beLate) (maxL := 2) (ret := none) (by decide) rfl ?_
  intro p e s m args below meth c s₁ B hml hv
  obtain ⟨rfl, hsz, hP, hK, hD⟩ := hv
  have hx := B.exec
  have hb := B.bytes
  have hr := B.returns
  have hts := atoms_spec (ws := wsX2_beLate) B.pre
  have hown : s.vm.findClass RX2 = some m.cls := findClass_of_methodNamed B.named
  have hlocks := B.notSynchronized
  subst hsz
  have hD := hD.self (sz := s.heap.size)
  generalize hAe : va_A (zw_H cI a σ) s.heap.size = A at hD ⊢
  have hA : ∀ q : Nat, s.heap.size ≤ q → A q := fun q h => by rw [← hAe]; exact Or.inr h
  have hS : va_S A s.heap s.heap [] := va_S.rf
  have hP : va_P D vwCl (zw_H cI a σ) s.heap := hP
  have hl := lv_entry ([.ref (a 2), .int (nI k)]) (n := 2) (Nat.le_of_ble_eq_true rfl)
  rw [lg_entry_eq]
  generalize (lg_sl ([.ref (a 2), .int (nI k)]) ++ List.replicate (2 - (lg_sl ([.ref (a 2), .int (nI k)])).length) Slot.unset).toArray = ls at hl ⊢
  have hl : lv_has ls 2 [(0, .ref (a 2)), (1, .int (nI k))] := hl
  have hf41 := hts (.fieldLink RX2 41 "HotBeds$Sailors" "late" "[I") (by decide +kernel)
  have hf44 := hts (.fieldLink RX2 44 "HotBeds$Sailors" "lateSincePay" "[I") (by decide +kernel)
  have hinX2 : ∀ w ∈ u_ws RX2 TX2 13, w ∈ wsX2_beLate := by decide +kernel
  refine lv_aload_n hx hb dX2_beLate_0 rfl (lv_at hl 0 rfl) ?_
  refine va_get (D := D) (ci := 2) (v := .ref (a 17)) (C := RX2) (T := TX2) (N := 13) hx hb hts hinX2 hown hK hP 2 rfl rfl 10 (by decide) hf41 (fun _ h9 => h9) rfl dX2_beLate_1 ?_
  refine lv_iload_n hx hb dX2_beLate_4 rfl (lv_at hl 1 rfl) ?_
  refine lv_dup2_11 hx hb dX2_beLate_5 rfl rfl ?_
  refine zk_ld hx hb hK hP 17 0 (zwq15 cI a _) rfl (k := k) hk (by decide) (v := σ 15 k) rfl dX2_beLate_6 ?_
  refine lv_iconst (v := 1) hx hb dX2_beLate_7 (by decide) ?_
  refine lv_iadd hx hb dX2_beLate_8 ?_
  refine zk_st hx hb hK hP hD hS 17 0 (zwq15 cI a _) rfl (k := k) hk (by decide) (zws15 cI a _ _ _) dX2_beLate_9 (fun H locs hP hD hS => ?_)
  have hP : va_P D vwCl (zw_H cI a (zs σ 15 k ((σ 15 k) + 1))) H := hP
  have hD : va_D A (zw_H cI a (zs σ 15 k ((σ 15 k) + 1))) := hD
  refine lv_aload_n hx hb dX2_beLate_10 rfl (lv_at hl 0 rfl) ?_
  refine va_get (D := D) (ci := 2) (v := .ref (a 18)) (C := RX2) (T := TX2) (N := 13) hx hb hts hinX2 hown hK hP 2 rfl rfl 11 (by decide) hf44 (fun _ h9 => h9) rfl dX2_beLate_11 ?_
  refine lv_iload_n hx hb dX2_beLate_14 rfl (lv_at hl 1 rfl) ?_
  refine lv_dup2_11 hx hb dX2_beLate_15 rfl rfl ?_
  refine zk_ld hx hb hK hP 18 0 (zwq16 cI a _) rfl (k := k) hk (by decide) (v := σ 16 k) rfl dX2_beLate_16 ?_
  refine lv_iconst (v := 1) hx hb dX2_beLate_17 (by decide) ?_
  refine lv_iadd hx hb dX2_beLate_18 ?_
  refine zk_st hx hb hK hP hD hS 18 0 (zwq16 cI a _) rfl (k := k) hk (by decide) (zws16 cI a _ _ _) dX2_beLate_19 (fun H locs hP hD hS => ?_)
  have hP : va_P D vwCl (zw_H cI a (zs (zs σ 15 k ((σ 15 k) + 1)) 16 k ((σ 16 k) + 1))) H := hP
  have hD : va_D A (zw_H cI a (zs (zs σ 15 k ((σ 15 k) + 1)) 16 k ((σ 16 k) + 1))) := hD
  have e9 : f_late σ k = zs (zs σ 15 k ((σ 15 k) + 1)) 16 k ((σ 16 k) + 1) := by simp only [f_late]
  have hP9 : va_P D vwCl (zw_H cI a (f_late σ k)) H := by rw [e9]; exact hP
  have hD9 : va_D A (zw_H cI a (f_late σ k)) := by rw [e9]; exact hD
  exact W.vret hx hb hr (fun t ht hW => ⟨⟨(), rfl, trivial, by rw [ht]; exact hP9, va_K.moved hW.alike hK, hD9⟩, hS.F ht⟩) hS.2.2 dX2_beLate_20

set_option maxHeartbeats 4000000 in
set_option maxRecDepth 100000 in
theorem c_X2_lieOnFloor (l : Launch) (D : va_G) (cI : ClassId) (a : Nat → Nat) (σ : zS) {k : Nat} (hk : k < 10) : zMV l yX2_lieOnFloor wsX2_lieOnFloor ({ frames := 0, cells := 0, slots := 0, locals := 0 }) [.ref (a 2), .int (nI k)] D [(cI, .int)] (zw_H cI a σ) (zw_H cI a (f_floor σ k)) := by
  intro sz
  refine Met.ofW (cc := cX2_lieOnFloor) (maxL := 2) (ret := none) (by decide) rfl ?_
  intro p e s m args below meth c s₁ B hml hv
  obtain ⟨rfl, hsz, hP, hK, hD⟩ := hv
  have hx := B.exec
  have hb := B.bytes
  have hr := B.returns
  have hts := atoms_spec (ws := wsX2_lieOnFloor) B.pre
  have hown : s.vm.findClass RX2 = some m.cls := findClass_of_methodNamed B.named
  have hlocks := B.notSynchronized
  subst hsz
  have hD := hD.self (sz := s.heap.size)
  generalize hAe : va_A (zw_H cI a σ) s.heap.size = A at hD ⊢
  have hA : ∀ q : Nat, s.heap.size ≤ q → A q := fun q h => by rw [← hAe]; exact Or.inr h
  have hS : va_S A s.heap s.heap [] := va_S.rf
  have hP : va_P D vwCl (zw_H cI a σ) s.heap := hP
  have hl := lv_entry ([.ref (a 2), .int (nI k)]) (n := 2) (Nat.le_of_ble_eq_true rfl)
  rw [lg_entry_eq]
  generalize (lg_sl ([.ref (a 2), .int (nI k)]) ++ List.replicate (2 - (lg_sl ([.ref (a 2), .int (nI k)])).length) Slot.unset).toArray = ls at hl ⊢
  have hl : lv_has ls 2 [(0, .ref (a 2)), (1, .int (nI k))] := hl
  have hf32 := hts (.fieldLink RX2 32 "HotBeds$Sailors" "place" "[I") (by decide +kernel)
  have hf47 := hts (.fieldLink RX2 47 "HotBeds$Sailors" "floors" "[I") (by decide +kernel)
  have hinX2 : ∀ w ∈ u_ws RX2 TX2 13, w ∈ wsX2_lieOnFloor := by decide +kernel
  refine lv_aload_n hx hb dX2_lieOnFloor_0 rfl (lv_at hl 0 rfl) ?_
  refine va_get (D := D) (ci := 2) (v := .ref (a 14)) (C := RX2) (T := TX2) (N := 13) hx hb hts hinX2 hown hK hP 2 rfl rfl 7 (by decide) hf32 (fun _ h9 => h9) rfl dX2_lieOnFloor_1 ?_
  refine lv_iload_n hx hb dX2_lieOnFloor_4 rfl (lv_at hl 1 rfl) ?_
  refine lv_iconst (v := 2) hx hb dX2_lieOnFloor_5 (by decide) ?_
  refine zk_st hx hb hK hP hD hS 14 0 (zwq12 cI a _) rfl (k := k) hk (by decide) (zws12 cI a _ _ _) dX2_lieOnFloor_6 (fun H locs hP hD hS => ?_)
  have hP : va_P D vwCl (zw_H cI a (zs σ 12 k 2)) H := hP
  have hD : va_D A (zw_H cI a (zs σ 12 k 2)) := hD
  refine lv_aload_n hx hb dX2_lieOnFloor_7 rfl (lv_at hl 0 rfl) ?_
  refine va_get (D := D) (ci := 2) (v := .ref (a 19)) (C := RX2) (T := TX2) (N := 13) hx hb hts hinX2 hown hK hP 2 rfl rfl 12 (by decide) hf47 (fun _ h9 => h9) rfl dX2_lieOnFloor_8 ?_
  refine lv_iload_n hx hb dX2_lieOnFloor_11 rfl (lv_at hl 1 rfl) ?_
  refine lv_dup2_11 hx hb dX2_lieOnFloor_12 rfl rfl ?_
  refine zk_ld hx hb hK hP 19 0 (zwq17 cI a _) rfl (k := k) hk (by decide) (v := σ 17 k) rfl dX2_lieOnFloor_13 ?_
  refine lv_iconst (v := 1) hx hb dX2_lieOnFloor_14 (by decide) ?_
  refine lv_iadd hx hb dX2_lieOnFloor_15 ?_
  refine zk_st hx hb hK hP hD hS 19 0 (zwq17 cI a _) rfl (k := k) hk (by decide) (zws17 cI a _ _ _) dX2_lieOnFloor_16 (fun H locs hP hD hS => ?_)
  have hP : va_P D vwCl (zw_H cI a (zs (zs σ 12 k 2) 17 k ((σ 17 k) + 1))) H := hP
  have hD : va_D A (zw_H cI a (zs (zs σ 12 k 2) 17 k ((σ 17 k) + 1))) := hD
  have e9 : f_floor σ k = zs (zs σ 12 k 2) 17 k ((σ 17 k) + 1) := by simp only [f_floor]
  have hP9 : va_P D vwCl (zw_H cI a (f_floor σ k)) H := by rw [e9]; exact hP
  have hD9 : va_D A (zw_H cI a (f_floor σ k)) := by rw [e9]; exact hD
  exact W.vret hx hb hr (fun t ht hW => ⟨⟨(), rfl, trivial, by rw [ht]; exact hP9, va_K.moved hW.alike hK, hD9⟩, hS.F ht⟩) hS.2.2 dX2_lieOnFloor_17

set_option maxHeartbeats 4000000 in
set_option maxRecDepth 100000 in
theorem c_X2_payWage (l : Launch) (D : va_G) (cI : ClassId) (a : Nat → Nat) (σ : zS) {k : Nat} (hk : k < 10) : zMV l yX2_payWage wsX2_payWage ({ frames := 2, cells := 0, slots := 0, locals := 37 }) [.ref (a 2), .int (nI k)] D [(cI, .int)] (zw_H cI a σ) (zw_H cI a (f_pay σ k)) := by
  intro sz
  refine Met.ofW (cc := cX2_payWage) (maxL := 3) (ret := none) (by decide) rfl ?_
  intro p e s m args below meth c s₁ B hml hv
  obtain ⟨rfl, hsz, hP, hK, hD⟩ := hv
  have hx := B.exec
  have hb := B.bytes
  have hr := B.returns
  have hts := atoms_spec (ws := wsX2_payWage) B.pre
  have hown : s.vm.findClass RX2 = some m.cls := findClass_of_methodNamed B.named
  have hlocks := B.notSynchronized
  subst hsz
  have hD := hD.self (sz := s.heap.size)
  generalize hAe : va_A (zw_H cI a σ) s.heap.size = A at hD ⊢
  have hA : ∀ q : Nat, s.heap.size ≤ q → A q := fun q h => by rw [← hAe]; exact Or.inr h
  have hS : va_S A s.heap s.heap [] := va_S.rf
  have hP : va_P D vwCl (zw_H cI a σ) s.heap := hP
  have hl := lv_entry ([.ref (a 2), .int (nI k)]) (n := 3) (Nat.le_of_ble_eq_true rfl)
  rw [lg_entry_eq]
  generalize (lg_sl ([.ref (a 2), .int (nI k)]) ++ List.replicate (3 - (lg_sl ([.ref (a 2), .int (nI k)])).length) Slot.unset).toArray = ls at hl ⊢
  have hl : lv_has ls 3 [(0, .ref (a 2)), (1, .int (nI k))] := hl
  have hf20 := hts (.fieldLink RX2 20 "HotBeds$Sailors" "wage" "[I") (by decide +kernel)
  have hf44 := hts (.fieldLink RX2 44 "HotBeds$Sailors" "lateSincePay" "[I") (by decide +kernel)
  have hinX2 : ∀ w ∈ u_ws RX2 TX2 13, w ∈ wsX2_payWage := by decide +kernel
  have hcomax := hts (.code Lib.Math.max.name Lib.Math.max.code 2 (some .int)) (by decide +kernel)
  have hinM := hts (.initialized "java/lang/Math") (by decide +kernel)
  have hml75 := hts (.methodLink RX2 75 Lib.Math.max.name) (by decide +kernel)
  have hstmax := hts (.static Lib.Math.max.name) (by decide +kernel)
  refine lv_aload_n hx hb dX2_payWage_0 rfl (lv_at hl 0 rfl) ?_
  refine lv_iload_n hx hb dX2_payWage_1 rfl (lv_at hl 1 rfl) ?_
  refine zk_R (D := D) (va_runV (As := [.int (nI k)]) (rest := []) ⟨hx, hb, hml, hown, hts⟩ (c_X2_hasBoots l D cI a σ (k := k) hk _) (cwV 1 hts gX2_payWage_X2_hasBoots rfl rfl rfl zdX2_hasBoots ⟨Nat.le_of_ble_eq_true rfl, Nat.le_of_ble_eq_true rfl⟩) ⟨zbl _, va_recv hK hP (ci := 2) (q0 := 2) rfl rfl, zpr hK hP hD⟩ rfl rfl hl.1 rfl (lv_room (Nat.le_of_ble_eq_true rfl)) dX2_payWage_2 ⟨Nat.zero_le _, Nat.zero_le _⟩) hS (fun r_1 H locs hw hkp hS => ?_)
  have hP := hkp _ hP
  rcases hw with ⟨c_2, rfl⟩ | ⟨c_2, rfl⟩
  · refine lv_if_eq (tgt := 17) hx hb dX2_payWage_5 (by decide) (fun c => absurd c (by decide)) (fun _ => ?_)
    refine lv_aload_n hx hb dX2_payWage_8 rfl (lv_at hl 0 rfl) ?_
    refine va_get (D := D) (ci := 2) (v := .ref (a 10)) (C := RX2) (T := TX2) (N := 13) hx hb hts hinX2 hown hK hP 2 rfl rfl 3 (by decide) hf20 (fun _ h9 => h9) rfl dX2_payWage_9 ?_
    refine lv_iload_n hx hb dX2_payWage_12 rfl (lv_at hl 1 rfl) ?_
    refine zk_ld hx hb hK hP 10 0 (zwq8 cI a _) rfl (k := k) hk (by decide) (v := σ 8 k) rfl dX2_payWage_13 ?_
    refine lv_goto (tgt := 25) hx hb dX2_payWage_14 (by decide) ?_
    refine lv_istore_n (lv' := [(2, .int (σ 8 k)), (0, .ref (a 2)), (1, .int (nI k))]) hx hb dX2_payWage_25 rfl hl (by decide) rfl (fun ls hl => ?_)
    refine lv_aload_n hx hb dX2_payWage_26 rfl (lv_at hl 1 rfl) ?_
    refine lv_iload_n hx hb dX2_payWage_27 rfl (lv_at hl 2 rfl) ?_
    refine lv_iconst (v := 0) hx hb dX2_payWage_28 (by decide) ?_
    refine lv_iload_n hx hb dX2_payWage_29 rfl (lv_at hl 0 rfl) ?_
    refine lv_aload_n hx hb dX2_payWage_30 rfl (lv_at hl 1 rfl) ?_
    refine va_get (D := D) (ci := 2) (v := .ref (a 18)) (C := RX2) (T := TX2) (N := 13) hx hb hts hinX2 hown hK hP 2 rfl rfl 11 (by decide) hf44 (fun _ h9 => h9) rfl dX2_payWage_31 ?_
    refine lv_iload_n hx hb dX2_payWage_34 rfl (lv_at hl 2 rfl) ?_
    refine zk_ld hx hb hK hP 18 0 (zwq16 cI a _) rfl (k := k) hk (by decide) (v := σ 16 k) rfl dX2_payWage_35 ?_
    refine lv_isub hx hb dX2_payWage_36 ?_
    refine va_mmax hx hb (hml.trans hl.1.symm) hown hml75 hstmax hinM hcomax (Nat.le_of_ble_eq_true rfl) (Nat.le_of_ble_eq_true rfl) (Nat.zero_le _) (Nat.zero_le _) dX2_payWage_37 ?_
    have hF := zfree hD hS hA
    refine zk_V (va_runV (As := [.int (nI k), .int (f_max0 ((σ 8 k) - (σ 16 k)))]) (rest := []) ⟨hx, hb, hml, hown, hts⟩ (c_X2_earn l D cI a σ (k := k) hk (f_max0 ((σ 8 k) - (σ 16 k))) _) (cwV 2 hts gX2_payWage_X2_earn rfl rfl rfl zdX2_earn ⟨Nat.le_of_ble_eq_true rfl, Nat.le_of_ble_eq_true rfl⟩) ⟨zbl _, va_recv hK hP (ci := 2) (q0 := 2) rfl rfl, zpr hK hP hD⟩ rfl rfl hl.1 rfl (lv_room (Nat.le_of_ble_eq_true rfl)) dX2_payWage_40 ⟨Nat.zero_le _, Nat.zero_le _⟩) hS hF (fun H locs hkp hP1 hD1 hS => ?_)
    have hP := hP1
    have hD := hD1.weaken (fun _ _ _ z => hF _ z)
    have hP : va_P D vwCl (zw_H cI a (f_earn σ k (f_max0 ((σ 8 k) - (σ 16 k))))) H := hP
    have hD : va_D A (zw_H cI a (f_earn σ k (f_max0 ((σ 8 k) - (σ 16 k))))) := hD
    refine lv_aload_n hx hb dX2_payWage_43 rfl (lv_at hl 1 rfl) ?_
    refine va_get (D := D) (ci := 2) (v := .ref (a 18)) (C := RX2) (T := TX2) (N := 13) hx hb hts hinX2 hown hK hP 2 rfl rfl 11 (by decide) hf44 (fun _ h9 => h9) rfl dX2_payWage_44 ?_
    refine lv_iload_n hx hb dX2_payWage_47 rfl (lv_at hl 2 rfl) ?_
    refine lv_iconst (v := 0) hx hb dX2_payWage_48 (by decide) ?_
    refine zk_st hx hb hK hP hD hS 18 0 (zwq16 cI a _) rfl (k := k) hk (by decide) (zws16 cI a _ _ _) dX2_payWage_49 (fun H locs hP hD hS => ?_)
    have hP : va_P D vwCl (zw_H cI a (zs (f_earn σ k (f_max0 ((σ 8 k) - (σ 16 k)))) 16 k 0)) H := hP
    have hD : va_D A (zw_H cI a (zs (f_earn σ k (f_max0 ((σ 8 k) - (σ 16 k)))) 16 k 0)) := hD
    have e9 : f_pay σ k = zs (f_earn σ k (f_max0 ((σ 8 k) - (σ 16 k)))) 16 k 0 := by simp only [f_pay, if_pos c_2]
    have hP9 : va_P D vwCl (zw_H cI a (f_pay σ k)) H := by rw [e9]; exact hP
    have hD9 : va_D A (zw_H cI a (f_pay σ k)) := by rw [e9]; exact hD
    exact W.vret hx hb hr (fun t ht hW => ⟨⟨(), rfl, trivial, by rw [ht]; exact hP9, va_K.moved hW.alike hK, hD9⟩, hS.F ht⟩) hS.2.2 dX2_payWage_50
  · refine lv_if_eq (tgt := 17) hx hb dX2_payWage_5 (by decide) (fun _ => ?_) (fun c => absurd (by decide) c)
    refine lv_aload_n hx hb dX2_payWage_17 rfl (lv_at hl 0 rfl) ?_
    refine va_get (D := D) (ci := 2) (v := .ref (a 10)) (C := RX2) (T := TX2) (N := 13) hx hb hts hinX2 hown hK hP 2 rfl rfl 3 (by decide) hf20 (fun _ h9 => h9) rfl dX2_payWage_18 ?_
    refine lv_iload_n hx hb dX2_payWage_21 rfl (lv_at hl 1 rfl) ?_
    refine zk_ld hx hb hK hP 10 0 (zwq8 cI a _) rfl (k := k) hk (by decide) (v := σ 8 k) rfl dX2_payWage_22 ?_
    refine lv_iconst (v := 2) hx hb dX2_payWage_23 (by decide) ?_
    refine lv_idiv hx hb dX2_payWage_24 (by decide) ?_
    refine lv_istore_n (lv' := [(2, .int ((σ 8 k) / 2)), (0, .ref (a 2)), (1, .int (nI k))]) hx hb dX2_payWage_25 rfl hl (by decide) rfl (fun ls hl => ?_)
    refine lv_aload_n hx hb dX2_payWage_26 rfl (lv_at hl 1 rfl) ?_
    refine lv_iload_n hx hb dX2_payWage_27 rfl (lv_at hl 2 rfl) ?_
    refine lv_iconst (v := 0) hx hb dX2_payWage_28 (by decide) ?_
    refine lv_iload_n hx hb dX2_payWage_29 rfl (lv_at hl 0 rfl) ?_
    refine lv_aload_n hx hb dX2_payWage_30 rfl (lv_at hl 1 rfl) ?_
    refine va_get (D := D) (ci := 2) (v := .ref (a 18)) (C := RX2) (T := TX2) (N := 13) hx hb hts hinX2 hown hK hP 2 rfl rfl 11 (by decide) hf44 (fun _ h9 => h9) rfl dX2_payWage_31 ?_
    refine lv_iload_n hx hb dX2_payWage_34 rfl (lv_at hl 2 rfl) ?_
    refine zk_ld hx hb hK hP 18 0 (zwq16 cI a _) rfl (k := k) hk (by decide) (v := σ 16 k) rfl dX2_payWage_35 ?_
    refine lv_isub hx hb dX2_payWage_36 ?_
    refine va_mmax hx hb (hml.trans hl.1.symm) hown hml75 hstmax hinM hcomax (Nat.le_of_ble_eq_true rfl) (Nat.le_of_ble_eq_true rfl) (Nat.zero_le _) (Nat.zero_le _) dX2_payWage_37 ?_
    have hF := zfree hD hS hA
    refine zk_V (va_runV (As := [.int (nI k), .int (f_max0 (((σ 8 k) / 2) - (σ 16 k)))]) (rest := []) ⟨hx, hb, hml, hown, hts⟩ (c_X2_earn l D cI a σ (k := k) hk (f_max0 (((σ 8 k) / 2) - (σ 16 k))) _) (cwV 2 hts gX2_payWage_X2_earn rfl rfl rfl zdX2_earn ⟨Nat.le_of_ble_eq_true rfl, Nat.le_of_ble_eq_true rfl⟩) ⟨zbl _, va_recv hK hP (ci := 2) (q0 := 2) rfl rfl, zpr hK hP hD⟩ rfl rfl hl.1 rfl (lv_room (Nat.le_of_ble_eq_true rfl)) dX2_payWage_40 ⟨Nat.zero_le _, Nat.zero_le _⟩) hS hF (fun H locs hkp hP1 hD1 hS => ?_)
    have hP := hP1
    have hD := hD1.weaken (fun _ _ _ z => hF _ z)
    have hP : va_P D vwCl (zw_H cI a (f_earn σ k (f_max0 (((σ 8 k) / 2) - (σ 16 k))))) H := hP
    have hD : va_D A (zw_H cI a (f_earn σ k (f_max0 (((σ 8 k) / 2) - (σ 16 k))))) := hD
    refine lv_aload_n hx hb dX2_payWage_43 rfl (lv_at hl 1 rfl) ?_
    refine va_get (D := D) (ci := 2) (v := .ref (a 18)) (C := RX2) (T := TX2) (N := 13) hx hb hts hinX2 hown hK hP 2 rfl rfl 11 (by decide) hf44 (fun _ h9 => h9) rfl dX2_payWage_44 ?_
    refine lv_iload_n hx hb dX2_payWage_47 rfl (lv_at hl 2 rfl) ?_
    refine lv_iconst (v := 0) hx hb dX2_payWage_48 (by decide) ?_
    refine zk_st hx hb hK hP hD hS 18 0 (zwq16 cI a _) rfl (k := k) hk (by decide) (zws16 cI a _ _ _) dX2_payWage_49 (fun H locs hP hD hS => ?_)
    have hP : va_P D vwCl (zw_H cI a (zs (f_earn σ k (f_max0 (((σ 8 k) / 2) - (σ 16 k)))) 16 k 0)) H := hP
    have hD : va_D A (zw_H cI a (zs (f_earn σ k (f_max0 (((σ 8 k) / 2) - (σ 16 k)))) 16 k 0)) := hD
    have e9 : f_pay σ k = zs (f_earn σ k (f_max0 (((σ 8 k) / 2) - (σ 16 k)))) 16 k 0 := by simp only [f_pay, if_neg c_2]
    have hP9 : va_P D vwCl (zw_H cI a (f_pay σ k)) H := by rw [e9]; exact hP
    have hD9 : va_D A (zw_H cI a (f_pay σ k)) := by rw [e9]; exact hD
    exact W.vret hx hb hr (fun t ht hW => ⟨⟨(), rfl, trivial, by rw [ht]; exact hP9, va_K.moved hW.alike hK, hD9⟩, hS.F ht⟩) hS.2.2 dX2_payWage_50

set_option maxHeartbeats 4000000 in
set_option maxRecDepth 100000 in
theorem c_X2_howManyAt (l : Launch) (D : va_G) (cI : ClassId) (a : Nat → Nat) (σ : zS) (v : Int32) {nb ns h : Nat} (hC : zC σ nb ns h) : zMR l yX2_howManyAt wsX2_howManyAt ({ frames := 0, cells := 0, slots := 0, locals := 0 }) [.ref (a 2), .int v] D [(cI, .int)] (zw_H cI a σ) (fun r => r = f_many (σ 12) v ns) := by
  intro sz
  refine Met.ofW (cc := cX2_howManyAt) (maxL := 4) (ret := (some .int)) (by decide) rfl ?_
  intro p e s m args below meth c s₁ B hml hv
  obtain ⟨rfl, hsz, hP, hK, hD⟩ := hv
  have hx := B.exec
  have hb := B.bytes
  have hr := B.returns
  have hts := atoms_spec (ws := wsX2_howManyAt) B.pre
  have hown : s.vm.findClass RX2 = some m.cls := findClass_of_methodNamed B.named
  have hlocks := B.notSynchronized
  have hS : va_S (fun _ => False) s.heap s.heap [] := va_S.rf
  have hP : va_P D vwCl (zw_H cI a σ) s.heap := hP
  have hl := lv_entry ([.ref (a 2), .int v]) (n := 4) (Nat.le_of_ble_eq_true rfl)
  rw [lg_entry_eq]
  generalize (lg_sl ([.ref (a 2), .int v]) ++ List.replicate (4 - (lg_sl ([.ref (a 2), .int v])).length) Slot.unset).toArray = ls at hl ⊢
  have hl : lv_has ls 4 [(0, .ref (a 2)), (1, .int v)] := hl
  have hf32 := hts (.fieldLink RX2 32 "HotBeds$Sailors" "place" "[I") (by decide +kernel)
  have hf7 := hts (.fieldLink RX2 7 "HotBeds$Sailors" "size" "I") (by decide +kernel)
  have hinX2 : ∀ w ∈ u_ws RX2 TX2 13, w ∈ wsX2_howManyAt := by decide +kernel
  have hns := hC.2.2.2.1
  refine lv_iconst (v := 0) hx hb dX2_howManyAt_0 (by decide) ?_
  refine lv_istore_n (lv' := [(2, .int 0), (0, .ref (a 2)), (1, .int v)]) hx hb dX2_howManyAt_1 rfl hl (by decide) rfl (fun ls hl => ?_)
  refine lv_iconst (v := 0) hx hb dX2_howManyAt_2 (by decide) ?_
  refine lv_istore_n (lv' := [(3, .int 0), (2, .int 0), (0, .ref (a 2)), (1, .int v)]) hx hb dX2_howManyAt_3 rfl hl (by decide) rfl (fun ls hl => ?_)
  refine zk_loop (pc := 4) (fun k H locs ls => va_P D vwCl (zw_H cI a σ) H ∧ va_S (fun _ => False) s.heap H locs ∧ lv_has ls 4 [(0, .ref (a 2)), (1, .int v), (2, .int (f_many (σ 12) v k)), (3, .int (nI k))]) ns (fun k hkk ih H locs ls hI => ?_) (fun H locs ls hI => ?_) _ _ _ ⟨hP, hS, lv_sub hl [2, 3, 1, 0] rfl⟩
  · obtain ⟨hP, hS, hl⟩ := hI
    refine lv_iload_n hx hb dX2_howManyAt_4 rfl (lv_at hl 3 rfl) ?_
    refine lv_aload_n hx hb dX2_howManyAt_5 rfl (lv_at hl 0 rfl) ?_
    refine va_get (D := D) (ci := 2) (v := .int (nI ns)) (C := RX2) (T := TX2) (N := 13) hx hb hts hinX2 hown hK hP 2 rfl rfl 0 (by decide) hf7 (fun _ h9 => h9) (congrArg (fun z => some (Value.int z)) hC.2.2.1) dX2_howManyAt_6 ?_
    refine lv_icmp_ge (tgt := 31) hx hb dX2_howManyAt_9 (by decide) (fun c => absurd c (nI_ge hkk (by omega))) (fun _ => ?_)
    refine lv_aload_n hx hb dX2_howManyAt_12 rfl (lv_at hl 0 rfl) ?_
    refine va_get (D := D) (ci := 2) (v := .ref (a 14)) (C := RX2) (T := TX2) (N := 13) hx hb hts hinX2 hown hK hP 2 rfl rfl 7 (by decide) hf32 (fun _ h9 => h9) rfl dX2_howManyAt_13 ?_
    refine lv_iload_n hx hb dX2_howManyAt_16 rfl (lv_at hl 3 rfl) ?_
    refine zk_ld hx hb hK hP 14 0 (zwq12 cI a _) rfl (k := k) (by omega) (by decide) (v := σ 12 k) rfl dX2_howManyAt_17 ?_
    refine lv_iload_n hx hb dX2_howManyAt_18 rfl (lv_at hl 1 rfl) ?_
    refine lv_icmp_ne (tgt := 25) hx hb dX2_howManyAt_19 (by decide) (fun c_2 => ?_) (fun c_2 => ?_)
    · refine lv_iinc (v := nI (k + 1)) (lv' := [(3, .int (nI (k + 1))), (0, .ref (a 2)), (1, .int v), (2, .int (f_many (σ 12) v k))]) hx hb dX2_howManyAt_25 hl (k := 3) rfl (nI_1 k) (by decide) rfl (fun ls hl => ?_)
      refine lv_goto (tgt := 4) hx hb dX2_howManyAt_28 (by decide) ?_
      have e1 : f_many (σ 12) v (k + 1) = f_many (σ 12) v k := if_neg c_2
      exact ih _ _ _ ⟨hP, hS, by rw [e1]; exact lv_sub hl [1, 2, 3, 0] rfl⟩
    · refine lv_iinc (v := (f_many (σ 12) v k) + 1) (lv' := [(2, .int ((f_many (σ 12) v k) + 1)), (0, .ref (a 2)), (1, .int v), (3, .int (nI k))]) hx hb dX2_howManyAt_22 hl (k := 2) rfl rfl (by decide) rfl (fun ls hl => ?_)
      refine lv_iinc (v := nI (k + 1)) (lv' := [(3, .int (nI (k + 1))), (2, .int ((f_many (σ 12) v k) + 1)), (0, .ref (a 2)), (1, .int v)]) hx hb dX2_howManyAt_25 hl (k := 3) rfl (nI_1 k) (by decide) rfl (fun ls hl => ?_)
      refine lv_goto (tgt := 4) hx hb dX2_howManyAt_28 (by decide) ?_
      have e1 : f_many (σ 12) v (k + 1) = f_many (σ 12) v k + 1 := if_pos c_2
      exact ih _ _ _ ⟨hP, hS, by rw [e1]; exact lv_sub hl [2, 3, 1, 0] rfl⟩
  · obtain ⟨hP, hS, hl⟩ := hI
    refine lv_iload_n hx hb dX2_howManyAt_4 rfl (lv_at hl 3 rfl) ?_
    refine lv_aload_n hx hb dX2_howManyAt_5 rfl (lv_at hl 0 rfl) ?_
    refine va_get (D := D) (ci := 2) (v := .int (nI ns)) (C := RX2) (T := TX2) (N := 13) hx hb hts hinX2 hown hK hP 2 rfl rfl 0 (by decide) hf7 (fun _ h9 => h9) (congrArg (fun z => some (Value.int z)) hC.2.2.1) dX2_howManyAt_6 ?_
    refine lv_icmp_ge (tgt := 31) hx hb dX2_howManyAt_9 (by decide) (fun _ => ?_) (fun c => absurd (Int32.le_refl _) c)
    refine lv_iload_n hx hb dX2_howManyAt_31 rfl (lv_at hl 2 rfl) ?_
    exact W.iret (v := f_many (σ 12) v ns) hx hb hr (fun t ht hW => ⟨⟨f_many (σ 12) v ns, (), rfl, rfl, trivial⟩, hS.F ht⟩) hS.2.2 dX2_howManyAt_32

set_option maxHeartbeats 4000000 in
set_option maxRecDepth 100000 in
theorem c_X2_sum14 (l : Launch) (D : va_G) (cI : ClassId) (a : Nat → Nat) (σ : zS) {nb ns h : Nat} (hC : zC σ nb ns h) : zMR l yX2_sum wsX2_sum ({ frames := 0, cells := 0, slots := 0, locals := 0 }) [.ref (a 2), .ref (a 16)] D [(cI, .int)] (zw_H cI a σ) (fun r => r = f_sum (σ 14) ns) := by
  intro sz
  refine Met.ofW (cc := cX2_sum) (maxL := 4) (ret := (some .int)) (by decide) rfl ?_
  intro p e s m args below meth c s₁ B hml hv
  obtain ⟨rfl, hsz, hP, hK, hD⟩ := hv
  have hx := B.exec
  have hb := B.bytes
  have hr := B.returns
  have hts := atoms_spec (ws := wsX2_sum) B.pre
  have hown : s.vm.findClass RX2 = some m.cls := findClass_of_methodNamed B.named
  have hlocks := B.notSynchronized
  have hS : va_S (fun _ => False) s.heap s.heap [] := va_S.rf
  have hP : va_P D vwCl (zw_H cI a σ) s.heap := hP
  have hl := lv_entry ([.ref (a 2), .ref (a 16)]) (n := 4) (Nat.le_of_ble_eq_true rfl)
  rw [lg_entry_eq]
  generalize (lg_sl ([.ref (a 2), .ref (a 16)]) ++ List.replicate (4 - (lg_sl ([.ref (a 2), .ref (a 16)])).length) Slot.unset).toArray = ls at hl ⊢
  have hl : lv_has ls 4 [(0, .ref (a 2)), (1, .ref (a 16))] := hl
  have hf7 := hts (.fieldLink RX2 7 "HotBeds$Sailors" "size" "I") (by decide +kernel)
  have hinX2 : ∀ w ∈ u_ws RX2 TX2 13, w ∈ wsX2_sum := by decide +kernel
  have hns := hC.2.2.2.1
  refine lv_iconst (v := 0) hx hb dX2_sum_0 (by decide) ?_
  refine lv_istore_n (lv' := [(2, .int 0), (0, .ref (a 2)), (1, .ref (a 16))]) hx hb dX2_sum_1 rfl hl (by decide) rfl (fun ls hl => ?_)
  refine lv_iconst (v := 0) hx hb dX2_sum_2 (by decide) ?_
  refine lv_istore_n (lv' := [(3, .int 0), (2, .int 0), (0, .ref (a 2)), (1, .ref (a 16))]) hx hb dX2_sum_3 rfl hl (by decide) rfl (fun ls hl => ?_)
  refine zk_loop (pc := 4) (fun k H locs ls => va_P D vwCl (zw_H cI a σ) H ∧ va_S (fun _ => False) s.heap H locs ∧ lv_has ls 4 [(0, .ref (a 2)), (1, .ref (a 16)), (2, .int (f_sum (σ 14) k)), (3, .int (nI k))]) ns (fun k hkk ih H locs ls hI => ?_) (fun H locs ls hI => ?_) _ _ _ ⟨hP, hS, lv_sub hl [2, 3, 1, 0] rfl⟩
  · obtain ⟨hP, hS, hl⟩ := hI
    refine lv_iload_n hx hb dX2_sum_4 rfl (lv_at hl 3 rfl) ?_
    refine lv_aload_n hx hb dX2_sum_5 rfl (lv_at hl 0 rfl) ?_
    refine va_get (D := D) (ci := 2) (v := .int (nI ns)) (C := RX2) (T := TX2) (N := 13) hx hb hts hinX2 hown hK hP 2 rfl rfl 0 (by decide) hf7 (fun _ h9 => h9) (congrArg (fun z => some (Value.int z)) hC.2.2.1) dX2_sum_6 ?_
    refine lv_icmp_ge (tgt := 30) hx hb dX2_sum_9 (by decide) (fun c => absurd c (nI_ge hkk (by omega))) (fun _ => ?_)
    refine lv_iload_n hx hb dX2_sum_12 rfl (lv_at hl 3 rfl) ?_
    refine lv_aload_n hx hb dX2_sum_13 rfl (lv_at hl 1 rfl) ?_
    refine va_alen hx hb hK hP 16 0 rfl rfl (v := 10) rfl dX2_sum_14 ?_
    refine lv_icmp_ge (tgt := 30) hx hb dX2_sum_15 (by decide) (fun c => absurd c (nI_ge (a := k) (b := 10) (by omega) (by decide))) (fun _ => ?_)
    refine lv_iload_n hx hb dX2_sum_18 rfl (lv_at hl 2 rfl) ?_
    refine lv_aload_n hx hb dX2_sum_19 rfl (lv_at hl 1 rfl) ?_
    refine lv_iload_n hx hb dX2_sum_20 rfl (lv_at hl 3 rfl) ?_
    refine zk_ld hx hb hK hP 16 0 (zwq14 cI a _) rfl (k := k) (by omega) (by decide) (v := σ 14 k) rfl dX2_sum_21 ?_
    refine lv_iadd hx hb dX2_sum_22 ?_
    refine lv_istore_n (lv' := [(2, .int ((f_sum (σ 14) k) + (σ 14 k))), (0, .ref (a 2)), (1, .ref (a 16)), (3, .int (nI k))]) hx hb dX2_sum_23 rfl hl (by decide) rfl (fun ls hl => ?_)
    refine lv_iinc (v := nI (k + 1)) (lv' := [(3, .int (nI (k + 1))), (2, .int ((f_sum (σ 14) k) + (σ 14 k))), (0, .ref (a 2)), (1, .ref (a 16))]) hx hb dX2_sum_24 hl (k := 3) rfl (nI_1 k) (by decide) rfl (fun ls hl => ?_)
    refine lv_goto (tgt := 4) hx hb dX2_sum_27 (by decide) ?_
    exact ih _ _ _ ⟨hP, hS, lv_sub hl [2, 3, 1, 0] rfl⟩
  · obtain ⟨hP, hS, hl⟩ := hI
    refine lv_iload_n hx hb dX2_sum_4 rfl (lv_at hl 3 rfl) ?_
    refine lv_aload_n hx hb dX2_sum_5 rfl (lv_at hl 0 rfl) ?_
    refine va_get (D := D) (ci := 2) (v := .int (nI ns)) (C := RX2) (T := TX2) (N := 13) hx hb hts hinX2 hown hK hP 2 rfl rfl 0 (by decide) hf7 (fun _ h9 => h9) (congrArg (fun z => some (Value.int z)) hC.2.2.1) dX2_sum_6 ?_
    refine lv_icmp_ge (tgt := 30) hx hb dX2_sum_9 (by decide) (fun _ => ?_) (fun c => absurd (Int32.le_refl _) c)
    refine lv_iload_n hx hb dX2_sum_30 rfl (lv_at hl 2 rfl) ?_
    exact W.iret (v := f_sum (σ 14) ns) hx hb hr (fun t ht hW => ⟨⟨f_sum (σ 14) ns, (), rfl, rfl, trivial⟩, hS.F ht⟩) hS.2.2 dX2_sum_31

set_option maxHeartbeats 4000000 in
set_option maxRecDepth 100000 in
theorem c_X2_sum15 (l : Launch) (D : va_G) (cI : ClassId) (a : Nat → Nat) (σ : zS) {nb ns h : Nat} (hC : zC σ nb ns h) : zMR l yX2_sum wsX2_sum ({ frames := 0, cells := 0, slots := 0, locals := 0 }) [.ref (a 2), .ref (a 17)] D [(cI, .int)] (zw_H cI a σ) (fun r => r = f_sum (σ 15) ns) := by
  intro sz
  refine Met.ofW (cc := cX2_sum) (maxL := 4) (ret := (some .int)) (by decide) rfl ?_
  intro p e s m args below meth c s₁ B hml hv
  obtain ⟨rfl, hsz, hP, hK, hD⟩ := hv
  have hx := B.exec
  have hb := B.bytes
  have hr := B.returns
  have hts := atoms_spec (ws := wsX2_sum) B.pre
  have hown : s.vm.findClass RX2 = some m.cls := findClass_of_methodNamed B.named
  have hlocks := B.notSynchronized
  have hS : va_S (fun _ => False) s.heap s.heap [] := va_S.rf
  have hP : va_P D vwCl (zw_H cI a σ) s.heap := hP
  have hl := lv_entry ([.ref (a 2), .ref (a 17)]) (n := 4) (Nat.le_of_ble_eq_true rfl)
  rw [lg_entry_eq]
  generalize (lg_sl ([.ref (a 2), .ref (a 17)]) ++ List.replicate (4 - (lg_sl ([.ref (a 2), .ref (a 17)])).length) Slot.unset).toArray = ls at hl ⊢
  have hl : lv_has ls 4 [(0, .ref (a 2)), (1, .ref (a 17))] := hl
  have hf7 := hts (.fieldLink RX2 7 "HotBeds$Sailors" "size" "I") (by decide +kernel)
  have hinX2 : ∀ w ∈ u_ws RX2 TX2 13, w ∈ wsX2_sum := by decide +kernel
  have hns := hC.2.2.2.1
  refine lv_iconst (v := 0) hx hb dX2_sum_0 (by decide) ?_
  refine lv_istore_n (lv' := [(2, .int 0), (0, .ref (a 2)), (1, .ref (a 17))]) hx hb dX2_sum_1 rfl hl (by decide) rfl (fun ls hl => ?_)
  refine lv_iconst (v := 0) hx hb dX2_sum_2 (by decide) ?_
  refine lv_istore_n (lv' := [(3, .int 0), (2, .int 0), (0, .ref (a 2)), (1, .ref (a 17))]) hx hb dX2_sum_3 rfl hl (by decide) rfl (fun ls hl => ?_)
  refine zk_loop (pc := 4) (fun k H locs ls => va_P D vwCl (zw_H cI a σ) H ∧ va_S (fun _ => False) s.heap H locs ∧ lv_has ls 4 [(0, .ref (a 2)), (1, .ref (a 17)), (2, .int (f_sum (σ 15) k)), (3, .int (nI k))]) ns (fun k hkk ih H locs ls hI => ?_) (fun H locs ls hI => ?_) _ _ _ ⟨hP, hS, lv_sub hl [2, 3, 1, 0] rfl⟩
  · obtain ⟨hP, hS, hl⟩ := hI
    refine lv_iload_n hx hb dX2_sum_4 rfl (lv_at hl 3 rfl) ?_
    refine lv_aload_n hx hb dX2_sum_5 rfl (lv_at hl 0 rfl) ?_
    refine va_get (D := D) (ci := 2) (v := .int (nI ns)) (C := RX2) (T := TX2) (N := 13) hx hb hts hinX2 hown hK hP 2 rfl rfl 0 (by decide) hf7 (fun _ h9 => h9) (congrArg (fun z => some (Value.int z)) hC.2.2.1) dX2_sum_6 ?_
    refine lv_icmp_ge (tgt := 30) hx hb dX2_sum_9 (by decide) (fun c => absurd c (nI_ge hkk (by omega))) (fun _ => ?_)
    refine lv_iload_n hx hb dX2_sum_12 rfl (lv_at hl 3 rfl) ?_
    refine lv_aload_n hx hb dX2_sum_13 rfl (lv_at hl 1 rfl) ?_
    refine va_alen hx hb hK hP 17 0 rfl rfl (v := 10) rfl dX2_sum_14 ?_
    refine lv_icmp_ge (tgt := 30) hx hb dX2_sum_15 (by decide) (fun c => absurd c (nI_ge (a := k) (b := 10) (by omega) (by decide))) (fun _ => ?_)
    refine lv_iload_n hx hb dX2_sum_18 rfl (lv_at hl 2 rfl) ?_
    refine lv_aload_n hx hb dX2_sum_19 rfl (lv_at hl 1 rfl) ?_
    refine lv_iload_n hx hb dX2_sum_20 rfl (lv_at hl 3 rfl) ?_
    refine zk_ld hx hb hK hP 17 0 (zwq15 cI a _) rfl (k := k) (by omega) (by decide) (v := σ 15 k) rfl dX2_sum_21 ?_
    refine lv_iadd hx hb dX2_sum_22 ?_
    refine lv_istore_n (lv' := [(2, .int ((f_sum (σ 15) k) + (σ 15 k))), (0, .ref (a 2)), (1, .ref (a 17)), (3, .int (nI k))]) hx hb dX2_sum_23 rfl hl (by decide) rfl (fun ls hl => ?_)
    refine lv_iinc (v := nI (k + 1)) (lv' := [(3, .int (nI (k + 1))), (2, .int ((f_sum (σ 15) k) + (σ 15 k))), (0, .ref (a 2)), (1, .ref (a 17))]) hx hb dX2_sum_24 hl (k := 3) rfl (nI_1 k) (by decide) rfl (fun ls hl => ?_)
    refine lv_goto (tgt := 4) hx hb dX2_sum_27 (by decide) ?_
    exact ih _ _ _ ⟨hP, hS, lv_sub hl [2, 3, 1, 0] rfl⟩
  · obtain ⟨hP, hS, hl⟩ := hI
    refine lv_iload_n hx hb dX2_sum_4 rfl (lv_at hl 3 rfl) ?_
    refine lv_aload_n hx hb dX2_sum_5 rfl (lv_at hl 0 rfl) ?_
    refine va_get (D := D) (ci := 2) (v := .int (nI ns)) (C := RX2) (T := TX2) (N := 13) hx hb hts hinX2 hown hK hP 2 rfl rfl 0 (by decide) hf7 (fun _ h9 => h9) (congrArg (fun z => some (Value.int z)) hC.2.2.1) dX2_sum_6 ?_
    refine lv_icmp_ge (tgt := 30) hx hb dX2_sum_9 (by decide) (fun _ => ?_) (fun c => absurd (Int32.le_refl _) c)
    refine lv_iload_n hx hb dX2_sum_30 rfl (lv_at hl 2 rfl) ?_
    exact W.iret (v := f_sum (σ 15) ns) hx hb hr (fun t ht hW => ⟨⟨f_sum (σ 15) ns, (), rfl, rfl, trivial⟩, hS.F ht⟩) hS.2.2 dX2_sum_31

set_option maxHeartbeats 4000000 in
set_option maxRecDepth 100000 in
theorem c_X2_sum17 (l : Launch) (D : va_G) (cI : ClassId) (a : Nat → Nat) (σ : zS) {nb ns h : Nat} (hC : zC σ nb ns h) : zMR l yX2_sum wsX2_sum ({ frames := 0, cells := 0, slots := 0, locals := 0 }) [.ref (a 2), .ref (a 19)] D [(cI, .int)] (zw_H cI a σ) (fun r => r = f_sum (σ 17) ns) := by
  intro sz
  refine Met.ofW (cc := cX2_sum) (maxL := 4) (ret := (some .int)) (by decide) rfl ?_
  intro p e s m args below meth c s₁ B hml hv
  obtain ⟨rfl, hsz, hP, hK, hD⟩ := hv
  have hx := B.exec
  have hb := B.bytes
  have hr := B.returns
  have hts := atoms_spec (ws := wsX2_sum) B.pre
  have hown : s.vm.findClass RX2 = some m.cls := findClass_of_methodNamed B.named
  have hlocks := B.notSynchronized
  have hS : va_S (fun _ => False) s.heap s.heap [] := va_S.rf
  have hP : va_P D vwCl (zw_H cI a σ) s.heap := hP
  have hl := lv_entry ([.ref (a 2), .ref (a 19)]) (n := 4) (Nat.le_of_ble_eq_true rfl)
  rw [lg_entry_eq]
  generalize (lg_sl ([.ref (a 2), .ref (a 19)]) ++ List.replicate (4 - (lg_sl ([.ref (a 2), .ref (a 19)])).length) Slot.unset).toArray = ls at hl ⊢
  have hl : lv_has ls 4 [(0, .ref (a 2)), (1, .ref (a 19))] := hl
  have hf7 := hts (.fieldLink RX2 7 "HotBeds$Sailors" "size" "I") (by decide +kernel)
  have hinX2 : ∀ w ∈ u_ws RX2 TX2 13, w ∈ wsX2_sum := by decide +kernel
  have hns := hC.2.2.2.1
  refine lv_iconst (v := 0) hx hb dX2_sum_0 (by decide) ?_
  refine lv_istore_n (lv' := [(2, .int 0), (0, .ref (a 2)), (1, .ref (a 19))]) hx hb dX2_sum_1 rfl hl (by decide) rfl (fun ls hl => ?_)
  refine lv_iconst (v := 0) hx hb dX2_sum_2 (by decide) ?_
  refine lv_istore_n (lv' := [(3, .int 0), (2, .int 0), (0, .ref (a 2)), (1, .ref (a 19))]) hx hb dX2_sum_3 rfl hl (by decide) rfl (fun ls hl => ?_)
  refine zk_loop (pc := 4) (fun k H locs ls => va_P D vwCl (zw_H cI a σ) H ∧ va_S (fun _ => False) s.heap H locs ∧ lv_has ls 4 [(0, .ref (a 2)), (1, .ref (a 19)), (2, .int (f_sum (σ 17) k)), (3, .int (nI k))]) ns (fun k hkk ih H locs ls hI => ?_) (fun H locs ls hI => ?_) _ _ _ ⟨hP, hS, lv_sub hl [2, 3, 1, 0] rfl⟩
  · obtain ⟨hP, hS, hl⟩ := hI
    refine lv_iload_n hx hb dX2_sum_4 rfl (lv_at hl 3 rfl) ?_
    refine lv_aload_n hx hb dX2_sum_5 rfl (lv_at hl 0 rfl) ?_
    refine va_get (D := D) (ci := 2) (v := .int (nI ns)) (C := RX2) (T := TX2) (N := 13) hx hb hts hinX2 hown hK hP 2 rfl rfl 0 (by decide) hf7 (fun _ h9 => h9) (congrArg (fun z => some (Value.int z)) hC.2.2.1) dX2_sum_6 ?_
    refine lv_icmp_ge (tgt := 30) hx hb dX2_sum_9 (by decide) (fun c => absurd c (nI_ge hkk (by omega))) (fun _ => ?_)
    refine lv_iload_n hx hb dX2_sum_12 rfl (lv_at hl 3 rfl) ?_
    refine lv_aload_n hx hb dX2_sum_13 rfl (lv_at hl 1 rfl) ?_
    refine va_alen hx hb hK hP 19 0 rfl rfl (v := 10) rfl dX2_sum_14 ?_
    refine lv_icmp_ge (tgt := 30) hx hb dX2_sum_15 (by decide) (fun c => absurd c (nI_ge (a := k) (b := 10) (by omega) (by decide))) (fun _ => ?_)
    refine lv_iload_n hx hb dX2_sum_18 rfl (lv_at hl 2 rfl) ?_
    refine lv_aload_n hx hb dX2_sum_19 rfl (lv_at hl 1 rfl) ?_
    refine lv_iload_n hx hb dX2_sum_20 rfl (lv_at hl 3 rfl) ?_
    refine zk_ld hx hb hK hP 19 0 (zwq17 cI a _) rfl (k := k) (by omega) (by decide) (v := σ 17 k) rfl dX2_sum_21 ?_
    refine lv_iadd hx hb dX2_sum_22 ?_
    refine lv_istore_n (lv' := [(2, .int ((f_sum (σ 17) k) + (σ 17 k))), (0, .ref (a 2)), (1, .ref (a 19)), (3, .int (nI k))]) hx hb dX2_sum_23 rfl hl (by decide) rfl (fun ls hl => ?_)
    refine lv_iinc (v := nI (k + 1)) (lv' := [(3, .int (nI (k + 1))), (2, .int ((f_sum (σ 17) k) + (σ 17 k))), (0, .ref (a 2)), (1, .ref (a 19))]) hx hb dX2_sum_24 hl (k := 3) rfl (nI_1 k) (by decide) rfl (fun ls hl => ?_)
    refine lv_goto (tgt := 4) hx hb dX2_sum_27 (by decide) ?_
    exact ih _ _ _ ⟨hP, hS, lv_sub hl [2, 3, 1, 0] rfl⟩
  · obtain ⟨hP, hS, hl⟩ := hI
    refine lv_iload_n hx hb dX2_sum_4 rfl (lv_at hl 3 rfl) ?_
    refine lv_aload_n hx hb dX2_sum_5 rfl (lv_at hl 0 rfl) ?_
    refine va_get (D := D) (ci := 2) (v := .int (nI ns)) (C := RX2) (T := TX2) (N := 13) hx hb hts hinX2 hown hK hP 2 rfl rfl 0 (by decide) hf7 (fun _ h9 => h9) (congrArg (fun z => some (Value.int z)) hC.2.2.1) dX2_sum_6 ?_
    refine lv_icmp_ge (tgt := 30) hx hb dX2_sum_9 (by decide) (fun _ => ?_) (fun c => absurd (Int32.le_refl _) c)
    refine lv_iload_n hx hb dX2_sum_30 rfl (lv_at hl 2 rfl) ?_
    exact W.iret (v := f_sum (σ 17) ns) hx hb hr (fun t ht hW => ⟨⟨f_sum (σ 17) ns, (), rfl, rfl, trivial⟩, hS.F ht⟩) hS.2.2 dX2_sum_31

set_option maxHeartbeats 4000000 in
set_option maxRecDepth 100000 in
theorem c_X2_allRest (l : Launch) (D : va_G) (cI : ClassId) (a : Nat → Nat) (σ : zS) {nb ns h : Nat} (hC : zC σ nb ns h) : zMR l yX2_allRest wsX2_allRest ({ frames := 1, cells := 0, slots := 0, locals := 23 }) [.ref (a 2)] D [(cI, .int)] (zw_H cI a σ) (fun r => r = f_sum (σ 14) ns) := by
  intro sz
  refine Met.ofW (cc := cX2_allRest) (maxL := 1) (ret := (some .int)) (by decide) rfl ?_
  intro p e s m args below meth c s₁ B hml hv
  obtain ⟨rfl, hsz, hP, hK, hD⟩ := hv
  have hx := B.exec
  have hb := B.bytes
  have hr := B.returns
  have hts := atoms_spec (ws := wsX2_allRest) B.pre
  have hown : s.vm.findClass RX2 = some m.cls := findClass_of_methodNamed B.named
  have hlocks := B.notSynchronized
  have hS : va_S (fun _ => False) s.heap s.heap [] := va_S.rf
  have hP : va_P D vwCl (zw_H cI a σ) s.heap := hP
  have hl := lv_entry ([.ref (a 2)]) (n := 1) (Nat.le_of_ble_eq_true rfl)
  rw [lg_entry_eq]
  generalize (lg_sl ([.ref (a 2)]) ++ List.replicate (1 - (lg_sl ([.ref (a 2)])).length) Slot.unset).toArray = ls at hl ⊢
  have hl : lv_has ls 1 [(0, .ref (a 2))] := hl
  have hf38 := hts (.fieldLink RX2 38 "HotBeds$Sailors" "rest" "[I") (by decide +kernel)
  have hinX2 : ∀ w ∈ u_ws RX2 TX2 13, w ∈ wsX2_allRest := by decide +kernel
  refine lv_aload_n hx hb dX2_allRest_0 rfl (lv_at hl 0 rfl) ?_
  refine lv_aload_n hx hb dX2_allRest_1 rfl (lv_at hl 0 rfl) ?_
  refine va_get (D := D) (ci := 2) (v := .ref (a 16)) (C := RX2) (T := TX2) (N := 13) hx hb hts hinX2 hown hK hP 2 rfl rfl 9 (by decide) hf38 (fun _ h9 => h9) rfl dX2_allRest_2 ?_
  refine zk_R (D := D) (va_runV (As := [.ref (a 16)]) (rest := []) ⟨hx, hb, hml, hown, hts⟩ (c_X2_sum14 l D cI a σ hC _) (cwV 1 hts gX2_allRest_X2_sum rfl rfl rfl zdX2_sum ⟨Nat.le_of_ble_eq_true rfl, Nat.le_of_ble_eq_true rfl⟩) ⟨zbl _, va_recv hK hP (ci := 2) (q0 := 2) rfl rfl, zpr hK hP hD⟩ rfl rfl hl.1 rfl (lv_room (Nat.le_of_ble_eq_true rfl)) dX2_allRest_5 ⟨Nat.zero_le _, Nat.zero_le _⟩) hS (fun r_1 H locs hw hkp hS => ?_)
  have hP := hkp _ hP
  subst hw
  exact W.iret (v := f_sum (σ 14) ns) hx hb hr (fun t ht hW => ⟨⟨f_sum (σ 14) ns, (), rfl, rfl, trivial⟩, hS.F ht⟩) hS.2.2 dX2_allRest_8

set_option maxHeartbeats 4000000 in
set_option maxRecDepth 100000 in
theorem c_X2_allLate (l : Launch) (D : va_G) (cI : ClassId) (a : Nat → Nat) (σ : zS) {nb ns h : Nat} (hC : zC σ nb ns h) : zMR l yX2_allLate wsX2_allLate ({ frames := 1, cells := 0, slots := 0, locals := 23 }) [.ref (a 2)] D [(cI, .int)] (zw_H cI a σ) (fun r => r = f_sum (σ 15) ns) := by
  intro sz
  refine Met.ofW (cc := cX2_allLate) (maxL := 1) (ret := (some .int)) (by decide) rfl ?_
  intro p e s m args below meth c s₁ B hml hv
  obtain ⟨rfl, hsz, hP, hK, hD⟩ := hv
  have hx := B.exec
  have hb := B.bytes
  have hr := B.returns
  have hts := atoms_spec (ws := wsX2_allLate) B.pre
  have hown : s.vm.findClass RX2 = some m.cls := findClass_of_methodNamed B.named
  have hlocks := B.notSynchronized
  have hS : va_S (fun _ => False) s.heap s.heap [] := va_S.rf
  have hP : va_P D vwCl (zw_H cI a σ) s.heap := hP
  have hl := lv_entry ([.ref (a 2)]) (n := 1) (Nat.le_of_ble_eq_true rfl)
  rw [lg_entry_eq]
  generalize (lg_sl ([.ref (a 2)]) ++ List.replicate (1 - (lg_sl ([.ref (a 2)])).length) Slot.unset).toArray = ls at hl ⊢
  have hl : lv_has ls 1 [(0, .ref (a 2))] := hl
  have hf41 := hts (.fieldLink RX2 41 "HotBeds$Sailors" "late" "[I") (by decide +kernel)
  have hinX2 : ∀ w ∈ u_ws RX2 TX2 13, w ∈ wsX2_allLate := by decide +kernel
  refine lv_aload_n hx hb dX2_allLate_0 rfl (lv_at hl 0 rfl) ?_
  refine lv_aload_n hx hb dX2_allLate_1 rfl (lv_at hl 0 rfl) ?_
  refine va_get (D := D) (ci := 2) (v := .ref (a 17)) (C := RX2) (T := TX2) (N := 13) hx hb hts hinX2 hown hK hP 2 rfl rfl 10 (by decide) hf41 (fun _ h9 => h9) rfl dX2_allLate_2 ?_
  refine zk_R (D := D) (va_runV (As := [.ref (a 17)]) (rest := []) ⟨hx, hb, hml, hown, hts⟩ (c_X2_sum15 l D cI a σ hC _) (cwV 1 hts gX2_allLate_X2_sum rfl rfl rfl zdX2_sum ⟨Nat.le_of_ble_eq_true rfl, Nat.le_of_ble_eq_true rfl⟩) ⟨zbl _, va_recv hK hP (ci := 2) (q0 := 2) rfl rfl, zpr hK hP hD⟩ rfl rfl hl.1 rfl (lv_room (Nat.le_of_ble_eq_true rfl)) dX2_allLate_5 ⟨Nat.zero_le _, Nat.zero_le _⟩) hS (fun r_1 H locs hw hkp hS => ?_)
  have hP := hkp _ hP
  subst hw
  exact W.iret (v := f_sum (σ 15) ns) hx hb hr (fun t ht hW => ⟨⟨f_sum (σ 15) ns, (), rfl, rfl, trivial⟩, hS.F ht⟩) hS.2.2 dX2_allLate_8

set_option maxHeartbeats 4000000 in
set_option maxRecDepth 100000 in
theorem c_X2_allFloors (l : Launch) (D : va_G) (cI : ClassId) (a : Nat → Nat) (σ : zS) {nb ns h : Nat} (hC : zC σ nb ns h) : zMR l yX2_allFloors wsX2_allFloors ({ frames := 1, cells := 0, slots := 0, locals := 23 }) [.ref (a 2)] D [(cI, .int)] (zw_H cI a σ) (fun r => r = f_sum (σ 17) ns) := by
  intro sz
  refine Met.ofW (cc := cX2_allFloors) (maxL := 1) (ret := (some .int)) (by decide) rfl ?_
  intro p e s m args below meth c s₁ B hml hv
  obtain ⟨rfl, hsz, hP, hK, hD⟩ := hv
  have hx := B.exec
  have hb := B.bytes
  have hr := B.returns
  have hts := atoms_spec (ws := wsX2_allFloors) B.pre
  have hown : s.vm.findClass RX2 = some m.cls := findClass_of_methodNamed B.named
  have hlocks := B.notSynchronized
  have hS : va_S (fun _ => False) s.heap s.heap [] := va_S.rf
  have hP : va_P D vwCl (zw_H cI a σ) s.heap := hP
  have hl := lv_entry ([.ref (a 2)]) (n := 1) (Nat.le_of_ble_eq_true rfl)
  rw [lg_entry_eq]
  generalize (lg_sl ([.ref (a 2)]) ++ List.replicate (1 - (lg_sl ([.ref (a 2)])).length) Slot.unset).toArray = ls at hl ⊢
  have hl : lv_has ls 1 [(0, .ref (a 2))] := hl
  have hf47 := hts (.fieldLink RX2 47 "HotBeds$Sailors" "floors" "[I") (by decide +kernel)
  have hinX2 : ∀ w ∈ u_ws RX2 TX2 13, w ∈ wsX2_allFloors := by decide +kernel
  refine lv_aload_n hx hb dX2_allFloors_0 rfl (lv_at hl 0 rfl) ?_
  refine lv_aload_n hx hb dX2_allFloors_1 rfl (lv_at hl 0 rfl) ?_
  refine va_get (D := D) (ci := 2) (v := .ref (a 19)) (C := RX2) (T := TX2) (N := 13) hx hb hts hinX2 hown hK hP 2 rfl rfl 12 (by decide) hf47 (fun _ h9 => h9) rfl dX2_allFloors_2 ?_
  refine zk_R (D := D) (va_runV (As := [.ref (a 19)]) (rest := []) ⟨hx, hb, hml, hown, hts⟩ (c_X2_sum17 l D cI a σ hC _) (cwV 1 hts gX2_allFloors_X2_sum rfl rfl rfl zdX2_sum ⟨Nat.le_of_ble_eq_true rfl, Nat.le_of_ble_eq_true rfl⟩) ⟨zbl _, va_recv hK hP (ci := 2) (q0 := 2) rfl rfl, zpr hK hP hD⟩ rfl rfl hl.1 rfl (lv_room (Nat.le_of_ble_eq_true rfl)) dX2_allFloors_5 ⟨Nat.zero_le _, Nat.zero_le _⟩) hS (fun r_1 H locs hw hkp hS => ?_)
  have hP := hkp _ hP
  subst hw
  exact W.iret (v := f_sum (σ 17) ns) hx hb hr (fun t ht hW => ⟨⟨f_sum (σ 17) ns, (), rfl, rfl, trivial⟩, hS.F ht⟩) hS.2.2 dX2_allFloors_8
