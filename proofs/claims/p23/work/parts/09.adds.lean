def f_addB (σ : zS) (nb : Nat) (v : Int32) : zS := zs (zs (zs σ 1 nb v) 5 nb (-1)) 0 3 (nI (nb + 1))
def f_addS (σ : zS) (ns : Nat) (v1 v2 v3 v4 : Int32) : zS := zs (zs (zs (zs (zs (zs (zs (zs (zs σ 6 ns v1) 7 ns v2) 8 ns v3) 9 ns v4) 10 ns 1) 11 ns (-1)) 12 ns 0) 13 ns (-1)) 0 4 (nI (ns + 1))

set_option maxHeartbeats 4000000 in
set_option maxRecDepth 100000 in
theorem c_X0_add (l : Launch) (D : va_G) (cI : ClassId) (a : Nat → Nat) (σ : zS) (v : Int32) {nb ns h : Nat} (hC : zC σ nb ns h) (hb6 : nb < 6) : zMI l yX0_add wsX0_add ({ frames := 0, cells := 0, slots := 0, locals := 0 }) [.ref (a 1), .int v] D [(cI, .int)] (zw_H cI a σ) (zw_H cI a (f_addB σ nb v)) (fun r => r = nI nb) := by
  intro sz
  refine Met.ofW (cc := cX0_add) (maxL := 3) (ret := (some .int)) (by decide) rfl ?_
  intro p e s m args below meth c s₁ B hml hv
  obtain ⟨rfl, hsz, hP, hK, hD⟩ := hv
  have hx := B.exec
  have hb := B.bytes
  have hr := B.returns
  have hts := atoms_spec (ws := wsX0_add) B.pre
  have hown : s.vm.findClass RX0 = some m.cls := findClass_of_methodNamed B.named
  have hlocks := B.notSynchronized
  subst hsz
  have hD := hD.self (sz := s.heap.size)
  generalize hAe : va_A (zw_H cI a σ) s.heap.size = A at hD ⊢
  have hA : ∀ q : Nat, s.heap.size ≤ q → A q := fun q h => by rw [← hAe]; exact Or.inr h
  have hS : va_S A s.heap s.heap [] := va_S.rf
  have hP : va_P D vwCl (zw_H cI a σ) s.heap := hP
  have hl := lv_entry ([.ref (a 1), .int v]) (n := 3) (Nat.le_of_ble_eq_true rfl)
  rw [lg_entry_eq]
  generalize (lg_sl ([.ref (a 1), .int v]) ++ List.replicate (3 - (lg_sl ([.ref (a 1), .int v])).length) Slot.unset).toArray = ls at hl ⊢
  have hl : lv_has ls 3 [(0, .ref (a 1)), (1, .int v)] := hl
  have hf13 := hts (.fieldLink RX0 13 "HotBeds$Beds" "price" "[I") (by decide +kernel)
  have hf26 := hts (.fieldLink RX0 26 "HotBeds$Beds" "sleeper" "[I") (by decide +kernel)
  have hf7 := hts (.fieldLink RX0 7 "HotBeds$Beds" "size" "I") (by decide +kernel)
  have hinX0 : ∀ w ∈ u_ws RX0 TX0 6, w ∈ wsX0_add := by decide +kernel
  refine lv_aload_n hx hb dX0_add_0 rfl (lv_at hl 0 rfl) ?_
  refine va_get (D := D) (ci := 0) (v := .int (nI nb)) (C := RX0) (T := TX0) (N := 6) hx hb hts hinX0 hown hK hP 1 rfl rfl 0 (by decide) hf7 (fun _ h9 => h9) (congrArg (fun z => some (Value.int z)) hC.1) dX0_add_1 ?_
  refine lv_bipush (v := 6) hx hb dX0_add_4 (by decide) ?_
  refine lv_icmp_lt (tgt := 19) hx hb dX0_add_6 (by decide) (fun _ => ?_) (fun c => absurd (nI_lt (b := 6) hb6 (by decide)) c)
  refine lv_aload_n hx hb dX0_add_19 rfl (lv_at hl 0 rfl) ?_
  refine va_get (D := D) (ci := 0) (v := .int (nI nb)) (C := RX0) (T := TX0) (N := 6) hx hb hts hinX0 hown hK hP 1 rfl rfl 0 (by decide) hf7 (fun _ h9 => h9) (congrArg (fun z => some (Value.int z)) hC.1) dX0_add_20 ?_
  refine lv_istore_n (lv' := [(2, .int (nI nb)), (0, .ref (a 1)), (1, .int v)]) hx hb dX0_add_23 rfl hl (by decide) rfl (fun ls hl => ?_)
  refine lv_aload_n hx hb dX0_add_24 rfl (lv_at hl 1 rfl) ?_
  refine va_get (D := D) (ci := 0) (v := .ref (a 3)) (C := RX0) (T := TX0) (N := 6) hx hb hts hinX0 hown hK hP 1 rfl rfl 1 (by decide) hf13 (fun _ h9 => h9) rfl dX0_add_25 ?_
  refine lv_iload_n hx hb dX0_add_28 rfl (lv_at hl 0 rfl) ?_
  refine lv_iload_n hx hb dX0_add_29 rfl (lv_at hl 2 rfl) ?_
  refine zk_st hx hb hK hP hD hS 3 0 (zwq1 cI a _) rfl (k := nb) hb6 (by decide) (zws1 cI a _ _ _) dX0_add_30 (fun H locs hP hD hS => ?_)
  have hP : va_P D vwCl (zw_H cI a (zs σ 1 nb v)) H := hP
  have hD : va_D A (zw_H cI a (zs σ 1 nb v)) := hD
  refine lv_aload_n hx hb dX0_add_31 rfl (lv_at hl 1 rfl) ?_
  refine va_get (D := D) (ci := 0) (v := .ref (a 7)) (C := RX0) (T := TX0) (N := 6) hx hb hts hinX0 hown hK hP 1 rfl rfl 5 (by decide) hf26 (fun _ h9 => h9) rfl dX0_add_32 ?_
  refine lv_iload_n hx hb dX0_add_35 rfl (lv_at hl 0 rfl) ?_
  refine lv_iconst (v := (-1)) hx hb dX0_add_36 (by decide) ?_
  refine zk_st hx hb hK hP hD hS 7 0 (zwq5 cI a _) rfl (k := nb) hb6 (by decide) (zws5 cI a _ _ _) dX0_add_37 (fun H locs hP hD hS => ?_)
  have hP : va_P D vwCl (zw_H cI a (zs (zs σ 1 nb v) 5 nb (-1))) H := hP
  have hD : va_D A (zw_H cI a (zs (zs σ 1 nb v) 5 nb (-1))) := hD
  refine lv_aload_n hx hb dX0_add_38 rfl (lv_at hl 1 rfl) ?_
  refine lv_iload_n hx hb dX0_add_39 rfl (lv_at hl 0 rfl) ?_
  refine lv_iconst (v := 1) hx hb dX0_add_40 (by decide) ?_
  refine zk_add (x := nb) (y := 1) hx hb dX0_add_41 ?_
  refine va_put (D := D) (ci := 0) (v := .int (nI (nb + 1))) (ty := .int) (C := RX0) (T := TX0) (N := 6) hx hb hts hinX0 tyX0 tyX0_ok nmX0 hown hK hP hD hS 1 rfl rfl 0 (by decide) hf7 (fun _ h9 => h9)  rfl (by decide +kernel) rfl rfl (Nat.le_of_ble_eq_true rfl) dX0_add_42 (fun H locs hP hD hS => ?_)
  have hP : va_P D vwCl (zw_H cI a (zs (zs (zs σ 1 nb v) 5 nb (-1)) 0 3 (nI (nb + 1)))) H := hP
  have hD : va_D A (zw_H cI a (zs (zs (zs σ 1 nb v) 5 nb (-1)) 0 3 (nI (nb + 1)))) := hD
  refine lv_iload_n hx hb dX0_add_45 rfl (lv_at hl 0 rfl) ?_
  have e9 : f_addB σ nb v = zs (zs (zs σ 1 nb v) 5 nb (-1)) 0 3 (nI (nb + 1)) := by simp only [f_addB]
  have hP9 : va_P D vwCl (zw_H cI a (f_addB σ nb v)) H := by rw [e9]; exact hP
  have hD9 : va_D A (zw_H cI a (f_addB σ nb v)) := by rw [e9]; exact hD
  exact W.iret (v := nI nb) hx hb hr (fun t ht hW => ⟨⟨nI nb, (), rfl, rfl, by rw [ht]; exact hP9, va_K.moved hW.alike hK, hD9⟩, hS.F ht⟩) hS.2.2 dX0_add_46

set_option maxHeartbeats 4000000 in
set_option maxRecDepth 100000 in
theorem c_X2_add (l : Launch) (D : va_G) (cI : ClassId) (a : Nat → Nat) (σ : zS) (v1 v2 v3 v4 : Int32) {nb ns h : Nat} (hC : zC σ nb ns h) (hs10 : ns < 10) : zMI l yX2_add wsX2_add ({ frames := 0, cells := 0, slots := 0, locals := 0 }) [.ref (a 2), .int v1, .int v2, .int v3, .int v4] D [(cI, .int)] (zw_H cI a σ) (zw_H cI a (f_addS σ ns v1 v2 v3 v4)) (fun r => r = nI ns) := by
  intro sz
  refine Met.ofW (cc := cX2_add) (maxL := 6) (ret := (some .int)) (by decide) rfl ?_
  intro p e s m args below meth c s₁ B hml hv
  obtain ⟨rfl, hsz, hP, hK, hD⟩ := hv
  have hx := B.exec
  have hb := B.bytes
  have hr := B.returns
  have hts := atoms_spec (ws := wsX2_add) B.pre
  have hown : s.vm.findClass RX2 = some m.cls := findClass_of_methodNamed B.named
  have hlocks := B.notSynchronized
  subst hsz
  have hD := hD.self (sz := s.heap.size)
  generalize hAe : va_A (zw_H cI a σ) s.heap.size = A at hD ⊢
  have hA : ∀ q : Nat, s.heap.size ≤ q → A q := fun q h => by rw [← hAe]; exact Or.inr h
  have hS : va_S A s.heap s.heap [] := va_S.rf
  have hP : va_P D vwCl (zw_H cI a σ) s.heap := hP
  have hl := lv_entry ([.ref (a 2), .int v1, .int v2, .int v3, .int v4]) (n := 6) (Nat.le_of_ble_eq_true rfl)
  rw [lg_entry_eq]
  generalize (lg_sl ([.ref (a 2), .int v1, .int v2, .int v3, .int v4]) ++ List.replicate (6 - (lg_sl ([.ref (a 2), .int v1, .int v2, .int v3, .int v4])).length) Slot.unset).toArray = ls at hl ⊢
  have hl : lv_has ls 6 [(0, .ref (a 2)), (1, .int v1), (2, .int v2), (3, .int v3), (4, .int v4)] := hl
  have hf13 := hts (.fieldLink RX2 13 "HotBeds$Sailors" "watch" "[I") (by decide +kernel)
  have hf17 := hts (.fieldLink RX2 17 "HotBeds$Sailors" "heavy" "[I") (by decide +kernel)
  have hf20 := hts (.fieldLink RX2 20 "HotBeds$Sailors" "wage" "[I") (by decide +kernel)
  have hf23 := hts (.fieldLink RX2 23 "HotBeds$Sailors" "purse" "[I") (by decide +kernel)
  have hf26 := hts (.fieldLink RX2 26 "HotBeds$Sailors" "boots" "[I") (by decide +kernel)
  have hf29 := hts (.fieldLink RX2 29 "HotBeds$Sailors" "kept" "[I") (by decide +kernel)
  have hf32 := hts (.fieldLink RX2 32 "HotBeds$Sailors" "place" "[I") (by decide +kernel)
  have hf35 := hts (.fieldLink RX2 35 "HotBeds$Sailors" "bed" "[I") (by decide +kernel)
  have hf7 := hts (.fieldLink RX2 7 "HotBeds$Sailors" "size" "I") (by decide +kernel)
  have hinX2 : ∀ w ∈ u_ws RX2 TX2 13, w ∈ wsX2_add := by decide +kernel
  refine lv_aload_n hx hb dX2_add_0 rfl (lv_at hl 0 rfl) ?_
  refine va_get (D := D) (ci := 2) (v := .int (nI ns)) (C := RX2) (T := TX2) (N := 13) hx hb hts hinX2 hown hK hP 2 rfl rfl 0 (by decide) hf7 (fun _ h9 => h9) (congrArg (fun z => some (Value.int z)) hC.2.2.1) dX2_add_1 ?_
  refine lv_bipush (v := 10) hx hb dX2_add_4 (by decide) ?_
  refine lv_icmp_lt (tgt := 19) hx hb dX2_add_6 (by decide) (fun _ => ?_) (fun c => absurd (nI_lt (b := 10) hs10 (by decide)) c)
  refine lv_aload_n hx hb dX2_add_19 rfl (lv_at hl 0 rfl) ?_
  refine va_get (D := D) (ci := 2) (v := .int (nI ns)) (C := RX2) (T := TX2) (N := 13) hx hb hts hinX2 hown hK hP 2 rfl rfl 0 (by decide) hf7 (fun _ h9 => h9) (congrArg (fun z => some (Value.int z)) hC.2.2.1) dX2_add_20 ?_
  refine lv_istore (lv' := [(5, .int (nI ns)), (0, .ref (a 2)), (1, .int v1), (2, .int v2), (3, .int v3), (4, .int v4)]) hx hb dX2_add_23 hl (by decide) rfl (fun ls hl => ?_)
  refine lv_aload_n hx hb dX2_add_25 rfl (lv_at hl 1 rfl) ?_
  refine va_get (D := D) (ci := 2) (v := .ref (a 8)) (C := RX2) (T := TX2) (N := 13) hx hb hts hinX2 hown hK hP 2 rfl rfl 1 (by decide) hf13 (fun _ h9 => h9) rfl dX2_add_26 ?_
  refine lv_iload hx hb dX2_add_29 (lv_at hl 0 rfl) ?_
  refine lv_iload_n hx hb dX2_add_31 rfl (lv_at hl 2 rfl) ?_
  refine zk_st hx hb hK hP hD hS 8 0 (zwq6 cI a _) rfl (k := ns) hs10 (by decide) (zws6 cI a _ _ _) dX2_add_32 (fun H locs hP hD hS => ?_)
  have hP : va_P D vwCl (zw_H cI a (zs σ 6 ns v1)) H := hP
  have hD : va_D A (zw_H cI a (zs σ 6 ns v1)) := hD
  refine lv_aload_n hx hb dX2_add_33 rfl (lv_at hl 1 rfl) ?_
  refine va_get (D := D) (ci := 2) (v := .ref (a 9)) (C := RX2) (T := TX2) (N := 13) hx hb hts hinX2 hown hK hP 2 rfl rfl 2 (by decide) hf17 (fun _ h9 => h9) rfl dX2_add_34 ?_
  refine lv_iload hx hb dX2_add_37 (lv_at hl 0 rfl) ?_
  refine lv_iload_n hx hb dX2_add_39 rfl (lv_at hl 3 rfl) ?_
  refine zk_st hx hb hK hP hD hS 9 0 (zwq7 cI a _) rfl (k := ns) hs10 (by decide) (zws7 cI a _ _ _) dX2_add_40 (fun H locs hP hD hS => ?_)
  have hP : va_P D vwCl (zw_H cI a (zs (zs σ 6 ns v1) 7 ns v2)) H := hP
  have hD : va_D A (zw_H cI a (zs (zs σ 6 ns v1) 7 ns v2)) := hD
  refine lv_aload_n hx hb dX2_add_41 rfl (lv_at hl 1 rfl) ?_
  refine va_get (D := D) (ci := 2) (v := .ref (a 10)) (C := RX2) (T := TX2) (N := 13) hx hb hts hinX2 hown hK hP 2 rfl rfl 3 (by decide) hf20 (fun _ h9 => h9) rfl dX2_add_42 ?_
  refine lv_iload hx hb dX2_add_45 (lv_at hl 0 rfl) ?_
  refine lv_iload_n hx hb dX2_add_47 rfl (lv_at hl 4 rfl) ?_
  refine zk_st hx hb hK hP hD hS 10 0 (zwq8 cI a _) rfl (k := ns) hs10 (by decide) (zws8 cI a _ _ _) dX2_add_48 (fun H locs hP hD hS => ?_)
  have hP : va_P D vwCl (zw_H cI a (zs (zs (zs σ 6 ns v1) 7 ns v2) 8 ns v3)) H := hP
  have hD : va_D A (zw_H cI a (zs (zs (zs σ 6 ns v1) 7 ns v2) 8 ns v3)) := hD
  refine lv_aload_n hx hb dX2_add_49 rfl (lv_at hl 1 rfl) ?_
  refine va_get (D := D) (ci := 2) (v := .ref (a 11)) (C := RX2) (T := TX2) (N := 13) hx hb hts hinX2 hown hK hP 2 rfl rfl 4 (by decide) hf23 (fun _ h9 => h9) rfl dX2_add_50 ?_
  refine lv_iload hx hb dX2_add_53 (lv_at hl 0 rfl) ?_
  refine lv_iload hx hb dX2_add_55 (lv_at hl 5 rfl) ?_
  refine zk_st hx hb hK hP hD hS 11 0 (zwq9 cI a _) rfl (k := ns) hs10 (by decide) (zws9 cI a _ _ _) dX2_add_57 (fun H locs hP hD hS => ?_)
  have hP : va_P D vwCl (zw_H cI a (zs (zs (zs (zs σ 6 ns v1) 7 ns v2) 8 ns v3) 9 ns v4)) H := hP
  have hD : va_D A (zw_H cI a (zs (zs (zs (zs σ 6 ns v1) 7 ns v2) 8 ns v3) 9 ns v4)) := hD
  refine lv_aload_n hx hb dX2_add_58 rfl (lv_at hl 1 rfl) ?_
  refine va_get (D := D) (ci := 2) (v := .ref (a 12)) (C := RX2) (T := TX2) (N := 13) hx hb hts hinX2 hown hK hP 2 rfl rfl 5 (by decide) hf26 (fun _ h9 => h9) rfl dX2_add_59 ?_
  refine lv_iload hx hb dX2_add_62 (lv_at hl 0 rfl) ?_
  refine lv_iconst (v := 1) hx hb dX2_add_64 (by decide) ?_
  refine zk_st hx hb hK hP hD hS 12 0 (zwq10 cI a _) rfl (k := ns) hs10 (by decide) (zws10 cI a _ _ _) dX2_add_65 (fun H locs hP hD hS => ?_)
  have hP : va_P D vwCl (zw_H cI a (zs (zs (zs (zs (zs σ 6 ns v1) 7 ns v2) 8 ns v3) 9 ns v4) 10 ns 1)) H := hP
  have hD : va_D A (zw_H cI a (zs (zs (zs (zs (zs σ 6 ns v1) 7 ns v2) 8 ns v3) 9 ns v4) 10 ns 1)) := hD
  refine lv_aload_n hx hb dX2_add_66 rfl (lv_at hl 1 rfl) ?_
  refine va_get (D := D) (ci := 2) (v := .ref (a 13)) (C := RX2) (T := TX2) (N := 13) hx hb hts hinX2 hown hK hP 2 rfl rfl 6 (by decide) hf29 (fun _ h9 => h9) rfl dX2_add_67 ?_
  refine lv_iload hx hb dX2_add_70 (lv_at hl 0 rfl) ?_
  refine lv_iconst (v := (-1)) hx hb dX2_add_72 (by decide) ?_
  refine zk_st hx hb hK hP hD hS 13 0 (zwq11 cI a _) rfl (k := ns) hs10 (by decide) (zws11 cI a _ _ _) dX2_add_73 (fun H locs hP hD hS => ?_)
  have hP : va_P D vwCl (zw_H cI a (zs (zs (zs (zs (zs (zs σ 6 ns v1) 7 ns v2) 8 ns v3) 9 ns v4) 10 ns 1) 11 ns (-1))) H := hP
  have hD : va_D A (zw_H cI a (zs (zs (zs (zs (zs (zs σ 6 ns v1) 7 ns v2) 8 ns v3) 9 ns v4) 10 ns 1) 11 ns (-1))) := hD
  refine lv_aload_n hx hb dX2_add_74 rfl (lv_at hl 1 rfl) ?_
  refine va_get (D := D) (ci := 2) (v := .ref (a 14)) (C := RX2) (T := TX2) (N := 13) hx hb hts hinX2 hown hK hP 2 rfl rfl 7 (by decide) hf32 (fun _ h9 => h9) rfl dX2_add_75 ?_
  refine lv_iload hx hb dX2_add_78 (lv_at hl 0 rfl) ?_
  refine lv_iconst (v := 0) hx hb dX2_add_80 (by decide) ?_
  refine zk_st hx hb hK hP hD hS 14 0 (zwq12 cI a _) rfl (k := ns) hs10 (by decide) (zws12 cI a _ _ _) dX2_add_81 (fun H locs hP hD hS => ?_)
  have hP : va_P D vwCl (zw_H cI a (zs (zs (zs (zs (zs (zs (zs σ 6 ns v1) 7 ns v2) 8 ns v3) 9 ns v4) 10 ns 1) 11 ns (-1)) 12 ns 0)) H := hP
  have hD : va_D A (zw_H cI a (zs (zs (zs (zs (zs (zs (zs σ 6 ns v1) 7 ns v2) 8 ns v3) 9 ns v4) 10 ns 1) 11 ns (-1)) 12 ns 0)) := hD
  refine lv_aload_n hx hb dX2_add_82 rfl (lv_at hl 1 rfl) ?_
  refine va_get (D := D) (ci := 2) (v := .ref (a 15)) (C := RX2) (T := TX2) (N := 13) hx hb hts hinX2 hown hK hP 2 rfl rfl 8 (by decide) hf35 (fun _ h9 => h9) rfl dX2_add_83 ?_
  refine lv_iload hx hb dX2_add_86 (lv_at hl 0 rfl) ?_
  refine lv_iconst (v := (-1)) hx hb dX2_add_88 (by decide) ?_
  refine zk_st hx hb hK hP hD hS 15 0 (zwq13 cI a _) rfl (k := ns) hs10 (by decide) (zws13 cI a _ _ _) dX2_add_89 (fun H locs hP hD hS => ?_)
  have hP : va_P D vwCl (zw_H cI a (zs (zs (zs (zs (zs (zs (zs (zs σ 6 ns v1) 7 ns v2) 8 ns v3) 9 ns v4) 10 ns 1) 11 ns (-1)) 12 ns 0) 13 ns (-1))) H := hP
  have hD : va_D A (zw_H cI a (zs (zs (zs (zs (zs (zs (zs (zs σ 6 ns v1) 7 ns v2) 8 ns v3) 9 ns v4) 10 ns 1) 11 ns (-1)) 12 ns 0) 13 ns (-1))) := hD
  refine lv_aload_n hx hb dX2_add_90 rfl (lv_at hl 1 rfl) ?_
  refine lv_iload hx hb dX2_add_91 (lv_at hl 0 rfl) ?_
  refine lv_iconst (v := 1) hx hb dX2_add_93 (by decide) ?_
  refine zk_add (x := ns) (y := 1) hx hb dX2_add_94 ?_
  refine va_put (D := D) (ci := 2) (v := .int (nI (ns + 1))) (ty := .int) (C := RX2) (T := TX2) (N := 13) hx hb hts hinX2 tyX2 tyX2_ok nmX2 hown hK hP hD hS 2 rfl rfl 0 (by decide) hf7 (fun _ h9 => h9)  rfl (by decide +kernel) rfl rfl (Nat.le_of_ble_eq_true rfl) dX2_add_95 (fun H locs hP hD hS => ?_)
  have hP : va_P D vwCl (zw_H cI a (zs (zs (zs (zs (zs (zs (zs (zs (zs σ 6 ns v1) 7 ns v2) 8 ns v3) 9 ns v4) 10 ns 1) 11 ns (-1)) 12 ns 0) 13 ns (-1)) 0 4 (nI (ns + 1)))) H := hP
  have hD : va_D A (zw_H cI a (zs (zs (zs (zs (zs (zs (zs (zs (zs σ 6 ns v1) 7 ns v2) 8 ns v3) 9 ns v4) 10 ns 1) 11 ns (-1)) 12 ns 0) 13 ns (-1)) 0 4 (nI (ns + 1)))) := hD
  refine lv_iload hx hb dX2_add_98 (lv_at hl 0 rfl) ?_
  have e9 : f_addS σ ns v1 v2 v3 v4 = zs (zs (zs (zs (zs (zs (zs (zs (zs σ 6 ns v1) 7 ns v2) 8 ns v3) 9 ns v4) 10 ns 1) 11 ns (-1)) 12 ns 0) 13 ns (-1)) 0 4 (nI (ns + 1)) := by simp only [f_addS]
  have hP9 : va_P D vwCl (zw_H cI a (f_addS σ ns v1 v2 v3 v4)) H := by rw [e9]; exact hP
  have hD9 : va_D A (zw_H cI a (f_addS σ ns v1 v2 v3 v4)) := by rw [e9]; exact hD
  exact W.iret (v := nI ns) hx hb hr (fun t ht hW => ⟨⟨nI ns, (), rfl, rfl, by rw [ht]; exact hP9, va_K.moved hW.alike hK, hD9⟩, hS.F ht⟩) hS.2.2 dX2_add_100
