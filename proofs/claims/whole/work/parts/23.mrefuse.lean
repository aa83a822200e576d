set_option maxHeartbeats 4000000 in
set_option maxRecDepth 100000 in
theorem b_X4_bed1 (l : Launch) (D : va_G) (cI : ClassId) (μ : Nat → Nat) (th : Int32) (σ : zS) (κ : Nat → Int32) (v : Int32) (hv : ¬ (¬ v < 0 ∧ v ≤ 9)) : zMI l yX4_bed wsX4_bed ({ frames := 1, cells := 0, slots := 0, locals := 22 }) [.ref (μ 0), .int v] D [(cI, .int)] (zw_M cI μ th σ (κ)) (zw_M cI μ 1 σ (κ)) (fun _ => True) := by
  intro sz
  refine Met.ofW (cc := cX4_bed) (maxL := 2) (ret := (some .int)) (by decide) rfl ?_
  intro p e s m args below meth c s₁ B hml hv
  obtain ⟨rfl, hsz, hP, hK, hD⟩ := hv
  have hx := B.exec
  have hb := B.bytes
  have hr := B.returns
  have hts := atoms_spec (ws := wsX4_bed) B.pre
  have hown : s.vm.findClass RX4 = some m.cls := findClass_of_methodNamed B.named
  have hlocks := B.notSynchronized
  subst hsz
  have hD := hD.self (sz := s.heap.size)
  generalize hAe : va_A (zw_M cI μ th σ (κ)) s.heap.size = A at hD ⊢
  have hA : ∀ q : Nat, s.heap.size ≤ q → A q := fun q h => by rw [← hAe]; exact Or.inr h
  have hS : va_S A s.heap s.heap [] := va_S.rf
  have hP : va_P D vwCl (zw_M cI μ th σ (κ)) s.heap := hP
  have hl := lv_entry ([.ref (μ 0), .int v]) (n := 2) (Nat.le_of_ble_eq_true rfl)
  rw [lg_entry_eq]
  generalize (lg_sl ([.ref (μ 0), .int v]) ++ List.replicate (2 - (lg_sl ([.ref (μ 0), .int v])).length) Slot.unset).toArray = ls at hl ⊢
  have hl : lv_has ls 2 [(0, .ref (μ 0)), (1, .int v)] := hl
  have hf25 := hts (.fieldLink RX4 25 "HotBedsModel" "thrown" "I") (by decide +kernel)
  have hinX4 : ∀ w ∈ u_ws RX4 TX4 8, w ∈ wsX4_bed := by decide +kernel
  refine lv_aload_n hx hb dX4_bed_0 rfl (lv_at hl 0 rfl) ?_
  refine lv_iconst (v := 0) hx hb dX4_bed_1 (by decide) ?_
  refine va_put (D := D) (ci := 4) (v := .int 0) (ty := .int) (C := RX4) (T := TX4) (N := 8) hx hb hts hinX4 tyX4 tyX4_ok nmX4 hown hK hP hD hS 0 rfl rfl 0 (by decide) hf25 (fun _ h9 => h9)  rfl (by decide +kernel) rfl rfl (Nat.le_of_ble_eq_true rfl) dX4_bed_2 (fun H locs hP hD hS => ?_)
  have hP : va_P D vwCl (zw_M cI μ 0 σ (κ)) H := hP
  have hD : va_D A (zw_M cI μ 0 σ (κ)) := hD
  refine lv_iload_n hx hb dX4_bed_5 rfl (lv_at hl 1 rfl) ?_
  refine lv_iconst (v := 0) hx hb dX4_bed_6 (by decide) ?_
  refine lv_bipush (v := 9) hx hb dX4_bed_7 (by decide) ?_
  refine zk_R (D := D) (va_runS (As := [.int v, .int 0, .int 9]) (rest := []) ⟨hx, hb, hml, hown, hts⟩ (c_X4_isIn l D cI v 0 9 _) (va_cwS 3 hts gX4_bed_X4_isIn rfl rfl rfl zdX4_isIn.2 ⟨Nat.le_of_ble_eq_true rfl, Nat.le_of_ble_eq_true rfl⟩) ⟨zbl _, zpr hK zP0 (zD0 (A := fun _ => True))⟩ rfl rfl hl.1 rfl (lv_room (Nat.le_of_ble_eq_true rfl)) dX4_bed_9 ⟨Nat.zero_le _, Nat.zero_le _⟩) hS (fun r_1 H locs hw hkp hS => ?_)
  have hP := hkp _ hP
  have hw : zb (¬ v < 0 ∧ ¬ 9 < v) r_1 := hw
  rcases hw with ⟨c_2, rfl⟩ | ⟨c_2, rfl⟩
  · exact absurd c_2 (fun z => hv ⟨z.1, Int32.not_lt.mp z.2⟩)
  · refine lv_if_ne (tgt := 21) hx hb dX4_bed_12 (by decide) (fun c => absurd (by decide) c) (fun _ => ?_)
    refine lv_aload_n hx hb dX4_bed_15 rfl (lv_at hl 0 rfl) ?_
    refine lv_iconst (v := 1) hx hb dX4_bed_16 (by decide) ?_
    have hF := zfree hD hS hA
    refine zk_I (va_runV (As := [.int 1]) (rest := []) ⟨hx, hb, hml, hown, hts⟩ (c_X4_fail l D cI μ 0 σ (κ) 1 _) (cwV 1 hts gX4_bed_X4_fail rfl rfl rfl zdX4_fail ⟨Nat.le_of_ble_eq_true rfl, Nat.le_of_ble_eq_true rfl⟩) ⟨zbl _, va_recv hK hP (ci := 4) (q0 := 0) rfl rfl, zpr hK hP hD⟩ rfl rfl hl.1 rfl (lv_room (Nat.le_of_ble_eq_true rfl)) dX4_bed_17 ⟨Nat.zero_le _, Nat.zero_le _⟩) hS hF (fun r_4 H locs hw hkp hP1 hD1 hS => ?_)
    have hP := hP1
    have hD := hD1.weaken (fun _ _ _ z => hF _ z)
    have hP : va_P D vwCl (zw_M cI μ 1 σ (κ)) H := hP
    have hD : va_D A (zw_M cI μ 1 σ (κ)) := hD
    have hw : r_4 = 0 := hw
    subst hw
    have hP9 := hP
    have hD9 := hD
    exact W.iret (v := 0) hx hb hr (fun t ht hW => ⟨⟨0, (), rfl, trivial, by rw [ht]; exact hP9, va_K.moved hW.alike hK, hD9⟩, hS.F ht⟩) hS.2.2 dX4_bed_20

set_option maxHeartbeats 4000000 in
set_option maxRecDepth 100000 in
theorem b_X4_bed2 (l : Launch) (D : va_G) (cI : ClassId) (μ : Nat → Nat) (th : Int32) (σ : zS) (κ : Nat → Int32) (v : Int32) {nb ns h : Nat} (hC : zC σ nb ns h) (h1 : ¬ v < 0) (h2 : v ≤ 9) (h6 : nb = 6) : zMI l yX4_bed wsX4_bed ({ frames := 1, cells := 0, slots := 0, locals := 22 }) [.ref (μ 0), .int v] D [(cI, .int)] (zw_M cI μ th σ (κ)) (zw_M cI μ 2 σ (κ)) (fun _ => True) := by
  intro sz
  refine Met.ofW (cc := cX4_bed) (maxL := 2) (ret := (some .int)) (by decide) rfl ?_
  intro p e s m args below meth c s₁ B hml hv
  obtain ⟨rfl, hsz, hP, hK, hD⟩ := hv
  have hx := B.exec
  have hb := B.bytes
  have hr := B.returns
  have hts := atoms_spec (ws := wsX4_bed) B.pre
  have hown : s.vm.findClass RX4 = some m.cls := findClass_of_methodNamed B.named
  have hlocks := B.notSynchronized
  subst hsz
  have hD := hD.self (sz := s.heap.size)
  generalize hAe : va_A (zw_M cI μ th σ (κ)) s.heap.size = A at hD ⊢
  have hA : ∀ q : Nat, s.heap.size ≤ q → A q := fun q h => by rw [← hAe]; exact Or.inr h
  have hS : va_S A s.heap s.heap [] := va_S.rf
  have hP : va_P D vwCl (zw_M cI μ th σ (κ)) s.heap := hP
  have hl := lv_entry ([.ref (μ 0), .int v]) (n := 2) (Nat.le_of_ble_eq_true rfl)
  rw [lg_entry_eq]
  generalize (lg_sl ([.ref (μ 0), .int v]) ++ List.replicate (2 - (lg_sl ([.ref (μ 0), .int v])).length) Slot.unset).toArray = ls at hl ⊢
  have hl : lv_has ls 2 [(0, .ref (μ 0)), (1, .int v)] := hl
  have hf25 := hts (.fieldLink RX4 25 "HotBedsModel" "thrown" "I") (by decide +kernel)
  have hf29 := hts (.fieldLink RX4 29 "HotBedsModel" "beds" "I") (by decide +kernel)
  have hinX4 : ∀ w ∈ u_ws RX4 TX4 8, w ∈ wsX4_bed := by decide +kernel
  have hnb := hC.2.1
  have hns := hC.2.2.2.1
  have hh := hC.2.2.2.2.2.1
  refine lv_aload_n hx hb dX4_bed_0 rfl (lv_at hl 0 rfl) ?_
  refine lv_iconst (v := 0) hx hb dX4_bed_1 (by decide) ?_
  refine va_put (D := D) (ci := 4) (v := .int 0) (ty := .int) (C := RX4) (T := TX4) (N := 8) hx hb hts hinX4 tyX4 tyX4_ok nmX4 hown hK hP hD hS 0 rfl rfl 0 (by decide) hf25 (fun _ h9 => h9)  rfl (by decide +kernel) rfl rfl (Nat.le_of_ble_eq_true rfl) dX4_bed_2 (fun H locs hP hD hS => ?_)
  have hP : va_P D vwCl (zw_M cI μ 0 σ (κ)) H := hP
  have hD : va_D A (zw_M cI μ 0 σ (κ)) := hD
  refine lv_iload_n hx hb dX4_bed_5 rfl (lv_at hl 1 rfl) ?_
  refine lv_iconst (v := 0) hx hb dX4_bed_6 (by decide) ?_
  refine lv_bipush (v := 9) hx hb dX4_bed_7 (by decide) ?_
  refine zk_R (D := D) (va_runS (As := [.int v, .int 0, .int 9]) (rest := []) ⟨hx, hb, hml, hown, hts⟩ (c_X4_isIn l D cI v 0 9 _) (va_cwS 3 hts gX4_bed_X4_isIn rfl rfl rfl zdX4_isIn.2 ⟨Nat.le_of_ble_eq_true rfl, Nat.le_of_ble_eq_true rfl⟩) ⟨zbl _, zpr hK zP0 (zD0 (A := fun _ => True))⟩ rfl rfl hl.1 rfl (lv_room (Nat.le_of_ble_eq_true rfl)) dX4_bed_9 ⟨Nat.zero_le _, Nat.zero_le _⟩) hS (fun r_1 H locs hw hkp hS => ?_)
  have hP := hkp _ hP
  have hw : zb (¬ v < 0 ∧ ¬ 9 < v) r_1 := hw
  rcases hw with ⟨c_2, rfl⟩ | ⟨c_2, rfl⟩
  · refine lv_if_ne (tgt := 21) hx hb dX4_bed_12 (by decide) (fun _ => ?_) (fun c => absurd c (by decide))
    refine lv_aload_n hx hb dX4_bed_21 rfl (lv_at hl 0 rfl) ?_
    refine va_get (D := D) (ci := 4) (v := .int (nI nb)) (C := RX4) (T := TX4) (N := 8) hx hb hts hinX4 hown hK hP 0 rfl rfl 1 (by decide) hf29 (fun _ h9 => h9) (congrArg (fun z => some (Value.int z)) hC.1) dX4_bed_22 ?_
    refine lv_bipush (v := 6) hx hb dX4_bed_25 (by decide) ?_
    refine lv_icmp_ne (tgt := 36) hx hb dX4_bed_27 (by decide) (fun c => absurd (by rw [h6]; rfl) c) (fun _ => ?_)
    refine lv_aload_n hx hb dX4_bed_30 rfl (lv_at hl 0 rfl) ?_
    refine lv_iconst (v := 2) hx hb dX4_bed_31 (by decide) ?_
    have hF := zfree hD hS hA
    refine zk_I (va_runV (As := [.int 2]) (rest := []) ⟨hx, hb, hml, hown, hts⟩ (c_X4_fail l D cI μ 0 σ (κ) 2 _) (cwV 1 hts gX4_bed_X4_fail rfl rfl rfl zdX4_fail ⟨Nat.le_of_ble_eq_true rfl, Nat.le_of_ble_eq_true rfl⟩) ⟨zbl _, va_recv hK hP (ci := 4) (q0 := 0) rfl rfl, zpr hK hP hD⟩ rfl rfl hl.1 rfl (lv_room (Nat.le_of_ble_eq_true rfl)) dX4_bed_32 ⟨Nat.zero_le _, Nat.zero_le _⟩) hS hF (fun r_5 H locs hw hkp hP1 hD1 hS => ?_)
    have hP := hP1
    have hD := hD1.weaken (fun _ _ _ z => hF _ z)
    have hP : va_P D vwCl (zw_M cI μ 2 σ (κ)) H := hP
    have hD : va_D A (zw_M cI μ 2 σ (κ)) := hD
    have hw : r_5 = 0 := hw
    subst hw
    have hP9 := hP
    have hD9 := hD
    exact W.iret (v := 0) hx hb hr (fun t ht hW => ⟨⟨0, (), rfl, trivial, by rw [ht]; exact hP9, va_K.moved hW.alike hK, hD9⟩, hS.F ht⟩) hS.2.2 dX4_bed_35
  · exact absurd (⟨h1, Int32.not_lt.mpr h2⟩) c_2

set_option maxHeartbeats 4000000 in
set_option maxRecDepth 100000 in
theorem b_X4_sailor1 (l : Launch) (D : va_G) (cI : ClassId) (μ : Nat → Nat) (th : Int32) (σ : zS) (κ : Nat → Int32) (v1 v2 v3 v4 : Int32) (hv : ¬ (¬ v1 < 0 ∧ v1 < 3)) : zMI l yX4_sailor wsX4_sailor ({ frames := 1, cells := 0, slots := 0, locals := 22 }) [.ref (μ 0), .int v1, .int v2, .int v3, .int v4] D [(cI, .int)] (zw_M cI μ th σ (κ)) (zw_M cI μ 1 σ (κ)) (fun _ => True) := by
  intro sz
  refine Met.ofW (cc := cX4_sailor) (maxL := 5) (ret := (some .int)) (by decide) rfl ?_
  intro p e s m args below meth c s₁ B hml hv
  obtain ⟨rfl, hsz, hP, hK, hD⟩ := hv
  have hx := B.exec
  have hb := B.bytes
  have hr := B.returns
  have hts := atoms_spec (ws := wsX4_sailor) B.pre
  have hown : s.vm.findClass RX4 = some m.cls := findClass_of_methodNamed B.named
  have hlocks := B.notSynchronized
  subst hsz
  have hD := hD.self (sz := s.heap.size)
  generalize hAe : va_A (zw_M cI μ th σ (κ)) s.heap.size = A at hD ⊢
  have hA : ∀ q : Nat, s.heap.size ≤ q → A q := fun q h => by rw [← hAe]; exact Or.inr h
  have hS : va_S A s.heap s.heap [] := va_S.rf
  have hP : va_P D vwCl (zw_M cI μ th σ (κ)) s.heap := hP
  have hl := lv_entry ([.ref (μ 0), .int v1, .int v2, .int v3, .int v4]) (n := 5) (Nat.le_of_ble_eq_true rfl)
  rw [lg_entry_eq]
  generalize (lg_sl ([.ref (μ 0), .int v1, .int v2, .int v3, .int v4]) ++ List.replicate (5 - (lg_sl ([.ref (μ 0), .int v1, .int v2, .int v3, .int v4])).length) Slot.unset).toArray = ls at hl ⊢
  have hl : lv_has ls 5 [(0, .ref (μ 0)), (1, .int v1), (2, .int v2), (3, .int v3), (4, .int v4)] := hl
  have hf25 := hts (.fieldLink RX4 25 "HotBedsModel" "thrown" "I") (by decide +kernel)
  have hinX4 : ∀ w ∈ u_ws RX4 TX4 8, w ∈ wsX4_sailor := by decide +kernel
  refine lv_aload_n hx hb dX4_sailor_0 rfl (lv_at hl 0 rfl) ?_
  refine lv_iconst (v := 0) hx hb dX4_sailor_1 (by decide) ?_
  refine va_put (D := D) (ci := 4) (v := .int 0) (ty := .int) (C := RX4) (T := TX4) (N := 8) hx hb hts hinX4 tyX4 tyX4_ok nmX4 hown hK hP hD hS 0 rfl rfl 0 (by decide) hf25 (fun _ h9 => h9)  rfl (by decide +kernel) rfl rfl (Nat.le_of_ble_eq_true rfl) dX4_sailor_2 (fun H locs hP hD hS => ?_)
  have hP : va_P D vwCl (zw_M cI μ 0 σ (κ)) H := hP
  have hD : va_D A (zw_M cI μ 0 σ (κ)) := hD
  refine lv_iload_n hx hb dX4_sailor_5 rfl (lv_at hl 1 rfl) ?_
  refine lv_iconst (v := 0) hx hb dX4_sailor_6 (by decide) ?_
  refine lv_iconst (v := 2) hx hb dX4_sailor_7 (by decide) ?_
  refine zk_R (D := D) (va_runS (As := [.int v1, .int 0, .int 2]) (rest := []) ⟨hx, hb, hml, hown, hts⟩ (c_X4_isIn l D cI v1 0 2 _) (va_cwS 3 hts gX4_sailor_X4_isIn rfl rfl rfl zdX4_isIn.2 ⟨Nat.le_of_ble_eq_true rfl, Nat.le_of_ble_eq_true rfl⟩) ⟨zbl _, zpr hK zP0 (zD0 (A := fun _ => True))⟩ rfl rfl hl.1 rfl (lv_room (Nat.le_of_ble_eq_true rfl)) dX4_sailor_8 ⟨Nat.zero_le _, Nat.zero_le _⟩) hS (fun r_1 H locs hw hkp hS => ?_)
  have hP := hkp _ hP
  have hw : zb (¬ v1 < 0 ∧ ¬ 2 < v1) r_1 := hw
  rcases hw with ⟨c_2, rfl⟩ | ⟨c_2, rfl⟩
  · exact absurd c_2 (fun z => hv ⟨z.1, zn_w3.mpr z.2⟩)
  · refine lv_if_ne (tgt := 20) hx hb dX4_sailor_11 (by decide) (fun c => absurd (by decide) c) (fun _ => ?_)
    refine lv_aload_n hx hb dX4_sailor_14 rfl (lv_at hl 0 rfl) ?_
    refine lv_iconst (v := 1) hx hb dX4_sailor_15 (by decide) ?_
    have hF := zfree hD hS hA
    refine zk_I (va_runV (As := [.int 1]) (rest := []) ⟨hx, hb, hml, hown, hts⟩ (c_X4_fail l D cI μ 0 σ (κ) 1 _) (cwV 1 hts gX4_sailor_X4_fail rfl rfl rfl zdX4_fail ⟨Nat.le_of_ble_eq_true rfl, Nat.le_of_ble_eq_true rfl⟩) ⟨zbl _, va_recv hK hP (ci := 4) (q0 := 0) rfl rfl, zpr hK hP hD⟩ rfl rfl hl.1 rfl (lv_room (Nat.le_of_ble_eq_true rfl)) dX4_sailor_16 ⟨Nat.zero_le _, Nat.zero_le _⟩) hS hF (fun r_4 H locs hw hkp hP1 hD1 hS => ?_)
    have hP := hP1
    have hD := hD1.weaken (fun _ _ _ z => hF _ z)
    have hP : va_P D vwCl (zw_M cI μ 1 σ (κ)) H := hP
    have hD : va_D A (zw_M cI μ 1 σ (κ)) := hD
    have hw : r_4 = 0 := hw
    subst hw
    have hP9 := hP
    have hD9 := hD
    exact W.iret (v := 0) hx hb hr (fun t ht hW => ⟨⟨0, (), rfl, trivial, by rw [ht]; exact hP9, va_K.moved hW.alike hK, hD9⟩, hS.F ht⟩) hS.2.2 dX4_sailor_19

set_option maxHeartbeats 4000000 in
set_option maxRecDepth 100000 in
theorem b_X4_sailor2 (l : Launch) (D : va_G) (cI : ClassId) (μ : Nat → Nat) (th : Int32) (σ : zS) (κ : Nat → Int32) (v1 v2 v3 v4 : Int32) (hw1 : ¬ v1 < 0) (hw2 : v1 < 3) (hv : ¬ (¬ v2 < 0 ∧ v2 ≤ 9 ∧ ¬ v3 < 0 ∧ v3 ≤ 20 ∧ ¬ v4 < 0 ∧ v4 ≤ 99)) : zMI l yX4_sailor wsX4_sailor ({ frames := 1, cells := 0, slots := 0, locals := 22 }) [.ref (μ 0), .int v1, .int v2, .int v3, .int v4] D [(cI, .int)] (zw_M cI μ th σ (κ)) (zw_M cI μ 2 σ (κ)) (fun _ => True) := by
  intro sz
  refine Met.ofW (cc := cX4_sailor) (maxL := 5) (ret := (some .int)) (by decide) rfl ?_
  intro p e s m args below meth c s₁ B hml hv
  obtain ⟨rfl, hsz, hP, hK, hD⟩ := hv
  have hx := B.exec
  have hb := B.bytes
  have hr := B.returns
  have hts := atoms_spec (ws := wsX4_sailor) B.pre
  have hown : s.vm.findClass RX4 = some m.cls := findClass_of_methodNamed B.named
  have hlocks := B.notSynchronized
  subst hsz
  have hD := hD.self (sz := s.heap.size)
  generalize hAe : va_A (zw_M cI μ th σ (κ)) s.heap.size = A at hD ⊢
  have hA : ∀ q : Nat, s.heap.size ≤ q → A q := fun q h => by rw [← hAe]; exact Or.inr h
  have hS : va_S A s.heap s.heap [] := va_S.rf
  have hP : va_P D vwCl (zw_M cI μ th σ (κ)) s.heap := hP
  have hl := lv_entry ([.ref (μ 0), .int v1, .int v2, .int v3, .int v4]) (n := 5) (Nat.le_of_ble_eq_true rfl)
  rw [lg_entry_eq]
  generalize (lg_sl ([.ref (μ 0), .int v1, .int v2, .int v3, .int v4]) ++ List.replicate (5 - (lg_sl ([.ref (μ 0), .int v1, .int v2, .int v3, .int v4])).length) Slot.unset).toArray = ls at hl ⊢
  have hl : lv_has ls 5 [(0, .ref (μ 0)), (1, .int v1), (2, .int v2), (3, .int v3), (4, .int v4)] := hl
  have hf25 := hts (.fieldLink RX4 25 "HotBedsModel" "thrown" "I") (by decide +kernel)
  have hinX4 : ∀ w ∈ u_ws RX4 TX4 8, w ∈ wsX4_sailor := by decide +kernel
  refine lv_aload_n hx hb dX4_sailor_0 rfl (lv_at hl 0 rfl) ?_
  refine lv_iconst (v := 0) hx hb dX4_sailor_1 (by decide) ?_
  refine va_put (D := D) (ci := 4) (v := .int 0) (ty := .int) (C := RX4) (T := TX4) (N := 8) hx hb hts hinX4 tyX4 tyX4_ok nmX4 hown hK hP hD hS 0 rfl rfl 0 (by decide) hf25 (fun _ h9 => h9)  rfl (by decide +kernel) rfl rfl (Nat.le_of_ble_eq_true rfl) dX4_sailor_2 (fun H locs hP hD hS => ?_)
  have hP : va_P D vwCl (zw_M cI μ 0 σ (κ)) H := hP
  have hD : va_D A (zw_M cI μ 0 σ (κ)) := hD
  refine lv_iload_n hx hb dX4_sailor_5 rfl (lv_at hl 1 rfl) ?_
  refine lv_iconst (v := 0) hx hb dX4_sailor_6 (by decide) ?_
  refine lv_iconst (v := 2) hx hb dX4_sailor_7 (by decide) ?_
  refine zk_R (D := D) (va_runS (As := [.int v1, .int 0, .int 2]) (rest := []) ⟨hx, hb, hml, hown, hts⟩ (c_X4_isIn l D cI v1 0 2 _) (va_cwS 3 hts gX4_sailor_X4_isIn rfl rfl rfl zdX4_isIn.2 ⟨Nat.le_of_ble_eq_true rfl, Nat.le_of_ble_eq_true rfl⟩) ⟨zbl _, zpr hK zP0 (zD0 (A := fun _ => True))⟩ rfl rfl hl.1 rfl (lv_room (Nat.le_of_ble_eq_true rfl)) dX4_sailor_8 ⟨Nat.zero_le _, Nat.zero_le _⟩) hS (fun r_1 H locs hw hkp hS => ?_)
  have hP := hkp _ hP
  have hw : zb (¬ v1 < 0 ∧ ¬ 2 < v1) r_1 := hw
  rcases hw with ⟨c_2, rfl⟩ | ⟨c_2, rfl⟩
  · refine lv_if_ne (tgt := 20) hx hb dX4_sailor_11 (by decide) (fun _ => ?_) (fun c => absurd c (by decide))
    refine lv_iload_n hx hb dX4_sailor_20 rfl (lv_at hl 2 rfl) ?_
    refine lv_iconst (v := 0) hx hb dX4_sailor_21 (by decide) ?_
    refine lv_bipush (v := 9) hx hb dX4_sailor_22 (by decide) ?_
    refine zk_R (D := D) (va_runS (As := [.int v2, .int 0, .int 9]) (rest := []) ⟨hx, hb, hml, hown, hts⟩ (c_X4_isIn l D cI v2 0 9 _) (va_cwS 3 hts gX4_sailor_X4_isIn rfl rfl rfl zdX4_isIn.2 ⟨Nat.le_of_ble_eq_true rfl, Nat.le_of_ble_eq_true rfl⟩) ⟨zbl _, zpr hK zP0 (zD0 (A := fun _ => True))⟩ rfl rfl hl.1 rfl (lv_room (Nat.le_of_ble_eq_true rfl)) dX4_sailor_24 ⟨Nat.zero_le _, Nat.zero_le _⟩) hS (fun r_4 H locs hw hkp hS => ?_)
    have hP := hkp _ hP
    have hw : zb (¬ v2 < 0 ∧ ¬ 9 < v2) r_4 := hw
    rcases hw with ⟨c_5, rfl⟩ | ⟨c_5, rfl⟩
    · refine lv_if_eq (tgt := 51) hx hb dX4_sailor_27 (by decide) (fun c => absurd c (by decide)) (fun _ => ?_)
      refine lv_iload_n hx hb dX4_sailor_30 rfl (lv_at hl 3 rfl) ?_
      refine lv_iconst (v := 0) hx hb dX4_sailor_31 (by decide) ?_
      refine lv_bipush (v := 20) hx hb dX4_sailor_32 (by decide) ?_
      refine zk_R (D := D) (va_runS (As := [.int v3, .int 0, .int 20]) (rest := []) ⟨hx, hb, hml, hown, hts⟩ (c_X4_isIn l D cI v3 0 20 _) (va_cwS 3 hts gX4_sailor_X4_isIn rfl rfl rfl zdX4_isIn.2 ⟨Nat.le_of_ble_eq_true rfl, Nat.le_of_ble_eq_true rfl⟩) ⟨zbl _, zpr hK zP0 (zD0 (A := fun _ => True))⟩ rfl rfl hl.1 rfl (lv_room (Nat.le_of_ble_eq_true rfl)) dX4_sailor_34 ⟨Nat.zero_le _, Nat.zero_le _⟩) hS (fun r_7 H locs hw hkp hS => ?_)
      have hP := hkp _ hP
      have hw : zb (¬ v3 < 0 ∧ ¬ 20 < v3) r_7 := hw
      rcases hw with ⟨c_8, rfl⟩ | ⟨c_8, rfl⟩
      · refine lv_if_eq (tgt := 51) hx hb dX4_sailor_37 (by decide) (fun c => absurd c (by decide)) (fun _ => ?_)
        refine lv_iload hx hb dX4_sailor_40 (lv_at hl 4 rfl) ?_
        refine lv_iconst (v := 0) hx hb dX4_sailor_42 (by decide) ?_
        refine lv_bipush (v := 99) hx hb dX4_sailor_43 (by decide) ?_
        refine zk_R (D := D) (va_runS (As := [.int v4, .int 0, .int 99]) (rest := []) ⟨hx, hb, hml, hown, hts⟩ (c_X4_isIn l D cI v4 0 99 _) (va_cwS 3 hts gX4_sailor_X4_isIn rfl rfl rfl zdX4_isIn.2 ⟨Nat.le_of_ble_eq_true rfl, Nat.le_of_ble_eq_true rfl⟩) ⟨zbl _, zpr hK zP0 (zD0 (A := fun _ => True))⟩ rfl rfl hl.1 rfl (lv_room (Nat.le_of_ble_eq_true rfl)) dX4_sailor_45 ⟨Nat.zero_le _, Nat.zero_le _⟩) hS (fun r_10 H locs hw hkp hS => ?_)
        have hP := hkp _ hP
        have hw : zb (¬ v4 < 0 ∧ ¬ 99 < v4) r_10 := hw
        rcases hw with ⟨c_11, rfl⟩ | ⟨c_11, rfl⟩
        · refine lv_if_ne (tgt := 57) hx hb dX4_sailor_48 (by decide) (fun _ => ?_) (fun c => absurd c (by decide))
          exact absurd ⟨c_5.1, Int32.not_lt.mp c_5.2, c_8.1, Int32.not_lt.mp c_8.2, c_11.1, Int32.not_lt.mp c_11.2⟩ hv
        · refine lv_if_ne (tgt := 57) hx hb dX4_sailor_48 (by decide) (fun c => absurd (by decide) c) (fun _ => ?_)
          refine lv_aload_n hx hb dX4_sailor_51 rfl (lv_at hl 0 rfl) ?_
          refine lv_iconst (v := 2) hx hb dX4_sailor_52 (by decide) ?_
          have hF := zfree hD hS hA
          refine zk_I (va_runV (As := [.int 2]) (rest := []) ⟨hx, hb, hml, hown, hts⟩ (c_X4_fail l D cI μ 0 σ (κ) 2 _) (cwV 1 hts gX4_sailor_X4_fail rfl rfl rfl zdX4_fail ⟨Nat.le_of_ble_eq_true rfl, Nat.le_of_ble_eq_true rfl⟩) ⟨zbl _, va_recv hK hP (ci := 4) (q0 := 0) rfl rfl, zpr hK hP hD⟩ rfl rfl hl.1 rfl (lv_room (Nat.le_of_ble_eq_true rfl)) dX4_sailor_53 ⟨Nat.zero_le _, Nat.zero_le _⟩) hS hF (fun r_14 H locs hw hkp hP1 hD1 hS => ?_)
          have hP := hP1
          have hD := hD1.weaken (fun _ _ _ z => hF _ z)
          have hP : va_P D vwCl (zw_M cI μ 2 σ (κ)) H := hP
          have hD : va_D A (zw_M cI μ 2 σ (κ)) := hD
          have hw : r_14 = 0 := hw
          subst hw
          have hP9 := hP
          have hD9 := hD
          exact W.iret (v := 0) hx hb hr (fun t ht hW => ⟨⟨0, (), rfl, trivial, by rw [ht]; exact hP9, va_K.moved hW.alike hK, hD9⟩, hS.F ht⟩) hS.2.2 dX4_sailor_56
      · refine lv_if_eq (tgt := 51) hx hb dX4_sailor_37 (by decide) (fun _ => ?_) (fun c => absurd (by decide) c)
        refine lv_aload_n hx hb dX4_sailor_51 rfl (lv_at hl 0 rfl) ?_
        refine lv_iconst (v := 2) hx hb dX4_sailor_52 (by decide) ?_
        have hF := zfree hD hS hA
        refine zk_I (va_runV (As := [.int 2]) (rest := []) ⟨hx, hb, hml, hown, hts⟩ (c_X4_fail l D cI μ 0 σ (κ) 2 _) (cwV 1 hts gX4_sailor_X4_fail rfl rfl rfl zdX4_fail ⟨Nat.le_of_ble_eq_true rfl, Nat.le_of_ble_eq_true rfl⟩) ⟨zbl _, va_recv hK hP (ci := 4) (q0 := 0) rfl rfl, zpr hK hP hD⟩ rfl rfl hl.1 rfl (lv_room (Nat.le_of_ble_eq_true rfl)) dX4_sailor_53 ⟨Nat.zero_le _, Nat.zero_le _⟩) hS hF (fun r_16 H locs hw hkp hP1 hD1 hS => ?_)
        have hP := hP1
        have hD := hD1.weaken (fun _ _ _ z => hF _ z)
        have hP : va_P D vwCl (zw_M cI μ 2 σ (κ)) H := hP
        have hD : va_D A (zw_M cI μ 2 σ (κ)) := hD
        have hw : r_16 = 0 := hw
        subst hw
        have hP9 := hP
        have hD9 := hD
        exact W.iret (v := 0) hx hb hr (fun t ht hW => ⟨⟨0, (), rfl, trivial, by rw [ht]; exact hP9, va_K.moved hW.alike hK, hD9⟩, hS.F ht⟩) hS.2.2 dX4_sailor_56
    · refine lv_if_eq (tgt := 51) hx hb dX4_sailor_27 (by decide) (fun _ => ?_) (fun c => absurd (by decide) c)
      refine lv_aload_n hx hb dX4_sailor_51 rfl (lv_at hl 0 rfl) ?_
      refine lv_iconst (v := 2) hx hb dX4_sailor_52 (by decide) ?_
      have hF := zfree hD hS hA
      refine zk_I (va_runV (As := [.int 2]) (rest := []) ⟨hx, hb, hml, hown, hts⟩ (c_X4_fail l D cI μ 0 σ (κ) 2 _) (cwV 1 hts gX4_sailor_X4_fail rfl rfl rfl zdX4_fail ⟨Nat.le_of_ble_eq_true rfl, Nat.le_of_ble_eq_true rfl⟩) ⟨zbl _, va_recv hK hP (ci := 4) (q0 := 0) rfl rfl, zpr hK hP hD⟩ rfl rfl hl.1 rfl (lv_room (Nat.le_of_ble_eq_true rfl)) dX4_sailor_53 ⟨Nat.zero_le _, Nat.zero_le _⟩) hS hF (fun r_18 H locs hw hkp hP1 hD1 hS => ?_)
      have hP := hP1
      have hD := hD1.weaken (fun _ _ _ z => hF _ z)
      have hP : va_P D vwCl (zw_M cI μ 2 σ (κ)) H := hP
      have hD : va_D A (zw_M cI μ 2 σ (κ)) := hD
      have hw : r_18 = 0 := hw
      subst hw
      have hP9 := hP
      have hD9 := hD
      exact W.iret (v := 0) hx hb hr (fun t ht hW => ⟨⟨0, (), rfl, trivial, by rw [ht]; exact hP9, va_K.moved hW.alike hK, hD9⟩, hS.F ht⟩) hS.2.2 dX4_sailor_56
  · exact absurd (⟨hw1, zn_w3.mp hw2⟩) c_2

set_option maxHeartbeats 4000000 in
set_option maxRecDepth 100000 in
theorem b_X4_sailor3 (l : Launch) (D : va_G) (cI : ClassId) (μ : Nat → Nat) (th : Int32) (σ : zS) (κ : Nat → Int32) (v1 v2 v3 v4 : Int32) {nb ns h : Nat} (hC : zC σ nb ns h) (hw1 : ¬ v1 < 0) (hw2 : v1 < 3) (h1 : ¬ v2 < 0) (h2 : v2 ≤ 9) (h3 : ¬ v3 < 0) (h4 : v3 ≤ 20) (h5 : ¬ v4 < 0) (h6 : v4 ≤ 99) (h10 : ns = 10) : zMI l yX4_sailor wsX4_sailor ({ frames := 1, cells := 0, slots := 0, locals := 22 }) [.ref (μ 0), .int v1, .int v2, .int v3, .int v4] D [(cI, .int)] (zw_M cI μ th σ (κ)) (zw_M cI μ 3 σ (κ)) (fun _ => True) := by
  intro sz
  refine Met.ofW (cc := cX4_sailor) (maxL := 5) (ret := (some .int)) (by decide) rfl ?_
  intro p e s m args below meth c s₁ B hml hv
  obtain ⟨rfl, hsz, hP, hK, hD⟩ := hv
  have hx := B.exec
  have hb := B.bytes
  have hr := B.returns
  have hts := atoms_spec (ws := wsX4_sailor) B.pre
  have hown : s.vm.findClass RX4 = some m.cls := findClass_of_methodNamed B.named
  have hlocks := B.notSynchronized
  subst hsz
  have hD := hD.self (sz := s.heap.size)
  generalize hAe : va_A (zw_M cI μ th σ (κ)) s.heap.size = A at hD ⊢
  have hA : ∀ q : Nat, s.heap.size ≤ q → A q := fun q h => by rw [← hAe]; exact Or.inr h
  have hS : va_S A s.heap s.heap [] := va_S.rf
  have hP : va_P D vwCl (zw_M cI μ th σ (κ)) s.heap := hP
  have hl := lv_entry ([.ref (μ 0), .int v1, .int v2, .int v3, .int v4]) (n := 5) (Nat.le_of_ble_eq_true rfl)
  rw [lg_entry_eq]
  generalize (lg_sl ([.ref (μ 0), .int v1, .int v2, .int v3, .int v4]) ++ List.replicate (5 - (lg_sl ([.ref (μ 0), .int v1, .int v2, .int v3, .int v4])).length) Slot.unset).toArray = ls at hl ⊢
  have hl : lv_has ls 5 [(0, .ref (μ 0)), (1, .int v1), (2, .int v2), (3, .int v3), (4, .int v4)] := hl
  have hf25 := hts (.fieldLink RX4 25 "HotBedsModel" "thrown" "I") (by decide +kernel)
  have hf36 := hts (.fieldLink RX4 36 "HotBedsModel" "sailors" "I") (by decide +kernel)
  have hinX4 : ∀ w ∈ u_ws RX4 TX4 8, w ∈ wsX4_sailor := by decide +kernel
  have hnb := hC.2.1
  have hns := hC.2.2.2.1
  have hh := hC.2.2.2.2.2.1
  refine lv_aload_n hx hb dX4_sailor_0 rfl (lv_at hl 0 rfl) ?_
  refine lv_iconst (v := 0) hx hb dX4_sailor_1 (by decide) ?_
  refine va_put (D := D) (ci := 4) (v := .int 0) (ty := .int) (C := RX4) (T := TX4) (N := 8) hx hb hts hinX4 tyX4 tyX4_ok nmX4 hown hK hP hD hS 0 rfl rfl 0 (by decide) hf25 (fun _ h9 => h9)  rfl (by decide +kernel) rfl rfl (Nat.le_of_ble_eq_true rfl) dX4_sailor_2 (fun H locs hP hD hS => ?_)
  have hP : va_P D vwCl (zw_M cI μ 0 σ (κ)) H := hP
  have hD : va_D A (zw_M cI μ 0 σ (κ)) := hD
  refine lv_iload_n hx hb dX4_sailor_5 rfl (lv_at hl 1 rfl) ?_
  refine lv_iconst (v := 0) hx hb dX4_sailor_6 (by decide) ?_
  refine lv_iconst (v := 2) hx hb dX4_sailor_7 (by decide) ?_
  refine zk_R (D := D) (va_runS (As := [.int v1, .int 0, .int 2]) (rest := []) ⟨hx, hb, hml, hown, hts⟩ (c_X4_isIn l D cI v1 0 2 _) (va_cwS 3 hts gX4_sailor_X4_isIn rfl rfl rfl zdX4_isIn.2 ⟨Nat.le_of_ble_eq_true rfl, Nat.le_of_ble_eq_true rfl⟩) ⟨zbl _, zpr hK zP0 (zD0 (A := fun _ => True))⟩ rfl rfl hl.1 rfl (lv_room (Nat.le_of_ble_eq_true rfl)) dX4_sailor_8 ⟨Nat.zero_le _, Nat.zero_le _⟩) hS (fun r_1 H locs hw hkp hS => ?_)
  have hP := hkp _ hP
  have hw : zb (¬ v1 < 0 ∧ ¬ 2 < v1) r_1 := hw
  rcases hw with ⟨c_2, rfl⟩ | ⟨c_2, rfl⟩
  · refine lv_if_ne (tgt := 20) hx hb dX4_sailor_11 (by decide) (fun _ => ?_) (fun c => absurd c (by decide))
    refine lv_iload_n hx hb dX4_sailor_20 rfl (lv_at hl 2 rfl) ?_
    refine lv_iconst (v := 0) hx hb dX4_sailor_21 (by decide) ?_
    refine lv_bipush (v := 9) hx hb dX4_sailor_22 (by decide) ?_
    refine zk_R (D := D) (va_runS (As := [.int v2, .int 0, .int 9]) (rest := []) ⟨hx, hb, hml, hown, hts⟩ (c_X4_isIn l D cI v2 0 9 _) (va_cwS 3 hts gX4_sailor_X4_isIn rfl rfl rfl zdX4_isIn.2 ⟨Nat.le_of_ble_eq_true rfl, Nat.le_of_ble_eq_true rfl⟩) ⟨zbl _, zpr hK zP0 (zD0 (A := fun _ => True))⟩ rfl rfl hl.1 rfl (lv_room (Nat.le_of_ble_eq_true rfl)) dX4_sailor_24 ⟨Nat.zero_le _, Nat.zero_le _⟩) hS (fun r_4 H locs hw hkp hS => ?_)
    have hP := hkp _ hP
    have hw : zb (¬ v2 < 0 ∧ ¬ 9 < v2) r_4 := hw
    rcases hw with ⟨c_5, rfl⟩ | ⟨c_5, rfl⟩
    · refine lv_if_eq (tgt := 51) hx hb dX4_sailor_27 (by decide) (fun c => absurd c (by decide)) (fun _ => ?_)
      refine lv_iload_n hx hb dX4_sailor_30 rfl (lv_at hl 3 rfl) ?_
      refine lv_iconst (v := 0) hx hb dX4_sailor_31 (by decide) ?_
      refine lv_bipush (v := 20) hx hb dX4_sailor_32 (by decide) ?_
      refine zk_R (D := D) (va_runS (As := [.int v3, .int 0, .int 20]) (rest := []) ⟨hx, hb, hml, hown, hts⟩ (c_X4_isIn l D cI v3 0 20 _) (va_cwS 3 hts gX4_sailor_X4_isIn rfl rfl rfl zdX4_isIn.2 ⟨Nat.le_of_ble_eq_true rfl, Nat.le_of_ble_eq_true rfl⟩) ⟨zbl _, zpr hK zP0 (zD0 (A := fun _ => True))⟩ rfl rfl hl.1 rfl (lv_room (Nat.le_of_ble_eq_true rfl)) dX4_sailor_34 ⟨Nat.zero_le _, Nat.zero_le _⟩) hS (fun r_7 H locs hw hkp hS => ?_)
      have hP := hkp _ hP
      have hw : zb (¬ v3 < 0 ∧ ¬ 20 < v3) r_7 := hw
      rcases hw with ⟨c_8, rfl⟩ | ⟨c_8, rfl⟩
      · refine lv_if_eq (tgt := 51) hx hb dX4_sailor_37 (by decide) (fun c => absurd c (by decide)) (fun _ => ?_)
        refine lv_iload hx hb dX4_sailor_40 (lv_at hl 4 rfl) ?_
        refine lv_iconst (v := 0) hx hb dX4_sailor_42 (by decide) ?_
        refine lv_bipush (v := 99) hx hb dX4_sailor_43 (by decide) ?_
        refine zk_R (D := D) (va_runS (As := [.int v4, .int 0, .int 99]) (rest := []) ⟨hx, hb, hml, hown, hts⟩ (c_X4_isIn l D cI v4 0 99 _) (va_cwS 3 hts gX4_sailor_X4_isIn rfl rfl rfl zdX4_isIn.2 ⟨Nat.le_of_ble_eq_true rfl, Nat.le_of_ble_eq_true rfl⟩) ⟨zbl _, zpr hK zP0 (zD0 (A := fun _ => True))⟩ rfl rfl hl.1 rfl (lv_room (Nat.le_of_ble_eq_true rfl)) dX4_sailor_45 ⟨Nat.zero_le _, Nat.zero_le _⟩) hS (fun r_10 H locs hw hkp hS => ?_)
        have hP := hkp _ hP
        have hw : zb (¬ v4 < 0 ∧ ¬ 99 < v4) r_10 := hw
        rcases hw with ⟨c_11, rfl⟩ | ⟨c_11, rfl⟩
        · refine lv_if_ne (tgt := 57) hx hb dX4_sailor_48 (by decide) (fun _ => ?_) (fun c => absurd c (by decide))
          refine lv_aload_n hx hb dX4_sailor_57 rfl (lv_at hl 0 rfl) ?_
          refine va_get (D := D) (ci := 4) (v := .int (nI ns)) (C := RX4) (T := TX4) (N := 8) hx hb hts hinX4 hown hK hP 0 rfl rfl 2 (by decide) hf36 (fun _ h9 => h9) (congrArg (fun z => some (Value.int z)) hC.2.2.1) dX4_sailor_58 ?_
          refine lv_bipush (v := 10) hx hb dX4_sailor_61 (by decide) ?_
          refine lv_icmp_ne (tgt := 72) hx hb dX4_sailor_63 (by decide) (fun c => absurd (by rw [h10]; rfl) c) (fun _ => ?_)
          refine lv_aload_n hx hb dX4_sailor_66 rfl (lv_at hl 0 rfl) ?_
          refine lv_iconst (v := 3) hx hb dX4_sailor_67 (by decide) ?_
          have hF := zfree hD hS hA
          refine zk_I (va_runV (As := [.int 3]) (rest := []) ⟨hx, hb, hml, hown, hts⟩ (c_X4_fail l D cI μ 0 σ (κ) 3 _) (cwV 1 hts gX4_sailor_X4_fail rfl rfl rfl zdX4_fail ⟨Nat.le_of_ble_eq_true rfl, Nat.le_of_ble_eq_true rfl⟩) ⟨zbl _, va_recv hK hP (ci := 4) (q0 := 0) rfl rfl, zpr hK hP hD⟩ rfl rfl hl.1 rfl (lv_room (Nat.le_of_ble_eq_true rfl)) dX4_sailor_68 ⟨Nat.zero_le _, Nat.zero_le _⟩) hS hF (fun r_14 H locs hw hkp hP1 hD1 hS => ?_)
          have hP := hP1
          have hD := hD1.weaken (fun _ _ _ z => hF _ z)
          have hP : va_P D vwCl (zw_M cI μ 3 σ (κ)) H := hP
          have hD : va_D A (zw_M cI μ 3 σ (κ)) := hD
          have hw : r_14 = 0 := hw
          subst hw
          have hP9 := hP
          have hD9 := hD
          exact W.iret (v := 0) hx hb hr (fun t ht hW => ⟨⟨0, (), rfl, trivial, by rw [ht]; exact hP9, va_K.moved hW.alike hK, hD9⟩, hS.F ht⟩) hS.2.2 dX4_sailor_71
        · exact absurd (⟨h5, Int32.not_lt.mpr h6⟩) c_11
      · exact absurd (⟨h3, Int32.not_lt.mpr h4⟩) c_8
    · exact absurd (⟨h1, Int32.not_lt.mpr h2⟩) c_5
  · exact absurd (⟨hw1, zn_w3.mp hw2⟩) c_2

set_option maxHeartbeats 4000000 in
set_option maxRecDepth 100000 in
theorem b_X4_keep_1 (l : Launch) (D : va_G) (cI : ClassId) (μ : Nat → Nat) (th : Int32) (σ : zS) (κ : Nat → Int32) (v v2 : Int32) {nb ns h : Nat} (hC : zC σ nb ns h) (hv : ¬ f_sail σ v) : zMI l yX4_keep_ wsX4_keep_ ({ frames := 2, cells := 0, slots := 0, locals := 43 }) [.ref (μ 0), .int v, .int v2] D [(cI, .int)] (zw_M cI μ th σ (κ)) (zw_M cI μ 1 σ (κ)) (fun _ => True) := by
  intro sz
  refine Met.ofW (cc := cX4_keep_) (maxL := 4) (ret := (some .int)) (by decide) rfl ?_
  intro p e s m args below meth c s₁ B hml hv
  obtain ⟨rfl, hsz, hP, hK, hD⟩ := hv
  have hx := B.exec
  have hb := B.bytes
  have hr := B.returns
  have hts := atoms_spec (ws := wsX4_keep_) B.pre
  have hown : s.vm.findClass RX4 = some m.cls := findClass_of_methodNamed B.named
  have hlocks := B.notSynchronized
  subst hsz
  have hD := hD.self (sz := s.heap.size)
  generalize hAe : va_A (zw_M cI μ th σ (κ)) s.heap.size = A at hD ⊢
  have hA : ∀ q : Nat, s.heap.size ≤ q → A q := fun q h => by rw [← hAe]; exact Or.inr h
  have hS : va_S A s.heap s.heap [] := va_S.rf
  have hP : va_P D vwCl (zw_M cI μ th σ (κ)) s.heap := hP
  have hl := lv_entry ([.ref (μ 0), .int v, .int v2]) (n := 4) (Nat.le_of_ble_eq_true rfl)
  rw [lg_entry_eq]
  generalize (lg_sl ([.ref (μ 0), .int v, .int v2]) ++ List.replicate (4 - (lg_sl ([.ref (μ 0), .int v, .int v2])).length) Slot.unset).toArray = ls at hl ⊢
  have hl : lv_has ls 4 [(0, .ref (μ 0)), (1, .int v), (2, .int v2)] := hl
  have hf25 := hts (.fieldLink RX4 25 "HotBedsModel" "thrown" "I") (by decide +kernel)
  have hinX4 : ∀ w ∈ u_ws RX4 TX4 8, w ∈ wsX4_keep_ := by decide +kernel
  have hnb := hC.2.1
  have hns := hC.2.2.2.1
  have hh := hC.2.2.2.2.2.1
  refine lv_aload_n hx hb dX4_keep__0 rfl (lv_at hl 0 rfl) ?_
  refine lv_iconst (v := 0) hx hb dX4_keep__1 (by decide) ?_
  refine va_put (D := D) (ci := 4) (v := .int 0) (ty := .int) (C := RX4) (T := TX4) (N := 8) hx hb hts hinX4 tyX4 tyX4_ok nmX4 hown hK hP hD hS 0 rfl rfl 0 (by decide) hf25 (fun _ h9 => h9)  rfl (by decide +kernel) rfl rfl (Nat.le_of_ble_eq_true rfl) dX4_keep__2 (fun H locs hP hD hS => ?_)
  have hP : va_P D vwCl (zw_M cI μ 0 σ (κ)) H := hP
  have hD : va_D A (zw_M cI μ 0 σ (κ)) := hD
  refine lv_aload_n hx hb dX4_keep__5 rfl (lv_at hl 0 rfl) ?_
  refine lv_iload_n hx hb dX4_keep__6 rfl (lv_at hl 1 rfl) ?_
  refine zk_R (D := D) (va_runV (As := [.int v]) (rest := []) ⟨hx, hb, hml, hown, hts⟩ (c_X4_isSailor l D cI μ 0 σ (κ) v hC _) (cwV 1 hts gX4_keep__X4_isSailor rfl rfl rfl zdX4_isSailor ⟨Nat.le_of_ble_eq_true rfl, Nat.le_of_ble_eq_true rfl⟩) ⟨zbl _, va_recv hK hP (ci := 4) (q0 := 0) rfl rfl, zpr hK hP hD⟩ rfl rfl hl.1 rfl (lv_room (Nat.le_of_ble_eq_true rfl)) dX4_keep__7 ⟨Nat.zero_le _, Nat.zero_le _⟩) hS (fun r_1 H locs hw hkp hS => ?_)
  have hP := hkp _ hP
  have hw : zb (f_sail σ v) r_1 := hw
  rcases hw with ⟨c_2, rfl⟩ | ⟨c_2, rfl⟩
  · exact absurd c_2 (hv)
  · refine lv_if_eq (tgt := 26) hx hb dX4_keep__10 (by decide) (fun _ => ?_) (fun c => absurd (by decide) c)
    refine lv_aload_n hx hb dX4_keep__26 rfl (lv_at hl 0 rfl) ?_
    refine lv_iconst (v := 1) hx hb dX4_keep__27 (by decide) ?_
    have hF := zfree hD hS hA
    refine zk_I (va_runV (As := [.int 1]) (rest := []) ⟨hx, hb, hml, hown, hts⟩ (c_X4_fail l D cI μ 0 σ (κ) 1 _) (cwV 1 hts gX4_keep__X4_fail rfl rfl rfl zdX4_fail ⟨Nat.le_of_ble_eq_true rfl, Nat.le_of_ble_eq_true rfl⟩) ⟨zbl _, va_recv hK hP (ci := 4) (q0 := 0) rfl rfl, zpr hK hP hD⟩ rfl rfl hl.1 rfl (lv_room (Nat.le_of_ble_eq_true rfl)) dX4_keep__28 ⟨Nat.zero_le _, Nat.zero_le _⟩) hS hF (fun r_4 H locs hw hkp hP1 hD1 hS => ?_)
    have hP := hP1
    have hD := hD1.weaken (fun _ _ _ z => hF _ z)
    have hP : va_P D vwCl (zw_M cI μ 1 σ (κ)) H := hP
    have hD : va_D A (zw_M cI μ 1 σ (κ)) := hD
    have hw : r_4 = 0 := hw
    subst hw
    have hP9 := hP
    have hD9 := hD
    exact W.iret (v := 0) hx hb hr (fun t ht hW => ⟨⟨0, (), rfl, trivial, by rw [ht]; exact hP9, va_K.moved hW.alike hK, hD9⟩, hS.F ht⟩) hS.2.2 dX4_keep__31

set_option maxHeartbeats 4000000 in
set_option maxRecDepth 100000 in
theorem b_X4_keep_2 (l : Launch) (D : va_G) (cI : ClassId) (μ : Nat → Nat) (th : Int32) (σ : zS) (κ : Nat → Int32) {k : Nat} {nb ns h : Nat} (hC : zC σ nb ns h) (hk : k < ns) (v : Int32) (h1 : ¬ v = -1) (hv : ¬ f_has σ v) : zMI l yX4_keep_ wsX4_keep_ ({ frames := 2, cells := 0, slots := 0, locals := 43 }) [.ref (μ 0), .int (nI k), .int v] D [(cI, .int)] (zw_M cI μ th σ (κ)) (zw_M cI μ 1 σ (κ)) (fun _ => True) := by
  intro sz
  refine Met.ofW (cc := cX4_keep_) (maxL := 4) (ret := (some .int)) (by decide) rfl ?_
  intro p e s m args below meth c s₁ B hml hv
  obtain ⟨rfl, hsz, hP, hK, hD⟩ := hv
  have hx := B.exec
  have hb := B.bytes
  have hr := B.returns
  have hts := atoms_spec (ws := wsX4_keep_) B.pre
  have hown : s.vm.findClass RX4 = some m.cls := findClass_of_methodNamed B.named
  have hlocks := B.notSynchronized
  subst hsz
  have hD := hD.self (sz := s.heap.size)
  generalize hAe : va_A (zw_M cI μ th σ (κ)) s.heap.size = A at hD ⊢
  have hA : ∀ q : Nat, s.heap.size ≤ q → A q := fun q h => by rw [← hAe]; exact Or.inr h
  have hS : va_S A s.heap s.heap [] := va_S.rf
  have hP : va_P D vwCl (zw_M cI μ th σ (κ)) s.heap := hP
  have hl := lv_entry ([.ref (μ 0), .int (nI k), .int v]) (n := 4) (Nat.le_of_ble_eq_true rfl)
  rw [lg_entry_eq]
  generalize (lg_sl ([.ref (μ 0), .int (nI k), .int v]) ++ List.replicate (4 - (lg_sl ([.ref (μ 0), .int (nI k), .int v])).length) Slot.unset).toArray = ls at hl ⊢
  have hl : lv_has ls 4 [(0, .ref (μ 0)), (1, .int (nI k)), (2, .int v)] := hl
  have hf25 := hts (.fieldLink RX4 25 "HotBedsModel" "thrown" "I") (by decide +kernel)
  have hinX4 : ∀ w ∈ u_ws RX4 TX4 8, w ∈ wsX4_keep_ := by decide +kernel
  have hnb := hC.2.1
  have hns := hC.2.2.2.1
  have hh := hC.2.2.2.2.2.1
  refine lv_aload_n hx hb dX4_keep__0 rfl (lv_at hl 0 rfl) ?_
  refine lv_iconst (v := 0) hx hb dX4_keep__1 (by decide) ?_
  refine va_put (D := D) (ci := 4) (v := .int 0) (ty := .int) (C := RX4) (T := TX4) (N := 8) hx hb hts hinX4 tyX4 tyX4_ok nmX4 hown hK hP hD hS 0 rfl rfl 0 (by decide) hf25 (fun _ h9 => h9)  rfl (by decide +kernel) rfl rfl (Nat.le_of_ble_eq_true rfl) dX4_keep__2 (fun H locs hP hD hS => ?_)
  have hP : va_P D vwCl (zw_M cI μ 0 σ (κ)) H := hP
  have hD : va_D A (zw_M cI μ 0 σ (κ)) := hD
  refine lv_aload_n hx hb dX4_keep__5 rfl (lv_at hl 0 rfl) ?_
  refine lv_iload_n hx hb dX4_keep__6 rfl (lv_at hl 1 rfl) ?_
  refine zk_R (D := D) (va_runV (As := [.int (nI k)]) (rest := []) ⟨hx, hb, hml, hown, hts⟩ (c_X4_isSailor l D cI μ 0 σ (κ) (nI k) hC _) (cwV 1 hts gX4_keep__X4_isSailor rfl rfl rfl zdX4_isSailor ⟨Nat.le_of_ble_eq_true rfl, Nat.le_of_ble_eq_true rfl⟩) ⟨zbl _, va_recv hK hP (ci := 4) (q0 := 0) rfl rfl, zpr hK hP hD⟩ rfl rfl hl.1 rfl (lv_room (Nat.le_of_ble_eq_true rfl)) dX4_keep__7 ⟨Nat.zero_le _, Nat.zero_le _⟩) hS (fun r_1 H locs hw hkp hS => ?_)
  have hP := hkp _ hP
  have hw : zb (f_sail σ (nI k)) r_1 := hw
  rcases hw with ⟨c_2, rfl⟩ | ⟨c_2, rfl⟩
  · refine lv_if_eq (tgt := 26) hx hb dX4_keep__10 (by decide) (fun c => absurd c (by decide)) (fun _ => ?_)
    refine lv_iload_n hx hb dX4_keep__13 rfl (lv_at hl 2 rfl) ?_
    refine lv_iconst (v := (-1)) hx hb dX4_keep__14 (by decide) ?_
    refine lv_icmp_eq (tgt := 32) hx hb dX4_keep__15 (by decide) (fun c => absurd c (h1)) (fun _ => ?_)
    refine lv_aload_n hx hb dX4_keep__18 rfl (lv_at hl 0 rfl) ?_
    refine lv_iload_n hx hb dX4_keep__19 rfl (lv_at hl 2 rfl) ?_
    refine zk_R (D := D) (va_runV (As := [.int v]) (rest := []) ⟨hx, hb, hml, hown, hts⟩ (c_X4_isBed l D cI μ 0 σ (κ) v hC _) (cwV 1 hts gX4_keep__X4_isBed rfl rfl rfl zdX4_isBed ⟨Nat.le_of_ble_eq_true rfl, Nat.le_of_ble_eq_true rfl⟩) ⟨zbl _, va_recv hK hP (ci := 4) (q0 := 0) rfl rfl, zpr hK hP hD⟩ rfl rfl hl.1 rfl (lv_room (Nat.le_of_ble_eq_true rfl)) dX4_keep__20 ⟨Nat.zero_le _, Nat.zero_le _⟩) hS (fun r_5 H locs hw hkp hS => ?_)
    have hP := hkp _ hP
    have hw : zb (f_has σ v) r_5 := hw
    rcases hw with ⟨c_6, rfl⟩ | ⟨c_6, rfl⟩
    · exact absurd c_6 (hv)
    · refine lv_if_ne (tgt := 32) hx hb dX4_keep__23 (by decide) (fun c => absurd (by decide) c) (fun _ => ?_)
      refine lv_aload_n hx hb dX4_keep__26 rfl (lv_at hl 0 rfl) ?_
      refine lv_iconst (v := 1) hx hb dX4_keep__27 (by decide) ?_
      have hF := zfree hD hS hA
      refine zk_I (va_runV (As := [.int 1]) (rest := []) ⟨hx, hb, hml, hown, hts⟩ (c_X4_fail l D cI μ 0 σ (κ) 1 _) (cwV 1 hts gX4_keep__X4_fail rfl rfl rfl zdX4_fail ⟨Nat.le_of_ble_eq_true rfl, Nat.le_of_ble_eq_true rfl⟩) ⟨zbl _, va_recv hK hP (ci := 4) (q0 := 0) rfl rfl, zpr hK hP hD⟩ rfl rfl hl.1 rfl (lv_room (Nat.le_of_ble_eq_true rfl)) dX4_keep__28 ⟨Nat.zero_le _, Nat.zero_le _⟩) hS hF (fun r_8 H locs hw hkp hP1 hD1 hS => ?_)
      have hP := hP1
      have hD := hD1.weaken (fun _ _ _ z => hF _ z)
      have hP : va_P D vwCl (zw_M cI μ 1 σ (κ)) H := hP
      have hD : va_D A (zw_M cI μ 1 σ (κ)) := hD
      have hw : r_8 = 0 := hw
      subst hw
      have hP9 := hP
      have hD9 := hD
      exact W.iret (v := 0) hx hb hr (fun t ht hW => ⟨⟨0, (), rfl, trivial, by rw [ht]; exact hP9, va_K.moved hW.alike hK, hD9⟩, hS.F ht⟩) hS.2.2 dX4_keep__31
  · exact absurd (zsail_k hC hk) c_2

set_option maxHeartbeats 4000000 in
set_option maxRecDepth 100000 in
theorem b_X4_setBell (l : Launch) (D : va_G) (cI : ClassId) (μ : Nat → Nat) (th : Int32) (σ : zS) (κ : Nat → Int32) (v : Int32) (hv : ¬ (¬ v < 0 ∧ v ≤ 9)) : zMI l yX4_setBell wsX4_setBell ({ frames := 2, cells := 0, slots := 0, locals := 47 }) [.ref (μ 0), .int v] D [(cI, .int)] (zw_M cI μ th σ (κ)) (zw_M cI μ 1 σ (κ)) (fun _ => True) := by
  intro sz
  refine Met.ofW (cc := cX4_setBell) (maxL := 2) (ret := (some .int)) (by decide) rfl ?_
  intro p e s m args below meth c s₁ B hml hv
  obtain ⟨rfl, hsz, hP, hK, hD⟩ := hv
  have hx := B.exec
  have hb := B.bytes
  have hr := B.returns
  have hts := atoms_spec (ws := wsX4_setBell) B.pre
  have hown : s.vm.findClass RX4 = some m.cls := findClass_of_methodNamed B.named
  have hlocks := B.notSynchronized
  subst hsz
  have hD := hD.self (sz := s.heap.size)
  generalize hAe : va_A (zw_M cI μ th σ (κ)) s.heap.size = A at hD ⊢
  have hA : ∀ q : Nat, s.heap.size ≤ q → A q := fun q h => by rw [← hAe]; exact Or.inr h
  have hS : va_S A s.heap s.heap [] := va_S.rf
  have hP : va_P D vwCl (zw_M cI μ th σ (κ)) s.heap := hP
  have hl := lv_entry ([.ref (μ 0), .int v]) (n := 2) (Nat.le_of_ble_eq_true rfl)
  rw [lg_entry_eq]
  generalize (lg_sl ([.ref (μ 0), .int v]) ++ List.replicate (2 - (lg_sl ([.ref (μ 0), .int v])).length) Slot.unset).toArray = ls at hl ⊢
  have hl : lv_has ls 2 [(0, .ref (μ 0)), (1, .int v)] := hl
  have hf25 := hts (.fieldLink RX4 25 "HotBedsModel" "thrown" "I") (by decide +kernel)
  have hinX4 : ∀ w ∈ u_ws RX4 TX4 8, w ∈ wsX4_setBell := by decide +kernel
  refine lv_aload_n hx hb dX4_setBell_0 rfl (lv_at hl 0 rfl) ?_
  refine lv_iconst (v := 0) hx hb dX4_setBell_1 (by decide) ?_
  refine va_put (D := D) (ci := 4) (v := .int 0) (ty := .int) (C := RX4) (T := TX4) (N := 8) hx hb hts hinX4 tyX4 tyX4_ok nmX4 hown hK hP hD hS 0 rfl rfl 0 (by decide) hf25 (fun _ h9 => h9)  rfl (by decide +kernel) rfl rfl (Nat.le_of_ble_eq_true rfl) dX4_setBell_2 (fun H locs hP hD hS => ?_)
  have hP : va_P D vwCl (zw_M cI μ 0 σ (κ)) H := hP
  have hD : va_D A (zw_M cI μ 0 σ (κ)) := hD
  refine lv_aload_n hx hb dX4_setBell_5 rfl (lv_at hl 0 rfl) ?_
  refine lv_iconst (v := 1) hx hb dX4_setBell_6 (by decide) ?_
  refine lv_iload_n hx hb dX4_setBell_7 rfl (lv_at hl 1 rfl) ?_
  refine lv_iconst (v := 0) hx hb dX4_setBell_8 (by decide) ?_
  refine lv_bipush (v := 9) hx hb dX4_setBell_9 (by decide) ?_
  have hF := zfree hD hS hA
  refine zk_I (va_runV (As := [.int 1, .int v, .int 0, .int 9]) (rest := []) ⟨hx, hb, hml, hown, hts⟩ (b_X4_change l D cI μ 0 σ (κ) (w := 1) v 0 9 (fun z => hv ⟨z.1, Int32.not_lt.mp z.2⟩) _) (cwV 4 hts gX4_setBell_X4_change rfl rfl rfl zdX4_change ⟨Nat.le_of_ble_eq_true rfl, Nat.le_of_ble_eq_true rfl⟩) ⟨zbl _, va_recv hK hP (ci := 4) (q0 := 0) rfl rfl, zpr hK hP hD⟩ rfl rfl hl.1 rfl (lv_room (Nat.le_of_ble_eq_true rfl)) dX4_setBell_11 ⟨Nat.zero_le _, Nat.zero_le _⟩) hS hF (fun r_1 H locs hw hkp hP1 hD1 hS => ?_)
  have hP := hP1
  have hD := hD1.weaken (fun _ _ _ z => hF _ z)
  have hP : va_P D vwCl (zw_M cI μ 1 σ (κ)) H := hP
  have hD : va_D A (zw_M cI μ 1 σ (κ)) := hD
  have hP9 := hP
  have hD9 := hD
  exact W.iret (v := r_1) hx hb hr (fun t ht hW => ⟨⟨r_1, (), rfl, trivial, by rw [ht]; exact hP9, va_K.moved hW.alike hK, hD9⟩, hS.F ht⟩) hS.2.2 dX4_setBell_14

set_option maxHeartbeats 4000000 in
set_option maxRecDepth 100000 in
theorem b_X4_setPawn (l : Launch) (D : va_G) (cI : ClassId) (μ : Nat → Nat) (th : Int32) (σ : zS) (κ : Nat → Int32) (v : Int32) (hv : ¬ (¬ v < 1 ∧ v ≤ 20)) : zMI l yX4_setPawn wsX4_setPawn ({ frames := 2, cells := 0, slots := 0, locals := 47 }) [.ref (μ 0), .int v] D [(cI, .int)] (zw_M cI μ th σ (κ)) (zw_M cI μ 1 σ (κ)) (fun _ => True) := by
  intro sz
  refine Met.ofW (cc := cX4_setPawn) (maxL := 2) (ret := (some .int)) (by decide) rfl ?_
  intro p e s m args below meth c s₁ B hml hv
  obtain ⟨rfl, hsz, hP, hK, hD⟩ := hv
  have hx := B.exec
  have hb := B.bytes
  have hr := B.returns
  have hts := atoms_spec (ws := wsX4_setPawn) B.pre
  have hown : s.vm.findClass RX4 = some m.cls := findClass_of_methodNamed B.named
  have hlocks := B.notSynchronized
  subst hsz
  have hD := hD.self (sz := s.heap.size)
  generalize hAe : va_A (zw_M cI μ th σ (κ)) s.heap.size = A at hD ⊢
  have hA : ∀ q : Nat, s.heap.size ≤ q → A q := fun q h => by rw [← hAe]; exact Or.inr h
  have hS : va_S A s.heap s.heap [] := va_S.rf
  have hP : va_P D vwCl (zw_M cI μ th σ (κ)) s.heap := hP
  have hl := lv_entry ([.ref (μ 0), .int v]) (n := 2) (Nat.le_of_ble_eq_true rfl)
  rw [lg_entry_eq]
  generalize (lg_sl ([.ref (μ 0), .int v]) ++ List.replicate (2 - (lg_sl ([.ref (μ 0), .int v])).length) Slot.unset).toArray = ls at hl ⊢
  have hl : lv_has ls 2 [(0, .ref (μ 0)), (1, .int v)] := hl
  have hf25 := hts (.fieldLink RX4 25 "HotBedsModel" "thrown" "I") (by decide +kernel)
  have hinX4 : ∀ w ∈ u_ws RX4 TX4 8, w ∈ wsX4_setPawn := by decide +kernel
  refine lv_aload_n hx hb dX4_setPawn_0 rfl (lv_at hl 0 rfl) ?_
  refine lv_iconst (v := 0) hx hb dX4_setPawn_1 (by decide) ?_
  refine va_put (D := D) (ci := 4) (v := .int 0) (ty := .int) (C := RX4) (T := TX4) (N := 8) hx hb hts hinX4 tyX4 tyX4_ok nmX4 hown hK hP hD hS 0 rfl rfl 0 (by decide) hf25 (fun _ h9 => h9)  rfl (by decide +kernel) rfl rfl (Nat.le_of_ble_eq_true rfl) dX4_setPawn_2 (fun H locs hP hD hS => ?_)
  have hP : va_P D vwCl (zw_M cI μ 0 σ (κ)) H := hP
  have hD : va_D A (zw_M cI μ 0 σ (κ)) := hD
  refine lv_aload_n hx hb dX4_setPawn_5 rfl (lv_at hl 0 rfl) ?_
  refine lv_iconst (v := 2) hx hb dX4_setPawn_6 (by decide) ?_
  refine lv_iload_n hx hb dX4_setPawn_7 rfl (lv_at hl 1 rfl) ?_
  refine lv_iconst (v := 1) hx hb dX4_setPawn_8 (by decide) ?_
  refine lv_bipush (v := 20) hx hb dX4_setPawn_9 (by decide) ?_
  have hF := zfree hD hS hA
  refine zk_I (va_runV (As := [.int 2, .int v, .int 1, .int 20]) (rest := []) ⟨hx, hb, hml, hown, hts⟩ (b_X4_change l D cI μ 0 σ (κ) (w := 2) v 1 20 (fun z => hv ⟨z.1, Int32.not_lt.mp z.2⟩) _) (cwV 4 hts gX4_setPawn_X4_change rfl rfl rfl zdX4_change ⟨Nat.le_of_ble_eq_true rfl, Nat.le_of_ble_eq_true rfl⟩) ⟨zbl _, va_recv hK hP (ci := 4) (q0 := 0) rfl rfl, zpr hK hP hD⟩ rfl rfl hl.1 rfl (lv_room (Nat.le_of_ble_eq_true rfl)) dX4_setPawn_11 ⟨Nat.zero_le _, Nat.zero_le _⟩) hS hF (fun r_1 H locs hw hkp hP1 hD1 hS => ?_)
  have hP := hP1
  have hD := hD1.weaken (fun _ _ _ z => hF _ z)
  have hP : va_P D vwCl (zw_M cI μ 1 σ (κ)) H := hP
  have hD : va_D A (zw_M cI μ 1 σ (κ)) := hD
  have hP9 := hP
  have hD9 := hD
  exact W.iret (v := r_1) hx hb hr (fun t ht hW => ⟨⟨r_1, (), rfl, trivial, by rw [ht]; exact hP9, va_K.moved hW.alike hK, hD9⟩, hS.F ht⟩) hS.2.2 dX4_setPawn_14

set_option maxHeartbeats 4000000 in
set_option maxRecDepth 100000 in
theorem b_X4_give1 (l : Launch) (D : va_G) (cI : ClassId) (μ : Nat → Nat) (th : Int32) (σ : zS) (κ : Nat → Int32) (v v2 : Int32) {nb ns h : Nat} (hC : zC σ nb ns h) (hv : ¬ f_sail σ v) : zMI l yX4_give wsX4_give ({ frames := 2, cells := 0, slots := 0, locals := 43 }) [.ref (μ 0), .int v, .int v2] D [(cI, .int)] (zw_M cI μ th σ (κ)) (zw_M cI μ 1 σ (κ)) (fun _ => True) := by
  intro sz
  refine Met.ofW (cc := cX4_give) (maxL := 3) (ret := (some .int)) (by decide) rfl ?_
  intro p e s m args below meth c s₁ B hml hv
  obtain ⟨rfl, hsz, hP, hK, hD⟩ := hv
  have hx := B.exec
  have hb := B.bytes
  have hr := B.returns
  have hts := atoms_spec (ws := wsX4_give) B.pre
  have hown : s.vm.findClass RX4 = some m.cls := findClass_of_methodNamed B.named
  have hlocks := B.notSynchronized
  subst hsz
  have hD := hD.self (sz := s.heap.size)
  generalize hAe : va_A (zw_M cI μ th σ (κ)) s.heap.size = A at hD ⊢
  have hA : ∀ q : Nat, s.heap.size ≤ q → A q := fun q h => by rw [← hAe]; exact Or.inr h
  have hS : va_S A s.heap s.heap [] := va_S.rf
  have hP : va_P D vwCl (zw_M cI μ th σ (κ)) s.heap := hP
  have hl := lv_entry ([.ref (μ 0), .int v, .int v2]) (n := 3) (Nat.le_of_ble_eq_true rfl)
  rw [lg_entry_eq]
  generalize (lg_sl ([.ref (μ 0), .int v, .int v2]) ++ List.replicate (3 - (lg_sl ([.ref (μ 0), .int v, .int v2])).length) Slot.unset).toArray = ls at hl ⊢
  have hl : lv_has ls 3 [(0, .ref (μ 0)), (1, .int v), (2, .int v2)] := hl
  have hf25 := hts (.fieldLink RX4 25 "HotBedsModel" "thrown" "I") (by decide +kernel)
  have hinX4 : ∀ w ∈ u_ws RX4 TX4 8, w ∈ wsX4_give := by decide +kernel
  have hnb := hC.2.1
  have hns := hC.2.2.2.1
  have hh := hC.2.2.2.2.2.1
  refine lv_aload_n hx hb dX4_give_0 rfl (lv_at hl 0 rfl) ?_
  refine lv_iconst (v := 0) hx hb dX4_give_1 (by decide) ?_
  refine va_put (D := D) (ci := 4) (v := .int 0) (ty := .int) (C := RX4) (T := TX4) (N := 8) hx hb hts hinX4 tyX4 tyX4_ok nmX4 hown hK hP hD hS 0 rfl rfl 0 (by decide) hf25 (fun _ h9 => h9)  rfl (by decide +kernel) rfl rfl (Nat.le_of_ble_eq_true rfl) dX4_give_2 (fun H locs hP hD hS => ?_)
  have hP : va_P D vwCl (zw_M cI μ 0 σ (κ)) H := hP
  have hD : va_D A (zw_M cI μ 0 σ (κ)) := hD
  refine lv_aload_n hx hb dX4_give_5 rfl (lv_at hl 0 rfl) ?_
  refine lv_iload_n hx hb dX4_give_6 rfl (lv_at hl 1 rfl) ?_
  refine zk_R (D := D) (va_runV (As := [.int v]) (rest := []) ⟨hx, hb, hml, hown, hts⟩ (c_X4_isSailor l D cI μ 0 σ (κ) v hC _) (cwV 1 hts gX4_give_X4_isSailor rfl rfl rfl zdX4_isSailor ⟨Nat.le_of_ble_eq_true rfl, Nat.le_of_ble_eq_true rfl⟩) ⟨zbl _, va_recv hK hP (ci := 4) (q0 := 0) rfl rfl, zpr hK hP hD⟩ rfl rfl hl.1 rfl (lv_room (Nat.le_of_ble_eq_true rfl)) dX4_give_7 ⟨Nat.zero_le _, Nat.zero_le _⟩) hS (fun r_1 H locs hw hkp hS => ?_)
  have hP := hkp _ hP
  have hw : zb (f_sail σ v) r_1 := hw
  rcases hw with ⟨c_2, rfl⟩ | ⟨c_2, rfl⟩
  · exact absurd c_2 (hv)
  · refine lv_if_ne (tgt := 19) hx hb dX4_give_10 (by decide) (fun c => absurd (by decide) c) (fun _ => ?_)
    refine lv_aload_n hx hb dX4_give_13 rfl (lv_at hl 0 rfl) ?_
    refine lv_iconst (v := 1) hx hb dX4_give_14 (by decide) ?_
    have hF := zfree hD hS hA
    refine zk_I (va_runV (As := [.int 1]) (rest := []) ⟨hx, hb, hml, hown, hts⟩ (c_X4_fail l D cI μ 0 σ (κ) 1 _) (cwV 1 hts gX4_give_X4_fail rfl rfl rfl zdX4_fail ⟨Nat.le_of_ble_eq_true rfl, Nat.le_of_ble_eq_true rfl⟩) ⟨zbl _, va_recv hK hP (ci := 4) (q0 := 0) rfl rfl, zpr hK hP hD⟩ rfl rfl hl.1 rfl (lv_room (Nat.le_of_ble_eq_true rfl)) dX4_give_15 ⟨Nat.zero_le _, Nat.zero_le _⟩) hS hF (fun r_4 H locs hw hkp hP1 hD1 hS => ?_)
    have hP := hP1
    have hD := hD1.weaken (fun _ _ _ z => hF _ z)
    have hP : va_P D vwCl (zw_M cI μ 1 σ (κ)) H := hP
    have hD : va_D A (zw_M cI μ 1 σ (κ)) := hD
    have hw : r_4 = 0 := hw
    subst hw
    have hP9 := hP
    have hD9 := hD
    exact W.iret (v := 0) hx hb hr (fun t ht hW => ⟨⟨0, (), rfl, trivial, by rw [ht]; exact hP9, va_K.moved hW.alike hK, hD9⟩, hS.F ht⟩) hS.2.2 dX4_give_18

set_option maxHeartbeats 4000000 in
set_option maxRecDepth 100000 in
theorem b_X4_give2 (l : Launch) (D : va_G) (cI : ClassId) (μ : Nat → Nat) (th : Int32) (σ : zS) (κ : Nat → Int32) {k : Nat} {nb ns h : Nat} (hC : zC σ nb ns h) (hk : k < ns) (v : Int32) (hv : ¬ (¬ v < 1 ∧ v ≤ 99)) : zMI l yX4_give wsX4_give ({ frames := 2, cells := 0, slots := 0, locals := 43 }) [.ref (μ 0), .int (nI k), .int v] D [(cI, .int)] (zw_M cI μ th σ (κ)) (zw_M cI μ 2 σ (κ)) (fun _ => True) := by
  intro sz
  refine Met.ofW (cc := cX4_give) (maxL := 3) (ret := (some .int)) (by decide) rfl ?_
  intro p e s m args below meth c s₁ B hml hv
  obtain ⟨rfl, hsz, hP, hK, hD⟩ := hv
  have hx := B.exec
  have hb := B.bytes
  have hr := B.returns
  have hts := atoms_spec (ws := wsX4_give) B.pre
  have hown : s.vm.findClass RX4 = some m.cls := findClass_of_methodNamed B.named
  have hlocks := B.notSynchronized
  subst hsz
  have hD := hD.self (sz := s.heap.size)
  generalize hAe : va_A (zw_M cI μ th σ (κ)) s.heap.size = A at hD ⊢
  have hA : ∀ q : Nat, s.heap.size ≤ q → A q := fun q h => by rw [← hAe]; exact Or.inr h
  have hS : va_S A s.heap s.heap [] := va_S.rf
  have hP : va_P D vwCl (zw_M cI μ th σ (κ)) s.heap := hP
  have hl := lv_entry ([.ref (μ 0), .int (nI k), .int v]) (n := 3) (Nat.le_of_ble_eq_true rfl)
  rw [lg_entry_eq]
  generalize (lg_sl ([.ref (μ 0), .int (nI k), .int v]) ++ List.replicate (3 - (lg_sl ([.ref (μ 0), .int (nI k), .int v])).length) Slot.unset).toArray = ls at hl ⊢
  have hl : lv_has ls 3 [(0, .ref (μ 0)), (1, .int (nI k)), (2, .int v)] := hl
  have hf25 := hts (.fieldLink RX4 25 "HotBedsModel" "thrown" "I") (by decide +kernel)
  have hinX4 : ∀ w ∈ u_ws RX4 TX4 8, w ∈ wsX4_give := by decide +kernel
  have hnb := hC.2.1
  have hns := hC.2.2.2.1
  have hh := hC.2.2.2.2.2.1
  refine lv_aload_n hx hb dX4_give_0 rfl (lv_at hl 0 rfl) ?_
  refine lv_iconst (v := 0) hx hb dX4_give_1 (by decide) ?_
  refine va_put (D := D) (ci := 4) (v := .int 0) (ty := .int) (C := RX4) (T := TX4) (N := 8) hx hb hts hinX4 tyX4 tyX4_ok nmX4 hown hK hP hD hS 0 rfl rfl 0 (by decide) hf25 (fun _ h9 => h9)  rfl (by decide +kernel) rfl rfl (Nat.le_of_ble_eq_true rfl) dX4_give_2 (fun H locs hP hD hS => ?_)
  have hP : va_P D vwCl (zw_M cI μ 0 σ (κ)) H := hP
  have hD : va_D A (zw_M cI μ 0 σ (κ)) := hD
  refine lv_aload_n hx hb dX4_give_5 rfl (lv_at hl 0 rfl) ?_
  refine lv_iload_n hx hb dX4_give_6 rfl (lv_at hl 1 rfl) ?_
  refine zk_R (D := D) (va_runV (As := [.int (nI k)]) (rest := []) ⟨hx, hb, hml, hown, hts⟩ (c_X4_isSailor l D cI μ 0 σ (κ) (nI k) hC _) (cwV 1 hts gX4_give_X4_isSailor rfl rfl rfl zdX4_isSailor ⟨Nat.le_of_ble_eq_true rfl, Nat.le_of_ble_eq_true rfl⟩) ⟨zbl _, va_recv hK hP (ci := 4) (q0 := 0) rfl rfl, zpr hK hP hD⟩ rfl rfl hl.1 rfl (lv_room (Nat.le_of_ble_eq_true rfl)) dX4_give_7 ⟨Nat.zero_le _, Nat.zero_le _⟩) hS (fun r_1 H locs hw hkp hS => ?_)
  have hP := hkp _ hP
  have hw : zb (f_sail σ (nI k)) r_1 := hw
  rcases hw with ⟨c_2, rfl⟩ | ⟨c_2, rfl⟩
  · refine lv_if_ne (tgt := 19) hx hb dX4_give_10 (by decide) (fun _ => ?_) (fun c => absurd c (by decide))
    refine lv_iload_n hx hb dX4_give_19 rfl (lv_at hl 2 rfl) ?_
    refine lv_iconst (v := 1) hx hb dX4_give_20 (by decide) ?_
    refine lv_bipush (v := 99) hx hb dX4_give_21 (by decide) ?_
    refine zk_R (D := D) (va_runS (As := [.int v, .int 1, .int 99]) (rest := []) ⟨hx, hb, hml, hown, hts⟩ (c_X4_isIn l D cI v 1 99 _) (va_cwS 3 hts gX4_give_X4_isIn rfl rfl rfl zdX4_isIn.2 ⟨Nat.le_of_ble_eq_true rfl, Nat.le_of_ble_eq_true rfl⟩) ⟨zbl _, zpr hK zP0 (zD0 (A := fun _ => True))⟩ rfl rfl hl.1 rfl (lv_room (Nat.le_of_ble_eq_true rfl)) dX4_give_23 ⟨Nat.zero_le _, Nat.zero_le _⟩) hS (fun r_4 H locs hw hkp hS => ?_)
    have hP := hkp _ hP
    have hw : zb (¬ v < 1 ∧ ¬ 99 < v) r_4 := hw
    rcases hw with ⟨c_5, rfl⟩ | ⟨c_5, rfl⟩
    · exact absurd c_5 (fun z => hv ⟨z.1, Int32.not_lt.mp z.2⟩)
    · refine lv_if_eq (tgt := 38) hx hb dX4_give_26 (by decide) (fun _ => ?_) (fun c => absurd (by decide) c)
      refine lv_aload_n hx hb dX4_give_38 rfl (lv_at hl 0 rfl) ?_
      refine lv_iconst (v := 2) hx hb dX4_give_39 (by decide) ?_
      have hF := zfree hD hS hA
      refine zk_I (va_runV (As := [.int 2]) (rest := []) ⟨hx, hb, hml, hown, hts⟩ (c_X4_fail l D cI μ 0 σ (κ) 2 _) (cwV 1 hts gX4_give_X4_fail rfl rfl rfl zdX4_fail ⟨Nat.le_of_ble_eq_true rfl, Nat.le_of_ble_eq_true rfl⟩) ⟨zbl _, va_recv hK hP (ci := 4) (q0 := 0) rfl rfl, zpr hK hP hD⟩ rfl rfl hl.1 rfl (lv_room (Nat.le_of_ble_eq_true rfl)) dX4_give_40 ⟨Nat.zero_le _, Nat.zero_le _⟩) hS hF (fun r_7 H locs hw hkp hP1 hD1 hS => ?_)
      have hP := hP1
      have hD := hD1.weaken (fun _ _ _ z => hF _ z)
      have hP : va_P D vwCl (zw_M cI μ 2 σ (κ)) H := hP
      have hD : va_D A (zw_M cI μ 2 σ (κ)) := hD
      have hw : r_7 = 0 := hw
      subst hw
      have hP9 := hP
      have hD9 := hD
      exact W.iret (v := 0) hx hb hr (fun t ht hW => ⟨⟨0, (), rfl, trivial, by rw [ht]; exact hP9, va_K.moved hW.alike hK, hD9⟩, hS.F ht⟩) hS.2.2 dX4_give_43
  · exact absurd (zsail_k hC hk) c_2

set_option maxHeartbeats 4000000 in
set_option maxRecDepth 100000 in
theorem b_X4_pawn1 (l : Launch) (D : va_G) (cI : ClassId) (μ : Nat → Nat) (th : Int32) (σ : zS) (κ : Nat → Int32) (v : Int32) {nb ns h : Nat} (hC : zC σ nb ns h) (hv : ¬ f_sail σ v) : zMI l yX4_pawn wsX4_pawn ({ frames := 2, cells := 0, slots := 0, locals := 43 }) [.ref (μ 0), .int v] D [(cI, .int)] (zw_M cI μ th σ (κ)) (zw_M cI μ 1 σ (κ)) (fun _ => True) := by
  intro sz
  refine Met.ofW (cc := cX4_pawn) (maxL := 2) (ret := (some .int)) (by decide) rfl ?_
  intro p e s m args below meth c s₁ B hml hv
  obtain ⟨rfl, hsz, hP, hK, hD⟩ := hv
  have hx := B.exec
  have hb := B.bytes
  have hr := B.returns
  have hts := atoms_spec (ws := wsX4_pawn) B.pre
  have hown : s.vm.findClass RX4 = some m.cls := findClass_of_methodNamed B.named
  have hlocks := B.notSynchronized
  subst hsz
  have hD := hD.self (sz := s.heap.size)
  generalize hAe : va_A (zw_M cI μ th σ (κ)) s.heap.size = A at hD ⊢
  have hA : ∀ q : Nat, s.heap.size ≤ q → A q := fun q h => by rw [← hAe]; exact Or.inr h
  have hS : va_S A s.heap s.heap [] := va_S.rf
  have hP : va_P D vwCl (zw_M cI μ th σ (κ)) s.heap := hP
  have hl := lv_entry ([.ref (μ 0), .int v]) (n := 2) (Nat.le_of_ble_eq_true rfl)
  rw [lg_entry_eq]
  generalize (lg_sl ([.ref (μ 0), .int v]) ++ List.replicate (2 - (lg_sl ([.ref (μ 0), .int v])).length) Slot.unset).toArray = ls at hl ⊢
  have hl : lv_has ls 2 [(0, .ref (μ 0)), (1, .int v)] := hl
  have hf25 := hts (.fieldLink RX4 25 "HotBedsModel" "thrown" "I") (by decide +kernel)
  have hinX4 : ∀ w ∈ u_ws RX4 TX4 8, w ∈ wsX4_pawn := by decide +kernel
  have hnb := hC.2.1
  have hns := hC.2.2.2.1
  have hh := hC.2.2.2.2.2.1
  refine lv_aload_n hx hb dX4_pawn_0 rfl (lv_at hl 0 rfl) ?_
  refine lv_iconst (v := 0) hx hb dX4_pawn_1 (by decide) ?_
  refine va_put (D := D) (ci := 4) (v := .int 0) (ty := .int) (C := RX4) (T := TX4) (N := 8) hx hb hts hinX4 tyX4 tyX4_ok nmX4 hown hK hP hD hS 0 rfl rfl 0 (by decide) hf25 (fun _ h9 => h9)  rfl (by decide +kernel) rfl rfl (Nat.le_of_ble_eq_true rfl) dX4_pawn_2 (fun H locs hP hD hS => ?_)
  have hP : va_P D vwCl (zw_M cI μ 0 σ (κ)) H := hP
  have hD : va_D A (zw_M cI μ 0 σ (κ)) := hD
  refine lv_aload_n hx hb dX4_pawn_5 rfl (lv_at hl 0 rfl) ?_
  refine lv_iload_n hx hb dX4_pawn_6 rfl (lv_at hl 1 rfl) ?_
  refine zk_R (D := D) (va_runV (As := [.int v]) (rest := []) ⟨hx, hb, hml, hown, hts⟩ (c_X4_isSailor l D cI μ 0 σ (κ) v hC _) (cwV 1 hts gX4_pawn_X4_isSailor rfl rfl rfl zdX4_isSailor ⟨Nat.le_of_ble_eq_true rfl, Nat.le_of_ble_eq_true rfl⟩) ⟨zbl _, va_recv hK hP (ci := 4) (q0 := 0) rfl rfl, zpr hK hP hD⟩ rfl rfl hl.1 rfl (lv_room (Nat.le_of_ble_eq_true rfl)) dX4_pawn_7 ⟨Nat.zero_le _, Nat.zero_le _⟩) hS (fun r_1 H locs hw hkp hS => ?_)
  have hP := hkp _ hP
  have hw : zb (f_sail σ v) r_1 := hw
  rcases hw with ⟨c_2, rfl⟩ | ⟨c_2, rfl⟩
  · exact absurd c_2 (hv)
  · refine lv_if_ne (tgt := 19) hx hb dX4_pawn_10 (by decide) (fun c => absurd (by decide) c) (fun _ => ?_)
    refine lv_aload_n hx hb dX4_pawn_13 rfl (lv_at hl 0 rfl) ?_
    refine lv_iconst (v := 1) hx hb dX4_pawn_14 (by decide) ?_
    have hF := zfree hD hS hA
    refine zk_I (va_runV (As := [.int 1]) (rest := []) ⟨hx, hb, hml, hown, hts⟩ (c_X4_fail l D cI μ 0 σ (κ) 1 _) (cwV 1 hts gX4_pawn_X4_fail rfl rfl rfl zdX4_fail ⟨Nat.le_of_ble_eq_true rfl, Nat.le_of_ble_eq_true rfl⟩) ⟨zbl _, va_recv hK hP (ci := 4) (q0 := 0) rfl rfl, zpr hK hP hD⟩ rfl rfl hl.1 rfl (lv_room (Nat.le_of_ble_eq_true rfl)) dX4_pawn_15 ⟨Nat.zero_le _, Nat.zero_le _⟩) hS hF (fun r_4 H locs hw hkp hP1 hD1 hS => ?_)
    have hP := hP1
    have hD := hD1.weaken (fun _ _ _ z => hF _ z)
    have hP : va_P D vwCl (zw_M cI μ 1 σ (κ)) H := hP
    have hD : va_D A (zw_M cI μ 1 σ (κ)) := hD
    have hw : r_4 = 0 := hw
    subst hw
    have hP9 := hP
    have hD9 := hD
    exact W.iret (v := 0) hx hb hr (fun t ht hW => ⟨⟨0, (), rfl, trivial, by rw [ht]; exact hP9, va_K.moved hW.alike hK, hD9⟩, hS.F ht⟩) hS.2.2 dX4_pawn_18

set_option maxHeartbeats 4000000 in
set_option maxRecDepth 100000 in
theorem b_X4_redeem1 (l : Launch) (D : va_G) (cI : ClassId) (μ : Nat → Nat) (th : Int32) (σ : zS) (κ : Nat → Int32) (v : Int32) {nb ns h : Nat} (hC : zC σ nb ns h) (hv : ¬ f_sail σ v) : zMI l yX4_redeem wsX4_redeem ({ frames := 2, cells := 0, slots := 0, locals := 43 }) [.ref (μ 0), .int v] D [(cI, .int)] (zw_M cI μ th σ (κ)) (zw_M cI μ 1 σ (κ)) (fun _ => True) := by
  intro sz
  refine Met.ofW (cc := cX4_redeem) (maxL := 2) (ret := (some .int)) (by decide) rfl ?_
  intro p e s m args below meth c s₁ B hml hv
  obtain ⟨rfl, hsz, hP, hK, hD⟩ := hv
  have hx := B.exec
  have hb := B.bytes
  have hr := B.returns
  have hts := atoms_spec (ws := wsX4_redeem) B.pre
  have hown : s.vm.findClass RX4 = some m.cls := findClass_of_methodNamed B.named
  have hlocks := B.notSynchronized
  subst hsz
  have hD := hD.self (sz := s.heap.size)
  generalize hAe : va_A (zw_M cI μ th σ (κ)) s.heap.size = A at hD ⊢
  have hA : ∀ q : Nat, s.heap.size ≤ q → A q := fun q h => by rw [← hAe]; exact Or.inr h
  have hS : va_S A s.heap s.heap [] := va_S.rf
  have hP : va_P D vwCl (zw_M cI μ th σ (κ)) s.heap := hP
  have hl := lv_entry ([.ref (μ 0), .int v]) (n := 2) (Nat.le_of_ble_eq_true rfl)
  rw [lg_entry_eq]
  generalize (lg_sl ([.ref (μ 0), .int v]) ++ List.replicate (2 - (lg_sl ([.ref (μ 0), .int v])).length) Slot.unset).toArray = ls at hl ⊢
  have hl : lv_has ls 2 [(0, .ref (μ 0)), (1, .int v)] := hl
  have hf25 := hts (.fieldLink RX4 25 "HotBedsModel" "thrown" "I") (by decide +kernel)
  have hinX4 : ∀ w ∈ u_ws RX4 TX4 8, w ∈ wsX4_redeem := by decide +kernel
  have hnb := hC.2.1
  have hns := hC.2.2.2.1
  have hh := hC.2.2.2.2.2.1
  refine lv_aload_n hx hb dX4_redeem_0 rfl (lv_at hl 0 rfl) ?_
  refine lv_iconst (v := 0) hx hb dX4_redeem_1 (by decide) ?_
  refine va_put (D := D) (ci := 4) (v := .int 0) (ty := .int) (C := RX4) (T := TX4) (N := 8) hx hb hts hinX4 tyX4 tyX4_ok nmX4 hown hK hP hD hS 0 rfl rfl 0 (by decide) hf25 (fun _ h9 => h9)  rfl (by decide +kernel) rfl rfl (Nat.le_of_ble_eq_true rfl) dX4_redeem_2 (fun H locs hP hD hS => ?_)
  have hP : va_P D vwCl (zw_M cI μ 0 σ (κ)) H := hP
  have hD : va_D A (zw_M cI μ 0 σ (κ)) := hD
  refine lv_aload_n hx hb dX4_redeem_5 rfl (lv_at hl 0 rfl) ?_
  refine lv_iload_n hx hb dX4_redeem_6 rfl (lv_at hl 1 rfl) ?_
  refine zk_R (D := D) (va_runV (As := [.int v]) (rest := []) ⟨hx, hb, hml, hown, hts⟩ (c_X4_isSailor l D cI μ 0 σ (κ) v hC _) (cwV 1 hts gX4_redeem_X4_isSailor rfl rfl rfl zdX4_isSailor ⟨Nat.le_of_ble_eq_true rfl, Nat.le_of_ble_eq_true rfl⟩) ⟨zbl _, va_recv hK hP (ci := 4) (q0 := 0) rfl rfl, zpr hK hP hD⟩ rfl rfl hl.1 rfl (lv_room (Nat.le_of_ble_eq_true rfl)) dX4_redeem_7 ⟨Nat.zero_le _, Nat.zero_le _⟩) hS (fun r_1 H locs hw hkp hS => ?_)
  have hP := hkp _ hP
  have hw : zb (f_sail σ v) r_1 := hw
  rcases hw with ⟨c_2, rfl⟩ | ⟨c_2, rfl⟩
  · exact absurd c_2 (hv)
  · refine lv_if_ne (tgt := 19) hx hb dX4_redeem_10 (by decide) (fun c => absurd (by decide) c) (fun _ => ?_)
    refine lv_aload_n hx hb dX4_redeem_13 rfl (lv_at hl 0 rfl) ?_
    refine lv_iconst (v := 1) hx hb dX4_redeem_14 (by decide) ?_
    have hF := zfree hD hS hA
    refine zk_I (va_runV (As := [.int 1]) (rest := []) ⟨hx, hb, hml, hown, hts⟩ (c_X4_fail l D cI μ 0 σ (κ) 1 _) (cwV 1 hts gX4_redeem_X4_fail rfl rfl rfl zdX4_fail ⟨Nat.le_of_ble_eq_true rfl, Nat.le_of_ble_eq_true rfl⟩) ⟨zbl _, va_recv hK hP (ci := 4) (q0 := 0) rfl rfl, zpr hK hP hD⟩ rfl rfl hl.1 rfl (lv_room (Nat.le_of_ble_eq_true rfl)) dX4_redeem_15 ⟨Nat.zero_le _, Nat.zero_le _⟩) hS hF (fun r_4 H locs hw hkp hP1 hD1 hS => ?_)
    have hP := hP1
    have hD := hD1.weaken (fun _ _ _ z => hF _ z)
    have hP : va_P D vwCl (zw_M cI μ 1 σ (κ)) H := hP
    have hD : va_D A (zw_M cI μ 1 σ (κ)) := hD
    have hw : r_4 = 0 := hw
    subst hw
    have hP9 := hP
    have hD9 := hD
    exact W.iret (v := 0) hx hb hr (fun t ht hW => ⟨⟨0, (), rfl, trivial, by rw [ht]; exact hP9, va_K.moved hW.alike hK, hD9⟩, hS.F ht⟩) hS.2.2 dX4_redeem_18

set_option maxHeartbeats 4000000 in
set_option maxRecDepth 100000 in
theorem b_X4_call1 (l : Launch) (D : va_G) (cI : ClassId) (μ : Nat → Nat) (th : Int32) (σ : zS) (κ : Nat → Int32) (v : Int32) {nb ns h : Nat} (hC : zC σ nb ns h) (hv : ¬ f_sail σ v) : zMI l yX4_call wsX4_call ({ frames := 2, cells := 0, slots := 0, locals := 43 }) [.ref (μ 0), .int v] D [(cI, .int)] (zw_M cI μ th σ (κ)) (zw_M cI μ 1 σ (κ)) (fun _ => True) := by
  intro sz
  refine Met.ofW (cc := cX4_call) (maxL := 3) (ret := (some .int)) (by decide) rfl ?_
  intro p e s m args below meth c s₁ B hml hv
  obtain ⟨rfl, hsz, hP, hK, hD⟩ := hv
  have hx := B.exec
  have hb := B.bytes
  have hr := B.returns
  have hts := atoms_spec (ws := wsX4_call) B.pre
  have hown : s.vm.findClass RX4 = some m.cls := findClass_of_methodNamed B.named
  have hlocks := B.notSynchronized
  subst hsz
  have hD := hD.self (sz := s.heap.size)
  generalize hAe : va_A (zw_M cI μ th σ (κ)) s.heap.size = A at hD ⊢
  have hA : ∀ q : Nat, s.heap.size ≤ q → A q := fun q h => by rw [← hAe]; exact Or.inr h
  have hS : va_S A s.heap s.heap [] := va_S.rf
  have hP : va_P D vwCl (zw_M cI μ th σ (κ)) s.heap := hP
  have hl := lv_entry ([.ref (μ 0), .int v]) (n := 3) (Nat.le_of_ble_eq_true rfl)
  rw [lg_entry_eq]
  generalize (lg_sl ([.ref (μ 0), .int v]) ++ List.replicate (3 - (lg_sl ([.ref (μ 0), .int v])).length) Slot.unset).toArray = ls at hl ⊢
  have hl : lv_has ls 3 [(0, .ref (μ 0)), (1, .int v)] := hl
  have hf25 := hts (.fieldLink RX4 25 "HotBedsModel" "thrown" "I") (by decide +kernel)
  have hinX4 : ∀ w ∈ u_ws RX4 TX4 8, w ∈ wsX4_call := by decide +kernel
  have hnb := hC.2.1
  have hns := hC.2.2.2.1
  have hh := hC.2.2.2.2.2.1
  refine lv_aload_n hx hb dX4_call_0 rfl (lv_at hl 0 rfl) ?_
  refine lv_iconst (v := 0) hx hb dX4_call_1 (by decide) ?_
  refine va_put (D := D) (ci := 4) (v := .int 0) (ty := .int) (C := RX4) (T := TX4) (N := 8) hx hb hts hinX4 tyX4 tyX4_ok nmX4 hown hK hP hD hS 0 rfl rfl 0 (by decide) hf25 (fun _ h9 => h9)  rfl (by decide +kernel) rfl rfl (Nat.le_of_ble_eq_true rfl) dX4_call_2 (fun H locs hP hD hS => ?_)
  have hP : va_P D vwCl (zw_M cI μ 0 σ (κ)) H := hP
  have hD : va_D A (zw_M cI μ 0 σ (κ)) := hD
  refine lv_aload_n hx hb dX4_call_5 rfl (lv_at hl 0 rfl) ?_
  refine lv_iload_n hx hb dX4_call_6 rfl (lv_at hl 1 rfl) ?_
  refine zk_R (D := D) (va_runV (As := [.int v]) (rest := []) ⟨hx, hb, hml, hown, hts⟩ (c_X4_isSailor l D cI μ 0 σ (κ) v hC _) (cwV 1 hts gX4_call_X4_isSailor rfl rfl rfl zdX4_isSailor ⟨Nat.le_of_ble_eq_true rfl, Nat.le_of_ble_eq_true rfl⟩) ⟨zbl _, va_recv hK hP (ci := 4) (q0 := 0) rfl rfl, zpr hK hP hD⟩ rfl rfl hl.1 rfl (lv_room (Nat.le_of_ble_eq_true rfl)) dX4_call_7 ⟨Nat.zero_le _, Nat.zero_le _⟩) hS (fun r_1 H locs hw hkp hS => ?_)
  have hP := hkp _ hP
  have hw : zb (f_sail σ v) r_1 := hw
  rcases hw with ⟨c_2, rfl⟩ | ⟨c_2, rfl⟩
  · exact absurd c_2 (hv)
  · refine lv_if_ne (tgt := 19) hx hb dX4_call_10 (by decide) (fun c => absurd (by decide) c) (fun _ => ?_)
    refine lv_aload_n hx hb dX4_call_13 rfl (lv_at hl 0 rfl) ?_
    refine lv_iconst (v := 1) hx hb dX4_call_14 (by decide) ?_
    have hF := zfree hD hS hA
    refine zk_I (va_runV (As := [.int 1]) (rest := []) ⟨hx, hb, hml, hown, hts⟩ (c_X4_fail l D cI μ 0 σ (κ) 1 _) (cwV 1 hts gX4_call_X4_fail rfl rfl rfl zdX4_fail ⟨Nat.le_of_ble_eq_true rfl, Nat.le_of_ble_eq_true rfl⟩) ⟨zbl _, va_recv hK hP (ci := 4) (q0 := 0) rfl rfl, zpr hK hP hD⟩ rfl rfl hl.1 rfl (lv_room (Nat.le_of_ble_eq_true rfl)) dX4_call_15 ⟨Nat.zero_le _, Nat.zero_le _⟩) hS hF (fun r_4 H locs hw hkp hP1 hD1 hS => ?_)
    have hP := hP1
    have hD := hD1.weaken (fun _ _ _ z => hF _ z)
    have hP : va_P D vwCl (zw_M cI μ 1 σ (κ)) H := hP
    have hD : va_D A (zw_M cI μ 1 σ (κ)) := hD
    have hw : r_4 = 0 := hw
    subst hw
    have hP9 := hP
    have hD9 := hD
    exact W.iret (v := 0) hx hb hr (fun t ht hW => ⟨⟨0, (), rfl, trivial, by rw [ht]; exact hP9, va_K.moved hW.alike hK, hD9⟩, hS.F ht⟩) hS.2.2 dX4_call_18

set_option maxHeartbeats 4000000 in
set_option maxRecDepth 100000 in
theorem b_X4_until1 (l : Launch) (D : va_G) (cI : ClassId) (μ : Nat → Nat) (th : Int32) (σ : zS) (κ : Nat → Int32) (v : Int32) {nb ns h : Nat} (hC : zC σ nb ns h) (hv : ¬ f_sail σ v) : zMI l yX4_until wsX4_until ({ frames := 2, cells := 0, slots := 0, locals := 43 }) [.ref (μ 0), .int v] D [(cI, .int)] (zw_M cI μ th σ (κ)) (zw_M cI μ 1 σ (κ)) (fun _ => True) := by
  intro sz
  refine Met.ofW (cc := cX4_until) (maxL := 3) (ret := (some .int)) (by decide) rfl ?_
  intro p e s m args below meth c s₁ B hml hv
  obtain ⟨rfl, hsz, hP, hK, hD⟩ := hv
  have hx := B.exec
  have hb := B.bytes
  have hr := B.returns
  have hts := atoms_spec (ws := wsX4_until) B.pre
  have hown : s.vm.findClass RX4 = some m.cls := findClass_of_methodNamed B.named
  have hlocks := B.notSynchronized
  subst hsz
  have hD := hD.self (sz := s.heap.size)
  generalize hAe : va_A (zw_M cI μ th σ (κ)) s.heap.size = A at hD ⊢
  have hA : ∀ q : Nat, s.heap.size ≤ q → A q := fun q h => by rw [← hAe]; exact Or.inr h
  have hS : va_S A s.heap s.heap [] := va_S.rf
  have hP : va_P D vwCl (zw_M cI μ th σ (κ)) s.heap := hP
  have hl := lv_entry ([.ref (μ 0), .int v]) (n := 3) (Nat.le_of_ble_eq_true rfl)
  rw [lg_entry_eq]
  generalize (lg_sl ([.ref (μ 0), .int v]) ++ List.replicate (3 - (lg_sl ([.ref (μ 0), .int v])).length) Slot.unset).toArray = ls at hl ⊢
  have hl : lv_has ls 3 [(0, .ref (μ 0)), (1, .int v)] := hl
  have hf25 := hts (.fieldLink RX4 25 "HotBedsModel" "thrown" "I") (by decide +kernel)
  have hinX4 : ∀ w ∈ u_ws RX4 TX4 8, w ∈ wsX4_until := by decide +kernel
  have hnb := hC.2.1
  have hns := hC.2.2.2.1
  have hh := hC.2.2.2.2.2.1
  refine lv_aload_n hx hb dX4_until_0 rfl (lv_at hl 0 rfl) ?_
  refine lv_iconst (v := 0) hx hb dX4_until_1 (by decide) ?_
  refine va_put (D := D) (ci := 4) (v := .int 0) (ty := .int) (C := RX4) (T := TX4) (N := 8) hx hb hts hinX4 tyX4 tyX4_ok nmX4 hown hK hP hD hS 0 rfl rfl 0 (by decide) hf25 (fun _ h9 => h9)  rfl (by decide +kernel) rfl rfl (Nat.le_of_ble_eq_true rfl) dX4_until_2 (fun H locs hP hD hS => ?_)
  have hP : va_P D vwCl (zw_M cI μ 0 σ (κ)) H := hP
  have hD : va_D A (zw_M cI μ 0 σ (κ)) := hD
  refine lv_aload_n hx hb dX4_until_5 rfl (lv_at hl 0 rfl) ?_
  refine lv_iload_n hx hb dX4_until_6 rfl (lv_at hl 1 rfl) ?_
  refine zk_R (D := D) (va_runV (As := [.int v]) (rest := []) ⟨hx, hb, hml, hown, hts⟩ (c_X4_isSailor l D cI μ 0 σ (κ) v hC _) (cwV 1 hts gX4_until_X4_isSailor rfl rfl rfl zdX4_isSailor ⟨Nat.le_of_ble_eq_true rfl, Nat.le_of_ble_eq_true rfl⟩) ⟨zbl _, va_recv hK hP (ci := 4) (q0 := 0) rfl rfl, zpr hK hP hD⟩ rfl rfl hl.1 rfl (lv_room (Nat.le_of_ble_eq_true rfl)) dX4_until_7 ⟨Nat.zero_le _, Nat.zero_le _⟩) hS (fun r_1 H locs hw hkp hS => ?_)
  have hP := hkp _ hP
  have hw : zb (f_sail σ v) r_1 := hw
  rcases hw with ⟨c_2, rfl⟩ | ⟨c_2, rfl⟩
  · exact absurd c_2 (hv)
  · refine lv_if_ne (tgt := 19) hx hb dX4_until_10 (by decide) (fun c => absurd (by decide) c) (fun _ => ?_)
    refine lv_aload_n hx hb dX4_until_13 rfl (lv_at hl 0 rfl) ?_
    refine lv_iconst (v := 1) hx hb dX4_until_14 (by decide) ?_
    have hF := zfree hD hS hA
    refine zk_I (va_runV (As := [.int 1]) (rest := []) ⟨hx, hb, hml, hown, hts⟩ (c_X4_fail l D cI μ 0 σ (κ) 1 _) (cwV 1 hts gX4_until_X4_fail rfl rfl rfl zdX4_fail ⟨Nat.le_of_ble_eq_true rfl, Nat.le_of_ble_eq_true rfl⟩) ⟨zbl _, va_recv hK hP (ci := 4) (q0 := 0) rfl rfl, zpr hK hP hD⟩ rfl rfl hl.1 rfl (lv_room (Nat.le_of_ble_eq_true rfl)) dX4_until_15 ⟨Nat.zero_le _, Nat.zero_le _⟩) hS hF (fun r_4 H locs hw hkp hP1 hD1 hS => ?_)
    have hP := hP1
    have hD := hD1.weaken (fun _ _ _ z => hF _ z)
    have hP : va_P D vwCl (zw_M cI μ 1 σ (κ)) H := hP
    have hD : va_D A (zw_M cI μ 1 σ (κ)) := hD
    have hw : r_4 = 0 := hw
    subst hw
    have hP9 := hP
    have hD9 := hD
    exact W.iret (v := 0) hx hb hr (fun t ht hW => ⟨⟨0, (), rfl, trivial, by rw [ht]; exact hP9, va_K.moved hW.alike hK, hD9⟩, hS.F ht⟩) hS.2.2 dX4_until_18

set_option maxHeartbeats 4000000 in
set_option maxRecDepth 100000 in
theorem b_X4_advise1 (l : Launch) (D : va_G) (cI : ClassId) (μ : Nat → Nat) (th : Int32) (σ : zS) (κ : Nat → Int32) (v : Int32) {nb ns h : Nat} (hC : zC σ nb ns h) (hv : ¬ f_sail σ v) : zMI l yX4_advise wsX4_advise ({ frames := 2, cells := 0, slots := 0, locals := 43 }) [.ref (μ 0), .int v] D [(cI, .int)] (zw_M cI μ th σ (κ)) (zw_M cI μ 1 σ (κ)) (fun _ => True) := by
  intro sz
  refine Met.ofW (cc := cX4_advise) (maxL := 6) (ret := (some .int)) (by decide) rfl ?_
  intro p e s m args below meth c s₁ B hml hv
  obtain ⟨rfl, hsz, hP, hK, hD⟩ := hv
  have hx := B.exec
  have hb := B.bytes
  have hr := B.returns
  have hts := atoms_spec (ws := wsX4_advise) B.pre
  have hown : s.vm.findClass RX4 = some m.cls := findClass_of_methodNamed B.named
  have hlocks := B.notSynchronized
  subst hsz
  have hD := hD.self (sz := s.heap.size)
  generalize hAe : va_A (zw_M cI μ th σ (κ)) s.heap.size = A at hD ⊢
  have hA : ∀ q : Nat, s.heap.size ≤ q → A q := fun q h => by rw [← hAe]; exact Or.inr h
  have hS : va_S A s.heap s.heap [] := va_S.rf
  have hP : va_P D vwCl (zw_M cI μ th σ (κ)) s.heap := hP
  have hl := lv_entry ([.ref (μ 0), .int v]) (n := 6) (Nat.le_of_ble_eq_true rfl)
  rw [lg_entry_eq]
  generalize (lg_sl ([.ref (μ 0), .int v]) ++ List.replicate (6 - (lg_sl ([.ref (μ 0), .int v])).length) Slot.unset).toArray = ls at hl ⊢
  have hl : lv_has ls 6 [(0, .ref (μ 0)), (1, .int v)] := hl
  have hf25 := hts (.fieldLink RX4 25 "HotBedsModel" "thrown" "I") (by decide +kernel)
  have hinX4 : ∀ w ∈ u_ws RX4 TX4 8, w ∈ wsX4_advise := by decide +kernel
  have hnb := hC.2.1
  have hns := hC.2.2.2.1
  have hh := hC.2.2.2.2.2.1
  refine lv_aload_n hx hb dX4_advise_0 rfl (lv_at hl 0 rfl) ?_
  refine lv_iconst (v := 0) hx hb dX4_advise_1 (by decide) ?_
  refine va_put (D := D) (ci := 4) (v := .int 0) (ty := .int) (C := RX4) (T := TX4) (N := 8) hx hb hts hinX4 tyX4 tyX4_ok nmX4 hown hK hP hD hS 0 rfl rfl 0 (by decide) hf25 (fun _ h9 => h9)  rfl (by decide +kernel) rfl rfl (Nat.le_of_ble_eq_true rfl) dX4_advise_2 (fun H locs hP hD hS => ?_)
  have hP : va_P D vwCl (zw_M cI μ 0 σ (κ)) H := hP
  have hD : va_D A (zw_M cI μ 0 σ (κ)) := hD
  refine lv_aload_n hx hb dX4_advise_5 rfl (lv_at hl 0 rfl) ?_
  refine lv_iload_n hx hb dX4_advise_6 rfl (lv_at hl 1 rfl) ?_
  refine zk_R (D := D) (va_runV (As := [.int v]) (rest := []) ⟨hx, hb, hml, hown, hts⟩ (c_X4_isSailor l D cI μ 0 σ (κ) v hC _) (cwV 1 hts gX4_advise_X4_isSailor rfl rfl rfl zdX4_isSailor ⟨Nat.le_of_ble_eq_true rfl, Nat.le_of_ble_eq_true rfl⟩) ⟨zbl _, va_recv hK hP (ci := 4) (q0 := 0) rfl rfl, zpr hK hP hD⟩ rfl rfl hl.1 rfl (lv_room (Nat.le_of_ble_eq_true rfl)) dX4_advise_7 ⟨Nat.zero_le _, Nat.zero_le _⟩) hS (fun r_1 H locs hw hkp hS => ?_)
  have hP := hkp _ hP
  have hw : zb (f_sail σ v) r_1 := hw
  rcases hw with ⟨c_2, rfl⟩ | ⟨c_2, rfl⟩
  · exact absurd c_2 (hv)
  · refine lv_if_ne (tgt := 19) hx hb dX4_advise_10 (by decide) (fun c => absurd (by decide) c) (fun _ => ?_)
    refine lv_aload_n hx hb dX4_advise_13 rfl (lv_at hl 0 rfl) ?_
    refine lv_iconst (v := 1) hx hb dX4_advise_14 (by decide) ?_
    have hF := zfree hD hS hA
    refine zk_I (va_runV (As := [.int 1]) (rest := []) ⟨hx, hb, hml, hown, hts⟩ (c_X4_fail l D cI μ 0 σ (κ) 1 _) (cwV 1 hts gX4_advise_X4_fail rfl rfl rfl zdX4_fail ⟨Nat.le_of_ble_eq_true rfl, Nat.le_of_ble_eq_true rfl⟩) ⟨zbl _, va_recv hK hP (ci := 4) (q0 := 0) rfl rfl, zpr hK hP hD⟩ rfl rfl hl.1 rfl (lv_room (Nat.le_of_ble_eq_true rfl)) dX4_advise_15 ⟨Nat.zero_le _, Nat.zero_le _⟩) hS hF (fun r_4 H locs hw hkp hP1 hD1 hS => ?_)
    have hP := hP1
    have hD := hD1.weaken (fun _ _ _ z => hF _ z)
    have hP : va_P D vwCl (zw_M cI μ 1 σ (κ)) H := hP
    have hD : va_D A (zw_M cI μ 1 σ (κ)) := hD
    have hw : r_4 = 0 := hw
    subst hw
    have hP9 := hP
    have hD9 := hD
    exact W.iret (v := 0) hx hb hr (fun t ht hW => ⟨⟨0, (), rfl, trivial, by rw [ht]; exact hP9, va_K.moved hW.alike hK, hD9⟩, hS.F ht⟩) hS.2.2 dX4_advise_18

set_option maxHeartbeats 4000000 in
set_option maxRecDepth 100000 in
theorem b_X4_pawn2 (l : Launch) (D : va_G) (cI : ClassId) (μ : Nat → Nat) (th : Int32) (σ : zS) (κ : Nat → Int32) {k : Nat} {nb ns h : Nat} (hC : zC σ nb ns h) (hk : k < ns) (hb1 : ¬ σ 10 k = 1) : zMI l yX4_pawn wsX4_pawn ({ frames := 2, cells := 0, slots := 0, locals := 43 }) [.ref (μ 0), .int (nI k)] D [(cI, .int)] (zw_M cI μ th σ (κ)) (zw_M cI μ 2 σ (κ)) (fun _ => True) := by
  intro sz
  refine Met.ofW (cc := cX4_pawn) (maxL := 2) (ret := (some .int)) (by decide) rfl ?_
  intro p e s m args below meth c s₁ B hml hv
  obtain ⟨rfl, hsz, hP, hK, hD⟩ := hv
  have hx := B.exec
  have hb := B.bytes
  have hr := B.returns
  have hts := atoms_spec (ws := wsX4_pawn) B.pre
  have hown : s.vm.findClass RX4 = some m.cls := findClass_of_methodNamed B.named
  have hlocks := B.notSynchronized
  subst hsz
  have hD := hD.self (sz := s.heap.size)
  generalize hAe : va_A (zw_M cI μ th σ (κ)) s.heap.size = A at hD ⊢
  have hA : ∀ q : Nat, s.heap.size ≤ q → A q := fun q h => by rw [← hAe]; exact Or.inr h
  have hS : va_S A s.heap s.heap [] := va_S.rf
  have hP : va_P D vwCl (zw_M cI μ th σ (κ)) s.heap := hP
  have hl := lv_entry ([.ref (μ 0), .int (nI k)]) (n := 2) (Nat.le_of_ble_eq_true rfl)
  rw [lg_entry_eq]
  generalize (lg_sl ([.ref (μ 0), .int (nI k)]) ++ List.replicate (2 - (lg_sl ([.ref (μ 0), .int (nI k)])).length) Slot.unset).toArray = ls at hl ⊢
  have hl : lv_has ls 2 [(0, .ref (μ 0)), (1, .int (nI k))] := hl
  have hf25 := hts (.fieldLink RX4 25 "HotBedsModel" "thrown" "I") (by decide +kernel)
  have hinX4 : ∀ w ∈ u_ws RX4 TX4 8, w ∈ wsX4_pawn := by decide +kernel
  have hnb := hC.2.1
  have hns := hC.2.2.2.1
  have hh := hC.2.2.2.2.2.1
  refine lv_aload_n hx hb dX4_pawn_0 rfl (lv_at hl 0 rfl) ?_
  refine lv_iconst (v := 0) hx hb dX4_pawn_1 (by decide) ?_
  refine va_put (D := D) (ci := 4) (v := .int 0) (ty := .int) (C := RX4) (T := TX4) (N := 8) hx hb hts hinX4 tyX4 tyX4_ok nmX4 hown hK hP hD hS 0 rfl rfl 0 (by decide) hf25 (fun _ h9 => h9)  rfl (by decide +kernel) rfl rfl (Nat.le_of_ble_eq_true rfl) dX4_pawn_2 (fun H locs hP hD hS => ?_)
  have hP : va_P D vwCl (zw_M cI μ 0 σ (κ)) H := hP
  have hD : va_D A (zw_M cI μ 0 σ (κ)) := hD
  refine lv_aload_n hx hb dX4_pawn_5 rfl (lv_at hl 0 rfl) ?_
  refine lv_iload_n hx hb dX4_pawn_6 rfl (lv_at hl 1 rfl) ?_
  refine zk_R (D := D) (va_runV (As := [.int (nI k)]) (rest := []) ⟨hx, hb, hml, hown, hts⟩ (c_X4_isSailor l D cI μ 0 σ (κ) (nI k) hC _) (cwV 1 hts gX4_pawn_X4_isSailor rfl rfl rfl zdX4_isSailor ⟨Nat.le_of_ble_eq_true rfl, Nat.le_of_ble_eq_true rfl⟩) ⟨zbl _, va_recv hK hP (ci := 4) (q0 := 0) rfl rfl, zpr hK hP hD⟩ rfl rfl hl.1 rfl (lv_room (Nat.le_of_ble_eq_true rfl)) dX4_pawn_7 ⟨Nat.zero_le _, Nat.zero_le _⟩) hS (fun r_1 H locs hw hkp hS => ?_)
  have hP := hkp _ hP
  have hw : zb (f_sail σ (nI k)) r_1 := hw
  rcases hw with ⟨c_2, rfl⟩ | ⟨c_2, rfl⟩
  · refine lv_if_ne (tgt := 19) hx hb dX4_pawn_10 (by decide) (fun _ => ?_) (fun c => absurd c (by decide))
    refine lv_aload_n hx hb dX4_pawn_19 rfl (lv_at hl 0 rfl) ?_
    refine lv_iload_n hx hb dX4_pawn_20 rfl (lv_at hl 1 rfl) ?_
    refine lv_iconst (v := 2) hx hb dX4_pawn_21 (by decide) ?_
    refine zk_R (D := D) (va_runV (As := [.int (nI k), .int 2]) (rest := []) ⟨hx, hb, hml, hown, hts⟩ (c_X4_sa l D cI μ 0 σ (κ) (k := k) (w := 2) (by omega) (by decide) _) (cwV 2 hts gX4_pawn_X4_sa rfl rfl rfl zdX4_sa ⟨Nat.le_of_ble_eq_true rfl, Nat.le_of_ble_eq_true rfl⟩) ⟨zbl _, va_recv hK hP (ci := 4) (q0 := 0) rfl rfl, zpr hK hP hD⟩ rfl rfl hl.1 rfl (lv_room (Nat.le_of_ble_eq_true rfl)) dX4_pawn_22 ⟨Nat.zero_le _, Nat.zero_le _⟩) hS (fun r_4 H locs hw hkp hS => ?_)
    have hP := hkp _ hP
    have hw : r_4 = σ 10 k := hw
    subst hw
    refine lv_iconst (v := 1) hx hb dX4_pawn_25 (by decide) ?_
    refine lv_icmp_ne (tgt := 37) hx hb dX4_pawn_26 (by decide) (fun _ => ?_) (fun c => absurd c (hb1))
    refine lv_aload_n hx hb dX4_pawn_37 rfl (lv_at hl 0 rfl) ?_
    refine lv_iconst (v := 2) hx hb dX4_pawn_38 (by decide) ?_
    have hF := zfree hD hS hA
    refine zk_I (va_runV (As := [.int 2]) (rest := []) ⟨hx, hb, hml, hown, hts⟩ (c_X4_fail l D cI μ 0 σ (κ) 2 _) (cwV 1 hts gX4_pawn_X4_fail rfl rfl rfl zdX4_fail ⟨Nat.le_of_ble_eq_true rfl, Nat.le_of_ble_eq_true rfl⟩) ⟨zbl _, va_recv hK hP (ci := 4) (q0 := 0) rfl rfl, zpr hK hP hD⟩ rfl rfl hl.1 rfl (lv_room (Nat.le_of_ble_eq_true rfl)) dX4_pawn_39 ⟨Nat.zero_le _, Nat.zero_le _⟩) hS hF (fun r_6 H locs hw hkp hP1 hD1 hS => ?_)
    have hP := hP1
    have hD := hD1.weaken (fun _ _ _ z => hF _ z)
    have hP : va_P D vwCl (zw_M cI μ 2 σ (κ)) H := hP
    have hD : va_D A (zw_M cI μ 2 σ (κ)) := hD
    have hw : r_6 = 0 := hw
    subst hw
    have hP9 := hP
    have hD9 := hD
    exact W.iret (v := 0) hx hb hr (fun t ht hW => ⟨⟨0, (), rfl, trivial, by rw [ht]; exact hP9, va_K.moved hW.alike hK, hD9⟩, hS.F ht⟩) hS.2.2 dX4_pawn_42
  · exact absurd (zsail_k hC hk) c_2

set_option maxHeartbeats 4000000 in
set_option maxRecDepth 100000 in
theorem b_X4_redeem2 (l : Launch) (D : va_G) (cI : ClassId) (μ : Nat → Nat) (th : Int32) (σ : zS) (κ : Nat → Int32) {k : Nat} {nb ns h : Nat} (hI : zI σ nb ns h) (hk : k < ns) (hcan : ¬ f_can σ k) : zMI l yX4_redeem wsX4_redeem ({ frames := 2, cells := 0, slots := 0, locals := 43 }) [.ref (μ 0), .int (nI k)] D [(cI, .int)] (zw_M cI μ th σ (κ)) (zw_M cI μ 2 σ (κ)) (fun _ => True) := by
  intro sz
  refine Met.ofW (cc := cX4_redeem) (maxL := 2) (ret := (some .int)) (by decide) rfl ?_
  intro p e s m args below meth c s₁ B hml hv
  obtain ⟨rfl, hsz, hP, hK, hD⟩ := hv
  have hx := B.exec
  have hb := B.bytes
  have hr := B.returns
  have hts := atoms_spec (ws := wsX4_redeem) B.pre
  have hown : s.vm.findClass RX4 = some m.cls := findClass_of_methodNamed B.named
  have hlocks := B.notSynchronized
  subst hsz
  have hD := hD.self (sz := s.heap.size)
  generalize hAe : va_A (zw_M cI μ th σ (κ)) s.heap.size = A at hD ⊢
  have hA : ∀ q : Nat, s.heap.size ≤ q → A q := fun q h => by rw [← hAe]; exact Or.inr h
  have hS : va_S A s.heap s.heap [] := va_S.rf
  have hP : va_P D vwCl (zw_M cI μ th σ (κ)) s.heap := hP
  have hl := lv_entry ([.ref (μ 0), .int (nI k)]) (n := 2) (Nat.le_of_ble_eq_true rfl)
  rw [lg_entry_eq]
  generalize (lg_sl ([.ref (μ 0), .int (nI k)]) ++ List.replicate (2 - (lg_sl ([.ref (μ 0), .int (nI k)])).length) Slot.unset).toArray = ls at hl ⊢
  have hl : lv_has ls 2 [(0, .ref (μ 0)), (1, .int (nI k))] := hl
  have hf25 := hts (.fieldLink RX4 25 "HotBedsModel" "thrown" "I") (by decide +kernel)
  have hinX4 : ∀ w ∈ u_ws RX4 TX4 8, w ∈ wsX4_redeem := by decide +kernel
  have hC := hI.1
  have hs := hI.2 k hk
  have hbo := hs.2.1
  have hnb := hC.2.1
  have hns := hC.2.2.2.1
  have hh := hC.2.2.2.2.2.1
  refine lv_aload_n hx hb dX4_redeem_0 rfl (lv_at hl 0 rfl) ?_
  refine lv_iconst (v := 0) hx hb dX4_redeem_1 (by decide) ?_
  refine va_put (D := D) (ci := 4) (v := .int 0) (ty := .int) (C := RX4) (T := TX4) (N := 8) hx hb hts hinX4 tyX4 tyX4_ok nmX4 hown hK hP hD hS 0 rfl rfl 0 (by decide) hf25 (fun _ h9 => h9)  rfl (by decide +kernel) rfl rfl (Nat.le_of_ble_eq_true rfl) dX4_redeem_2 (fun H locs hP hD hS => ?_)
  have hP : va_P D vwCl (zw_M cI μ 0 σ (κ)) H := hP
  have hD : va_D A (zw_M cI μ 0 σ (κ)) := hD
  refine lv_aload_n hx hb dX4_redeem_5 rfl (lv_at hl 0 rfl) ?_
  refine lv_iload_n hx hb dX4_redeem_6 rfl (lv_at hl 1 rfl) ?_
  refine zk_R (D := D) (va_runV (As := [.int (nI k)]) (rest := []) ⟨hx, hb, hml, hown, hts⟩ (c_X4_isSailor l D cI μ 0 σ (κ) (nI k) hC _) (cwV 1 hts gX4_redeem_X4_isSailor rfl rfl rfl zdX4_isSailor ⟨Nat.le_of_ble_eq_true rfl, Nat.le_of_ble_eq_true rfl⟩) ⟨zbl _, va_recv hK hP (ci := 4) (q0 := 0) rfl rfl, zpr hK hP hD⟩ rfl rfl hl.1 rfl (lv_room (Nat.le_of_ble_eq_true rfl)) dX4_redeem_7 ⟨Nat.zero_le _, Nat.zero_le _⟩) hS (fun r_1 H locs hw hkp hS => ?_)
  have hP := hkp _ hP
  have hw : zb (f_sail σ (nI k)) r_1 := hw
  rcases hw with ⟨c_2, rfl⟩ | ⟨c_2, rfl⟩
  · refine lv_if_ne (tgt := 19) hx hb dX4_redeem_10 (by decide) (fun _ => ?_) (fun c => absurd c (by decide))
    refine lv_aload_n hx hb dX4_redeem_19 rfl (lv_at hl 0 rfl) ?_
    refine lv_iload_n hx hb dX4_redeem_20 rfl (lv_at hl 1 rfl) ?_
    refine zk_R (D := D) (va_runV (As := [.int (nI k)]) (rest := []) ⟨hx, hb, hml, hown, hts⟩ (c_X4_canRedeem l D cI μ 0 σ (κ) (k := k) (by omega) hbo _) (cwV 1 hts gX4_redeem_X4_canRedeem rfl rfl rfl zdX4_canRedeem ⟨Nat.le_of_ble_eq_true rfl, Nat.le_of_ble_eq_true rfl⟩) ⟨zbl _, va_recv hK hP (ci := 4) (q0 := 0) rfl rfl, zpr hK hP hD⟩ rfl rfl hl.1 rfl (lv_room (Nat.le_of_ble_eq_true rfl)) dX4_redeem_21 ⟨Nat.zero_le _, Nat.zero_le _⟩) hS (fun r_4 H locs hw hkp hS => ?_)
    have hP := hkp _ hP
    have hw : zb (f_can σ k) r_4 := hw
    rcases hw with ⟨c_5, rfl⟩ | ⟨c_5, rfl⟩
    · exact absurd c_5 (hcan)
    · refine lv_if_eq (tgt := 35) hx hb dX4_redeem_24 (by decide) (fun _ => ?_) (fun c => absurd (by decide) c)
      refine lv_aload_n hx hb dX4_redeem_35 rfl (lv_at hl 0 rfl) ?_
      refine lv_iconst (v := 2) hx hb dX4_redeem_36 (by decide) ?_
      have hF := zfree hD hS hA
      refine zk_I (va_runV (As := [.int 2]) (rest := []) ⟨hx, hb, hml, hown, hts⟩ (c_X4_fail l D cI μ 0 σ (κ) 2 _) (cwV 1 hts gX4_redeem_X4_fail rfl rfl rfl zdX4_fail ⟨Nat.le_of_ble_eq_true rfl, Nat.le_of_ble_eq_true rfl⟩) ⟨zbl _, va_recv hK hP (ci := 4) (q0 := 0) rfl rfl, zpr hK hP hD⟩ rfl rfl hl.1 rfl (lv_room (Nat.le_of_ble_eq_true rfl)) dX4_redeem_37 ⟨Nat.zero_le _, Nat.zero_le _⟩) hS hF (fun r_7 H locs hw hkp hP1 hD1 hS => ?_)
      have hP := hP1
      have hD := hD1.weaken (fun _ _ _ z => hF _ z)
      have hP : va_P D vwCl (zw_M cI μ 2 σ (κ)) H := hP
      have hD : va_D A (zw_M cI μ 2 σ (κ)) := hD
      have hw : r_7 = 0 := hw
      subst hw
      have hP9 := hP
      have hD9 := hD
      exact W.iret (v := 0) hx hb hr (fun t ht hW => ⟨⟨0, (), rfl, trivial, by rw [ht]; exact hP9, va_K.moved hW.alike hK, hD9⟩, hS.F ht⟩) hS.2.2 dX4_redeem_40
  · exact absurd (zsail_k hC hk) c_2

set_option maxHeartbeats 4000000 in
set_option maxRecDepth 100000 in
theorem b_X4_call2 (l : Launch) (D : va_G) (cI : ClassId) (μ : Nat → Nat) (th : Int32) (σ : zS) (κ : Nat → Int32) {k : Nat} {nb ns h : Nat} (hC : zC σ nb ns h) (hk : k < ns) (hup : σ 12 k = 0) : zMI l yX4_call wsX4_call ({ frames := 2, cells := 0, slots := 0, locals := 43 }) [.ref (μ 0), .int (nI k)] D [(cI, .int)] (zw_M cI μ th σ (κ)) (zw_M cI μ 2 σ (κ)) (fun _ => True) := by
  intro sz
  refine Met.ofW (cc := cX4_call) (maxL := 3) (ret := (some .int)) (by decide) rfl ?_
  intro p e s m args below meth c s₁ B hml hv
  obtain ⟨rfl, hsz, hP, hK, hD⟩ := hv
  have hx := B.exec
  have hb := B.bytes
  have hr := B.returns
  have hts := atoms_spec (ws := wsX4_call) B.pre
  have hown : s.vm.findClass RX4 = some m.cls := findClass_of_methodNamed B.named
  have hlocks := B.notSynchronized
  subst hsz
  have hD := hD.self (sz := s.heap.size)
  generalize hAe : va_A (zw_M cI μ th σ (κ)) s.heap.size = A at hD ⊢
  have hA : ∀ q : Nat, s.heap.size ≤ q → A q := fun q h => by rw [← hAe]; exact Or.inr h
  have hS : va_S A s.heap s.heap [] := va_S.rf
  have hP : va_P D vwCl (zw_M cI μ th σ (κ)) s.heap := hP
  have hl := lv_entry ([.ref (μ 0), .int (nI k)]) (n := 3) (Nat.le_of_ble_eq_true rfl)
  rw [lg_entry_eq]
  generalize (lg_sl ([.ref (μ 0), .int (nI k)]) ++ List.replicate (3 - (lg_sl ([.ref (μ 0), .int (nI k)])).length) Slot.unset).toArray = ls at hl ⊢
  have hl : lv_has ls 3 [(0, .ref (μ 0)), (1, .int (nI k))] := hl
  have hf25 := hts (.fieldLink RX4 25 "HotBedsModel" "thrown" "I") (by decide +kernel)
  have hinX4 : ∀ w ∈ u_ws RX4 TX4 8, w ∈ wsX4_call := by decide +kernel
  have hnb := hC.2.1
  have hns := hC.2.2.2.1
  have hh := hC.2.2.2.2.2.1
  refine lv_aload_n hx hb dX4_call_0 rfl (lv_at hl 0 rfl) ?_
  refine lv_iconst (v := 0) hx hb dX4_call_1 (by decide) ?_
  refine va_put (D := D) (ci := 4) (v := .int 0) (ty := .int) (C := RX4) (T := TX4) (N := 8) hx hb hts hinX4 tyX4 tyX4_ok nmX4 hown hK hP hD hS 0 rfl rfl 0 (by decide) hf25 (fun _ h9 => h9)  rfl (by decide +kernel) rfl rfl (Nat.le_of_ble_eq_true rfl) dX4_call_2 (fun H locs hP hD hS => ?_)
  have hP : va_P D vwCl (zw_M cI μ 0 σ (κ)) H := hP
  have hD : va_D A (zw_M cI μ 0 σ (κ)) := hD
  refine lv_aload_n hx hb dX4_call_5 rfl (lv_at hl 0 rfl) ?_
  refine lv_iload_n hx hb dX4_call_6 rfl (lv_at hl 1 rfl) ?_
  refine zk_R (D := D) (va_runV (As := [.int (nI k)]) (rest := []) ⟨hx, hb, hml, hown, hts⟩ (c_X4_isSailor l D cI μ 0 σ (κ) (nI k) hC _) (cwV 1 hts gX4_call_X4_isSailor rfl rfl rfl zdX4_isSailor ⟨Nat.le_of_ble_eq_true rfl, Nat.le_of_ble_eq_true rfl⟩) ⟨zbl _, va_recv hK hP (ci := 4) (q0 := 0) rfl rfl, zpr hK hP hD⟩ rfl rfl hl.1 rfl (lv_room (Nat.le_of_ble_eq_true rfl)) dX4_call_7 ⟨Nat.zero_le _, Nat.zero_le _⟩) hS (fun r_1 H locs hw hkp hS => ?_)
  have hP := hkp _ hP
  have hw : zb (f_sail σ (nI k)) r_1 := hw
  rcases hw with ⟨c_2, rfl⟩ | ⟨c_2, rfl⟩
  · refine lv_if_ne (tgt := 19) hx hb dX4_call_10 (by decide) (fun _ => ?_) (fun c => absurd c (by decide))
    refine lv_aload_n hx hb dX4_call_19 rfl (lv_at hl 0 rfl) ?_
    refine lv_iload_n hx hb dX4_call_20 rfl (lv_at hl 1 rfl) ?_
    refine lv_iconst (v := 4) hx hb dX4_call_21 (by decide) ?_
    refine zk_R (D := D) (va_runV (As := [.int (nI k), .int 4]) (rest := []) ⟨hx, hb, hml, hown, hts⟩ (c_X4_sa l D cI μ 0 σ (κ) (k := k) (w := 4) (by omega) (by decide) _) (cwV 2 hts gX4_call_X4_sa rfl rfl rfl zdX4_sa ⟨Nat.le_of_ble_eq_true rfl, Nat.le_of_ble_eq_true rfl⟩) ⟨zbl _, va_recv hK hP (ci := 4) (q0 := 0) rfl rfl, zpr hK hP hD⟩ rfl rfl hl.1 rfl (lv_room (Nat.le_of_ble_eq_true rfl)) dX4_call_22 ⟨Nat.zero_le _, Nat.zero_le _⟩) hS (fun r_4 H locs hw hkp hS => ?_)
    have hP := hkp _ hP
    have hw : r_4 = σ 12 k := hw
    subst hw
    refine lv_if_ne (tgt := 34) hx hb dX4_call_25 (by decide) (fun c => absurd (hup) c) (fun _ => ?_)
    refine lv_aload_n hx hb dX4_call_28 rfl (lv_at hl 0 rfl) ?_
    refine lv_iconst (v := 2) hx hb dX4_call_29 (by decide) ?_
    have hF := zfree hD hS hA
    refine zk_I (va_runV (As := [.int 2]) (rest := []) ⟨hx, hb, hml, hown, hts⟩ (c_X4_fail l D cI μ 0 σ (κ) 2 _) (cwV 1 hts gX4_call_X4_fail rfl rfl rfl zdX4_fail ⟨Nat.le_of_ble_eq_true rfl, Nat.le_of_ble_eq_true rfl⟩) ⟨zbl _, va_recv hK hP (ci := 4) (q0 := 0) rfl rfl, zpr hK hP hD⟩ rfl rfl hl.1 rfl (lv_room (Nat.le_of_ble_eq_true rfl)) dX4_call_30 ⟨Nat.zero_le _, Nat.zero_le _⟩) hS hF (fun r_6 H locs hw hkp hP1 hD1 hS => ?_)
    have hP := hP1
    have hD := hD1.weaken (fun _ _ _ z => hF _ z)
    have hP : va_P D vwCl (zw_M cI μ 2 σ (κ)) H := hP
    have hD : va_D A (zw_M cI μ 2 σ (κ)) := hD
    have hw : r_6 = 0 := hw
    subst hw
    have hP9 := hP
    have hD9 := hD
    exact W.iret (v := 0) hx hb hr (fun t ht hW => ⟨⟨0, (), rfl, trivial, by rw [ht]; exact hP9, va_K.moved hW.alike hK, hD9⟩, hS.F ht⟩) hS.2.2 dX4_call_33
  · exact absurd (zsail_k hC hk) c_2

set_option maxHeartbeats 4000000 in
set_option maxRecDepth 100000 in
theorem b_X4_advise2 (l : Launch) (D : va_G) (cI : ClassId) (μ : Nat → Nat) (th : Int32) (σ : zS) (κ : Nat → Int32) {k : Nat} {nb ns h : Nat} (hC : zC σ nb ns h) (hk : k < ns) (hup : ¬ σ 12 k = 0) : zMI l yX4_advise wsX4_advise ({ frames := 2, cells := 0, slots := 0, locals := 43 }) [.ref (μ 0), .int (nI k)] D [(cI, .int)] (zw_M cI μ th σ (κ)) (zw_M cI μ 2 σ (κ)) (fun _ => True) := by
  intro sz
  refine Met.ofW (cc := cX4_advise) (maxL := 6) (ret := (some .int)) (by decide) rfl ?_
  intro p e s m args below meth c s₁ B hml hv
  obtain ⟨rfl, hsz, hP, hK, hD⟩ := hv
  have hx := B.exec
  have hb := B.bytes
  have hr := B.returns
  have hts := atoms_spec (ws := wsX4_advise) B.pre
  have hown : s.vm.findClass RX4 = some m.cls := findClass_of_methodNamed B.named
  have hlocks := B.notSynchronized
  subst hsz
  have hD := hD.self (sz := s.heap.size)
  generalize hAe : va_A (zw_M cI μ th σ (κ)) s.heap.size = A at hD ⊢
  have hA : ∀ q : Nat, s.heap.size ≤ q → A q := fun q h => by rw [← hAe]; exact Or.inr h
  have hS : va_S A s.heap s.heap [] := va_S.rf
  have hP : va_P D vwCl (zw_M cI μ th σ (κ)) s.heap := hP
  have hl := lv_entry ([.ref (μ 0), .int (nI k)]) (n := 6) (Nat.le_of_ble_eq_true rfl)
  rw [lg_entry_eq]
  generalize (lg_sl ([.ref (μ 0), .int (nI k)]) ++ List.replicate (6 - (lg_sl ([.ref (μ 0), .int (nI k)])).length) Slot.unset).toArray = ls at hl ⊢
  have hl : lv_has ls 6 [(0, .ref (μ 0)), (1, .int (nI k))] := hl
  have hf25 := hts (.fieldLink RX4 25 "HotBedsModel" "thrown" "I") (by decide +kernel)
  have hinX4 : ∀ w ∈ u_ws RX4 TX4 8, w ∈ wsX4_advise := by decide +kernel
  have hnb := hC.2.1
  have hns := hC.2.2.2.1
  have hh := hC.2.2.2.2.2.1
  refine lv_aload_n hx hb dX4_advise_0 rfl (lv_at hl 0 rfl) ?_
  refine lv_iconst (v := 0) hx hb dX4_advise_1 (by decide) ?_
  refine va_put (D := D) (ci := 4) (v := .int 0) (ty := .int) (C := RX4) (T := TX4) (N := 8) hx hb hts hinX4 tyX4 tyX4_ok nmX4 hown hK hP hD hS 0 rfl rfl 0 (by decide) hf25 (fun _ h9 => h9)  rfl (by decide +kernel) rfl rfl (Nat.le_of_ble_eq_true rfl) dX4_advise_2 (fun H locs hP hD hS => ?_)
  have hP : va_P D vwCl (zw_M cI μ 0 σ (κ)) H := hP
  have hD : va_D A (zw_M cI μ 0 σ (κ)) := hD
  refine lv_aload_n hx hb dX4_advise_5 rfl (lv_at hl 0 rfl) ?_
  refine lv_iload_n hx hb dX4_advise_6 rfl (lv_at hl 1 rfl) ?_
  refine zk_R (D := D) (va_runV (As := [.int (nI k)]) (rest := []) ⟨hx, hb, hml, hown, hts⟩ (c_X4_isSailor l D cI μ 0 σ (κ) (nI k) hC _) (cwV 1 hts gX4_advise_X4_isSailor rfl rfl rfl zdX4_isSailor ⟨Nat.le_of_ble_eq_true rfl, Nat.le_of_ble_eq_true rfl⟩) ⟨zbl _, va_recv hK hP (ci := 4) (q0 := 0) rfl rfl, zpr hK hP hD⟩ rfl rfl hl.1 rfl (lv_room (Nat.le_of_ble_eq_true rfl)) dX4_advise_7 ⟨Nat.zero_le _, Nat.zero_le _⟩) hS (fun r_1 H locs hw hkp hS => ?_)
  have hP := hkp _ hP
  have hw : zb (f_sail σ (nI k)) r_1 := hw
  rcases hw with ⟨c_2, rfl⟩ | ⟨c_2, rfl⟩
  · refine lv_if_ne (tgt := 19) hx hb dX4_advise_10 (by decide) (fun _ => ?_) (fun c => absurd c (by decide))
    refine lv_aload_n hx hb dX4_advise_19 rfl (lv_at hl 0 rfl) ?_
    refine lv_iload_n hx hb dX4_advise_20 rfl (lv_at hl 1 rfl) ?_
    refine lv_iconst (v := 4) hx hb dX4_advise_21 (by decide) ?_
    refine zk_R (D := D) (va_runV (As := [.int (nI k), .int 4]) (rest := []) ⟨hx, hb, hml, hown, hts⟩ (c_X4_sa l D cI μ 0 σ (κ) (k := k) (w := 4) (by omega) (by decide) _) (cwV 2 hts gX4_advise_X4_sa rfl rfl rfl zdX4_sa ⟨Nat.le_of_ble_eq_true rfl, Nat.le_of_ble_eq_true rfl⟩) ⟨zbl _, va_recv hK hP (ci := 4) (q0 := 0) rfl rfl, zpr hK hP hD⟩ rfl rfl hl.1 rfl (lv_room (Nat.le_of_ble_eq_true rfl)) dX4_advise_22 ⟨Nat.zero_le _, Nat.zero_le _⟩) hS (fun r_4 H locs hw hkp hS => ?_)
    have hP := hkp _ hP
    have hw : r_4 = σ 12 k := hw
    subst hw
    refine lv_if_eq (tgt := 34) hx hb dX4_advise_25 (by decide) (fun c => absurd c (hup)) (fun _ => ?_)
    refine lv_aload_n hx hb dX4_advise_28 rfl (lv_at hl 0 rfl) ?_
    refine lv_iconst (v := 2) hx hb dX4_advise_29 (by decide) ?_
    have hF := zfree hD hS hA
    refine zk_I (va_runV (As := [.int 2]) (rest := []) ⟨hx, hb, hml, hown, hts⟩ (c_X4_fail l D cI μ 0 σ (κ) 2 _) (cwV 1 hts gX4_advise_X4_fail rfl rfl rfl zdX4_fail ⟨Nat.le_of_ble_eq_true rfl, Nat.le_of_ble_eq_true rfl⟩) ⟨zbl _, va_recv hK hP (ci := 4) (q0 := 0) rfl rfl, zpr hK hP hD⟩ rfl rfl hl.1 rfl (lv_room (Nat.le_of_ble_eq_true rfl)) dX4_advise_30 ⟨Nat.zero_le _, Nat.zero_le _⟩) hS hF (fun r_6 H locs hw hkp hP1 hD1 hS => ?_)
    have hP := hP1
    have hD := hD1.weaken (fun _ _ _ z => hF _ z)
    have hP : va_P D vwCl (zw_M cI μ 2 σ (κ)) H := hP
    have hD : va_D A (zw_M cI μ 2 σ (κ)) := hD
    have hw : r_6 = 0 := hw
    subst hw
    have hP9 := hP
    have hD9 := hD
    exact W.iret (v := 0) hx hb hr (fun t ht hW => ⟨⟨0, (), rfl, trivial, by rw [ht]; exact hP9, va_K.moved hW.alike hK, hD9⟩, hS.F ht⟩) hS.2.2 dX4_advise_33
  · exact absurd (zsail_k hC hk) c_2

set_option maxHeartbeats 4000000 in
set_option maxRecDepth 100000 in
theorem b_X4_shift1 (l : Launch) (D : va_G) (cI : ClassId) (μ : Nat → Nat) (th : Int32) (σ : zS) (κ : Nat → Int32) (v v2 : Int32) {nb ns h : Nat} (hC : zC σ nb ns h) (hv : ¬ f_sail σ v) : zMI l yX4_shift wsX4_shift ({ frames := 2, cells := 0, slots := 0, locals := 43 }) [.ref (μ 0), .int v, .int v2] D [(cI, .int)] (zw_M cI μ th σ (κ)) (zw_M cI μ 1 σ (κ)) (fun _ => True) := by
  intro sz
  refine Met.ofW (cc := cX4_shift) (maxL := 4) (ret := (some .int)) (by decide) rfl ?_
  intro p e s m args below meth c s₁ B hml hv
  obtain ⟨rfl, hsz, hP, hK, hD⟩ := hv
  have hx := B.exec
  have hb := B.bytes
  have hr := B.returns
  have hts := atoms_spec (ws := wsX4_shift) B.pre
  have hown : s.vm.findClass RX4 = some m.cls := findClass_of_methodNamed B.named
  have hlocks := B.notSynchronized
  subst hsz
  have hD := hD.self (sz := s.heap.size)
  generalize hAe : va_A (zw_M cI μ th σ (κ)) s.heap.size = A at hD ⊢
  have hA : ∀ q : Nat, s.heap.size ≤ q → A q := fun q h => by rw [← hAe]; exact Or.inr h
  have hS : va_S A s.heap s.heap [] := va_S.rf
  have hP : va_P D vwCl (zw_M cI μ th σ (κ)) s.heap := hP
  have hl := lv_entry ([.ref (μ 0), .int v, .int v2]) (n := 4) (Nat.le_of_ble_eq_true rfl)
  rw [lg_entry_eq]
  generalize (lg_sl ([.ref (μ 0), .int v, .int v2]) ++ List.replicate (4 - (lg_sl ([.ref (μ 0), .int v, .int v2])).length) Slot.unset).toArray = ls at hl ⊢
  have hl : lv_has ls 4 [(0, .ref (μ 0)), (1, .int v), (2, .int v2)] := hl
  have hf25 := hts (.fieldLink RX4 25 "HotBedsModel" "thrown" "I") (by decide +kernel)
  have hinX4 : ∀ w ∈ u_ws RX4 TX4 8, w ∈ wsX4_shift := by decide +kernel
  have hnb := hC.2.1
  have hns := hC.2.2.2.1
  have hh := hC.2.2.2.2.2.1
  refine lv_aload_n hx hb dX4_shift_0 rfl (lv_at hl 0 rfl) ?_
  refine lv_iconst (v := 0) hx hb dX4_shift_1 (by decide) ?_
  refine va_put (D := D) (ci := 4) (v := .int 0) (ty := .int) (C := RX4) (T := TX4) (N := 8) hx hb hts hinX4 tyX4 tyX4_ok nmX4 hown hK hP hD hS 0 rfl rfl 0 (by decide) hf25 (fun _ h9 => h9)  rfl (by decide +kernel) rfl rfl (Nat.le_of_ble_eq_true rfl) dX4_shift_2 (fun H locs hP hD hS => ?_)
  have hP : va_P D vwCl (zw_M cI μ 0 σ (κ)) H := hP
  have hD : va_D A (zw_M cI μ 0 σ (κ)) := hD
  refine lv_aload_n hx hb dX4_shift_5 rfl (lv_at hl 0 rfl) ?_
  refine lv_iload_n hx hb dX4_shift_6 rfl (lv_at hl 1 rfl) ?_
  refine zk_R (D := D) (va_runV (As := [.int v]) (rest := []) ⟨hx, hb, hml, hown, hts⟩ (c_X4_isSailor l D cI μ 0 σ (κ) v hC _) (cwV 1 hts gX4_shift_X4_isSailor rfl rfl rfl zdX4_isSailor ⟨Nat.le_of_ble_eq_true rfl, Nat.le_of_ble_eq_true rfl⟩) ⟨zbl _, va_recv hK hP (ci := 4) (q0 := 0) rfl rfl, zpr hK hP hD⟩ rfl rfl hl.1 rfl (lv_room (Nat.le_of_ble_eq_true rfl)) dX4_shift_7 ⟨Nat.zero_le _, Nat.zero_le _⟩) hS (fun r_1 H locs hw hkp hS => ?_)
  have hP := hkp _ hP
  have hw : zb (f_sail σ v) r_1 := hw
  rcases hw with ⟨c_2, rfl⟩ | ⟨c_2, rfl⟩
  · exact absurd c_2 (hv)
  · refine lv_if_eq (tgt := 22) hx hb dX4_shift_10 (by decide) (fun _ => ?_) (fun c => absurd (by decide) c)
    refine lv_aload_n hx hb dX4_shift_22 rfl (lv_at hl 0 rfl) ?_
    refine lv_iconst (v := 1) hx hb dX4_shift_23 (by decide) ?_
    have hF := zfree hD hS hA
    refine zk_I (va_runV (As := [.int 1]) (rest := []) ⟨hx, hb, hml, hown, hts⟩ (c_X4_fail l D cI μ 0 σ (κ) 1 _) (cwV 1 hts gX4_shift_X4_fail rfl rfl rfl zdX4_fail ⟨Nat.le_of_ble_eq_true rfl, Nat.le_of_ble_eq_true rfl⟩) ⟨zbl _, va_recv hK hP (ci := 4) (q0 := 0) rfl rfl, zpr hK hP hD⟩ rfl rfl hl.1 rfl (lv_room (Nat.le_of_ble_eq_true rfl)) dX4_shift_24 ⟨Nat.zero_le _, Nat.zero_le _⟩) hS hF (fun r_4 H locs hw hkp hP1 hD1 hS => ?_)
    have hP := hP1
    have hD := hD1.weaken (fun _ _ _ z => hF _ z)
    have hP : va_P D vwCl (zw_M cI μ 1 σ (κ)) H := hP
    have hD : va_D A (zw_M cI μ 1 σ (κ)) := hD
    have hw : r_4 = 0 := hw
    subst hw
    have hP9 := hP
    have hD9 := hD
    exact W.iret (v := 0) hx hb hr (fun t ht hW => ⟨⟨0, (), rfl, trivial, by rw [ht]; exact hP9, va_K.moved hW.alike hK, hD9⟩, hS.F ht⟩) hS.2.2 dX4_shift_27

set_option maxHeartbeats 4000000 in
set_option maxRecDepth 100000 in
theorem b_X4_shift2 (l : Launch) (D : va_G) (cI : ClassId) (μ : Nat → Nat) (th : Int32) (σ : zS) (κ : Nat → Int32) {k : Nat} {nb ns h : Nat} (hC : zC σ nb ns h) (hk : k < ns) (v : Int32) (hv : ¬ (¬ v < 0 ∧ v < 3)) : zMI l yX4_shift wsX4_shift ({ frames := 2, cells := 0, slots := 0, locals := 43 }) [.ref (μ 0), .int (nI k), .int v] D [(cI, .int)] (zw_M cI μ th σ (κ)) (zw_M cI μ 1 σ (κ)) (fun _ => True) := by
  intro sz
  refine Met.ofW (cc := cX4_shift) (maxL := 4) (ret := (some .int)) (by decide) rfl ?_
  intro p e s m args below meth c s₁ B hml hv
  obtain ⟨rfl, hsz, hP, hK, hD⟩ := hv
  have hx := B.exec
  have hb := B.bytes
  have hr := B.returns
  have hts := atoms_spec (ws := wsX4_shift) B.pre
  have hown : s.vm.findClass RX4 = some m.cls := findClass_of_methodNamed B.named
  have hlocks := B.notSynchronized
  subst hsz
  have hD := hD.self (sz := s.heap.size)
  generalize hAe : va_A (zw_M cI μ th σ (κ)) s.heap.size = A at hD ⊢
  have hA : ∀ q : Nat, s.heap.size ≤ q → A q := fun q h => by rw [← hAe]; exact Or.inr h
  have hS : va_S A s.heap s.heap [] := va_S.rf
  have hP : va_P D vwCl (zw_M cI μ th σ (κ)) s.heap := hP
  have hl := lv_entry ([.ref (μ 0), .int (nI k), .int v]) (n := 4) (Nat.le_of_ble_eq_true rfl)
  rw [lg_entry_eq]
  generalize (lg_sl ([.ref (μ 0), .int (nI k), .int v]) ++ List.replicate (4 - (lg_sl ([.ref (μ 0), .int (nI k), .int v])).length) Slot.unset).toArray = ls at hl ⊢
  have hl : lv_has ls 4 [(0, .ref (μ 0)), (1, .int (nI k)), (2, .int v)] := hl
  have hf25 := hts (.fieldLink RX4 25 "HotBedsModel" "thrown" "I") (by decide +kernel)
  have hinX4 : ∀ w ∈ u_ws RX4 TX4 8, w ∈ wsX4_shift := by decide +kernel
  have hnb := hC.2.1
  have hns := hC.2.2.2.1
  have hh := hC.2.2.2.2.2.1
  refine lv_aload_n hx hb dX4_shift_0 rfl (lv_at hl 0 rfl) ?_
  refine lv_iconst (v := 0) hx hb dX4_shift_1 (by decide) ?_
  refine va_put (D := D) (ci := 4) (v := .int 0) (ty := .int) (C := RX4) (T := TX4) (N := 8) hx hb hts hinX4 tyX4 tyX4_ok nmX4 hown hK hP hD hS 0 rfl rfl 0 (by decide) hf25 (fun _ h9 => h9)  rfl (by decide +kernel) rfl rfl (Nat.le_of_ble_eq_true rfl) dX4_shift_2 (fun H locs hP hD hS => ?_)
  have hP : va_P D vwCl (zw_M cI μ 0 σ (κ)) H := hP
  have hD : va_D A (zw_M cI μ 0 σ (κ)) := hD
  refine lv_aload_n hx hb dX4_shift_5 rfl (lv_at hl 0 rfl) ?_
  refine lv_iload_n hx hb dX4_shift_6 rfl (lv_at hl 1 rfl) ?_
  refine zk_R (D := D) (va_runV (As := [.int (nI k)]) (rest := []) ⟨hx, hb, hml, hown, hts⟩ (c_X4_isSailor l D cI μ 0 σ (κ) (nI k) hC _) (cwV 1 hts gX4_shift_X4_isSailor rfl rfl rfl zdX4_isSailor ⟨Nat.le_of_ble_eq_true rfl, Nat.le_of_ble_eq_true rfl⟩) ⟨zbl _, va_recv hK hP (ci := 4) (q0 := 0) rfl rfl, zpr hK hP hD⟩ rfl rfl hl.1 rfl (lv_room (Nat.le_of_ble_eq_true rfl)) dX4_shift_7 ⟨Nat.zero_le _, Nat.zero_le _⟩) hS (fun r_1 H locs hw hkp hS => ?_)
  have hP := hkp _ hP
  have hw : zb (f_sail σ (nI k)) r_1 := hw
  rcases hw with ⟨c_2, rfl⟩ | ⟨c_2, rfl⟩
  · refine lv_if_eq (tgt := 22) hx hb dX4_shift_10 (by decide) (fun c => absurd c (by decide)) (fun _ => ?_)
    refine lv_iload_n hx hb dX4_shift_13 rfl (lv_at hl 2 rfl) ?_
    refine lv_iconst (v := 0) hx hb dX4_shift_14 (by decide) ?_
    refine lv_iconst (v := 2) hx hb dX4_shift_15 (by decide) ?_
    refine zk_R (D := D) (va_runS (As := [.int v, .int 0, .int 2]) (rest := []) ⟨hx, hb, hml, hown, hts⟩ (c_X4_isIn l D cI v 0 2 _) (va_cwS 3 hts gX4_shift_X4_isIn rfl rfl rfl zdX4_isIn.2 ⟨Nat.le_of_ble_eq_true rfl, Nat.le_of_ble_eq_true rfl⟩) ⟨zbl _, zpr hK zP0 (zD0 (A := fun _ => True))⟩ rfl rfl hl.1 rfl (lv_room (Nat.le_of_ble_eq_true rfl)) dX4_shift_16 ⟨Nat.zero_le _, Nat.zero_le _⟩) hS (fun r_4 H locs hw hkp hS => ?_)
    have hP := hkp _ hP
    have hw : zb (¬ v < 0 ∧ ¬ 2 < v) r_4 := hw
    rcases hw with ⟨c_5, rfl⟩ | ⟨c_5, rfl⟩
    · exact absurd c_5 (fun z => hv ⟨z.1, zn_w3.mpr z.2⟩)
    · refine lv_if_ne (tgt := 28) hx hb dX4_shift_19 (by decide) (fun c => absurd (by decide) c) (fun _ => ?_)
      refine lv_aload_n hx hb dX4_shift_22 rfl (lv_at hl 0 rfl) ?_
      refine lv_iconst (v := 1) hx hb dX4_shift_23 (by decide) ?_
      have hF := zfree hD hS hA
      refine zk_I (va_runV (As := [.int 1]) (rest := []) ⟨hx, hb, hml, hown, hts⟩ (c_X4_fail l D cI μ 0 σ (κ) 1 _) (cwV 1 hts gX4_shift_X4_fail rfl rfl rfl zdX4_fail ⟨Nat.le_of_ble_eq_true rfl, Nat.le_of_ble_eq_true rfl⟩) ⟨zbl _, va_recv hK hP (ci := 4) (q0 := 0) rfl rfl, zpr hK hP hD⟩ rfl rfl hl.1 rfl (lv_room (Nat.le_of_ble_eq_true rfl)) dX4_shift_24 ⟨Nat.zero_le _, Nat.zero_le _⟩) hS hF (fun r_7 H locs hw hkp hP1 hD1 hS => ?_)
      have hP := hP1
      have hD := hD1.weaken (fun _ _ _ z => hF _ z)
      have hP : va_P D vwCl (zw_M cI μ 1 σ (κ)) H := hP
      have hD : va_D A (zw_M cI μ 1 σ (κ)) := hD
      have hw : r_7 = 0 := hw
      subst hw
      have hP9 := hP
      have hD9 := hD
      exact W.iret (v := 0) hx hb hr (fun t ht hW => ⟨⟨0, (), rfl, trivial, by rw [ht]; exact hP9, va_K.moved hW.alike hK, hD9⟩, hS.F ht⟩) hS.2.2 dX4_shift_27
  · exact absurd (zsail_k hC hk) c_2

set_option maxHeartbeats 4000000 in
set_option maxRecDepth 100000 in
theorem b_X4_shift3 (l : Launch) (D : va_G) (cI : ClassId) (μ : Nat → Nat) (th : Int32) (σ : zS) (κ : Nat → Int32) {k : Nat} {nb ns h : Nat} (hC : zC σ nb ns h) (hk : k < ns) (v : Int32) (hw1 : ¬ v < 0) (hw2 : v < 3) (hup : ¬ σ 12 k = 0) : zMI l yX4_shift wsX4_shift ({ frames := 2, cells := 0, slots := 0, locals := 43 }) [.ref (μ 0), .int (nI k), .int v] D [(cI, .int)] (zw_M cI μ th σ (κ)) (zw_M cI μ 2 σ (κ)) (fun _ => True) := by
  intro sz
  refine Met.ofW (cc := cX4_shift) (maxL := 4) (ret := (some .int)) (by decide) rfl ?_
  intro p e s m args below meth c s₁ B hml hv
  obtain ⟨rfl, hsz, hP, hK, hD⟩ := hv
  have hx := B.exec
  have hb := B.bytes
  have hr := B.returns
  have hts := atoms_spec (ws := wsX4_shift) B.pre
  have hown : s.vm.findClass RX4 = some m.cls := findClass_of_methodNamed B.named
  have hlocks := B.notSynchronized
  subst hsz
  have hD := hD.self (sz := s.heap.size)
  generalize hAe : va_A (zw_M cI μ th σ (κ)) s.heap.size = A at hD ⊢
  have hA : ∀ q : Nat, s.heap.size ≤ q → A q := fun q h => by rw [← hAe]; exact Or.inr h
  have hS : va_S A s.heap s.heap [] := va_S.rf
  have hP : va_P D vwCl (zw_M cI μ th σ (κ)) s.heap := hP
  have hl := lv_entry ([.ref (μ 0), .int (nI k), .int v]) (n := 4) (Nat.le_of_ble_eq_true rfl)
  rw [lg_entry_eq]
  generalize (lg_sl ([.ref (μ 0), .int (nI k), .int v]) ++ List.replicate (4 - (lg_sl ([.ref (μ 0), .int (nI k), .int v])).length) Slot.unset).toArray = ls at hl ⊢
  have hl : lv_has ls 4 [(0, .ref (μ 0)), (1, .int (nI k)), (2, .int v)] := hl
  have hf25 := hts (.fieldLink RX4 25 "HotBedsModel" "thrown" "I") (by decide +kernel)
  have hinX4 : ∀ w ∈ u_ws RX4 TX4 8, w ∈ wsX4_shift := by decide +kernel
  have hnb := hC.2.1
  have hns := hC.2.2.2.1
  have hh := hC.2.2.2.2.2.1
  refine lv_aload_n hx hb dX4_shift_0 rfl (lv_at hl 0 rfl) ?_
  refine lv_iconst (v := 0) hx hb dX4_shift_1 (by decide) ?_
  refine va_put (D := D) (ci := 4) (v := .int 0) (ty := .int) (C := RX4) (T := TX4) (N := 8) hx hb hts hinX4 tyX4 tyX4_ok nmX4 hown hK hP hD hS 0 rfl rfl 0 (by decide) hf25 (fun _ h9 => h9)  rfl (by decide +kernel) rfl rfl (Nat.le_of_ble_eq_true rfl) dX4_shift_2 (fun H locs hP hD hS => ?_)
  have hP : va_P D vwCl (zw_M cI μ 0 σ (κ)) H := hP
  have hD : va_D A (zw_M cI μ 0 σ (κ)) := hD
  refine lv_aload_n hx hb dX4_shift_5 rfl (lv_at hl 0 rfl) ?_
  refine lv_iload_n hx hb dX4_shift_6 rfl (lv_at hl 1 rfl) ?_
  refine zk_R (D := D) (va_runV (As := [.int (nI k)]) (rest := []) ⟨hx, hb, hml, hown, hts⟩ (c_X4_isSailor l D cI μ 0 σ (κ) (nI k) hC _) (cwV 1 hts gX4_shift_X4_isSailor rfl rfl rfl zdX4_isSailor ⟨Nat.le_of_ble_eq_true rfl, Nat.le_of_ble_eq_true rfl⟩) ⟨zbl _, va_recv hK hP (ci := 4) (q0 := 0) rfl rfl, zpr hK hP hD⟩ rfl rfl hl.1 rfl (lv_room (Nat.le_of_ble_eq_true rfl)) dX4_shift_7 ⟨Nat.zero_le _, Nat.zero_le _⟩) hS (fun r_1 H locs hw hkp hS => ?_)
  have hP := hkp _ hP
  have hw : zb (f_sail σ (nI k)) r_1 := hw
  rcases hw with ⟨c_2, rfl⟩ | ⟨c_2, rfl⟩
  · refine lv_if_eq (tgt := 22) hx hb dX4_shift_10 (by decide) (fun c => absurd c (by decide)) (fun _ => ?_)
    refine lv_iload_n hx hb dX4_shift_13 rfl (lv_at hl 2 rfl) ?_
    refine lv_iconst (v := 0) hx hb dX4_shift_14 (by decide) ?_
    refine lv_iconst (v := 2) hx hb dX4_shift_15 (by decide) ?_
    refine zk_R (D := D) (va_runS (As := [.int v, .int 0, .int 2]) (rest := []) ⟨hx, hb, hml, hown, hts⟩ (c_X4_isIn l D cI v 0 2 _) (va_cwS 3 hts gX4_shift_X4_isIn rfl rfl rfl zdX4_isIn.2 ⟨Nat.le_of_ble_eq_true rfl, Nat.le_of_ble_eq_true rfl⟩) ⟨zbl _, zpr hK zP0 (zD0 (A := fun _ => True))⟩ rfl rfl hl.1 rfl (lv_room (Nat.le_of_ble_eq_true rfl)) dX4_shift_16 ⟨Nat.zero_le _, Nat.zero_le _⟩) hS (fun r_4 H locs hw hkp hS => ?_)
    have hP := hkp _ hP
    have hw : zb (¬ v < 0 ∧ ¬ 2 < v) r_4 := hw
    rcases hw with ⟨c_5, rfl⟩ | ⟨c_5, rfl⟩
    · refine lv_if_ne (tgt := 28) hx hb dX4_shift_19 (by decide) (fun _ => ?_) (fun c => absurd c (by decide))
      refine lv_aload_n hx hb dX4_shift_28 rfl (lv_at hl 0 rfl) ?_
      refine lv_iload_n hx hb dX4_shift_29 rfl (lv_at hl 1 rfl) ?_
      refine lv_iconst (v := 4) hx hb dX4_shift_30 (by decide) ?_
      refine zk_R (D := D) (va_runV (As := [.int (nI k), .int 4]) (rest := []) ⟨hx, hb, hml, hown, hts⟩ (c_X4_sa l D cI μ 0 σ (κ) (k := k) (w := 4) (by omega) (by decide) _) (cwV 2 hts gX4_shift_X4_sa rfl rfl rfl zdX4_sa ⟨Nat.le_of_ble_eq_true rfl, Nat.le_of_ble_eq_true rfl⟩) ⟨zbl _, va_recv hK hP (ci := 4) (q0 := 0) rfl rfl, zpr hK hP hD⟩ rfl rfl hl.1 rfl (lv_room (Nat.le_of_ble_eq_true rfl)) dX4_shift_31 ⟨Nat.zero_le _, Nat.zero_le _⟩) hS (fun r_7 H locs hw hkp hS => ?_)
      have hP := hkp _ hP
      have hw : r_7 = σ 12 k := hw
      subst hw
      refine lv_if_eq (tgt := 43) hx hb dX4_shift_34 (by decide) (fun c => absurd c (hup)) (fun _ => ?_)
      refine lv_aload_n hx hb dX4_shift_37 rfl (lv_at hl 0 rfl) ?_
      refine lv_iconst (v := 2) hx hb dX4_shift_38 (by decide) ?_
      have hF := zfree hD hS hA
      refine zk_I (va_runV (As := [.int 2]) (rest := []) ⟨hx, hb, hml, hown, hts⟩ (c_X4_fail l D cI μ 0 σ (κ) 2 _) (cwV 1 hts gX4_shift_X4_fail rfl rfl rfl zdX4_fail ⟨Nat.le_of_ble_eq_true rfl, Nat.le_of_ble_eq_true rfl⟩) ⟨zbl _, va_recv hK hP (ci := 4) (q0 := 0) rfl rfl, zpr hK hP hD⟩ rfl rfl hl.1 rfl (lv_room (Nat.le_of_ble_eq_true rfl)) dX4_shift_39 ⟨Nat.zero_le _, Nat.zero_le _⟩) hS hF (fun r_9 H locs hw hkp hP1 hD1 hS => ?_)
      have hP := hP1
      have hD := hD1.weaken (fun _ _ _ z => hF _ z)
      have hP : va_P D vwCl (zw_M cI μ 2 σ (κ)) H := hP
      have hD : va_D A (zw_M cI μ 2 σ (κ)) := hD
      have hw : r_9 = 0 := hw
      subst hw
      have hP9 := hP
      have hD9 := hD
      exact W.iret (v := 0) hx hb hr (fun t ht hW => ⟨⟨0, (), rfl, trivial, by rw [ht]; exact hP9, va_K.moved hW.alike hK, hD9⟩, hS.F ht⟩) hS.2.2 dX4_shift_42
    · exact absurd (⟨hw1, zn_w3.mp hw2⟩) c_5
  · exact absurd (zsail_k hC hk) c_2

set_option maxHeartbeats 4000000 in
set_option maxRecDepth 100000 in
theorem b_X4_pass (l : Launch) (D : va_G) (cI : ClassId) (μ : Nat → Nat) (th : Int32) (σ : zS) (κ : Nat → Int32) (v : Int32) (hv : ¬ (¬ v < 1 ∧ v ≤ 72)) : zMI l yX4_pass wsX4_pass ({ frames := 1, cells := 0, slots := 0, locals := 22 }) [.ref (μ 0), .int v] D [(cI, .int)] (zw_M cI μ th σ (κ)) (zw_M cI μ 1 σ (κ)) (fun _ => True) := by
  intro sz
  refine Met.ofW (cc := cX4_pass) (maxL := 3) (ret := (some .int)) (by decide) rfl ?_
  intro p e s m args below meth c s₁ B hml hv
  obtain ⟨rfl, hsz, hP, hK, hD⟩ := hv
  have hx := B.exec
  have hb := B.bytes
  have hr := B.returns
  have hts := atoms_spec (ws := wsX4_pass) B.pre
  have hown : s.vm.findClass RX4 = some m.cls := findClass_of_methodNamed B.named
  have hlocks := B.notSynchronized
  subst hsz
  have hD := hD.self (sz := s.heap.size)
  generalize hAe : va_A (zw_M cI μ th σ (κ)) s.heap.size = A at hD ⊢
  have hA : ∀ q : Nat, s.heap.size ≤ q → A q := fun q h => by rw [← hAe]; exact Or.inr h
  have hS : va_S A s.heap s.heap [] := va_S.rf
  have hP : va_P D vwCl (zw_M cI μ th σ (κ)) s.heap := hP
  have hl := lv_entry ([.ref (μ 0), .int v]) (n := 3) (Nat.le_of_ble_eq_true rfl)
  rw [lg_entry_eq]
  generalize (lg_sl ([.ref (μ 0), .int v]) ++ List.replicate (3 - (lg_sl ([.ref (μ 0), .int v])).length) Slot.unset).toArray = ls at hl ⊢
  have hl : lv_has ls 3 [(0, .ref (μ 0)), (1, .int v)] := hl
  have hf25 := hts (.fieldLink RX4 25 "HotBedsModel" "thrown" "I") (by decide +kernel)
  have hinX4 : ∀ w ∈ u_ws RX4 TX4 8, w ∈ wsX4_pass := by decide +kernel
  refine lv_aload_n hx hb dX4_pass_0 rfl (lv_at hl 0 rfl) ?_
  refine lv_iconst (v := 0) hx hb dX4_pass_1 (by decide) ?_
  refine va_put (D := D) (ci := 4) (v := .int 0) (ty := .int) (C := RX4) (T := TX4) (N := 8) hx hb hts hinX4 tyX4 tyX4_ok nmX4 hown hK hP hD hS 0 rfl rfl 0 (by decide) hf25 (fun _ h9 => h9)  rfl (by decide +kernel) rfl rfl (Nat.le_of_ble_eq_true rfl) dX4_pass_2 (fun H locs hP hD hS => ?_)
  have hP : va_P D vwCl (zw_M cI μ 0 σ (κ)) H := hP
  have hD : va_D A (zw_M cI μ 0 σ (κ)) := hD
  refine lv_iload_n hx hb dX4_pass_5 rfl (lv_at hl 1 rfl) ?_
  refine lv_iconst (v := 1) hx hb dX4_pass_6 (by decide) ?_
  refine lv_bipush (v := 72) hx hb dX4_pass_7 (by decide) ?_
  refine zk_R (D := D) (va_runS (As := [.int v, .int 1, .int 72]) (rest := []) ⟨hx, hb, hml, hown, hts⟩ (c_X4_isIn l D cI v 1 72 _) (va_cwS 3 hts gX4_pass_X4_isIn rfl rfl rfl zdX4_isIn.2 ⟨Nat.le_of_ble_eq_true rfl, Nat.le_of_ble_eq_true rfl⟩) ⟨zbl _, zpr hK zP0 (zD0 (A := fun _ => True))⟩ rfl rfl hl.1 rfl (lv_room (Nat.le_of_ble_eq_true rfl)) dX4_pass_9 ⟨Nat.zero_le _, Nat.zero_le _⟩) hS (fun r_1 H locs hw hkp hS => ?_)
  have hP := hkp _ hP
  have hw : zb (¬ v < 1 ∧ ¬ 72 < v) r_1 := hw
  rcases hw with ⟨c_2, rfl⟩ | ⟨c_2, rfl⟩
  · exact absurd c_2 (fun z => hv ⟨z.1, Int32.not_lt.mp z.2⟩)
  · refine lv_if_ne (tgt := 21) hx hb dX4_pass_12 (by decide) (fun c => absurd (by decide) c) (fun _ => ?_)
    refine lv_aload_n hx hb dX4_pass_15 rfl (lv_at hl 0 rfl) ?_
    refine lv_iconst (v := 1) hx hb dX4_pass_16 (by decide) ?_
    have hF := zfree hD hS hA
    refine zk_I (va_runV (As := [.int 1]) (rest := []) ⟨hx, hb, hml, hown, hts⟩ (c_X4_fail l D cI μ 0 σ (κ) 1 _) (cwV 1 hts gX4_pass_X4_fail rfl rfl rfl zdX4_fail ⟨Nat.le_of_ble_eq_true rfl, Nat.le_of_ble_eq_true rfl⟩) ⟨zbl _, va_recv hK hP (ci := 4) (q0 := 0) rfl rfl, zpr hK hP hD⟩ rfl rfl hl.1 rfl (lv_room (Nat.le_of_ble_eq_true rfl)) dX4_pass_17 ⟨Nat.zero_le _, Nat.zero_le _⟩) hS hF (fun r_4 H locs hw hkp hP1 hD1 hS => ?_)
    have hP := hP1
    have hD := hD1.weaken (fun _ _ _ z => hF _ z)
    have hP : va_P D vwCl (zw_M cI μ 1 σ (κ)) H := hP
    have hD : va_D A (zw_M cI μ 1 σ (κ)) := hD
    have hw : r_4 = 0 := hw
    subst hw
    have hP9 := hP
    have hD9 := hD
    exact W.iret (v := 0) hx hb hr (fun t ht hW => ⟨⟨0, (), rfl, trivial, by rw [ht]; exact hP9, va_K.moved hW.alike hK, hD9⟩, hS.F ht⟩) hS.2.2 dX4_pass_20

set_option maxHeartbeats 4000000 in
set_option maxRecDepth 100000 in
theorem b_X4_told1 (l : Launch) (D : va_G) (cI : ClassId) (μ : Nat → Nat) (th : Int32) (σ : zS) (κ : Nat → Int32) (v v2 : Int32) {nb ns h : Nat} (hC : zC σ nb ns h) (hv : ¬ f_sail σ v) : zMI l yX4_told wsX4_told ({ frames := 2, cells := 0, slots := 0, locals := 43 }) [.ref (μ 0), .int v, .int v2] D [(cI, .int)] (zw_M cI μ th σ (κ)) (zw_M cI μ 1 σ (κ)) (fun _ => True) := by
  intro sz
  refine Met.ofW (cc := cX4_told) (maxL := 3) (ret := (some .int)) (by decide) rfl ?_
  intro p e s m args below meth c s₁ B hml hv
  obtain ⟨rfl, hsz, hP, hK, hD⟩ := hv
  have hx := B.exec
  have hb := B.bytes
  have hr := B.returns
  have hts := atoms_spec (ws := wsX4_told) B.pre
  have hown : s.vm.findClass RX4 = some m.cls := findClass_of_methodNamed B.named
  have hlocks := B.notSynchronized
  subst hsz
  have hD := hD.self (sz := s.heap.size)
  generalize hAe : va_A (zw_M cI μ th σ (κ)) s.heap.size = A at hD ⊢
  have hA : ∀ q : Nat, s.heap.size ≤ q → A q := fun q h => by rw [← hAe]; exact Or.inr h
  have hS : va_S A s.heap s.heap [] := va_S.rf
  have hP : va_P D vwCl (zw_M cI μ th σ (κ)) s.heap := hP
  have hl := lv_entry ([.ref (μ 0), .int v, .int v2]) (n := 3) (Nat.le_of_ble_eq_true rfl)
  rw [lg_entry_eq]
  generalize (lg_sl ([.ref (μ 0), .int v, .int v2]) ++ List.replicate (3 - (lg_sl ([.ref (μ 0), .int v, .int v2])).length) Slot.unset).toArray = ls at hl ⊢
  have hl : lv_has ls 3 [(0, .ref (μ 0)), (1, .int v), (2, .int v2)] := hl
  have hf25 := hts (.fieldLink RX4 25 "HotBedsModel" "thrown" "I") (by decide +kernel)
  have hinX4 : ∀ w ∈ u_ws RX4 TX4 8, w ∈ wsX4_told := by decide +kernel
  have hnb := hC.2.1
  have hns := hC.2.2.2.1
  have hh := hC.2.2.2.2.2.1
  refine lv_aload_n hx hb dX4_told_0 rfl (lv_at hl 0 rfl) ?_
  refine lv_iconst (v := 0) hx hb dX4_told_1 (by decide) ?_
  refine va_put (D := D) (ci := 4) (v := .int 0) (ty := .int) (C := RX4) (T := TX4) (N := 8) hx hb hts hinX4 tyX4 tyX4_ok nmX4 hown hK hP hD hS 0 rfl rfl 0 (by decide) hf25 (fun _ h9 => h9)  rfl (by decide +kernel) rfl rfl (Nat.le_of_ble_eq_true rfl) dX4_told_2 (fun H locs hP hD hS => ?_)
  have hP : va_P D vwCl (zw_M cI μ 0 σ (κ)) H := hP
  have hD : va_D A (zw_M cI μ 0 σ (κ)) := hD
  refine lv_aload_n hx hb dX4_told_5 rfl (lv_at hl 0 rfl) ?_
  refine lv_iload_n hx hb dX4_told_6 rfl (lv_at hl 1 rfl) ?_
  refine zk_R (D := D) (va_runV (As := [.int v]) (rest := []) ⟨hx, hb, hml, hown, hts⟩ (c_X4_isSailor l D cI μ 0 σ (κ) v hC _) (cwV 1 hts gX4_told_X4_isSailor rfl rfl rfl zdX4_isSailor ⟨Nat.le_of_ble_eq_true rfl, Nat.le_of_ble_eq_true rfl⟩) ⟨zbl _, va_recv hK hP (ci := 4) (q0 := 0) rfl rfl, zpr hK hP hD⟩ rfl rfl hl.1 rfl (lv_room (Nat.le_of_ble_eq_true rfl)) dX4_told_7 ⟨Nat.zero_le _, Nat.zero_le _⟩) hS (fun r_1 H locs hw hkp hS => ?_)
  have hP := hkp _ hP
  have hw : zb (f_sail σ v) r_1 := hw
  rcases hw with ⟨c_2, rfl⟩ | ⟨c_2, rfl⟩
  · exact absurd c_2 (hv)
  · refine lv_if_eq (tgt := 32) hx hb dX4_told_10 (by decide) (fun _ => ?_) (fun c => absurd (by decide) c)
    refine lv_aload_n hx hb dX4_told_32 rfl (lv_at hl 0 rfl) ?_
    refine lv_iconst (v := 1) hx hb dX4_told_33 (by decide) ?_
    have hF := zfree hD hS hA
    refine zk_I (va_runV (As := [.int 1]) (rest := []) ⟨hx, hb, hml, hown, hts⟩ (c_X4_fail l D cI μ 0 σ (κ) 1 _) (cwV 1 hts gX4_told_X4_fail rfl rfl rfl zdX4_fail ⟨Nat.le_of_ble_eq_true rfl, Nat.le_of_ble_eq_true rfl⟩) ⟨zbl _, va_recv hK hP (ci := 4) (q0 := 0) rfl rfl, zpr hK hP hD⟩ rfl rfl hl.1 rfl (lv_room (Nat.le_of_ble_eq_true rfl)) dX4_told_34 ⟨Nat.zero_le _, Nat.zero_le _⟩) hS hF (fun r_4 H locs hw hkp hP1 hD1 hS => ?_)
    have hP := hP1
    have hD := hD1.weaken (fun _ _ _ z => hF _ z)
    have hP : va_P D vwCl (zw_M cI μ 1 σ (κ)) H := hP
    have hD : va_D A (zw_M cI μ 1 σ (κ)) := hD
    have hw : r_4 = 0 := hw
    subst hw
    have hP9 := hP
    have hD9 := hD
    exact W.iret (v := 0) hx hb hr (fun t ht hW => ⟨⟨0, (), rfl, trivial, by rw [ht]; exact hP9, va_K.moved hW.alike hK, hD9⟩, hS.F ht⟩) hS.2.2 dX4_told_37

set_option maxHeartbeats 4000000 in
set_option maxRecDepth 100000 in
theorem b_X4_told2 (l : Launch) (D : va_G) (cI : ClassId) (μ : Nat → Nat) (th : Int32) (σ : zS) (κ : Nat → Int32) {k : Nat} {nb ns h : Nat} (hC : zC σ nb ns h) (hk : k < ns) (v : Int32) (hv : v.toInt < 0 ∨ 10 < v.toInt) : zMI l yX4_told wsX4_told ({ frames := 2, cells := 0, slots := 0, locals := 43 }) [.ref (μ 0), .int (nI k), .int v] D [(cI, .int)] (zw_M cI μ th σ (κ)) (zw_M cI μ 1 σ (κ)) (fun _ => True) := by
  intro sz
  refine Met.ofW (cc := cX4_told) (maxL := 3) (ret := (some .int)) (by decide) rfl ?_
  intro p e s m args below meth c s₁ B hml hv
  obtain ⟨rfl, hsz, hP, hK, hD⟩ := hv
  have hx := B.exec
  have hb := B.bytes
  have hr := B.returns
  have hts := atoms_spec (ws := wsX4_told) B.pre
  have hown : s.vm.findClass RX4 = some m.cls := findClass_of_methodNamed B.named
  have hlocks := B.notSynchronized
  subst hsz
  have hD := hD.self (sz := s.heap.size)
  generalize hAe : va_A (zw_M cI μ th σ (κ)) s.heap.size = A at hD ⊢
  have hA : ∀ q : Nat, s.heap.size ≤ q → A q := fun q h => by rw [← hAe]; exact Or.inr h
  have hS : va_S A s.heap s.heap [] := va_S.rf
  have hP : va_P D vwCl (zw_M cI μ th σ (κ)) s.heap := hP
  have hl := lv_entry ([.ref (μ 0), .int (nI k), .int v]) (n := 3) (Nat.le_of_ble_eq_true rfl)
  rw [lg_entry_eq]
  generalize (lg_sl ([.ref (μ 0), .int (nI k), .int v]) ++ List.replicate (3 - (lg_sl ([.ref (μ 0), .int (nI k), .int v])).length) Slot.unset).toArray = ls at hl ⊢
  have hl : lv_has ls 3 [(0, .ref (μ 0)), (1, .int (nI k)), (2, .int v)] := hl
  have hf25 := hts (.fieldLink RX4 25 "HotBedsModel" "thrown" "I") (by decide +kernel)
  have hinX4 : ∀ w ∈ u_ws RX4 TX4 8, w ∈ wsX4_told := by decide +kernel
  have hnb := hC.2.1
  have hns := hC.2.2.2.1
  have hh := hC.2.2.2.2.2.1
  refine lv_aload_n hx hb dX4_told_0 rfl (lv_at hl 0 rfl) ?_
  refine lv_iconst (v := 0) hx hb dX4_told_1 (by decide) ?_
  refine va_put (D := D) (ci := 4) (v := .int 0) (ty := .int) (C := RX4) (T := TX4) (N := 8) hx hb hts hinX4 tyX4 tyX4_ok nmX4 hown hK hP hD hS 0 rfl rfl 0 (by decide) hf25 (fun _ h9 => h9)  rfl (by decide +kernel) rfl rfl (Nat.le_of_ble_eq_true rfl) dX4_told_2 (fun H locs hP hD hS => ?_)
  have hP : va_P D vwCl (zw_M cI μ 0 σ (κ)) H := hP
  have hD : va_D A (zw_M cI μ 0 σ (κ)) := hD
  refine lv_aload_n hx hb dX4_told_5 rfl (lv_at hl 0 rfl) ?_
  refine lv_iload_n hx hb dX4_told_6 rfl (lv_at hl 1 rfl) ?_
  refine zk_R (D := D) (va_runV (As := [.int (nI k)]) (rest := []) ⟨hx, hb, hml, hown, hts⟩ (c_X4_isSailor l D cI μ 0 σ (κ) (nI k) hC _) (cwV 1 hts gX4_told_X4_isSailor rfl rfl rfl zdX4_isSailor ⟨Nat.le_of_ble_eq_true rfl, Nat.le_of_ble_eq_true rfl⟩) ⟨zbl _, va_recv hK hP (ci := 4) (q0 := 0) rfl rfl, zpr hK hP hD⟩ rfl rfl hl.1 rfl (lv_room (Nat.le_of_ble_eq_true rfl)) dX4_told_7 ⟨Nat.zero_le _, Nat.zero_le _⟩) hS (fun r_1 H locs hw hkp hS => ?_)
  have hP := hkp _ hP
  have hw : zb (f_sail σ (nI k)) r_1 := hw
  rcases hw with ⟨c_2, rfl⟩ | ⟨c_2, rfl⟩
  · refine lv_if_eq (tgt := 32) hx hb dX4_told_10 (by decide) (fun c => absurd c (by decide)) (fun _ => ?_)
    refine lv_iload_n hx hb dX4_told_13 rfl (lv_at hl 2 rfl) ?_
    refine lv_iconst (v := 0) hx hb dX4_told_14 (by decide) ?_
    refine lv_bipush (v := 10) hx hb dX4_told_15 (by decide) ?_
    refine zk_R (D := D) (va_runS (As := [.int v, .int 0, .int 10]) (rest := []) ⟨hx, hb, hml, hown, hts⟩ (c_X4_isIn l D cI v 0 10 _) (va_cwS 3 hts gX4_told_X4_isIn rfl rfl rfl zdX4_isIn.2 ⟨Nat.le_of_ble_eq_true rfl, Nat.le_of_ble_eq_true rfl⟩) ⟨zbl _, zpr hK zP0 (zD0 (A := fun _ => True))⟩ rfl rfl hl.1 rfl (lv_room (Nat.le_of_ble_eq_true rfl)) dX4_told_17 ⟨Nat.zero_le _, Nat.zero_le _⟩) hS (fun r_4 H locs hw hkp hS => ?_)
    have hP := hkp _ hP
    have hw : zb (¬ v < 0 ∧ ¬ 10 < v) r_4 := hw
    rcases hw with ⟨c_5, rfl⟩ | ⟨c_5, rfl⟩
    · exact absurd c_5 (zout (n := 10) (by decide) hv)
    · refine lv_if_eq (tgt := 32) hx hb dX4_told_20 (by decide) (fun _ => ?_) (fun c => absurd (by decide) c)
      refine lv_aload_n hx hb dX4_told_32 rfl (lv_at hl 0 rfl) ?_
      refine lv_iconst (v := 1) hx hb dX4_told_33 (by decide) ?_
      have hF := zfree hD hS hA
      refine zk_I (va_runV (As := [.int 1]) (rest := []) ⟨hx, hb, hml, hown, hts⟩ (c_X4_fail l D cI μ 0 σ (κ) 1 _) (cwV 1 hts gX4_told_X4_fail rfl rfl rfl zdX4_fail ⟨Nat.le_of_ble_eq_true rfl, Nat.le_of_ble_eq_true rfl⟩) ⟨zbl _, va_recv hK hP (ci := 4) (q0 := 0) rfl rfl, zpr hK hP hD⟩ rfl rfl hl.1 rfl (lv_room (Nat.le_of_ble_eq_true rfl)) dX4_told_34 ⟨Nat.zero_le _, Nat.zero_le _⟩) hS hF (fun r_7 H locs hw hkp hP1 hD1 hS => ?_)
      have hP := hP1
      have hD := hD1.weaken (fun _ _ _ z => hF _ z)
      have hP : va_P D vwCl (zw_M cI μ 1 σ (κ)) H := hP
      have hD : va_D A (zw_M cI μ 1 σ (κ)) := hD
      have hw : r_7 = 0 := hw
      subst hw
      have hP9 := hP
      have hD9 := hD
      exact W.iret (v := 0) hx hb hr (fun t ht hW => ⟨⟨0, (), rfl, trivial, by rw [ht]; exact hP9, va_K.moved hW.alike hK, hD9⟩, hS.F ht⟩) hS.2.2 dX4_told_37
  · exact absurd (zsail_k hC hk) c_2

set_option maxHeartbeats 4000000 in
set_option maxRecDepth 100000 in
theorem b_X4_about1 (l : Launch) (D : va_G) (cI : ClassId) (μ : Nat → Nat) (th : Int32) (σ : zS) (κ : Nat → Int32) (v v2 : Int32) {nb ns h : Nat} (hC : zC σ nb ns h) (hv : ¬ f_has σ v) : zMI l yX4_about wsX4_about ({ frames := 2, cells := 0, slots := 0, locals := 43 }) [.ref (μ 0), .int v, .int v2] D [(cI, .int)] (zw_M cI μ th σ (κ)) (zw_M cI μ 1 σ (κ)) (fun _ => True) := by
  intro sz
  refine Met.ofW (cc := cX4_about) (maxL := 3) (ret := (some .int)) (by decide) rfl ?_
  intro p e s m args below meth c s₁ B hml hv
  obtain ⟨rfl, hsz, hP, hK, hD⟩ := hv
  have hx := B.exec
  have hb := B.bytes
  have hr := B.returns
  have hts := atoms_spec (ws := wsX4_about) B.pre
  have hown : s.vm.findClass RX4 = some m.cls := findClass_of_methodNamed B.named
  have hlocks := B.notSynchronized
  subst hsz
  have hD := hD.self (sz := s.heap.size)
  generalize hAe : va_A (zw_M cI μ th σ (κ)) s.heap.size = A at hD ⊢
  have hA : ∀ q : Nat, s.heap.size ≤ q → A q := fun q h => by rw [← hAe]; exact Or.inr h
  have hS : va_S A s.heap s.heap [] := va_S.rf
  have hP : va_P D vwCl (zw_M cI μ th σ (κ)) s.heap := hP
  have hl := lv_entry ([.ref (μ 0), .int v, .int v2]) (n := 3) (Nat.le_of_ble_eq_true rfl)
  rw [lg_entry_eq]
  generalize (lg_sl ([.ref (μ 0), .int v, .int v2]) ++ List.replicate (3 - (lg_sl ([.ref (μ 0), .int v, .int v2])).length) Slot.unset).toArray = ls at hl ⊢
  have hl : lv_has ls 3 [(0, .ref (μ 0)), (1, .int v), (2, .int v2)] := hl
  have hf25 := hts (.fieldLink RX4 25 "HotBedsModel" "thrown" "I") (by decide +kernel)
  have hinX4 : ∀ w ∈ u_ws RX4 TX4 8, w ∈ wsX4_about := by decide +kernel
  have hnb := hC.2.1
  have hns := hC.2.2.2.1
  have hh := hC.2.2.2.2.2.1
  refine lv_aload_n hx hb dX4_about_0 rfl (lv_at hl 0 rfl) ?_
  refine lv_iconst (v := 0) hx hb dX4_about_1 (by decide) ?_
  refine va_put (D := D) (ci := 4) (v := .int 0) (ty := .int) (C := RX4) (T := TX4) (N := 8) hx hb hts hinX4 tyX4 tyX4_ok nmX4 hown hK hP hD hS 0 rfl rfl 0 (by decide) hf25 (fun _ h9 => h9)  rfl (by decide +kernel) rfl rfl (Nat.le_of_ble_eq_true rfl) dX4_about_2 (fun H locs hP hD hS => ?_)
  have hP : va_P D vwCl (zw_M cI μ 0 σ (κ)) H := hP
  have hD : va_D A (zw_M cI μ 0 σ (κ)) := hD
  refine lv_aload_n hx hb dX4_about_5 rfl (lv_at hl 0 rfl) ?_
  refine lv_iload_n hx hb dX4_about_6 rfl (lv_at hl 1 rfl) ?_
  refine zk_R (D := D) (va_runV (As := [.int v]) (rest := []) ⟨hx, hb, hml, hown, hts⟩ (c_X4_isBed l D cI μ 0 σ (κ) v hC _) (cwV 1 hts gX4_about_X4_isBed rfl rfl rfl zdX4_isBed ⟨Nat.le_of_ble_eq_true rfl, Nat.le_of_ble_eq_true rfl⟩) ⟨zbl _, va_recv hK hP (ci := 4) (q0 := 0) rfl rfl, zpr hK hP hD⟩ rfl rfl hl.1 rfl (lv_room (Nat.le_of_ble_eq_true rfl)) dX4_about_7 ⟨Nat.zero_le _, Nat.zero_le _⟩) hS (fun r_1 H locs hw hkp hS => ?_)
  have hP := hkp _ hP
  have hw : zb (f_has σ v) r_1 := hw
  rcases hw with ⟨c_2, rfl⟩ | ⟨c_2, rfl⟩
  · exact absurd c_2 (hv)
  · refine lv_if_eq (tgt := 31) hx hb dX4_about_10 (by decide) (fun _ => ?_) (fun c => absurd (by decide) c)
    refine lv_aload_n hx hb dX4_about_31 rfl (lv_at hl 0 rfl) ?_
    refine lv_iconst (v := 1) hx hb dX4_about_32 (by decide) ?_
    have hF := zfree hD hS hA
    refine zk_I (va_runV (As := [.int 1]) (rest := []) ⟨hx, hb, hml, hown, hts⟩ (c_X4_fail l D cI μ 0 σ (κ) 1 _) (cwV 1 hts gX4_about_X4_fail rfl rfl rfl zdX4_fail ⟨Nat.le_of_ble_eq_true rfl, Nat.le_of_ble_eq_true rfl⟩) ⟨zbl _, va_recv hK hP (ci := 4) (q0 := 0) rfl rfl, zpr hK hP hD⟩ rfl rfl hl.1 rfl (lv_room (Nat.le_of_ble_eq_true rfl)) dX4_about_33 ⟨Nat.zero_le _, Nat.zero_le _⟩) hS hF (fun r_4 H locs hw hkp hP1 hD1 hS => ?_)
    have hP := hP1
    have hD := hD1.weaken (fun _ _ _ z => hF _ z)
    have hP : va_P D vwCl (zw_M cI μ 1 σ (κ)) H := hP
    have hD : va_D A (zw_M cI μ 1 σ (κ)) := hD
    have hw : r_4 = 0 := hw
    subst hw
    have hP9 := hP
    have hD9 := hD
    exact W.iret (v := 0) hx hb hr (fun t ht hW => ⟨⟨0, (), rfl, trivial, by rw [ht]; exact hP9, va_K.moved hW.alike hK, hD9⟩, hS.F ht⟩) hS.2.2 dX4_about_36

set_option maxHeartbeats 4000000 in
set_option maxRecDepth 100000 in
theorem b_X4_about2 (l : Launch) (D : va_G) (cI : ClassId) (μ : Nat → Nat) (th : Int32) (σ : zS) (κ : Nat → Int32) {k : Nat} {nb ns h : Nat} (hC : zC σ nb ns h) (hkb : k < nb) (v : Int32) (hv : v.toInt < 0 ∨ 4 < v.toInt) : zMI l yX4_about wsX4_about ({ frames := 2, cells := 0, slots := 0, locals := 43 }) [.ref (μ 0), .int (nI k), .int v] D [(cI, .int)] (zw_M cI μ th σ (κ)) (zw_M cI μ 1 σ (κ)) (fun _ => True) := by
  intro sz
  refine Met.ofW (cc := cX4_about) (maxL := 3) (ret := (some .int)) (by decide) rfl ?_
  intro p e s m args below meth c s₁ B hml hv
  obtain ⟨rfl, hsz, hP, hK, hD⟩ := hv
  have hx := B.exec
  have hb := B.bytes
  have hr := B.returns
  have hts := atoms_spec (ws := wsX4_about) B.pre
  have hown : s.vm.findClass RX4 = some m.cls := findClass_of_methodNamed B.named
  have hlocks := B.notSynchronized
  subst hsz
  have hD := hD.self (sz := s.heap.size)
  generalize hAe : va_A (zw_M cI μ th σ (κ)) s.heap.size = A at hD ⊢
  have hA : ∀ q : Nat, s.heap.size ≤ q → A q := fun q h => by rw [← hAe]; exact Or.inr h
  have hS : va_S A s.heap s.heap [] := va_S.rf
  have hP : va_P D vwCl (zw_M cI μ th σ (κ)) s.heap := hP
  have hl := lv_entry ([.ref (μ 0), .int (nI k), .int v]) (n := 3) (Nat.le_of_ble_eq_true rfl)
  rw [lg_entry_eq]
  generalize (lg_sl ([.ref (μ 0), .int (nI k), .int v]) ++ List.replicate (3 - (lg_sl ([.ref (μ 0), .int (nI k), .int v])).length) Slot.unset).toArray = ls at hl ⊢
  have hl : lv_has ls 3 [(0, .ref (μ 0)), (1, .int (nI k)), (2, .int v)] := hl
  have hf25 := hts (.fieldLink RX4 25 "HotBedsModel" "thrown" "I") (by decide +kernel)
  have hinX4 : ∀ w ∈ u_ws RX4 TX4 8, w ∈ wsX4_about := by decide +kernel
  have hnb := hC.2.1
  have hns := hC.2.2.2.1
  have hh := hC.2.2.2.2.2.1
  refine lv_aload_n hx hb dX4_about_0 rfl (lv_at hl 0 rfl) ?_
  refine lv_iconst (v := 0) hx hb dX4_about_1 (by decide) ?_
  refine va_put (D := D) (ci := 4) (v := .int 0) (ty := .int) (C := RX4) (T := TX4) (N := 8) hx hb hts hinX4 tyX4 tyX4_ok nmX4 hown hK hP hD hS 0 rfl rfl 0 (by decide) hf25 (fun _ h9 => h9)  rfl (by decide +kernel) rfl rfl (Nat.le_of_ble_eq_true rfl) dX4_about_2 (fun H locs hP hD hS => ?_)
  have hP : va_P D vwCl (zw_M cI μ 0 σ (κ)) H := hP
  have hD : va_D A (zw_M cI μ 0 σ (κ)) := hD
  refine lv_aload_n hx hb dX4_about_5 rfl (lv_at hl 0 rfl) ?_
  refine lv_iload_n hx hb dX4_about_6 rfl (lv_at hl 1 rfl) ?_
  refine zk_R (D := D) (va_runV (As := [.int (nI k)]) (rest := []) ⟨hx, hb, hml, hown, hts⟩ (c_X4_isBed l D cI μ 0 σ (κ) (nI k) hC _) (cwV 1 hts gX4_about_X4_isBed rfl rfl rfl zdX4_isBed ⟨Nat.le_of_ble_eq_true rfl, Nat.le_of_ble_eq_true rfl⟩) ⟨zbl _, va_recv hK hP (ci := 4) (q0 := 0) rfl rfl, zpr hK hP hD⟩ rfl rfl hl.1 rfl (lv_room (Nat.le_of_ble_eq_true rfl)) dX4_about_7 ⟨Nat.zero_le _, Nat.zero_le _⟩) hS (fun r_1 H locs hw hkp hS => ?_)
  have hP := hkp _ hP
  have hw : zb (f_has σ (nI k)) r_1 := hw
  rcases hw with ⟨c_2, rfl⟩ | ⟨c_2, rfl⟩
  · refine lv_if_eq (tgt := 31) hx hb dX4_about_10 (by decide) (fun c => absurd c (by decide)) (fun _ => ?_)
    refine lv_iload_n hx hb dX4_about_13 rfl (lv_at hl 2 rfl) ?_
    refine lv_iconst (v := 0) hx hb dX4_about_14 (by decide) ?_
    refine lv_iconst (v := 4) hx hb dX4_about_15 (by decide) ?_
    refine zk_R (D := D) (va_runS (As := [.int v, .int 0, .int 4]) (rest := []) ⟨hx, hb, hml, hown, hts⟩ (c_X4_isIn l D cI v 0 4 _) (va_cwS 3 hts gX4_about_X4_isIn rfl rfl rfl zdX4_isIn.2 ⟨Nat.le_of_ble_eq_true rfl, Nat.le_of_ble_eq_true rfl⟩) ⟨zbl _, zpr hK zP0 (zD0 (A := fun _ => True))⟩ rfl rfl hl.1 rfl (lv_room (Nat.le_of_ble_eq_true rfl)) dX4_about_16 ⟨Nat.zero_le _, Nat.zero_le _⟩) hS (fun r_4 H locs hw hkp hS => ?_)
    have hP := hkp _ hP
    have hw : zb (¬ v < 0 ∧ ¬ 4 < v) r_4 := hw
    rcases hw with ⟨c_5, rfl⟩ | ⟨c_5, rfl⟩
    · exact absurd c_5 (zout (n := 4) (by decide) hv)
    · refine lv_if_eq (tgt := 31) hx hb dX4_about_19 (by decide) (fun _ => ?_) (fun c => absurd (by decide) c)
      refine lv_aload_n hx hb dX4_about_31 rfl (lv_at hl 0 rfl) ?_
      refine lv_iconst (v := 1) hx hb dX4_about_32 (by decide) ?_
      have hF := zfree hD hS hA
      refine zk_I (va_runV (As := [.int 1]) (rest := []) ⟨hx, hb, hml, hown, hts⟩ (c_X4_fail l D cI μ 0 σ (κ) 1 _) (cwV 1 hts gX4_about_X4_fail rfl rfl rfl zdX4_fail ⟨Nat.le_of_ble_eq_true rfl, Nat.le_of_ble_eq_true rfl⟩) ⟨zbl _, va_recv hK hP (ci := 4) (q0 := 0) rfl rfl, zpr hK hP hD⟩ rfl rfl hl.1 rfl (lv_room (Nat.le_of_ble_eq_true rfl)) dX4_about_33 ⟨Nat.zero_le _, Nat.zero_le _⟩) hS hF (fun r_7 H locs hw hkp hP1 hD1 hS => ?_)
      have hP := hP1
      have hD := hD1.weaken (fun _ _ _ z => hF _ z)
      have hP : va_P D vwCl (zw_M cI μ 1 σ (κ)) H := hP
      have hD : va_D A (zw_M cI μ 1 σ (κ)) := hD
      have hw : r_7 = 0 := hw
      subst hw
      have hP9 := hP
      have hD9 := hD
      exact W.iret (v := 0) hx hb hr (fun t ht hW => ⟨⟨0, (), rfl, trivial, by rw [ht]; exact hP9, va_K.moved hW.alike hK, hD9⟩, hS.F ht⟩) hS.2.2 dX4_about_36
  · exact absurd (zhas_k hC hkb) c_2

set_option maxHeartbeats 4000000 in
set_option maxRecDepth 100000 in
theorem b_X4_count (l : Launch) (D : va_G) (cI : ClassId) (μ : Nat → Nat) (th : Int32) (σ : zS) (κ : Nat → Int32) (v : Int32) (hv : v.toInt < 0 ∨ 9 < v.toInt) : zMI l yX4_count wsX4_count ({ frames := 1, cells := 0, slots := 0, locals := 22 }) [.ref (μ 0), .int v] D [(cI, .int)] (zw_M cI μ th σ (κ)) (zw_M cI μ 1 σ (κ)) (fun _ => True) := by
  intro sz
  refine Met.ofW (cc := cX4_count) (maxL := 2) (ret := (some .int)) (by decide) rfl ?_
  intro p e s m args below meth c s₁ B hml hv
  obtain ⟨rfl, hsz, hP, hK, hD⟩ := hv
  have hx := B.exec
  have hb := B.bytes
  have hr := B.returns
  have hts := atoms_spec (ws := wsX4_count) B.pre
  have hown : s.vm.findClass RX4 = some m.cls := findClass_of_methodNamed B.named
  have hlocks := B.notSynchronized
  subst hsz
  have hD := hD.self (sz := s.heap.size)
  generalize hAe : va_A (zw_M cI μ th σ (κ)) s.heap.size = A at hD ⊢
  have hA : ∀ q : Nat, s.heap.size ≤ q → A q := fun q h => by rw [← hAe]; exact Or.inr h
  have hS : va_S A s.heap s.heap [] := va_S.rf
  have hP : va_P D vwCl (zw_M cI μ th σ (κ)) s.heap := hP
  have hl := lv_entry ([.ref (μ 0), .int v]) (n := 2) (Nat.le_of_ble_eq_true rfl)
  rw [lg_entry_eq]
  generalize (lg_sl ([.ref (μ 0), .int v]) ++ List.replicate (2 - (lg_sl ([.ref (μ 0), .int v])).length) Slot.unset).toArray = ls at hl ⊢
  have hl : lv_has ls 2 [(0, .ref (μ 0)), (1, .int v)] := hl
  have hf25 := hts (.fieldLink RX4 25 "HotBedsModel" "thrown" "I") (by decide +kernel)
  have hinX4 : ∀ w ∈ u_ws RX4 TX4 8, w ∈ wsX4_count := by decide +kernel
  refine lv_aload_n hx hb dX4_count_0 rfl (lv_at hl 0 rfl) ?_
  refine lv_iconst (v := 0) hx hb dX4_count_1 (by decide) ?_
  refine va_put (D := D) (ci := 4) (v := .int 0) (ty := .int) (C := RX4) (T := TX4) (N := 8) hx hb hts hinX4 tyX4 tyX4_ok nmX4 hown hK hP hD hS 0 rfl rfl 0 (by decide) hf25 (fun _ h9 => h9)  rfl (by decide +kernel) rfl rfl (Nat.le_of_ble_eq_true rfl) dX4_count_2 (fun H locs hP hD hS => ?_)
  have hP : va_P D vwCl (zw_M cI μ 0 σ (κ)) H := hP
  have hD : va_D A (zw_M cI μ 0 σ (κ)) := hD
  refine lv_iload_n hx hb dX4_count_5 rfl (lv_at hl 1 rfl) ?_
  refine lv_iconst (v := 0) hx hb dX4_count_6 (by decide) ?_
  refine lv_bipush (v := 9) hx hb dX4_count_7 (by decide) ?_
  refine zk_R (D := D) (va_runS (As := [.int v, .int 0, .int 9]) (rest := []) ⟨hx, hb, hml, hown, hts⟩ (c_X4_isIn l D cI v 0 9 _) (va_cwS 3 hts gX4_count_X4_isIn rfl rfl rfl zdX4_isIn.2 ⟨Nat.le_of_ble_eq_true rfl, Nat.le_of_ble_eq_true rfl⟩) ⟨zbl _, zpr hK zP0 (zD0 (A := fun _ => True))⟩ rfl rfl hl.1 rfl (lv_room (Nat.le_of_ble_eq_true rfl)) dX4_count_9 ⟨Nat.zero_le _, Nat.zero_le _⟩) hS (fun r_1 H locs hw hkp hS => ?_)
  have hP := hkp _ hP
  have hw : zb (¬ v < 0 ∧ ¬ 9 < v) r_1 := hw
  rcases hw with ⟨c_2, rfl⟩ | ⟨c_2, rfl⟩
  · exact absurd c_2 (zout (n := 9) (by decide) hv)
  · refine lv_if_eq (tgt := 23) hx hb dX4_count_12 (by decide) (fun _ => ?_) (fun c => absurd (by decide) c)
    refine lv_aload_n hx hb dX4_count_23 rfl (lv_at hl 0 rfl) ?_
    refine lv_iconst (v := 1) hx hb dX4_count_24 (by decide) ?_
    have hF := zfree hD hS hA
    refine zk_I (va_runV (As := [.int 1]) (rest := []) ⟨hx, hb, hml, hown, hts⟩ (c_X4_fail l D cI μ 0 σ (κ) 1 _) (cwV 1 hts gX4_count_X4_fail rfl rfl rfl zdX4_fail ⟨Nat.le_of_ble_eq_true rfl, Nat.le_of_ble_eq_true rfl⟩) ⟨zbl _, va_recv hK hP (ci := 4) (q0 := 0) rfl rfl, zpr hK hP hD⟩ rfl rfl hl.1 rfl (lv_room (Nat.le_of_ble_eq_true rfl)) dX4_count_25 ⟨Nat.zero_le _, Nat.zero_le _⟩) hS hF (fun r_4 H locs hw hkp hP1 hD1 hS => ?_)
    have hP := hP1
    have hD := hD1.weaken (fun _ _ _ z => hF _ z)
    have hP : va_P D vwCl (zw_M cI μ 1 σ (κ)) H := hP
    have hD : va_D A (zw_M cI μ 1 σ (κ)) := hD
    have hw : r_4 = 0 := hw
    subst hw
    have hP9 := hP
    have hD9 := hD
    exact W.iret (v := 0) hx hb hr (fun t ht hW => ⟨⟨0, (), rfl, trivial, by rw [ht]; exact hP9, va_K.moved hW.alike hK, hD9⟩, hS.F ht⟩) hS.2.2 dX4_count_28

set_option maxHeartbeats 4000000 in
set_option maxRecDepth 100000 in
theorem b_X4_would1 (l : Launch) (D : va_G) (cI : ClassId) (μ : Nat → Nat) (th : Int32) (σ : zS) (κ : Nat → Int32) (v v2 : Int32) {nb ns h : Nat} (hC : zC σ nb ns h) (hv : ¬ f_sail σ v) : zMI l yX4_would wsX4_would ({ frames := 2, cells := 0, slots := 0, locals := 43 }) [.ref (μ 0), .int v, .int v2] D [(cI, .int)] (zw_M cI μ th σ (κ)) (zw_M cI μ 1 σ (κ)) (fun _ => True) := by
  intro sz
  refine Met.ofW (cc := cX4_would) (maxL := 5) (ret := (some .int)) (by decide) rfl ?_
  intro p e s m args below meth c s₁ B hml hv
  obtain ⟨rfl, hsz, hP, hK, hD⟩ := hv
  have hx := B.exec
  have hb := B.bytes
  have hr := B.returns
  have hts := atoms_spec (ws := wsX4_would) B.pre
  have hown : s.vm.findClass RX4 = some m.cls := findClass_of_methodNamed B.named
  have hlocks := B.notSynchronized
  subst hsz
  have hD := hD.self (sz := s.heap.size)
  generalize hAe : va_A (zw_M cI μ th σ (κ)) s.heap.size = A at hD ⊢
  have hA : ∀ q : Nat, s.heap.size ≤ q → A q := fun q h => by rw [← hAe]; exact Or.inr h
  have hS : va_S A s.heap s.heap [] := va_S.rf
  have hP : va_P D vwCl (zw_M cI μ th σ (κ)) s.heap := hP
  have hl := lv_entry ([.ref (μ 0), .int v, .int v2]) (n := 5) (Nat.le_of_ble_eq_true rfl)
  rw [lg_entry_eq]
  generalize (lg_sl ([.ref (μ 0), .int v, .int v2]) ++ List.replicate (5 - (lg_sl ([.ref (μ 0), .int v, .int v2])).length) Slot.unset).toArray = ls at hl ⊢
  have hl : lv_has ls 5 [(0, .ref (μ 0)), (1, .int v), (2, .int v2)] := hl
  have hf25 := hts (.fieldLink RX4 25 "HotBedsModel" "thrown" "I") (by decide +kernel)
  have hinX4 : ∀ w ∈ u_ws RX4 TX4 8, w ∈ wsX4_would := by decide +kernel
  have hnb := hC.2.1
  have hns := hC.2.2.2.1
  have hh := hC.2.2.2.2.2.1
  refine lv_aload_n hx hb dX4_would_0 rfl (lv_at hl 0 rfl) ?_
  refine lv_iconst (v := 0) hx hb dX4_would_1 (by decide) ?_
  refine va_put (D := D) (ci := 4) (v := .int 0) (ty := .int) (C := RX4) (T := TX4) (N := 8) hx hb hts hinX4 tyX4 tyX4_ok nmX4 hown hK hP hD hS 0 rfl rfl 0 (by decide) hf25 (fun _ h9 => h9)  rfl (by decide +kernel) rfl rfl (Nat.le_of_ble_eq_true rfl) dX4_would_2 (fun H locs hP hD hS => ?_)
  have hP : va_P D vwCl (zw_M cI μ 0 σ (κ)) H := hP
  have hD : va_D A (zw_M cI μ 0 σ (κ)) := hD
  refine lv_aload_n hx hb dX4_would_5 rfl (lv_at hl 0 rfl) ?_
  refine lv_iload_n hx hb dX4_would_6 rfl (lv_at hl 1 rfl) ?_
  refine zk_R (D := D) (va_runV (As := [.int v]) (rest := []) ⟨hx, hb, hml, hown, hts⟩ (c_X4_isSailor l D cI μ 0 σ (κ) v hC _) (cwV 1 hts gX4_would_X4_isSailor rfl rfl rfl zdX4_isSailor ⟨Nat.le_of_ble_eq_true rfl, Nat.le_of_ble_eq_true rfl⟩) ⟨zbl _, va_recv hK hP (ci := 4) (q0 := 0) rfl rfl, zpr hK hP hD⟩ rfl rfl hl.1 rfl (lv_room (Nat.le_of_ble_eq_true rfl)) dX4_would_7 ⟨Nat.zero_le _, Nat.zero_le _⟩) hS (fun r_1 H locs hw hkp hS => ?_)
  have hP := hkp _ hP
  have hw : zb (f_sail σ v) r_1 := hw
  rcases hw with ⟨c_2, rfl⟩ | ⟨c_2, rfl⟩
  · exact absurd c_2 (hv)
  · refine lv_if_ne (tgt := 19) hx hb dX4_would_10 (by decide) (fun c => absurd (by decide) c) (fun _ => ?_)
    refine lv_aload_n hx hb dX4_would_13 rfl (lv_at hl 0 rfl) ?_
    refine lv_iconst (v := 1) hx hb dX4_would_14 (by decide) ?_
    have hF := zfree hD hS hA
    refine zk_I (va_runV (As := [.int 1]) (rest := []) ⟨hx, hb, hml, hown, hts⟩ (c_X4_fail l D cI μ 0 σ (κ) 1 _) (cwV 1 hts gX4_would_X4_fail rfl rfl rfl zdX4_fail ⟨Nat.le_of_ble_eq_true rfl, Nat.le_of_ble_eq_true rfl⟩) ⟨zbl _, va_recv hK hP (ci := 4) (q0 := 0) rfl rfl, zpr hK hP hD⟩ rfl rfl hl.1 rfl (lv_room (Nat.le_of_ble_eq_true rfl)) dX4_would_15 ⟨Nat.zero_le _, Nat.zero_le _⟩) hS hF (fun r_4 H locs hw hkp hP1 hD1 hS => ?_)
    have hP := hP1
    have hD := hD1.weaken (fun _ _ _ z => hF _ z)
    have hP : va_P D vwCl (zw_M cI μ 1 σ (κ)) H := hP
    have hD : va_D A (zw_M cI μ 1 σ (κ)) := hD
    have hw : r_4 = 0 := hw
    subst hw
    have hP9 := hP
    have hD9 := hD
    exact W.iret (v := 0) hx hb hr (fun t ht hW => ⟨⟨0, (), rfl, trivial, by rw [ht]; exact hP9, va_K.moved hW.alike hK, hD9⟩, hS.F ht⟩) hS.2.2 dX4_would_18

set_option maxHeartbeats 4000000 in
set_option maxRecDepth 100000 in
theorem b_X4_would2 (l : Launch) (D : va_G) (cI : ClassId) (μ : Nat → Nat) (th : Int32) (σ : zS) (κ : Nat → Int32) {k : Nat} {nb ns h : Nat} (hC : zC σ nb ns h) (hk : k < ns) (v : Int32) (hv : ¬ (¬ v < 1 ∧ v ≤ 72)) : zMI l yX4_would wsX4_would ({ frames := 2, cells := 0, slots := 0, locals := 43 }) [.ref (μ 0), .int (nI k), .int v] D [(cI, .int)] (zw_M cI μ th σ (κ)) (zw_M cI μ 2 σ (κ)) (fun _ => True) := by
  intro sz
  refine Met.ofW (cc := cX4_would) (maxL := 5) (ret := (some .int)) (by decide) rfl ?_
  intro p e s m args below meth c s₁ B hml hv
  obtain ⟨rfl, hsz, hP, hK, hD⟩ := hv
  have hx := B.exec
  have hb := B.bytes
  have hr := B.returns
  have hts := atoms_spec (ws := wsX4_would) B.pre
  have hown : s.vm.findClass RX4 = some m.cls := findClass_of_methodNamed B.named
  have hlocks := B.notSynchronized
  subst hsz
  have hD := hD.self (sz := s.heap.size)
  generalize hAe : va_A (zw_M cI μ th σ (κ)) s.heap.size = A at hD ⊢
  have hA : ∀ q : Nat, s.heap.size ≤ q → A q := fun q h => by rw [← hAe]; exact Or.inr h
  have hS : va_S A s.heap s.heap [] := va_S.rf
  have hP : va_P D vwCl (zw_M cI μ th σ (κ)) s.heap := hP
  have hl := lv_entry ([.ref (μ 0), .int (nI k), .int v]) (n := 5) (Nat.le_of_ble_eq_true rfl)
  rw [lg_entry_eq]
  generalize (lg_sl ([.ref (μ 0), .int (nI k), .int v]) ++ List.replicate (5 - (lg_sl ([.ref (μ 0), .int (nI k), .int v])).length) Slot.unset).toArray = ls at hl ⊢
  have hl : lv_has ls 5 [(0, .ref (μ 0)), (1, .int (nI k)), (2, .int v)] := hl
  have hf25 := hts (.fieldLink RX4 25 "HotBedsModel" "thrown" "I") (by decide +kernel)
  have hinX4 : ∀ w ∈ u_ws RX4 TX4 8, w ∈ wsX4_would := by decide +kernel
  have hnb := hC.2.1
  have hns := hC.2.2.2.1
  have hh := hC.2.2.2.2.2.1
  refine lv_aload_n hx hb dX4_would_0 rfl (lv_at hl 0 rfl) ?_
  refine lv_iconst (v := 0) hx hb dX4_would_1 (by decide) ?_
  refine va_put (D := D) (ci := 4) (v := .int 0) (ty := .int) (C := RX4) (T := TX4) (N := 8) hx hb hts hinX4 tyX4 tyX4_ok nmX4 hown hK hP hD hS 0 rfl rfl 0 (by decide) hf25 (fun _ h9 => h9)  rfl (by decide +kernel) rfl rfl (Nat.le_of_ble_eq_true rfl) dX4_would_2 (fun H locs hP hD hS => ?_)
  have hP : va_P D vwCl (zw_M cI μ 0 σ (κ)) H := hP
  have hD : va_D A (zw_M cI μ 0 σ (κ)) := hD
  refine lv_aload_n hx hb dX4_would_5 rfl (lv_at hl 0 rfl) ?_
  refine lv_iload_n hx hb dX4_would_6 rfl (lv_at hl 1 rfl) ?_
  refine zk_R (D := D) (va_runV (As := [.int (nI k)]) (rest := []) ⟨hx, hb, hml, hown, hts⟩ (c_X4_isSailor l D cI μ 0 σ (κ) (nI k) hC _) (cwV 1 hts gX4_would_X4_isSailor rfl rfl rfl zdX4_isSailor ⟨Nat.le_of_ble_eq_true rfl, Nat.le_of_ble_eq_true rfl⟩) ⟨zbl _, va_recv hK hP (ci := 4) (q0 := 0) rfl rfl, zpr hK hP hD⟩ rfl rfl hl.1 rfl (lv_room (Nat.le_of_ble_eq_true rfl)) dX4_would_7 ⟨Nat.zero_le _, Nat.zero_le _⟩) hS (fun r_1 H locs hw hkp hS => ?_)
  have hP := hkp _ hP
  have hw : zb (f_sail σ (nI k)) r_1 := hw
  rcases hw with ⟨c_2, rfl⟩ | ⟨c_2, rfl⟩
  · refine lv_if_ne (tgt := 19) hx hb dX4_would_10 (by decide) (fun _ => ?_) (fun c => absurd c (by decide))
    refine lv_iload_n hx hb dX4_would_19 rfl (lv_at hl 2 rfl) ?_
    refine lv_iconst (v := 1) hx hb dX4_would_20 (by decide) ?_
    refine lv_bipush (v := 72) hx hb dX4_would_21 (by decide) ?_
    refine zk_R (D := D) (va_runS (As := [.int v, .int 1, .int 72]) (rest := []) ⟨hx, hb, hml, hown, hts⟩ (c_X4_isIn l D cI v 1 72 _) (va_cwS 3 hts gX4_would_X4_isIn rfl rfl rfl zdX4_isIn.2 ⟨Nat.le_of_ble_eq_true rfl, Nat.le_of_ble_eq_true rfl⟩) ⟨zbl _, zpr hK zP0 (zD0 (A := fun _ => True))⟩ rfl rfl hl.1 rfl (lv_room (Nat.le_of_ble_eq_true rfl)) dX4_would_23 ⟨Nat.zero_le _, Nat.zero_le _⟩) hS (fun r_4 H locs hw hkp hS => ?_)
    have hP := hkp _ hP
    have hw : zb (¬ v < 1 ∧ ¬ 72 < v) r_4 := hw
    rcases hw with ⟨c_5, rfl⟩ | ⟨c_5, rfl⟩
    · exact absurd c_5 (fun z => hv ⟨z.1, Int32.not_lt.mp z.2⟩)
    · refine lv_if_ne (tgt := 35) hx hb dX4_would_26 (by decide) (fun c => absurd (by decide) c) (fun _ => ?_)
      refine lv_aload_n hx hb dX4_would_29 rfl (lv_at hl 0 rfl) ?_
      refine lv_iconst (v := 2) hx hb dX4_would_30 (by decide) ?_
      have hF := zfree hD hS hA
      refine zk_I (va_runV (As := [.int 2]) (rest := []) ⟨hx, hb, hml, hown, hts⟩ (c_X4_fail l D cI μ 0 σ (κ) 2 _) (cwV 1 hts gX4_would_X4_fail rfl rfl rfl zdX4_fail ⟨Nat.le_of_ble_eq_true rfl, Nat.le_of_ble_eq_true rfl⟩) ⟨zbl _, va_recv hK hP (ci := 4) (q0 := 0) rfl rfl, zpr hK hP hD⟩ rfl rfl hl.1 rfl (lv_room (Nat.le_of_ble_eq_true rfl)) dX4_would_31 ⟨Nat.zero_le _, Nat.zero_le _⟩) hS hF (fun r_7 H locs hw hkp hP1 hD1 hS => ?_)
      have hP := hP1
      have hD := hD1.weaken (fun _ _ _ z => hF _ z)
      have hP : va_P D vwCl (zw_M cI μ 2 σ (κ)) H := hP
      have hD : va_D A (zw_M cI μ 2 σ (κ)) := hD
      have hw : r_7 = 0 := hw
      subst hw
      have hP9 := hP
      have hD9 := hD
      exact W.iret (v := 0) hx hb hr (fun t ht hW => ⟨⟨0, (), rfl, trivial, by rw [ht]; exact hP9, va_K.moved hW.alike hK, hD9⟩, hS.F ht⟩) hS.2.2 dX4_would_34
  · exact absurd (zsail_k hC hk) c_2

set_option maxHeartbeats 4000000 in
set_option maxRecDepth 100000 in
theorem c_X4_mean (l : Launch) (D : va_G) (cI : ClassId) (μ : Nat → Nat) (th : Int32) (σ : zS) (κ : Nat → Int32) {nb ns h : Nat} (hC : zC σ nb ns h) (sz : Nat) : MetD lw_cs l yX4_mean wsX4_mean ({ frames := 2, cells := 0, slots := 0, locals := 45 }) (va_Pc [.ref (μ 0)] (zPW D [(cI, .int)] (zw_M cI μ th σ (κ)) sz)) (va_Qd (fun (r : UInt64) (_ : Unit) => q_mean σ ns r) (fun _ t => zQW D [(cI, .int)] (zw_M cI μ 0 σ κ) (va_A (zw_M cI μ th σ (κ)) sz) t) (va_A (zw_M cI μ th σ (κ)) sz)) 0 0 (va_A (zw_M cI μ th σ (κ)) sz) := by
  refine MetD.ofW (cc := cX4_mean) (maxL := 1) (ret := (some .double)) (by decide) rfl ?_
  intro p e s m args below meth c s₁ B hml hv hd0
  obtain ⟨rfl, hsz, hP, hK, hD⟩ := hv
  have hx := B.exec
  have hb := B.bytes
  have hr := B.returns
  have hts0 := atoms_spec (ws := wsX4_mean) B.pre
  have hts := dr_words hts0 s.drawn
  have hown : s.vm.findClass RX4 = some m.cls := findClass_of_methodNamed B.named
  have hlocks := B.notSynchronized
  subst hsz
  have hD := hD.self (sz := s.heap.size)
  generalize hAe : va_A (zw_M cI μ th σ (κ)) s.heap.size = A at hD ⊢
  have hA : ∀ q : Nat, s.heap.size ≤ q → A q := fun q h => by rw [← hAe]; exact Or.inr h
  have hS : va_S A s.heap s.heap [] := va_S.rf
  have hP : va_P D vwCl (zw_M cI μ th σ (κ)) s.heap := hP
  have hl := lv_entry ([.ref (μ 0)]) (n := 1) (Nat.le_of_ble_eq_true rfl)
  rw [lg_entry_eq]
  generalize (lg_sl ([.ref (μ 0)]) ++ List.replicate (1 - (lg_sl ([.ref (μ 0)])).length) Slot.unset).toArray = ls at hl ⊢
  have hl : lv_has ls 1 [(0, .ref (μ 0))] := hl
  have hf25 := hts (.fieldLink RX4 25 "HotBedsModel" "thrown" "I") (by decide +kernel)
  have hf36 := hts (.fieldLink RX4 36 "HotBedsModel" "sailors" "I") (by decide +kernel)
  have hinX4 : ∀ w ∈ u_ws RX4 TX4 8, w ∈ wsX4_mean := by decide +kernel
  have hnb := hC.2.1
  have hns := hC.2.2.2.1
  have hh := hC.2.2.2.2.2.1
  refine lv_aload_n hx hb dX4_mean_0 rfl (lv_at hl 0 rfl) ?_
  refine lv_iconst (v := 0) hx hb dX4_mean_1 (by decide) ?_
  refine va_put (D := D) (ci := 4) (v := .int 0) (ty := .int) (C := RX4) (T := TX4) (N := 8) hx hb hts hinX4 tyX4 tyX4_ok nmX4 hown hK hP hD hS 0 rfl rfl 0 (by decide) hf25 (fun _ h9 => h9)  rfl (by decide +kernel) rfl rfl (Nat.le_of_ble_eq_true rfl) dX4_mean_2 (fun H locs hP hD hS => ?_)
  have hP : va_P D vwCl (zw_M cI μ 0 σ (κ)) H := hP
  have hD : va_D A (zw_M cI μ 0 σ (κ)) := hD
  refine lv_aload_n hx hb dX4_mean_5 rfl (lv_at hl 0 rfl) ?_
  refine va_get (D := D) (ci := 4) (v := .int (nI ns)) (C := RX4) (T := TX4) (N := 8) hx hb hts hinX4 hown hK hP 0 rfl rfl 2 (by decide) hf36 (fun _ h9 => h9) (congrArg (fun z => some (Value.int z)) hC.2.2.1) dX4_mean_6 ?_
  refine lv_if_ne (tgt := 16) hx hb dX4_mean_9 (by decide) (fun c_1 => ?_) (fun c_1 => ?_)
  · refine lv_aload_n hx hb dX4_mean_16 rfl (lv_at hl 0 rfl) ?_
    refine lv_bipush (v := 6) hx hb dX4_mean_17 (by decide) ?_
    refine zk_R (D := D) (va_runV (As := [.int 6]) (rest := []) ⟨hx, hb, hml, hown, hts⟩ (c_X4_sum l D cI μ 0 σ (κ) (w := 6) hC (by decide) _) (cwV 1 hts gX4_mean_X4_sum rfl rfl rfl zdX4_sum ⟨Nat.le_of_ble_eq_true rfl, Nat.le_of_ble_eq_true rfl⟩) ⟨zbl _, va_recv hK hP (ci := 4) (q0 := 0) rfl rfl, zpr hK hP hD⟩ rfl rfl hl.1 rfl (lv_room (Nat.le_of_ble_eq_true rfl)) dX4_mean_19 ⟨Nat.zero_le _, Nat.zero_le _⟩) hS (fun r_2 H locs hw hkp hS => ?_)
    have hP := hkp _ hP
    have hw : r_2 = f_sum (σ 14) ns := hw
    subst hw
    refine lv_i2d hx hb dX4_mean_22 ?_
    refine lv_aload_n hx hb dX4_mean_23 rfl (lv_at hl 0 rfl) ?_
    refine va_get (D := D) (ci := 4) (v := .int (nI ns)) (C := RX4) (T := TX4) (N := 8) hx hb hts hinX4 hown hK hP 0 rfl rfl 2 (by decide) hf36 (fun _ h9 => h9) (congrArg (fun z => some (Value.int z)) hC.2.2.1) dX4_mean_24 ?_
    refine lv_i2d hx hb dX4_mean_27 ?_
    refine lv_ddiv_any hd0 lw_bits hx hb dX4_mean_28 (fun r9 d1 hal hd1 => ?_)
    refine W.endD hd1 ?_
    exact W.dret hx hb hr (fun t ht hW => ⟨⟨r9, (), rfl, q_mean_1 (fun z => c_1 (by rw [z]; rfl)) hal, by rw [ht]; exact hP, va_K.moved hW.alike hK, hD⟩, hS.F ht⟩) hS.2.2 dX4_mean_29
  · refine lv_dconst0 hx hb dX4_mean_12 ?_
    refine lv_goto (tgt := 29) hx hb dX4_mean_13 (by decide) ?_
    refine W.endD hd0 ?_
    exact W.dret hx hb hr (fun t ht hW => ⟨⟨FP.dconst0, (), rfl, q_mean_0 ((nI_eq (b := 0) (by omega) (by decide)).mp c_1) rfl, by rw [ht]; exact hP, va_K.moved hW.alike hK, hD⟩, hS.F ht⟩) hS.2.2 dX4_mean_29
