set_option maxHeartbeats 4000000 in
set_option maxRecDepth 100000 in
theorem c_X4_thrown (l : Launch) (D : va_G) (cI : ClassId) (μ : Nat → Nat) (th : Int32) (σ : zS) (κ : Nat → Int32)  : zMR l yX4_thrown wsX4_thrown ({ frames := 0, cells := 0, slots := 0, locals := 0 }) [.ref (μ 0)] D [(cI, .int)] (zw_M cI μ th σ (κ)) (fun r => r = th) := by
  intro sz
  refine Met.ofW (cc := cX4_thrown) (maxL := 1) (ret := (some .int)) (by decide) rfl ?_
  intro p e s m args below meth c s₁ B hml hv
  obtain ⟨rfl, hsz, hP, hK, hD⟩ := hv
  have hx := B.exec
  have hb := B.bytes
  have hr := B.returns
  have hts := atoms_spec (ws := wsX4_thrown) B.pre
  have hown : s.vm.findClass RX4 = some m.cls := findClass_of_methodNamed B.named
  have hlocks := B.notSynchronized
  have hS : va_S (fun _ => False) s.heap s.heap [] := va_S.rf
  have hP : va_P D vwCl (zw_M cI μ th σ (κ)) s.heap := hP
  have hl := lv_entry ([.ref (μ 0)]) (n := 1) (Nat.le_of_ble_eq_true rfl)
  rw [lg_entry_eq]
  generalize (lg_sl ([.ref (μ 0)]) ++ List.replicate (1 - (lg_sl ([.ref (μ 0)])).length) Slot.unset).toArray = ls at hl ⊢
  have hl : lv_has ls 1 [(0, .ref (μ 0))] := hl
  have hf25 := hts (.fieldLink RX4 25 "HotBedsModel" "thrown" "I") (by decide +kernel)
  have hinX4 : ∀ w ∈ u_ws RX4 TX4 8, w ∈ wsX4_thrown := by decide +kernel
  refine lv_aload_n hx hb dX4_thrown_0 rfl (lv_at hl 0 rfl) ?_
  refine va_get (D := D) (ci := 4) (v := .int th) (C := RX4) (T := TX4) (N := 8) hx hb hts hinX4 hown hK hP 0 rfl rfl 0 (by decide) hf25 (fun _ h9 => h9) rfl dX4_thrown_1 ?_
  exact W.iret (v := th) hx hb hr (fun t ht hW => ⟨⟨th, (), rfl, rfl, trivial⟩, hS.F ht⟩) hS.2.2 dX4_thrown_4

set_option maxHeartbeats 4000000 in
set_option maxRecDepth 100000 in
theorem c_X4_fail (l : Launch) (D : va_G) (cI : ClassId) (μ : Nat → Nat) (th : Int32) (σ : zS) (κ : Nat → Int32) (v : Int32) : zMI l yX4_fail wsX4_fail ({ frames := 0, cells := 0, slots := 0, locals := 0 }) [.ref (μ 0), .int v] D [(cI, .int)] (zw_M cI μ th σ (κ)) (zw_M cI μ v σ (κ)) (fun r => r = 0) := by
  intro sz
  refine Met.ofW (cc := cX4_fail) (maxL := 2) (ret := (some .int)) (by decide) rfl ?_
  intro p e s m args below meth c s₁ B hml hv
  obtain ⟨rfl, hsz, hP, hK, hD⟩ := hv
  have hx := B.exec
  have hb := B.bytes
  have hr := B.returns
  have hts := atoms_spec (ws := wsX4_fail) B.pre
  have hown : s.vm.findClass RX4 = some m.cls := findClass_of_methodNamed B.named
  have hlocks := B.notSynchronized
  subst hsz
  have hD := hD.self (sz := s.heap.size)
  generalize hAe : va_A (zw_M cI μ th σ (κ)) s.heap.size = A at hD ⊢
  have hA : ∀ q : Nat, s.heap.size ≤ q → A q := fun q h => by rw [← hAe]; exact Or.inr h
  have hS : va_S A s.heap s.heap [] := va_S.rf
  have hP : va_P D vwCl (zw_M cI μ th σ (κ)) s.heap := hP
  have hl := lv_entry ([.ref (μ 0), .int v]) (n := 2) (Nat.le_of_ble_eq_true rfl)
  rw [lg_entry_eq]
  generalize (lg_sl ([.ref (μ 0), .int v]) ++ List.replicate (2 - (lg_sl ([.ref (μ 0), .int v])).length) Slot.unset).toArray = ls at hl ⊢
  have hl : lv_has ls 2 [(0, .ref (μ 0)), (1, .int v)] := hl
  have hf25 := hts (.fieldLink RX4 25 "HotBedsModel" "thrown" "I") (by decide +kernel)
  have hinX4 : ∀ w ∈ u_ws RX4 TX4 8, w ∈ wsX4_fail := by decide +kernel
  refine lv_aload_n hx hb dX4_fail_0 rfl (lv_at hl 0 rfl) ?_
  refine lv_iload_n hx hb dX4_fail_1 rfl (lv_at hl 1 rfl) ?_
  refine va_put (D := D) (ci := 4) (v := .int v) (ty := .int) (C := RX4) (T := TX4) (N := 8) hx hb hts hinX4 tyX4 tyX4_ok nmX4 hown hK hP hD hS 0 rfl rfl 0 (by decide) hf25 (fun _ h9 => h9)  rfl (by decide +kernel) rfl rfl (Nat.le_of_ble_eq_true rfl) dX4_fail_2 (fun H locs hP hD hS => ?_)
  have hP : va_P D vwCl (zw_M cI μ v σ (κ)) H := hP
  have hD : va_D A (zw_M cI μ v σ (κ)) := hD
  refine lv_iconst (v := 0) hx hb dX4_fail_5 (by decide) ?_
  have hP9 := hP
  have hD9 := hD
  exact W.iret (v := 0) hx hb hr (fun t ht hW => ⟨⟨0, (), rfl, rfl, by rw [ht]; exact hP9, va_K.moved hW.alike hK, hD9⟩, hS.F ht⟩) hS.2.2 dX4_fail_6

set_option maxHeartbeats 4000000 in
set_option maxRecDepth 100000 in
theorem c_X4_isIn (l : Launch) (D : va_G) (cI : ClassId) (v lo hi : Int32) : zMR l yX4_isIn wsX4_isIn ({ frames := 0, cells := 0, slots := 0, locals := 0 }) [.int v, .int lo, .int hi] D [(cI, .int)] ([]) (zb (¬ v < lo ∧ ¬ hi < v)) := by
  intro sz
  refine Met.ofW (cc := cX4_isIn) (maxL := 3) (ret := (some .boolean)) (by decide) rfl ?_
  intro p e s m args below meth c s₁ B hml hv
  obtain ⟨rfl, hsz, hP, hK, hD⟩ := hv
  have hx := B.exec
  have hb := B.bytes
  have hr := B.returns
  have hts := atoms_spec (ws := wsX4_isIn) B.pre
  have hown : s.vm.findClass RX4 = some m.cls := findClass_of_methodNamed B.named
  have hlocks := B.notSynchronized
  have hS : va_S (fun _ => False) s.heap s.heap [] := va_S.rf
  have hP : va_P D vwCl ([]) s.heap := hP
  have hl := lv_entry ([.int v, .int lo, .int hi]) (n := 3) (Nat.le_of_ble_eq_true rfl)
  rw [lg_entry_eq]
  generalize (lg_sl ([.int v, .int lo, .int hi]) ++ List.replicate (3 - (lg_sl ([.int v, .int lo, .int hi])).length) Slot.unset).toArray = ls at hl ⊢
  have hl : lv_has ls 3 [(0, .int v), (1, .int lo), (2, .int hi)] := hl
  refine lv_iload_n hx hb dX4_isIn_0 rfl (lv_at hl 0 rfl) ?_
  refine lv_iload_n hx hb dX4_isIn_1 rfl (lv_at hl 1 rfl) ?_
  refine lv_icmp_lt (tgt := 14) hx hb dX4_isIn_2 (by decide) (fun c_1 => ?_) (fun c_1 => ?_)
  · refine lv_iconst (v := 0) hx hb dX4_isIn_14 (by decide) ?_
    exact W.zret (v := 0) hx hb hr rfl (fun t ht hW => ⟨⟨0, (), rfl, Or.inr ⟨(fun z => z.1 c_1), rfl⟩, trivial⟩, hS.F ht⟩) hS.2.2 dX4_isIn_15
  · refine lv_iload_n hx hb dX4_isIn_5 rfl (lv_at hl 0 rfl) ?_
    refine lv_iload_n hx hb dX4_isIn_6 rfl (lv_at hl 2 rfl) ?_
    refine lv_icmp_gt (tgt := 14) hx hb dX4_isIn_7 (by decide) (fun c_2 => ?_) (fun c_2 => ?_)
    · refine lv_iconst (v := 0) hx hb dX4_isIn_14 (by decide) ?_
      exact W.zret (v := 0) hx hb hr rfl (fun t ht hW => ⟨⟨0, (), rfl, Or.inr ⟨(fun z => z.2 c_2), rfl⟩, trivial⟩, hS.F ht⟩) hS.2.2 dX4_isIn_15
    · refine lv_iconst (v := 1) hx hb dX4_isIn_10 (by decide) ?_
      refine lv_goto (tgt := 15) hx hb dX4_isIn_11 (by decide) ?_
      exact W.zret (v := 1) hx hb hr rfl (fun t ht hW => ⟨⟨1, (), rfl, Or.inl ⟨⟨c_1, c_2⟩, rfl⟩, trivial⟩, hS.F ht⟩) hS.2.2 dX4_isIn_15

set_option maxHeartbeats 4000000 in
set_option maxRecDepth 100000 in
theorem c_X4_isSailor (l : Launch) (D : va_G) (cI : ClassId) (μ : Nat → Nat) (th : Int32) (σ : zS) (κ : Nat → Int32) (v : Int32) {nb ns h : Nat} (hC : zC σ nb ns h) : zMR l yX4_isSailor wsX4_isSailor ({ frames := 1, cells := 0, slots := 0, locals := 22 }) [.ref (μ 0), .int v] D [(cI, .int)] (zw_M cI μ th σ (κ)) (zb (f_sail σ v)) := by
  intro sz
  refine Met.ofW (cc := cX4_isSailor) (maxL := 2) (ret := (some .boolean)) (by decide) rfl ?_
  intro p e s m args below meth c s₁ B hml hv
  obtain ⟨rfl, hsz, hP, hK, hD⟩ := hv
  have hx := B.exec
  have hb := B.bytes
  have hr := B.returns
  have hts := atoms_spec (ws := wsX4_isSailor) B.pre
  have hown : s.vm.findClass RX4 = some m.cls := findClass_of_methodNamed B.named
  have hlocks := B.notSynchronized
  have hS : va_S (fun _ => False) s.heap s.heap [] := va_S.rf
  have hP : va_P D vwCl (zw_M cI μ th σ (κ)) s.heap := hP
  have hl := lv_entry ([.ref (μ 0), .int v]) (n := 2) (Nat.le_of_ble_eq_true rfl)
  rw [lg_entry_eq]
  generalize (lg_sl ([.ref (μ 0), .int v]) ++ List.replicate (2 - (lg_sl ([.ref (μ 0), .int v])).length) Slot.unset).toArray = ls at hl ⊢
  have hl : lv_has ls 2 [(0, .ref (μ 0)), (1, .int v)] := hl
  have hf36 := hts (.fieldLink RX4 36 "HotBedsModel" "sailors" "I") (by decide +kernel)
  have hinX4 : ∀ w ∈ u_ws RX4 TX4 8, w ∈ wsX4_isSailor := by decide +kernel
  refine lv_iload_n hx hb dX4_isSailor_0 rfl (lv_at hl 1 rfl) ?_
  refine lv_iconst (v := 0) hx hb dX4_isSailor_1 (by decide) ?_
  refine lv_aload_n hx hb dX4_isSailor_2 rfl (lv_at hl 0 rfl) ?_
  refine va_get (D := D) (ci := 4) (v := .int (σ 0 4)) (C := RX4) (T := TX4) (N := 8) hx hb hts hinX4 hown hK hP 0 rfl rfl 2 (by decide) hf36 (fun _ h9 => h9) rfl dX4_isSailor_3 ?_
  refine lv_iconst (v := 1) hx hb dX4_isSailor_6 (by decide) ?_
  refine lv_isub hx hb dX4_isSailor_7 ?_
  refine zk_R (D := D) (va_runS (As := [.int v, .int 0, .int ((σ 0 4) - 1)]) (rest := []) ⟨hx, hb, hml, hown, hts⟩ (c_X4_isIn l D cI v 0 ((σ 0 4) - 1) _) (va_cwS 3 hts gX4_isSailor_X4_isIn rfl rfl rfl zdX4_isIn.2 ⟨Nat.le_of_ble_eq_true rfl, Nat.le_of_ble_eq_true rfl⟩) ⟨zbl _, zpr hK zP0 (zD0 (A := fun _ => True))⟩ rfl rfl hl.1 rfl (lv_room (Nat.le_of_ble_eq_true rfl)) dX4_isSailor_8 ⟨Nat.zero_le _, Nat.zero_le _⟩) hS (fun r_1 H locs hw hkp hS => ?_)
  have hP := hkp _ hP
  have hw : zb (¬ v < 0 ∧ ¬ ((σ 0 4) - 1) < v) r_1 := hw
  rcases hw with ⟨c_2, rfl⟩ | ⟨c_2, rfl⟩
  · exact W.zret (v := 1) hx hb hr rfl (fun t ht hW => ⟨⟨1, (), rfl, Or.inl ⟨(zsail hC).mp c_2, rfl⟩, trivial⟩, hS.F ht⟩) hS.2.2 dX4_isSailor_11
  · exact W.zret (v := 0) hx hb hr rfl (fun t ht hW => ⟨⟨0, (), rfl, Or.inr ⟨fun z => c_2 ((zsail hC).mpr z), rfl⟩, trivial⟩, hS.F ht⟩) hS.2.2 dX4_isSailor_11

set_option maxHeartbeats 4000000 in
set_option maxRecDepth 100000 in
theorem c_X4_isBed (l : Launch) (D : va_G) (cI : ClassId) (μ : Nat → Nat) (th : Int32) (σ : zS) (κ : Nat → Int32) (v : Int32) {nb ns h : Nat} (hC : zC σ nb ns h) : zMR l yX4_isBed wsX4_isBed ({ frames := 1, cells := 0, slots := 0, locals := 22 }) [.ref (μ 0), .int v] D [(cI, .int)] (zw_M cI μ th σ (κ)) (zb (f_has σ v)) := by
  intro sz
  refine Met.ofW (cc := cX4_isBed) (maxL := 2) (ret := (some .boolean)) (by decide) rfl ?_
  intro p e s m args below meth c s₁ B hml hv
  obtain ⟨rfl, hsz, hP, hK, hD⟩ := hv
  have hx := B.exec
  have hb := B.bytes
  have hr := B.returns
  have hts := atoms_spec (ws := wsX4_isBed) B.pre
  have hown : s.vm.findClass RX4 = some m.cls := findClass_of_methodNamed B.named
  have hlocks := B.notSynchronized
  have hS : va_S (fun _ => False) s.heap s.heap [] := va_S.rf
  have hP : va_P D vwCl (zw_M cI μ th σ (κ)) s.heap := hP
  have hl := lv_entry ([.ref (μ 0), .int v]) (n := 2) (Nat.le_of_ble_eq_true rfl)
  rw [lg_entry_eq]
  generalize (lg_sl ([.ref (μ 0), .int v]) ++ List.replicate (2 - (lg_sl ([.ref (μ 0), .int v])).length) Slot.unset).toArray = ls at hl ⊢
  have hl : lv_has ls 2 [(0, .ref (μ 0)), (1, .int v)] := hl
  have hf29 := hts (.fieldLink RX4 29 "HotBedsModel" "beds" "I") (by decide +kernel)
  have hinX4 : ∀ w ∈ u_ws RX4 TX4 8, w ∈ wsX4_isBed := by decide +kernel
  refine lv_iload_n hx hb dX4_isBed_0 rfl (lv_at hl 1 rfl) ?_
  refine lv_iconst (v := 0) hx hb dX4_isBed_1 (by decide) ?_
  refine lv_aload_n hx hb dX4_isBed_2 rfl (lv_at hl 0 rfl) ?_
  refine va_get (D := D) (ci := 4) (v := .int (σ 0 3)) (C := RX4) (T := TX4) (N := 8) hx hb hts hinX4 hown hK hP 0 rfl rfl 1 (by decide) hf29 (fun _ h9 => h9) rfl dX4_isBed_3 ?_
  refine lv_iconst (v := 1) hx hb dX4_isBed_6 (by decide) ?_
  refine lv_isub hx hb dX4_isBed_7 ?_
  refine zk_R (D := D) (va_runS (As := [.int v, .int 0, .int ((σ 0 3) - 1)]) (rest := []) ⟨hx, hb, hml, hown, hts⟩ (c_X4_isIn l D cI v 0 ((σ 0 3) - 1) _) (va_cwS 3 hts gX4_isBed_X4_isIn rfl rfl rfl zdX4_isIn.2 ⟨Nat.le_of_ble_eq_true rfl, Nat.le_of_ble_eq_true rfl⟩) ⟨zbl _, zpr hK zP0 (zD0 (A := fun _ => True))⟩ rfl rfl hl.1 rfl (lv_room (Nat.le_of_ble_eq_true rfl)) dX4_isBed_8 ⟨Nat.zero_le _, Nat.zero_le _⟩) hS (fun r_1 H locs hw hkp hS => ?_)
  have hP := hkp _ hP
  have hw : zb (¬ v < 0 ∧ ¬ ((σ 0 3) - 1) < v) r_1 := hw
  rcases hw with ⟨c_2, rfl⟩ | ⟨c_2, rfl⟩
  · exact W.zret (v := 1) hx hb hr rfl (fun t ht hW => ⟨⟨1, (), rfl, Or.inl ⟨(zbeds hC).mp c_2, rfl⟩, trivial⟩, hS.F ht⟩) hS.2.2 dX4_isBed_11
  · exact W.zret (v := 0) hx hb hr rfl (fun t ht hW => ⟨⟨0, (), rfl, Or.inr ⟨fun z => c_2 ((zbeds hC).mpr z), rfl⟩, trivial⟩, hS.F ht⟩) hS.2.2 dX4_isBed_11

set_option maxHeartbeats 4000000 in
set_option maxRecDepth 100000 in
theorem c_X4_be (l : Launch) (D : va_G) (cI : ClassId) (μ : Nat → Nat) (th : Int32) (σ : zS) (κ : Nat → Int32) {b w : Nat} (hb6 : b < 6) (hw4 : w < 4) : zMR l yX4_be wsX4_be ({ frames := 0, cells := 0, slots := 0, locals := 0 }) [.ref (μ 0), .int (nI b), .int (nI w)] D [(cI, .int)] (zw_M cI μ th σ (κ)) (fun r => r = σ (w + 2) b) := by
  intro sz
  refine Met.ofW (cc := cX4_be) (maxL := 3) (ret := (some .int)) (by decide) rfl ?_
  intro p e s m args below meth c s₁ B hml hv
  obtain ⟨rfl, hsz, hP, hK, hD⟩ := hv
  have hx := B.exec
  have hb := B.bytes
  have hr := B.returns
  have hts := atoms_spec (ws := wsX4_be) B.pre
  have hown : s.vm.findClass RX4 = some m.cls := findClass_of_methodNamed B.named
  have hlocks := B.notSynchronized
  have hS : va_S (fun _ => False) s.heap s.heap [] := va_S.rf
  have hP : va_P D vwCl (zw_M cI μ th σ (κ)) s.heap := hP
  have hl := lv_entry ([.ref (μ 0), .int (nI b), .int (nI w)]) (n := 3) (Nat.le_of_ble_eq_true rfl)
  rw [lg_entry_eq]
  generalize (lg_sl ([.ref (μ 0), .int (nI b), .int (nI w)]) ++ List.replicate (3 - (lg_sl ([.ref (μ 0), .int (nI b), .int (nI w)])).length) Slot.unset).toArray = ls at hl ⊢
  have hl : lv_has ls 3 [(0, .ref (μ 0)), (1, .int (nI b)), (2, .int (nI w))] := hl
  have hf19 := hts (.fieldLink RX4 19 "HotBedsModel" "now" "[I") (by decide +kernel)
  have hinX4 : ∀ w ∈ u_ws RX4 TX4 8, w ∈ wsX4_be := by decide +kernel
  refine lv_aload_n hx hb dX4_be_0 rfl (lv_at hl 0 rfl) ?_
  refine va_get (D := D) (ci := 4) (v := .ref (μ 4)) (C := RX4) (T := TX4) (N := 8) hx hb hts hinX4 hown hK hP 0 rfl rfl 6 (by decide) hf19 (fun _ h9 => h9) rfl dX4_be_1 ?_
  refine lv_iconst (v := 4) hx hb dX4_be_4 (by decide) ?_
  refine lv_iconst (v := 4) hx hb dX4_be_5 (by decide) ?_
  refine lv_iload_n hx hb dX4_be_6 rfl (lv_at hl 1 rfl) ?_
  refine zk_mul (x := 4) (y := b) hx hb dX4_be_7 ?_
  refine zk_add (x := 4) (y := (4 * b)) hx hb dX4_be_8 ?_
  refine lv_iload_n hx hb dX4_be_9 rfl (lv_at hl 2 rfl) ?_
  refine zk_add (x := (4 + (4 * b))) (y := w) hx hb dX4_be_10 ?_
  refine zk_ld hx hb hK hP 4 0 rfl rfl (k := ((4 + (4 * b)) + w)) (by omega) (by decide) (v := σ (w + 2) b) (zenc_b σ hb6 hw4) dX4_be_11 ?_
  exact W.iret (v := σ (w + 2) b) hx hb hr (fun t ht hW => ⟨⟨σ (w + 2) b, (), rfl, rfl, trivial⟩, hS.F ht⟩) hS.2.2 dX4_be_12

set_option maxHeartbeats 4000000 in
set_option maxRecDepth 100000 in
theorem c_X4_letBed (l : Launch) (D : va_G) (cI : ClassId) (μ : Nat → Nat) (th : Int32) (σ : zS) (κ : Nat → Int32) {b w : Nat} (hb6 : b < 6) (hw4 : w < 4) (v : Int32) : zMV l yX4_letBed wsX4_letBed ({ frames := 0, cells := 0, slots := 0, locals := 0 }) [.ref (μ 0), .int (nI b), .int (nI w), .int v] D [(cI, .int)] (zw_M cI μ th σ (κ)) (zw_M cI μ th (zs σ (w + 2) b v) (κ)) := by
  intro sz
  refine Met.ofW (cc := cX4_letBed) (maxL := 4) (ret := none) (by decide) rfl ?_
  intro p e s m args below meth c s₁ B hml hv
  obtain ⟨rfl, hsz, hP, hK, hD⟩ := hv
  have hx := B.exec
  have hb := B.bytes
  have hr := B.returns
  have hts := atoms_spec (ws := wsX4_letBed) B.pre
  have hown : s.vm.findClass RX4 = some m.cls := findClass_of_methodNamed B.named
  have hlocks := B.notSynchronized
  subst hsz
  have hD := hD.self (sz := s.heap.size)
  generalize hAe : va_A (zw_M cI μ th σ (κ)) s.heap.size = A at hD ⊢
  have hA : ∀ q : Nat, s.heap.size ≤ q → A q := fun q h => by rw [← hAe]; exact Or.inr h
  have hS : va_S A s.heap s.heap [] := va_S.rf
  have hP : va_P D vwCl (zw_M cI μ th σ (κ)) s.heap := hP
  have hl := lv_entry ([.ref (μ 0), .int (nI b), .int (nI w), .int v]) (n := 4) (Nat.le_of_ble_eq_true rfl)
  rw [lg_entry_eq]
  generalize (lg_sl ([.ref (μ 0), .int (nI b), .int (nI w), .int v]) ++ List.replicate (4 - (lg_sl ([.ref (μ 0), .int (nI b), .int (nI w), .int v])).length) Slot.unset).toArray = ls at hl ⊢
  have hl : lv_has ls 4 [(0, .ref (μ 0)), (1, .int (nI b)), (2, .int (nI w)), (3, .int v)] := hl
  have hf19 := hts (.fieldLink RX4 19 "HotBedsModel" "now" "[I") (by decide +kernel)
  have hinX4 : ∀ w ∈ u_ws RX4 TX4 8, w ∈ wsX4_letBed := by decide +kernel
  refine lv_aload_n hx hb dX4_letBed_0 rfl (lv_at hl 0 rfl) ?_
  refine va_get (D := D) (ci := 4) (v := .ref (μ 4)) (C := RX4) (T := TX4) (N := 8) hx hb hts hinX4 hown hK hP 0 rfl rfl 6 (by decide) hf19 (fun _ h9 => h9) rfl dX4_letBed_1 ?_
  refine lv_iconst (v := 4) hx hb dX4_letBed_4 (by decide) ?_
  refine lv_iconst (v := 4) hx hb dX4_letBed_5 (by decide) ?_
  refine lv_iload_n hx hb dX4_letBed_6 rfl (lv_at hl 1 rfl) ?_
  refine zk_mul (x := 4) (y := b) hx hb dX4_letBed_7 ?_
  refine zk_add (x := 4) (y := (4 * b)) hx hb dX4_letBed_8 ?_
  refine lv_iload_n hx hb dX4_letBed_9 rfl (lv_at hl 2 rfl) ?_
  refine zk_add (x := (4 + (4 * b))) (y := w) hx hb dX4_letBed_10 ?_
  refine lv_iload_n hx hb dX4_letBed_11 rfl (lv_at hl 3 rfl) ?_
  refine zk_st hx hb hK hP hD hS 4 0 rfl rfl (k := ((4 + (4 * b)) + w)) (by omega) (by decide) (zwm_b cI μ th σ (κ) hb6 hw4 _) dX4_letBed_12 (fun H locs hP hD hS => ?_)
  have hP : va_P D vwCl (zw_M cI μ th (zs σ (w + 2) b v) (κ)) H := hP
  have hD : va_D A (zw_M cI μ th (zs σ (w + 2) b v) (κ)) := hD
  have hP9 := hP
  have hD9 := hD
  exact W.vret hx hb hr (fun t ht hW => ⟨⟨(), rfl, trivial, by rw [ht]; exact hP9, va_K.moved hW.alike hK, hD9⟩, hS.F ht⟩) hS.2.2 dX4_letBed_13

set_option maxHeartbeats 4000000 in
set_option maxRecDepth 100000 in
theorem c_X4_sa (l : Launch) (D : va_G) (cI : ClassId) (μ : Nat → Nat) (th : Int32) (σ : zS) (κ : Nat → Int32) {k w : Nat} (hk : k < 10) (hw10 : w < 10) : zMR l yX4_sa wsX4_sa ({ frames := 0, cells := 0, slots := 0, locals := 0 }) [.ref (μ 0), .int (nI k), .int (nI w)] D [(cI, .int)] (zw_M cI μ th σ (κ)) (fun r => r = σ (zrs w) k) := by
  intro sz
  refine Met.ofW (cc := cX4_sa) (maxL := 3) (ret := (some .int)) (by decide) rfl ?_
  intro p e s m args below meth c s₁ B hml hv
  obtain ⟨rfl, hsz, hP, hK, hD⟩ := hv
  have hx := B.exec
  have hb := B.bytes
  have hr := B.returns
  have hts := atoms_spec (ws := wsX4_sa) B.pre
  have hown : s.vm.findClass RX4 = some m.cls := findClass_of_methodNamed B.named
  have hlocks := B.notSynchronized
  have hS : va_S (fun _ => False) s.heap s.heap [] := va_S.rf
  have hP : va_P D vwCl (zw_M cI μ th σ (κ)) s.heap := hP
  have hl := lv_entry ([.ref (μ 0), .int (nI k), .int (nI w)]) (n := 3) (Nat.le_of_ble_eq_true rfl)
  rw [lg_entry_eq]
  generalize (lg_sl ([.ref (μ 0), .int (nI k), .int (nI w)]) ++ List.replicate (3 - (lg_sl ([.ref (μ 0), .int (nI k), .int (nI w)])).length) Slot.unset).toArray = ls at hl ⊢
  have hl : lv_has ls 3 [(0, .ref (μ 0)), (1, .int (nI k)), (2, .int (nI w))] := hl
  have hf19 := hts (.fieldLink RX4 19 "HotBedsModel" "now" "[I") (by decide +kernel)
  have hinX4 : ∀ w ∈ u_ws RX4 TX4 8, w ∈ wsX4_sa := by decide +kernel
  refine lv_aload_n hx hb dX4_sa_0 rfl (lv_at hl 0 rfl) ?_
  refine va_get (D := D) (ci := 4) (v := .ref (μ 4)) (C := RX4) (T := TX4) (N := 8) hx hb hts hinX4 hown hK hP 0 rfl rfl 6 (by decide) hf19 (fun _ h9 => h9) rfl dX4_sa_1 ?_
  refine lv_bipush (v := 28) hx hb dX4_sa_4 (by decide) ?_
  refine lv_bipush (v := 11) hx hb dX4_sa_6 (by decide) ?_
  refine lv_iload_n hx hb dX4_sa_8 rfl (lv_at hl 1 rfl) ?_
  refine zk_mul (x := 11) (y := k) hx hb dX4_sa_9 ?_
  refine zk_add (x := 28) (y := (11 * k)) hx hb dX4_sa_10 ?_
  refine lv_iload_n hx hb dX4_sa_11 rfl (lv_at hl 2 rfl) ?_
  refine zk_add (x := (28 + (11 * k))) (y := w) hx hb dX4_sa_12 ?_
  refine zk_ld hx hb hK hP 4 0 rfl rfl (k := ((28 + (11 * k)) + w)) (by omega) (by decide) (v := σ (zrs w) k) (zenc_s σ k hw10) dX4_sa_13 ?_
  exact W.iret (v := σ (zrs w) k) hx hb hr (fun t ht hW => ⟨⟨σ (zrs w) k, (), rfl, rfl, trivial⟩, hS.F ht⟩) hS.2.2 dX4_sa_14

set_option maxHeartbeats 4000000 in
set_option maxRecDepth 100000 in
theorem c_X4_let (l : Launch) (D : va_G) (cI : ClassId) (μ : Nat → Nat) (th : Int32) (σ : zS) (κ : Nat → Int32) {k w : Nat} (hk : k < 10) (hw10 : w < 10) (v : Int32) : zMV l yX4_let wsX4_let ({ frames := 0, cells := 0, slots := 0, locals := 0 }) [.ref (μ 0), .int (nI k), .int (nI w), .int v] D [(cI, .int)] (zw_M cI μ th σ (κ)) (zw_M cI μ th (zs σ (zrs w) k v) (κ)) := by
  intro sz
  refine Met.ofW (cc := cX4_let) (maxL := 4) (ret := none) (by decide) rfl ?_
  intro p e s m args below meth c s₁ B hml hv
  obtain ⟨rfl, hsz, hP, hK, hD⟩ := hv
  have hx := B.exec
  have hb := B.bytes
  have hr := B.returns
  have hts := atoms_spec (ws := wsX4_let) B.pre
  have hown : s.vm.findClass RX4 = some m.cls := findClass_of_methodNamed B.named
  have hlocks := B.notSynchronized
  subst hsz
  have hD := hD.self (sz := s.heap.size)
  generalize hAe : va_A (zw_M cI μ th σ (κ)) s.heap.size = A at hD ⊢
  have hA : ∀ q : Nat, s.heap.size ≤ q → A q := fun q h => by rw [← hAe]; exact Or.inr h
  have hS : va_S A s.heap s.heap [] := va_S.rf
  have hP : va_P D vwCl (zw_M cI μ th σ (κ)) s.heap := hP
  have hl := lv_entry ([.ref (μ 0), .int (nI k), .int (nI w), .int v]) (n := 4) (Nat.le_of_ble_eq_true rfl)
  rw [lg_entry_eq]
  generalize (lg_sl ([.ref (μ 0), .int (nI k), .int (nI w), .int v]) ++ List.replicate (4 - (lg_sl ([.ref (μ 0), .int (nI k), .int (nI w), .int v])).length) Slot.unset).toArray = ls at hl ⊢
  have hl : lv_has ls 4 [(0, .ref (μ 0)), (1, .int (nI k)), (2, .int (nI w)), (3, .int v)] := hl
  have hf19 := hts (.fieldLink RX4 19 "HotBedsModel" "now" "[I") (by decide +kernel)
  have hinX4 : ∀ w ∈ u_ws RX4 TX4 8, w ∈ wsX4_let := by decide +kernel
  refine lv_aload_n hx hb dX4_let_0 rfl (lv_at hl 0 rfl) ?_
  refine va_get (D := D) (ci := 4) (v := .ref (μ 4)) (C := RX4) (T := TX4) (N := 8) hx hb hts hinX4 hown hK hP 0 rfl rfl 6 (by decide) hf19 (fun _ h9 => h9) rfl dX4_let_1 ?_
  refine lv_bipush (v := 28) hx hb dX4_let_4 (by decide) ?_
  refine lv_bipush (v := 11) hx hb dX4_let_6 (by decide) ?_
  refine lv_iload_n hx hb dX4_let_8 rfl (lv_at hl 1 rfl) ?_
  refine zk_mul (x := 11) (y := k) hx hb dX4_let_9 ?_
  refine zk_add (x := 28) (y := (11 * k)) hx hb dX4_let_10 ?_
  refine lv_iload_n hx hb dX4_let_11 rfl (lv_at hl 2 rfl) ?_
  refine zk_add (x := (28 + (11 * k))) (y := w) hx hb dX4_let_12 ?_
  refine lv_iload_n hx hb dX4_let_13 rfl (lv_at hl 3 rfl) ?_
  refine zk_st hx hb hK hP hD hS 4 0 rfl rfl (k := ((28 + (11 * k)) + w)) (by omega) (by decide) (zwm_s cI μ th σ (κ) k hw10 _) dX4_let_14 (fun H locs hP hD hS => ?_)
  have hP : va_P D vwCl (zw_M cI μ th (zs σ (zrs w) k v) (κ)) H := hP
  have hD : va_D A (zw_M cI μ th (zs σ (zrs w) k v) (κ)) := hD
  have hP9 := hP
  have hD9 := hD
  exact W.vret hx hb hr (fun t ht hW => ⟨⟨(), rfl, trivial, by rw [ht]; exact hP9, va_K.moved hW.alike hK, hD9⟩, hS.F ht⟩) hS.2.2 dX4_let_15

set_option maxHeartbeats 4000000 in
set_option maxRecDepth 100000 in
theorem c_X4_more (l : Launch) (D : va_G) (cI : ClassId) (μ : Nat → Nat) (th : Int32) (σ : zS) (κ : Nat → Int32) {k w : Nat} (hk : k < 10) (hw10 : w < 10) (v : Int32) : zMV l yX4_more wsX4_more ({ frames := 0, cells := 0, slots := 0, locals := 0 }) [.ref (μ 0), .int (nI k), .int (nI w), .int v] D [(cI, .int)] (zw_M cI μ th σ (κ)) (zw_M cI μ th (zs σ (zrs w) k (σ (zrs w) k + v)) (κ)) := by
  intro sz
  refine Met.ofW (cc := cX4_more) (maxL := 4) (ret := none) (by decide) rfl ?_
  intro p e s m args below meth c s₁ B hml hv
  obtain ⟨rfl, hsz, hP, hK, hD⟩ := hv
  have hx := B.exec
  have hb := B.bytes
  have hr := B.returns
  have hts := atoms_spec (ws := wsX4_more) B.pre
  have hown : s.vm.findClass RX4 = some m.cls := findClass_of_methodNamed B.named
  have hlocks := B.notSynchronized
  subst hsz
  have hD := hD.self (sz := s.heap.size)
  generalize hAe : va_A (zw_M cI μ th σ (κ)) s.heap.size = A at hD ⊢
  have hA : ∀ q : Nat, s.heap.size ≤ q → A q := fun q h => by rw [← hAe]; exact Or.inr h
  have hS : va_S A s.heap s.heap [] := va_S.rf
  have hP : va_P D vwCl (zw_M cI μ th σ (κ)) s.heap := hP
  have hl := lv_entry ([.ref (μ 0), .int (nI k), .int (nI w), .int v]) (n := 4) (Nat.le_of_ble_eq_true rfl)
  rw [lg_entry_eq]
  generalize (lg_sl ([.ref (μ 0), .int (nI k), .int (nI w), .int v]) ++ List.replicate (4 - (lg_sl ([.ref (μ 0), .int (nI k), .int (nI w), .int v])).length) Slot.unset).toArray = ls at hl ⊢
  have hl : lv_has ls 4 [(0, .ref (μ 0)), (1, .int (nI k)), (2, .int (nI w)), (3, .int v)] := hl
  have hf19 := hts (.fieldLink RX4 19 "HotBedsModel" "now" "[I") (by decide +kernel)
  have hinX4 : ∀ w ∈ u_ws RX4 TX4 8, w ∈ wsX4_more := by decide +kernel
  refine lv_aload_n hx hb dX4_more_0 rfl (lv_at hl 0 rfl) ?_
  refine va_get (D := D) (ci := 4) (v := .ref (μ 4)) (C := RX4) (T := TX4) (N := 8) hx hb hts hinX4 hown hK hP 0 rfl rfl 6 (by decide) hf19 (fun _ h9 => h9) rfl dX4_more_1 ?_
  refine lv_bipush (v := 28) hx hb dX4_more_4 (by decide) ?_
  refine lv_bipush (v := 11) hx hb dX4_more_6 (by decide) ?_
  refine lv_iload_n hx hb dX4_more_8 rfl (lv_at hl 1 rfl) ?_
  refine zk_mul (x := 11) (y := k) hx hb dX4_more_9 ?_
  refine zk_add (x := 28) (y := (11 * k)) hx hb dX4_more_10 ?_
  refine lv_iload_n hx hb dX4_more_11 rfl (lv_at hl 2 rfl) ?_
  refine zk_add (x := (28 + (11 * k))) (y := w) hx hb dX4_more_12 ?_
  refine lv_dup2_11 hx hb dX4_more_13 rfl rfl ?_
  refine zk_ld hx hb hK hP 4 0 rfl rfl (k := ((28 + (11 * k)) + w)) (by omega) (by decide) (v := σ (zrs w) k) (zenc_s σ k hw10) dX4_more_14 ?_
  refine lv_iload_n hx hb dX4_more_15 rfl (lv_at hl 3 rfl) ?_
  refine lv_iadd hx hb dX4_more_16 ?_
  refine zk_st hx hb hK hP hD hS 4 0 rfl rfl (k := ((28 + (11 * k)) + w)) (by omega) (by decide) (zwm_s cI μ th σ (κ) k hw10 _) dX4_more_17 (fun H locs hP hD hS => ?_)
  have hP : va_P D vwCl (zw_M cI μ th (zs σ (zrs w) k ((σ (zrs w) k) + v)) (κ)) H := hP
  have hD : va_D A (zw_M cI μ th (zs σ (zrs w) k ((σ (zrs w) k) + v)) (κ)) := hD
  have e9 : zs σ (zrs w) k (σ (zrs w) k + v) = zs σ (zrs w) k ((σ (zrs w) k) + v) := by simp only []
  have hP9 : va_P D vwCl (zw_M cI μ th (zs σ (zrs w) k (σ (zrs w) k + v)) (κ)) H := by rw [e9]; exact hP
  have hD9 : va_D A (zw_M cI μ th (zs σ (zrs w) k (σ (zrs w) k + v)) (κ)) := by rw [e9]; exact hD
  exact W.vret hx hb hr (fun t ht hW => ⟨⟨(), rfl, trivial, by rw [ht]; exact hP9, va_K.moved hW.alike hK, hD9⟩, hS.F ht⟩) hS.2.2 dX4_more_18

/-- the native copy of a whole row -/
theorem zk_copy {p : Program} {l : Launch} {e : Env} {R : Room} {s : State} {m : MethodId} {args : Array Value} {below : List Frame} {meth : Method} {c : Code} {H : Heap} {locs : List Loc} {cells slots : Nat} {Q : State → Prop} {pc : Nat} {ls : Array Slot} {rest : List Value} {A : Nat → Prop} {H0 : Heap} {D : va_G} {cl : List vw_C} {w : va_W} {cc : ByteArray} {cI : ClassId} {a a0 : Nat}
    (hexec : p.tables.exec = Jvm.exec) (hb : c.code = cc) (hml : c.maxLocals = ls.size) {own : String} {index : Nat} (hown : s.vm.findClass own = some m.cls) (hlink : (Cond.methodLink own index arraycopyName).before args s = true) (hnat : (Cond.native arraycopyName).before args s = true) (hstat : (Cond.static arraycopyName).before args s = true) (hini : (Cond.initialized "java/lang/System").before args s = true)
    (hK : va_K D cl [(cI, .int)] s) (hP : va_P D cl w H) (hD : va_D A w) (hS : va_S A H0 H locs) (q0 q1 : Nat) {f g : Nat → Int32} (ha0 : w[q0]? = some (a0, .inl (cI, 138, .inl f))) (ha1 : w[q1]? = some (a, .inl (cI, 138, .inl g)))
    (hframes : 1 ≤ R.frames) (hlocals : (rest.map fun v => v.category).sum + (nativeFrameWords "java/lang/System" "arraycopy" 5 + 11) ≤ R.locals) (hdg : decode cc pc = .ok (.invokestatic index, 3))
    (kk : ∀ (H1 : Heap) (locs1 : List Loc), va_P D cl (w.set q1 (a, .inl (cI, 138, .inl f))) H1 → va_D A (w.set q1 (a, .inl (cI, 138, .inl f))) → va_S A H0 H1 locs1 → W p l e R s m args below meth c H1 locs1 cells slots Q (F0 m (pc + 3) ls rest)) : W p l e R s m args below meth c H locs cells slots Q (F0 m pc ls (.int 138 :: .int 0 :: .ref a :: .int 0 :: .ref a0 :: rest)) := by
  refine va_copyi hexec hb hml hown hlink hnat hstat hini hK hP hD hS q0 q1 0 0 ha0 ha1 rfl rfl rfl (sp := 0) (dp := 0) (n := 138) (by decide) (by decide) (by decide) (by decide) (by decide) (fun _ _ => rfl) hframes hlocals hdg (fun H1 locs1 hP1 hD1 hS1 => ?_)
  refine kk H1 locs1 (fun k x hk => ?_) (hD.set ha1) hS1
  have hl := (List.getElem?_eq_some_iff.mp ha1).1
  by_cases e : k = q1
  · subst e
    rw [List.getElem?_set_self hl] at hk
    cases hk
    have h1 := hP1 k _ (List.getElem?_set_self hl)
    refine fr_row (fun j hj => ?_) h1
    have h138 : (138 : Int32).toNatClampNeg = 138 := by decide
    have h00 : (0 : Int32).toNatClampNeg = 0 := by decide
    rw [h138, h00]
    exact sb_cpy0 hj
  · rw [List.getElem?_set_ne (Ne.symm e)] at hk
    have h1 := hP1 k x (by rw [List.getElem?_set_ne (Ne.symm e)]; exact hk)
    exact h1

set_option maxHeartbeats 4000000 in
set_option maxRecDepth 100000 in
theorem c_X4_keep (l : Launch) (D : va_G) (cI : ClassId) (μ : Nat → Nat) (th : Int32) (σ : zS) (κ : Nat → Int32)  : zMV l yX4_keep wsX4_keep ({ frames := 1, cells := 0, slots := 0, locals := 100 }) [.ref (μ 0)] D [(cI, .int)] (zw_M cI μ th σ (κ)) (zw_M cI μ th σ (zenc σ)) := by
  intro sz
  refine Met.ofW (cc := cX4_keep) (maxL := 1) (ret := none) (by decide) rfl ?_
  intro p e s m args below meth c s₁ B hml hv
  obtain ⟨rfl, hsz, hP, hK, hD⟩ := hv
  have hx := B.exec
  have hb := B.bytes
  have hr := B.returns
  have hts := atoms_spec (ws := wsX4_keep) B.pre
  have hown : s.vm.findClass RX4 = some m.cls := findClass_of_methodNamed B.named
  have hlocks := B.notSynchronized
  subst hsz
  have hD := hD.self (sz := s.heap.size)
  generalize hAe : va_A (zw_M cI μ th σ (κ)) s.heap.size = A at hD ⊢
  have hA : ∀ q : Nat, s.heap.size ≤ q → A q := fun q h => by rw [← hAe]; exact Or.inr h
  have hS : va_S A s.heap s.heap [] := va_S.rf
  have hP : va_P D vwCl (zw_M cI μ th σ (κ)) s.heap := hP
  have hl := lv_entry ([.ref (μ 0)]) (n := 1) (Nat.le_of_ble_eq_true rfl)
  rw [lg_entry_eq]
  generalize (lg_sl ([.ref (μ 0)]) ++ List.replicate (1 - (lg_sl ([.ref (μ 0)])).length) Slot.unset).toArray = ls at hl ⊢
  have hl : lv_has ls 1 [(0, .ref (μ 0))] := hl
  have hf19 := hts (.fieldLink RX4 19 "HotBedsModel" "now" "[I") (by decide +kernel)
  have hf22 := hts (.fieldLink RX4 22 "HotBedsModel" "kept" "[I") (by decide +kernel)
  have hinX4 : ∀ w ∈ u_ws RX4 TX4 8, w ∈ wsX4_keep := by decide +kernel
  have hac39 := hts (.methodLink RX4 39 arraycopyName) (by decide +kernel)
  have haini := hts (.initialized "java/lang/System") (by decide +kernel)
  have hanat := hts (.native arraycopyName) (by decide +kernel)
  have hasta := hts (.static arraycopyName) (by decide +kernel)
  refine lv_aload_n hx hb dX4_keep_0 rfl (lv_at hl 0 rfl) ?_
  refine va_get (D := D) (ci := 4) (v := .ref (μ 4)) (C := RX4) (T := TX4) (N := 8) hx hb hts hinX4 hown hK hP 0 rfl rfl 6 (by decide) hf19 (fun _ h9 => h9) rfl dX4_keep_1 ?_
  refine lv_iconst (v := 0) hx hb dX4_keep_4 (by decide) ?_
  refine lv_aload_n hx hb dX4_keep_5 rfl (lv_at hl 0 rfl) ?_
  refine va_get (D := D) (ci := 4) (v := .ref (μ 5)) (C := RX4) (T := TX4) (N := 8) hx hb hts hinX4 hown hK hP 0 rfl rfl 7 (by decide) hf22 (fun _ h9 => h9) rfl dX4_keep_6 ?_
  refine lv_iconst (v := 0) hx hb dX4_keep_9 (by decide) ?_
  refine lv_sipush (v := 138) hx hb dX4_keep_10 (by decide) ?_
  refine zk_copy hx hb (hml.trans hl.1.symm) hown hac39 hanat hasta haini hK hP hD hS 4 5 rfl rfl (Nat.le_of_ble_eq_true rfl) (Nat.le_of_ble_eq_true rfl) dX4_keep_13 (fun H locs hP hD hS => ?_)
  have hP : va_P D vwCl (zw_M cI μ th σ (zenc σ)) H := hP
  have hD : va_D A (zw_M cI μ th σ (zenc σ)) := hD
  have hP9 := hP
  have hD9 := hD
  exact W.vret hx hb hr (fun t ht hW => ⟨⟨(), rfl, trivial, by rw [ht]; exact hP9, va_K.moved hW.alike hK, hD9⟩, hS.F ht⟩) hS.2.2 dX4_keep_16

set_option maxHeartbeats 4000000 in
set_option maxRecDepth 100000 in
theorem c_X4_bringBack (l : Launch) (D : va_G) (cI : ClassId) (μ : Nat → Nat) (th : Int32) (σ σ0 : zS) (h1 : σ 1 = σ0 1) (h7 : σ 7 = σ0 7) (h8 : σ 8 = σ0 8) (h3 : σ 0 3 = σ0 0 3) (h4 : σ 0 4 = σ0 0 4) : zMV l yX4_bringBack wsX4_bringBack ({ frames := 1, cells := 0, slots := 0, locals := 100 }) [.ref (μ 0)] D [(cI, .int)] (zw_M cI μ th σ (zenc σ0)) (zw_M cI μ th σ0 (zenc σ0)) := by
  intro sz
  refine Met.ofW (cc := cX4_bringBack) (maxL := 1) (ret := none) (by decide) rfl ?_
  intro p e s m args below meth c s₁ B hml hv
  obtain ⟨rfl, hsz, hP, hK, hD⟩ := hv
  have hx := B.exec
  have hb := B.bytes
  have hr := B.returns
  have hts := atoms_spec (ws := wsX4_bringBack) B.pre
  have hown : s.vm.findClass RX4 = some m.cls := findClass_of_methodNamed B.named
  have hlocks := B.notSynchronized
  subst hsz
  have hD := hD.self (sz := s.heap.size)
  generalize hAe : va_A (zw_M cI μ th σ (zenc σ0)) s.heap.size = A at hD ⊢
  have hA : ∀ q : Nat, s.heap.size ≤ q → A q := fun q h => by rw [← hAe]; exact Or.inr h
  have hS : va_S A s.heap s.heap [] := va_S.rf
  have hP : va_P D vwCl (zw_M cI μ th σ (zenc σ0)) s.heap := hP
  have hl := lv_entry ([.ref (μ 0)]) (n := 1) (Nat.le_of_ble_eq_true rfl)
  rw [lg_entry_eq]
  generalize (lg_sl ([.ref (μ 0)]) ++ List.replicate (1 - (lg_sl ([.ref (μ 0)])).length) Slot.unset).toArray = ls at hl ⊢
  have hl : lv_has ls 1 [(0, .ref (μ 0))] := hl
  have hf19 := hts (.fieldLink RX4 19 "HotBedsModel" "now" "[I") (by decide +kernel)
  have hf22 := hts (.fieldLink RX4 22 "HotBedsModel" "kept" "[I") (by decide +kernel)
  have hinX4 : ∀ w ∈ u_ws RX4 TX4 8, w ∈ wsX4_bringBack := by decide +kernel
  have hac39 := hts (.methodLink RX4 39 arraycopyName) (by decide +kernel)
  have haini := hts (.initialized "java/lang/System") (by decide +kernel)
  have hanat := hts (.native arraycopyName) (by decide +kernel)
  have hasta := hts (.static arraycopyName) (by decide +kernel)
  refine lv_aload_n hx hb dX4_bringBack_0 rfl (lv_at hl 0 rfl) ?_
  refine va_get (D := D) (ci := 4) (v := .ref (μ 5)) (C := RX4) (T := TX4) (N := 8) hx hb hts hinX4 hown hK hP 0 rfl rfl 7 (by decide) hf22 (fun _ h9 => h9) rfl dX4_bringBack_1 ?_
  refine lv_iconst (v := 0) hx hb dX4_bringBack_4 (by decide) ?_
  refine lv_aload_n hx hb dX4_bringBack_5 rfl (lv_at hl 0 rfl) ?_
  refine va_get (D := D) (ci := 4) (v := .ref (μ 4)) (C := RX4) (T := TX4) (N := 8) hx hb hts hinX4 hown hK hP 0 rfl rfl 6 (by decide) hf19 (fun _ h9 => h9) rfl dX4_bringBack_6 ?_
  refine lv_iconst (v := 0) hx hb dX4_bringBack_9 (by decide) ?_
  refine lv_sipush (v := 138) hx hb dX4_bringBack_10 (by decide) ?_
  refine zk_copy hx hb (hml.trans hl.1.symm) hown hac39 hanat hasta haini hK hP hD hS 5 4 rfl rfl (Nat.le_of_ble_eq_true rfl) (Nat.le_of_ble_eq_true rfl) dX4_bringBack_13 (fun H locs hP hD hS => ?_)
  have hP9 : va_P D vwCl (zw_M cI μ th σ0 (zenc σ0)) H := by unfold zw_M; rw [← h1, ← h7, ← h8, ← h3, ← h4]; exact hP
  have hD9 : va_D A (zw_M cI μ th σ0 (zenc σ0)) := by unfold zw_M; rw [← h1, ← h7, ← h8, ← h3, ← h4]; exact hD
  exact W.vret hx hb hr (fun t ht hW => ⟨⟨(), rfl, trivial, by rw [ht]; exact hP9, va_K.moved hW.alike hK, hD9⟩, hS.F ht⟩) hS.2.2 dX4_bringBack_16

set_option maxHeartbeats 4000000 in
set_option maxRecDepth 100000 in
theorem c_X4_watch (l : Launch) (D : va_G) (cI : ClassId) (μ : Nat → Nat) (th : Int32) (σ : zS) (κ : Nat → Int32) {nb ns h : Nat} (hC : zC σ nb ns h) : zMR l yX4_watch wsX4_watch ({ frames := 0, cells := 0, slots := 0, locals := 0 }) [.ref (μ 0)] D [(cI, .int)] (zw_M cI μ th σ (κ)) (fun r => r = nI (h % 24 / 8)) := by
  intro sz
  refine Met.ofW (cc := cX4_watch) (maxL := 1) (ret := (some .int)) (by decide) rfl ?_
  intro p e s m args below meth c s₁ B hml hv
  obtain ⟨rfl, hsz, hP, hK, hD⟩ := hv
  have hx := B.exec
  have hb := B.bytes
  have hr := B.returns
  have hts := atoms_spec (ws := wsX4_watch) B.pre
  have hown : s.vm.findClass RX4 = some m.cls := findClass_of_methodNamed B.named
  have hlocks := B.notSynchronized
  have hS : va_S (fun _ => False) s.heap s.heap [] := va_S.rf
  have hP : va_P D vwCl (zw_M cI μ th σ (κ)) s.heap := hP
  have hl := lv_entry ([.ref (μ 0)]) (n := 1) (Nat.le_of_ble_eq_true rfl)
  rw [lg_entry_eq]
  generalize (lg_sl ([.ref (μ 0)]) ++ List.replicate (1 - (lg_sl ([.ref (μ 0)])).length) Slot.unset).toArray = ls at hl ⊢
  have hl : lv_has ls 1 [(0, .ref (μ 0))] := hl
  have hf19 := hts (.fieldLink RX4 19 "HotBedsModel" "now" "[I") (by decide +kernel)
  have hinX4 : ∀ w ∈ u_ws RX4 TX4 8, w ∈ wsX4_watch := by decide +kernel
  have hnb := hC.2.1
  have hns := hC.2.2.2.1
  have hh := hC.2.2.2.2.2.1
  refine lv_aload_n hx hb dX4_watch_0 rfl (lv_at hl 0 rfl) ?_
  refine va_get (D := D) (ci := 4) (v := .ref (μ 4)) (C := RX4) (T := TX4) (N := 8) hx hb hts hinX4 hown hK hP 0 rfl rfl 6 (by decide) hf19 (fun _ h9 => h9) rfl dX4_watch_1 ?_
  refine lv_iconst (v := 0) hx hb dX4_watch_4 (by decide) ?_
  refine zk_ld hx hb hK hP 4 0 rfl rfl (k := 0) (by omega) (by decide) (v := nI h) ((zenc_0 σ (by decide)).trans hC.2.2.2.2.1) dX4_watch_5 ?_
  refine lv_bipush (v := 8) hx hb dX4_watch_6 (by decide) ?_
  refine zk_div (x := h) (y := 8) hx hb dX4_watch_8 (by omega) (by decide) (by decide) ?_
  refine lv_iconst (v := 3) hx hb dX4_watch_9 (by decide) ?_
  refine zk_rem (x := (h / 8)) (y := 3) hx hb dX4_watch_10 (by omega) (by decide) (by decide) ?_
  exact W.iret (v := nI ((h / 8) % 3)) hx hb hr (fun t ht hW => ⟨⟨nI ((h / 8) % 3), (), rfl, (by rw [show h / 8 % 3 = h % 24 / 8 by omega]), trivial⟩, hS.F ht⟩) hS.2.2 dX4_watch_11
