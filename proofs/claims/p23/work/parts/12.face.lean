set_option maxHeartbeats 4000000 in
set_option maxRecDepth 100000 in
theorem c_X3_requireSailor (l : Launch) (D : va_G) (cI : ClassId) (x : Nat) (a b : Nat → Nat) (σ τ : zS) {k : Nat} {nb ns h : Nat} (hC : zC σ nb ns h) (hk : k < ns) : zMQ l yX3_requireSailor wsX3_requireSailor ({ frames := 0, cells := 0, slots := 0, locals := 0 }) [.ref x, .int (nI k)] D [(cI, .int)] (zw_X cI x a b σ (τ))  := by
  intro sz
  refine Met.ofW (cc := cX3_requireSailor) (maxL := 2) (ret := none) (by decide) rfl ?_
  intro p e s m args below meth c s₁ B hml hv
  obtain ⟨rfl, hsz, hP, hK, hD⟩ := hv
  have hx := B.exec
  have hb := B.bytes
  have hr := B.returns
  have hts := atoms_spec (ws := wsX3_requireSailor) B.pre
  have hown : s.vm.findClass RX3 = some m.cls := findClass_of_methodNamed B.named
  have hlocks := B.notSynchronized
  have hS : va_S (fun _ => False) s.heap s.heap [] := va_S.rf
  have hP : va_P D vwCl (zw_X cI x a b σ (τ)) s.heap := hP
  have hl := lv_entry ([.ref x, .int (nI k)]) (n := 2) (Nat.le_of_ble_eq_true rfl)
  rw [lg_entry_eq]
  generalize (lg_sl ([.ref x, .int (nI k)]) ++ List.replicate (2 - (lg_sl ([.ref x, .int (nI k)])).length) Slot.unset).toArray = ls at hl ⊢
  have hl : lv_has ls 2 [(0, .ref x), (1, .int (nI k))] := hl
  have hf10 := hts (.fieldLink RX3 10 "HotBeds" "house" "LHotBeds$House;") (by decide +kernel)
  have hf181 := hts (.fieldLink RX3 181 "HotBeds$Sailors" "size" "I") (by decide +kernel)
  have hf48 := hts (.fieldLink RX3 48 "HotBeds$House" "sailors" "LHotBeds$Sailors;") (by decide +kernel)
  have hinX1 : ∀ w ∈ u_ws RX1 TX1 5, w ∈ wsX3_requireSailor := by decide +kernel
  have hinX2 : ∀ w ∈ u_ws RX2 TX2 13, w ∈ wsX3_requireSailor := by decide +kernel
  have hinX3 : ∀ w ∈ u_ws RX3 TX3 2, w ∈ wsX3_requireSailor := by decide +kernel
  have hnb := hC.2.1
  have hns := hC.2.2.2.1
  have hh := hC.2.2.2.2.2.1
  refine lv_iload_n hx hb dX3_requireSailor_0 rfl (lv_at hl 1 rfl) ?_
  refine lv_if_lt (tgt := 18) hx hb dX3_requireSailor_1 (by decide) (fun c => absurd c (nI_pos (by omega))) (fun _ => ?_)
  refine lv_iload_n hx hb dX3_requireSailor_4 rfl (lv_at hl 1 rfl) ?_
  refine lv_aload_n hx hb dX3_requireSailor_5 rfl (lv_at hl 0 rfl) ?_
  refine va_get (D := D) (ci := 3) (v := .ref (a 0)) (C := RX3) (T := TX3) (N := 2) hx hb hts hinX3 hown hK hP 0 rfl rfl 0 (by decide) hf10 (fun _ h9 => h9) rfl dX3_requireSailor_6 ?_
  refine va_get (D := D) (ci := 1) (v := .ref (a 2)) (C := RX1) (T := TX1) (N := 5) hx hb hts hinX1 hown hK hP 1 rfl rfl 4 (by decide) hf48 (fun _ h9 => h9) rfl dX3_requireSailor_9 ?_
  refine va_get (D := D) (ci := 2) (v := .int (nI ns)) (C := RX2) (T := TX2) (N := 13) hx hb hts hinX2 hown hK hP 3 rfl rfl 0 (by decide) hf181 (fun _ h9 => h9) (congrArg (fun z => some (Value.int z)) hC.2.2.1) dX3_requireSailor_12 ?_
  refine lv_icmp_lt (tgt := 28) hx hb dX3_requireSailor_15 (by decide) (fun _ => ?_) (fun c => absurd (nI_lt hk (by omega)) c)
  exact W.vret hx hb hr (fun t ht hW => ⟨⟨(), rfl, trivial, trivial⟩, hS.F ht⟩) hS.2.2 dX3_requireSailor_28

set_option maxHeartbeats 4000000 in
set_option maxRecDepth 100000 in
theorem c_X3_requireBed (l : Launch) (D : va_G) (cI : ClassId) (x : Nat) (a b : Nat → Nat) (σ τ : zS) {k : Nat} {nb ns h : Nat} (hC : zC σ nb ns h) (hkb : k < nb) : zMQ l yX3_requireBed wsX3_requireBed ({ frames := 1, cells := 0, slots := 0, locals := 21 }) [.ref x, .int (nI k)] D [(cI, .int)] (zw_X cI x a b σ (τ))  := by
  intro sz
  refine Met.ofW (cc := cX3_requireBed) (maxL := 2) (ret := none) (by decide) rfl ?_
  intro p e s m args below meth c s₁ B hml hv
  obtain ⟨rfl, hsz, hP, hK, hD⟩ := hv
  have hx := B.exec
  have hb := B.bytes
  have hr := B.returns
  have hts := atoms_spec (ws := wsX3_requireBed) B.pre
  have hown : s.vm.findClass RX3 = some m.cls := findClass_of_methodNamed B.named
  have hlocks := B.notSynchronized
  have hS : va_S (fun _ => False) s.heap s.heap [] := va_S.rf
  have hP : va_P D vwCl (zw_X cI x a b σ (τ)) s.heap := hP
  have hl := lv_entry ([.ref x, .int (nI k)]) (n := 2) (Nat.le_of_ble_eq_true rfl)
  rw [lg_entry_eq]
  generalize (lg_sl ([.ref x, .int (nI k)]) ++ List.replicate (2 - (lg_sl ([.ref x, .int (nI k)])).length) Slot.unset).toArray = ls at hl ⊢
  have hl : lv_has ls 2 [(0, .ref x), (1, .int (nI k))] := hl
  have hf10 := hts (.fieldLink RX3 10 "HotBeds" "house" "LHotBeds$House;") (by decide +kernel)
  have hf26 := hts (.fieldLink RX3 26 "HotBeds$House" "beds" "LHotBeds$Beds;") (by decide +kernel)
  have hinX1 : ∀ w ∈ u_ws RX1 TX1 5, w ∈ wsX3_requireBed := by decide +kernel
  have hinX3 : ∀ w ∈ u_ws RX3 TX3 2, w ∈ wsX3_requireBed := by decide +kernel
  have hnb := hC.2.1
  have hns := hC.2.2.2.1
  have hh := hC.2.2.2.2.2.1
  refine lv_aload_n hx hb dX3_requireBed_0 rfl (lv_at hl 0 rfl) ?_
  refine va_get (D := D) (ci := 3) (v := .ref (a 0)) (C := RX3) (T := TX3) (N := 2) hx hb hts hinX3 hown hK hP 0 rfl rfl 0 (by decide) hf10 (fun _ h9 => h9) rfl dX3_requireBed_1 ?_
  refine va_get (D := D) (ci := 1) (v := .ref (a 1)) (C := RX1) (T := TX1) (N := 5) hx hb hts hinX1 hown hK hP 1 rfl rfl 3 (by decide) hf26 (fun _ h9 => h9) rfl dX3_requireBed_4 ?_
  refine lv_iload_n hx hb dX3_requireBed_7 rfl (lv_at hl 1 rfl) ?_
  refine zk_R (D := D) (va_runV (As := [.int (nI k)]) (rest := []) ⟨hx, hb, hml, hown, hts⟩ (c_X0_has l D cI a σ (nI k) _) (cwV 1 hts gX3_requireBed_X0_has rfl rfl rfl zdX0_has ⟨Nat.le_of_ble_eq_true rfl, Nat.le_of_ble_eq_true rfl⟩) ⟨zbl _, va_recv hK (zxa_P hP) (ci := 0) (q0 := 1) rfl rfl, zpr hK (zxa_P hP) (zxa_D hD)⟩ rfl rfl hl.1 rfl (lv_room (Nat.le_of_ble_eq_true rfl)) dX3_requireBed_8 ⟨Nat.zero_le _, Nat.zero_le _⟩) hS (fun r_1 H locs hw hkp hS => ?_)
  have hP := hkp _ hP
  rcases hw with ⟨c_2, rfl⟩ | ⟨c_2, rfl⟩
  · refine lv_if_ne (tgt := 24) hx hb dX3_requireBed_11 (by decide) (fun _ => ?_) (fun c => absurd c (by decide))
    exact W.vret hx hb hr (fun t ht hW => ⟨⟨(), rfl, trivial, trivial⟩, hS.F ht⟩) hS.2.2 dX3_requireBed_24
  · exact absurd (zhas_k hC hkb) c_2

set_option maxHeartbeats 4000000 in
set_option maxRecDepth 100000 in
theorem c_X3_requireWatch (l : Launch) (D : va_G) (cI : ClassId) (v : Int32) (h1 : ¬ v < 0) (h2 : v < 3) : zMQ l yX3_requireWatch wsX3_requireWatch ({ frames := 0, cells := 0, slots := 0, locals := 0 }) [.int v] D [(cI, .int)] ([])  := by
  intro sz
  refine Met.ofW (cc := cX3_requireWatch) (maxL := 1) (ret := none) (by decide) rfl ?_
  intro p e s m args below meth c s₁ B hml hv
  obtain ⟨rfl, hsz, hP, hK, hD⟩ := hv
  have hx := B.exec
  have hb := B.bytes
  have hr := B.returns
  have hts := atoms_spec (ws := wsX3_requireWatch) B.pre
  have hown : s.vm.findClass RX3 = some m.cls := findClass_of_methodNamed B.named
  have hlocks := B.notSynchronized
  have hS : va_S (fun _ => False) s.heap s.heap [] := va_S.rf
  have hP : va_P D vwCl ([]) s.heap := hP
  have hl := lv_entry ([.int v]) (n := 1) (Nat.le_of_ble_eq_true rfl)
  rw [lg_entry_eq]
  generalize (lg_sl ([.int v]) ++ List.replicate (1 - (lg_sl ([.int v])).length) Slot.unset).toArray = ls at hl ⊢
  have hl : lv_has ls 1 [(0, .int v)] := hl
  refine lv_iload_n hx hb dX3_requireWatch_0 rfl (lv_at hl 0 rfl) ?_
  refine lv_if_lt (tgt := 9) hx hb dX3_requireWatch_1 (by decide) (fun c => absurd c (h1)) (fun _ => ?_)
  refine lv_iload_n hx hb dX3_requireWatch_4 rfl (lv_at hl 0 rfl) ?_
  refine lv_iconst (v := 3) hx hb dX3_requireWatch_5 (by decide) ?_
  refine lv_icmp_lt (tgt := 19) hx hb dX3_requireWatch_6 (by decide) (fun _ => ?_) (fun c => absurd (h2) c)
  exact W.vret hx hb hr (fun t ht hW => ⟨⟨(), rfl, trivial, trivial⟩, hS.F ht⟩) hS.2.2 dX3_requireWatch_19

set_option maxHeartbeats 4000000 in
set_option maxRecDepth 100000 in
theorem c_X3_requireHours (l : Launch) (D : va_G) (cI : ClassId) (v : Int32) (h1 : ¬ v < 1) (h2 : v ≤ 72) : zMQ l yX3_requireHours wsX3_requireHours ({ frames := 0, cells := 0, slots := 0, locals := 0 }) [.int v] D [(cI, .int)] ([])  := by
  intro sz
  refine Met.ofW (cc := cX3_requireHours) (maxL := 1) (ret := none) (by decide) rfl ?_
  intro p e s m args below meth c s₁ B hml hv
  obtain ⟨rfl, hsz, hP, hK, hD⟩ := hv
  have hx := B.exec
  have hb := B.bytes
  have hr := B.returns
  have hts := atoms_spec (ws := wsX3_requireHours) B.pre
  have hown : s.vm.findClass RX3 = some m.cls := findClass_of_methodNamed B.named
  have hlocks := B.notSynchronized
  have hS : va_S (fun _ => False) s.heap s.heap [] := va_S.rf
  have hP : va_P D vwCl ([]) s.heap := hP
  have hl := lv_entry ([.int v]) (n := 1) (Nat.le_of_ble_eq_true rfl)
  rw [lg_entry_eq]
  generalize (lg_sl ([.int v]) ++ List.replicate (1 - (lg_sl ([.int v])).length) Slot.unset).toArray = ls at hl ⊢
  have hl : lv_has ls 1 [(0, .int v)] := hl
  refine lv_iload_n hx hb dX3_requireHours_0 rfl (lv_at hl 0 rfl) ?_
  refine lv_iconst (v := 1) hx hb dX3_requireHours_1 (by decide) ?_
  refine lv_icmp_lt (tgt := 11) hx hb dX3_requireHours_2 (by decide) (fun c => absurd c (h1)) (fun _ => ?_)
  refine lv_iload_n hx hb dX3_requireHours_5 rfl (lv_at hl 0 rfl) ?_
  refine lv_bipush (v := 72) hx hb dX3_requireHours_6 (by decide) ?_
  refine lv_icmp_le (tgt := 21) hx hb dX3_requireHours_8 (by decide) (fun _ => ?_) (fun c => absurd (h2) c)
  exact W.vret hx hb hr (fun t ht hW => ⟨⟨(), rfl, trivial, trivial⟩, hS.F ht⟩) hS.2.2 dX3_requireHours_21

set_option maxHeartbeats 4000000 in
set_option maxRecDepth 100000 in
theorem c_X3_requireUp (l : Launch) (D : va_G) (cI : ClassId) (x : Nat) (a b : Nat → Nat) (σ τ : zS) {k : Nat} {nb ns h : Nat} (hC : zC σ nb ns h) (hk : k < ns) (hup : σ 12 k = 0) : zMQ l yX3_requireUp wsX3_requireUp ({ frames := 1, cells := 0, slots := 0, locals := 21 }) [.ref x, .int (nI k)] D [(cI, .int)] (zw_X cI x a b σ (τ))  := by
  intro sz
  refine Met.ofW (cc := cX3_requireUp) (maxL := 2) (ret := none) (by decide) rfl ?_
  intro p e s m args below meth c s₁ B hml hv
  obtain ⟨rfl, hsz, hP, hK, hD⟩ := hv
  have hx := B.exec
  have hb := B.bytes
  have hr := B.returns
  have hts := atoms_spec (ws := wsX3_requireUp) B.pre
  have hown : s.vm.findClass RX3 = some m.cls := findClass_of_methodNamed B.named
  have hlocks := B.notSynchronized
  have hS : va_S (fun _ => False) s.heap s.heap [] := va_S.rf
  have hP : va_P D vwCl (zw_X cI x a b σ (τ)) s.heap := hP
  have hl := lv_entry ([.ref x, .int (nI k)]) (n := 2) (Nat.le_of_ble_eq_true rfl)
  rw [lg_entry_eq]
  generalize (lg_sl ([.ref x, .int (nI k)]) ++ List.replicate (2 - (lg_sl ([.ref x, .int (nI k)])).length) Slot.unset).toArray = ls at hl ⊢
  have hl : lv_has ls 2 [(0, .ref x), (1, .int (nI k))] := hl
  have hf10 := hts (.fieldLink RX3 10 "HotBeds" "house" "LHotBeds$House;") (by decide +kernel)
  have hf48 := hts (.fieldLink RX3 48 "HotBeds$House" "sailors" "LHotBeds$Sailors;") (by decide +kernel)
  have hinX1 : ∀ w ∈ u_ws RX1 TX1 5, w ∈ wsX3_requireUp := by decide +kernel
  have hinX3 : ∀ w ∈ u_ws RX3 TX3 2, w ∈ wsX3_requireUp := by decide +kernel
  have hnb := hC.2.1
  have hns := hC.2.2.2.1
  have hh := hC.2.2.2.2.2.1
  refine lv_aload_n hx hb dX3_requireUp_0 rfl (lv_at hl 0 rfl) ?_
  refine va_get (D := D) (ci := 3) (v := .ref (a 0)) (C := RX3) (T := TX3) (N := 2) hx hb hts hinX3 hown hK hP 0 rfl rfl 0 (by decide) hf10 (fun _ h9 => h9) rfl dX3_requireUp_1 ?_
  refine va_get (D := D) (ci := 1) (v := .ref (a 2)) (C := RX1) (T := TX1) (N := 5) hx hb hts hinX1 hown hK hP 1 rfl rfl 4 (by decide) hf48 (fun _ h9 => h9) rfl dX3_requireUp_4 ?_
  refine lv_iload_n hx hb dX3_requireUp_7 rfl (lv_at hl 1 rfl) ?_
  refine zk_R (D := D) (va_runV (As := [.int (nI k)]) (rest := []) ⟨hx, hb, hml, hown, hts⟩ (c_X2_isUp l D cI a σ (k := k) (by omega) _) (cwV 1 hts gX3_requireUp_X2_isUp rfl rfl rfl zdX2_isUp ⟨Nat.le_of_ble_eq_true rfl, Nat.le_of_ble_eq_true rfl⟩) ⟨zbl _, va_recv hK (zxa_P hP) (ci := 2) (q0 := 2) rfl rfl, zpr hK (zxa_P hP) (zxa_D hD)⟩ rfl rfl hl.1 rfl (lv_room (Nat.le_of_ble_eq_true rfl)) dX3_requireUp_8 ⟨Nat.zero_le _, Nat.zero_le _⟩) hS (fun r_1 H locs hw hkp hS => ?_)
  have hP := hkp _ hP
  rcases hw with ⟨c_2, rfl⟩ | ⟨c_2, rfl⟩
  · refine lv_if_ne (tgt := 24) hx hb dX3_requireUp_11 (by decide) (fun _ => ?_) (fun c => absurd c (by decide))
    exact W.vret hx hb hr (fun t ht hW => ⟨⟨(), rfl, trivial, trivial⟩, hS.F ht⟩) hS.2.2 dX3_requireUp_24
  · exact absurd (hup) c_2

set_option maxHeartbeats 4000000 in
set_option maxRecDepth 100000 in
theorem c_X3_bed (l : Launch) (D : va_G) (cI : ClassId) (x : Nat) (a b : Nat → Nat) (σ τ : zS) (v : Int32) {nb ns h : Nat} (hC : zC σ nb ns h) (h1 : ¬ v < 0) (h2 : v ≤ 9) (hb6 : nb < 6) : zMI l yX3_bed wsX3_bed ({ frames := 1, cells := 0, slots := 0, locals := 22 }) [.ref x, .int v] D [(cI, .int)] (zw_X cI x a b σ (τ)) (zw_X cI x a b (f_addB σ nb v) (τ)) (fun r => r = nI nb) := by
  intro sz
  refine Met.ofW (cc := cX3_bed) (maxL := 2) (ret := (some .int)) (by decide) rfl ?_
  intro p e s m args below meth c s₁ B hml hv
  obtain ⟨rfl, hsz, hP, hK, hD⟩ := hv
  have hx := B.exec
  have hb := B.bytes
  have hr := B.returns
  have hts := atoms_spec (ws := wsX3_bed) B.pre
  have hown : s.vm.findClass RX3 = some m.cls := findClass_of_methodNamed B.named
  have hlocks := B.notSynchronized
  subst hsz
  have hD := hD.self (sz := s.heap.size)
  generalize hAe : va_A (zw_X cI x a b σ (τ)) s.heap.size = A at hD ⊢
  have hA : ∀ q : Nat, s.heap.size ≤ q → A q := fun q h => by rw [← hAe]; exact Or.inr h
  have hS : va_S A s.heap s.heap [] := va_S.rf
  have hP : va_P D vwCl (zw_X cI x a b σ (τ)) s.heap := hP
  have hl := lv_entry ([.ref x, .int v]) (n := 2) (Nat.le_of_ble_eq_true rfl)
  rw [lg_entry_eq]
  generalize (lg_sl ([.ref x, .int v]) ++ List.replicate (2 - (lg_sl ([.ref x, .int v])).length) Slot.unset).toArray = ls at hl ⊢
  have hl : lv_has ls 2 [(0, .ref x), (1, .int v)] := hl
  have hf10 := hts (.fieldLink RX3 10 "HotBeds" "house" "LHotBeds$House;") (by decide +kernel)
  have hf26 := hts (.fieldLink RX3 26 "HotBeds$House" "beds" "LHotBeds$Beds;") (by decide +kernel)
  have hinX1 : ∀ w ∈ u_ws RX1 TX1 5, w ∈ wsX3_bed := by decide +kernel
  have hinX3 : ∀ w ∈ u_ws RX3 TX3 2, w ∈ wsX3_bed := by decide +kernel
  have hnb := hC.2.1
  have hns := hC.2.2.2.1
  have hh := hC.2.2.2.2.2.1
  refine lv_iload_n hx hb dX3_bed_0 rfl (lv_at hl 1 rfl) ?_
  refine lv_if_lt (tgt := 10) hx hb dX3_bed_1 (by decide) (fun c => absurd c (h1)) (fun _ => ?_)
  refine lv_iload_n hx hb dX3_bed_4 rfl (lv_at hl 1 rfl) ?_
  refine lv_bipush (v := 9) hx hb dX3_bed_5 (by decide) ?_
  refine lv_icmp_le (tgt := 20) hx hb dX3_bed_7 (by decide) (fun _ => ?_) (fun c => absurd (h2) c)
  refine lv_aload_n hx hb dX3_bed_20 rfl (lv_at hl 0 rfl) ?_
  refine va_get (D := D) (ci := 3) (v := .ref (a 0)) (C := RX3) (T := TX3) (N := 2) hx hb hts hinX3 hown hK hP 0 rfl rfl 0 (by decide) hf10 (fun _ h9 => h9) rfl dX3_bed_21 ?_
  refine va_get (D := D) (ci := 1) (v := .ref (a 1)) (C := RX1) (T := TX1) (N := 5) hx hb hts hinX1 hown hK hP 1 rfl rfl 3 (by decide) hf26 (fun _ h9 => h9) rfl dX3_bed_24 ?_
  refine lv_iload_n hx hb dX3_bed_27 rfl (lv_at hl 1 rfl) ?_
  have hF := zfree (zxa_D hD) hS hA
  refine zk_I (va_runV (As := [.int v]) (rest := []) ⟨hx, hb, hml, hown, hts⟩ (c_X0_add l D cI a σ v hC hb6 _) (cwV 1 hts gX3_bed_X0_add rfl rfl rfl zdX0_add ⟨Nat.le_of_ble_eq_true rfl, Nat.le_of_ble_eq_true rfl⟩) ⟨zbl _, va_recv hK (zxa_P hP) (ci := 0) (q0 := 1) rfl rfl, zpr hK (zxa_P hP) (zxa_D hD)⟩ rfl rfl hl.1 rfl (lv_room (Nat.le_of_ble_eq_true rfl)) dX3_bed_28 ⟨Nat.zero_le _, Nat.zero_le _⟩) hS hF (fun r_3 H locs hw hkp hP1 hD1 hS => ?_)
  obtain ⟨hP, hD⟩ := zxa_J hP hD hkp hF hP1 hD1
  have hP : va_P D vwCl (zw_X cI x a b (f_addB σ nb v) (τ)) H := hP
  have hD : va_D A (zw_X cI x a b (f_addB σ nb v) (τ)) := hD
  subst hw
  have hP9 := hP
  have hD9 := hD
  exact W.iret (v := nI nb) hx hb hr (fun t ht hW => ⟨⟨nI nb, (), rfl, rfl, by rw [ht]; exact hP9, va_K.moved hW.alike hK, hD9⟩, hS.F ht⟩) hS.2.2 dX3_bed_31

set_option maxHeartbeats 4000000 in
set_option maxRecDepth 100000 in
theorem c_X3_sailor (l : Launch) (D : va_G) (cI : ClassId) (x : Nat) (a b : Nat → Nat) (σ τ : zS) (v1 v2 v3 v4 : Int32) {nb ns h : Nat} (hC : zC σ nb ns h) (hw1 : ¬ v1 < 0) (hw2 : v1 < 3) (h1 : ¬ v2 < 0) (h2 : v2 ≤ 9) (h3 : ¬ v3 < 0) (h4 : v3 ≤ 20) (h5 : ¬ v4 < 0) (h6 : v4 ≤ 99) (hs10 : ns < 10) : zMI l yX3_sailor wsX3_sailor ({ frames := 1, cells := 0, slots := 0, locals := 25 }) [.ref x, .int v1, .int v2, .int v3, .int v4] D [(cI, .int)] (zw_X cI x a b σ (τ)) (zw_X cI x a b (f_addS σ ns v1 v2 v3 v4) (τ)) (fun r => r = nI ns) := by
  intro sz
  refine Met.ofW (cc := cX3_sailor) (maxL := 5) (ret := (some .int)) (by decide) rfl ?_
  intro p e s m args below meth c s₁ B hml hv
  obtain ⟨rfl, hsz, hP, hK, hD⟩ := hv
  have hx := B.exec
  have hb := B.bytes
  have hr := B.returns
  have hts := atoms_spec (ws := wsX3_sailor) B.pre
  have hown : s.vm.findClass RX3 = some m.cls := findClass_of_methodNamed B.named
  have hlocks := B.notSynchronized
  subst hsz
  have hD := hD.self (sz := s.heap.size)
  generalize hAe : va_A (zw_X cI x a b σ (τ)) s.heap.size = A at hD ⊢
  have hA : ∀ q : Nat, s.heap.size ≤ q → A q := fun q h => by rw [← hAe]; exact Or.inr h
  have hS : va_S A s.heap s.heap [] := va_S.rf
  have hP : va_P D vwCl (zw_X cI x a b σ (τ)) s.heap := hP
  have hl := lv_entry ([.ref x, .int v1, .int v2, .int v3, .int v4]) (n := 5) (Nat.le_of_ble_eq_true rfl)
  rw [lg_entry_eq]
  generalize (lg_sl ([.ref x, .int v1, .int v2, .int v3, .int v4]) ++ List.replicate (5 - (lg_sl ([.ref x, .int v1, .int v2, .int v3, .int v4])).length) Slot.unset).toArray = ls at hl ⊢
  have hl : lv_has ls 5 [(0, .ref x), (1, .int v1), (2, .int v2), (3, .int v3), (4, .int v4)] := hl
  have hf10 := hts (.fieldLink RX3 10 "HotBeds" "house" "LHotBeds$House;") (by decide +kernel)
  have hf48 := hts (.fieldLink RX3 48 "HotBeds$House" "sailors" "LHotBeds$Sailors;") (by decide +kernel)
  have hinX1 : ∀ w ∈ u_ws RX1 TX1 5, w ∈ wsX3_sailor := by decide +kernel
  have hinX3 : ∀ w ∈ u_ws RX3 TX3 2, w ∈ wsX3_sailor := by decide +kernel
  have hnb := hC.2.1
  have hns := hC.2.2.2.1
  have hh := hC.2.2.2.2.2.1
  refine lv_iload_n hx hb dX3_sailor_0 rfl (lv_at hl 1 rfl) ?_
  refine zk_Q (D := D) (va_runS (As := [.int v1]) (rest := []) ⟨hx, hb, hml, hown, hts⟩ (c_X3_requireWatch l D cI v1 hw1 hw2 _) (va_cwS 1 hts gX3_sailor_X3_requireWatch rfl rfl rfl zdX3_requireWatch.2 ⟨Nat.le_of_ble_eq_true rfl, Nat.le_of_ble_eq_true rfl⟩) ⟨zbl _, zpr hK zP0 (zD0 (A := fun _ => True))⟩ rfl rfl hl.1 rfl (lv_room (Nat.le_of_ble_eq_true rfl)) dX3_sailor_1 ⟨Nat.zero_le _, Nat.zero_le _⟩) hS (fun H locs hkp hS => ?_)
  have hP := hkp _ hP
  refine lv_iload_n hx hb dX3_sailor_4 rfl (lv_at hl 2 rfl) ?_
  refine lv_if_lt (tgt := 14) hx hb dX3_sailor_5 (by decide) (fun c => absurd c (h1)) (fun _ => ?_)
  refine lv_iload_n hx hb dX3_sailor_8 rfl (lv_at hl 2 rfl) ?_
  refine lv_bipush (v := 9) hx hb dX3_sailor_9 (by decide) ?_
  refine lv_icmp_le (tgt := 24) hx hb dX3_sailor_11 (by decide) (fun _ => ?_) (fun c => absurd (h2) c)
  refine lv_iload_n hx hb dX3_sailor_24 rfl (lv_at hl 3 rfl) ?_
  refine lv_if_lt (tgt := 34) hx hb dX3_sailor_25 (by decide) (fun c => absurd c (h3)) (fun _ => ?_)
  refine lv_iload_n hx hb dX3_sailor_28 rfl (lv_at hl 3 rfl) ?_
  refine lv_bipush (v := 20) hx hb dX3_sailor_29 (by decide) ?_
  refine lv_icmp_le (tgt := 44) hx hb dX3_sailor_31 (by decide) (fun _ => ?_) (fun c => absurd (h4) c)
  refine lv_iload hx hb dX3_sailor_44 (lv_at hl 4 rfl) ?_
  refine lv_if_lt (tgt := 56) hx hb dX3_sailor_46 (by decide) (fun c => absurd c (h5)) (fun _ => ?_)
  refine lv_iload hx hb dX3_sailor_49 (lv_at hl 4 rfl) ?_
  refine lv_bipush (v := 99) hx hb dX3_sailor_51 (by decide) ?_
  refine lv_icmp_le (tgt := 66) hx hb dX3_sailor_53 (by decide) (fun _ => ?_) (fun c => absurd (h6) c)
  refine lv_aload_n hx hb dX3_sailor_66 rfl (lv_at hl 0 rfl) ?_
  refine va_get (D := D) (ci := 3) (v := .ref (a 0)) (C := RX3) (T := TX3) (N := 2) hx hb hts hinX3 hown hK hP 0 rfl rfl 0 (by decide) hf10 (fun _ h9 => h9) rfl dX3_sailor_67 ?_
  refine va_get (D := D) (ci := 1) (v := .ref (a 2)) (C := RX1) (T := TX1) (N := 5) hx hb hts hinX1 hown hK hP 1 rfl rfl 4 (by decide) hf48 (fun _ h9 => h9) rfl dX3_sailor_70 ?_
  refine lv_iload_n hx hb dX3_sailor_73 rfl (lv_at hl 1 rfl) ?_
  refine lv_iload_n hx hb dX3_sailor_74 rfl (lv_at hl 2 rfl) ?_
  refine lv_iload_n hx hb dX3_sailor_75 rfl (lv_at hl 3 rfl) ?_
  refine lv_iload hx hb dX3_sailor_76 (lv_at hl 4 rfl) ?_
  have hF := zfree (zxa_D hD) hS hA
  refine zk_I (va_runV (As := [.int v1, .int v2, .int v3, .int v4]) (rest := []) ⟨hx, hb, hml, hown, hts⟩ (c_X2_add l D cI a σ v1 v2 v3 v4 hC hs10 _) (cwV 4 hts gX3_sailor_X2_add rfl rfl rfl zdX2_add ⟨Nat.le_of_ble_eq_true rfl, Nat.le_of_ble_eq_true rfl⟩) ⟨zbl _, va_recv hK (zxa_P hP) (ci := 2) (q0 := 2) rfl rfl, zpr hK (zxa_P hP) (zxa_D hD)⟩ rfl rfl hl.1 rfl (lv_room (Nat.le_of_ble_eq_true rfl)) dX3_sailor_78 ⟨Nat.zero_le _, Nat.zero_le _⟩) hS hF (fun r_7 H locs hw hkp hP1 hD1 hS => ?_)
  obtain ⟨hP, hD⟩ := zxa_J hP hD hkp hF hP1 hD1
  have hP : va_P D vwCl (zw_X cI x a b (f_addS σ ns v1 v2 v3 v4) (τ)) H := hP
  have hD : va_D A (zw_X cI x a b (f_addS σ ns v1 v2 v3 v4) (τ)) := hD
  subst hw
  have hP9 := hP
  have hD9 := hD
  exact W.iret (v := nI ns) hx hb hr (fun t ht hW => ⟨⟨nI ns, (), rfl, rfl, by rw [ht]; exact hP9, va_K.moved hW.alike hK, hD9⟩, hS.F ht⟩) hS.2.2 dX3_sailor_81

set_option maxHeartbeats 4000000 in
set_option maxRecDepth 100000 in
theorem c_X3_keep (l : Launch) (D : va_G) (cI : ClassId) (x : Nat) (a b : Nat → Nat) (σ τ : zS) {k : Nat} {nb ns h : Nat} (hC : zC σ nb ns h) (hk : k < ns) (v : Int32) (hv : v = -1 ∨ ∃ b9, b9 < nb ∧ v = nI b9) : zMI l yX3_keep wsX3_keep ({ frames := 2, cells := 0, slots := 0, locals := 42 }) [.ref x, .int (nI k), .int v] D [(cI, .int)] (zw_X cI x a b σ (τ)) (zw_X cI x a b (zs σ 11 k v) (τ)) (fun r => r = σ 11 k) := by
  intro sz
  refine Met.ofW (cc := cX3_keep) (maxL := 4) (ret := (some .int)) (by decide) rfl ?_
  intro p e s m args below meth c s₁ B hml hv
  obtain ⟨rfl, hsz, hP, hK, hD⟩ := hv
  have hx := B.exec
  have hb := B.bytes
  have hr := B.returns
  have hts := atoms_spec (ws := wsX3_keep) B.pre
  have hown : s.vm.findClass RX3 = some m.cls := findClass_of_methodNamed B.named
  have hlocks := B.notSynchronized
  subst hsz
  have hD := hD.self (sz := s.heap.size)
  generalize hAe : va_A (zw_X cI x a b σ (τ)) s.heap.size = A at hD ⊢
  have hA : ∀ q : Nat, s.heap.size ≤ q → A q := fun q h => by rw [← hAe]; exact Or.inr h
  have hS : va_S A s.heap s.heap [] := va_S.rf
  have hP : va_P D vwCl (zw_X cI x a b σ (τ)) s.heap := hP
  have hl := lv_entry ([.ref x, .int (nI k), .int v]) (n := 4) (Nat.le_of_ble_eq_true rfl)
  rw [lg_entry_eq]
  generalize (lg_sl ([.ref x, .int (nI k), .int v]) ++ List.replicate (4 - (lg_sl ([.ref x, .int (nI k), .int v])).length) Slot.unset).toArray = ls at hl ⊢
  have hl : lv_has ls 4 [(0, .ref x), (1, .int (nI k)), (2, .int v)] := hl
  have hf10 := hts (.fieldLink RX3 10 "HotBeds" "house" "LHotBeds$House;") (by decide +kernel)
  have hf48 := hts (.fieldLink RX3 48 "HotBeds$House" "sailors" "LHotBeds$Sailors;") (by decide +kernel)
  have hf61 := hts (.fieldLink RX3 61 "HotBeds$Sailors" "kept" "[I") (by decide +kernel)
  have hinX1 : ∀ w ∈ u_ws RX1 TX1 5, w ∈ wsX3_keep := by decide +kernel
  have hinX2 : ∀ w ∈ u_ws RX2 TX2 13, w ∈ wsX3_keep := by decide +kernel
  have hinX3 : ∀ w ∈ u_ws RX3 TX3 2, w ∈ wsX3_keep := by decide +kernel
  have hnb := hC.2.1
  have hns := hC.2.2.2.1
  have hh := hC.2.2.2.2.2.1
  rcases hv with rfl | ⟨k9, hkb, rfl⟩
  · refine lv_aload_n hx hb dX3_keep_0 rfl (lv_at hl 0 rfl) ?_
    refine lv_iload_n hx hb dX3_keep_1 rfl (lv_at hl 1 rfl) ?_
    refine zk_Q (D := D) (va_runV (As := [.int (nI k)]) (rest := []) ⟨hx, hb, hml, hown, hts⟩ (c_X3_requireSailor l D cI x a b σ (τ) hC hk _) (cwV 1 hts gX3_keep_X3_requireSailor rfl rfl rfl zdX3_requireSailor ⟨Nat.le_of_ble_eq_true rfl, Nat.le_of_ble_eq_true rfl⟩) ⟨zbl _, va_recv hK hP (ci := 3) (q0 := 0) rfl rfl, zpr hK hP hD⟩ rfl rfl hl.1 rfl (lv_room (Nat.le_of_ble_eq_true rfl)) dX3_keep_2 ⟨Nat.zero_le _, Nat.zero_le _⟩) hS (fun H locs hkp hS => ?_)
    have hP := hkp _ hP
    refine lv_iload_n hx hb dX3_keep_5 rfl (lv_at hl 2 rfl) ?_
    refine lv_iconst (v := (-1)) hx hb dX3_keep_6 (by decide) ?_
    refine lv_icmp_eq (tgt := 15) hx hb dX3_keep_7 (by decide) (fun _ => ?_) (fun c => absurd (by decide) c)
    refine lv_aload_n hx hb dX3_keep_15 rfl (lv_at hl 0 rfl) ?_
    refine va_get (D := D) (ci := 3) (v := .ref (a 0)) (C := RX3) (T := TX3) (N := 2) hx hb hts hinX3 hown hK hP 0 rfl rfl 0 (by decide) hf10 (fun _ h9 => h9) rfl dX3_keep_16 ?_
    refine va_get (D := D) (ci := 1) (v := .ref (a 2)) (C := RX1) (T := TX1) (N := 5) hx hb hts hinX1 hown hK hP 1 rfl rfl 4 (by decide) hf48 (fun _ h9 => h9) rfl dX3_keep_19 ?_
    refine va_get (D := D) (ci := 2) (v := .ref (a 13)) (C := RX2) (T := TX2) (N := 13) hx hb hts hinX2 hown hK hP 3 rfl rfl 6 (by decide) hf61 (fun _ h9 => h9) rfl dX3_keep_22 ?_
    refine lv_iload_n hx hb dX3_keep_25 rfl (lv_at hl 1 rfl) ?_
    refine zk_ld hx hb hK hP 14 0 rfl rfl (k := k) (by omega) (by decide) (v := σ 11 k) rfl dX3_keep_26 ?_
    refine lv_istore_n (lv' := [(3, .int (σ 11 k)), (0, .ref x), (1, .int (nI k)), (2, .int (-1))]) hx hb dX3_keep_27 rfl hl (by decide) rfl (fun ls hl => ?_)
    refine lv_aload_n hx hb dX3_keep_28 rfl (lv_at hl 1 rfl) ?_
    refine va_get (D := D) (ci := 3) (v := .ref (a 0)) (C := RX3) (T := TX3) (N := 2) hx hb hts hinX3 hown hK hP 0 rfl rfl 0 (by decide) hf10 (fun _ h9 => h9) rfl dX3_keep_29 ?_
    refine va_get (D := D) (ci := 1) (v := .ref (a 2)) (C := RX1) (T := TX1) (N := 5) hx hb hts hinX1 hown hK hP 1 rfl rfl 4 (by decide) hf48 (fun _ h9 => h9) rfl dX3_keep_32 ?_
    refine va_get (D := D) (ci := 2) (v := .ref (a 13)) (C := RX2) (T := TX2) (N := 13) hx hb hts hinX2 hown hK hP 3 rfl rfl 6 (by decide) hf61 (fun _ h9 => h9) rfl dX3_keep_35 ?_
    refine lv_iload_n hx hb dX3_keep_38 rfl (lv_at hl 2 rfl) ?_
    refine lv_iload_n hx hb dX3_keep_39 rfl (lv_at hl 3 rfl) ?_
    refine zk_st hx hb hK hP hD hS 14 0 rfl rfl (k := k) (by omega) (by decide) (w1 := zw_X cI x a b (zs σ 11 k (-1)) (τ)) rfl dX3_keep_40 (fun H locs hP hD hS => ?_)
    have hP : va_P D vwCl (zw_X cI x a b (zs σ 11 k (-1)) (τ)) H := hP
    have hD : va_D A (zw_X cI x a b (zs σ 11 k (-1)) (τ)) := hD
    refine lv_iload_n hx hb dX3_keep_41 rfl (lv_at hl 0 rfl) ?_
    have hP9 := hP
    have hD9 := hD
    exact W.iret (v := σ 11 k) hx hb hr (fun t ht hW => ⟨⟨σ 11 k, (), rfl, rfl, by rw [ht]; exact hP9, va_K.moved hW.alike hK, hD9⟩, hS.F ht⟩) hS.2.2 dX3_keep_42
  · refine lv_aload_n hx hb dX3_keep_0 rfl (lv_at hl 0 rfl) ?_
    refine lv_iload_n hx hb dX3_keep_1 rfl (lv_at hl 1 rfl) ?_
    refine zk_Q (D := D) (va_runV (As := [.int (nI k)]) (rest := []) ⟨hx, hb, hml, hown, hts⟩ (c_X3_requireSailor l D cI x a b σ (τ) hC hk _) (cwV 1 hts gX3_keep_X3_requireSailor rfl rfl rfl zdX3_requireSailor ⟨Nat.le_of_ble_eq_true rfl, Nat.le_of_ble_eq_true rfl⟩) ⟨zbl _, va_recv hK hP (ci := 3) (q0 := 0) rfl rfl, zpr hK hP hD⟩ rfl rfl hl.1 rfl (lv_room (Nat.le_of_ble_eq_true rfl)) dX3_keep_2 ⟨Nat.zero_le _, Nat.zero_le _⟩) hS (fun H locs hkp hS => ?_)
    have hP := hkp _ hP
    refine lv_iload_n hx hb dX3_keep_5 rfl (lv_at hl 2 rfl) ?_
    refine lv_iconst (v := (-1)) hx hb dX3_keep_6 (by decide) ?_
    refine lv_icmp_eq (tgt := 15) hx hb dX3_keep_7 (by decide) (fun c => absurd c (zn_m1 (by omega))) (fun _ => ?_)
    refine lv_aload_n hx hb dX3_keep_10 rfl (lv_at hl 0 rfl) ?_
    refine lv_iload_n hx hb dX3_keep_11 rfl (lv_at hl 2 rfl) ?_
    refine zk_Q (D := D) (va_runV (As := [.int (nI k9)]) (rest := []) ⟨hx, hb, hml, hown, hts⟩ (c_X3_requireBed l D cI x a b σ (τ) hC hkb _) (cwV 1 hts gX3_keep_X3_requireBed rfl rfl rfl zdX3_requireBed ⟨Nat.le_of_ble_eq_true rfl, Nat.le_of_ble_eq_true rfl⟩) ⟨zbl _, va_recv hK hP (ci := 3) (q0 := 0) rfl rfl, zpr hK hP hD⟩ rfl rfl hl.1 rfl (lv_room (Nat.le_of_ble_eq_true rfl)) dX3_keep_12 ⟨Nat.zero_le _, Nat.zero_le _⟩) hS (fun H locs hkp hS => ?_)
    have hP := hkp _ hP
    refine lv_aload_n hx hb dX3_keep_15 rfl (lv_at hl 0 rfl) ?_
    refine va_get (D := D) (ci := 3) (v := .ref (a 0)) (C := RX3) (T := TX3) (N := 2) hx hb hts hinX3 hown hK hP 0 rfl rfl 0 (by decide) hf10 (fun _ h9 => h9) rfl dX3_keep_16 ?_
    refine va_get (D := D) (ci := 1) (v := .ref (a 2)) (C := RX1) (T := TX1) (N := 5) hx hb hts hinX1 hown hK hP 1 rfl rfl 4 (by decide) hf48 (fun _ h9 => h9) rfl dX3_keep_19 ?_
    refine va_get (D := D) (ci := 2) (v := .ref (a 13)) (C := RX2) (T := TX2) (N := 13) hx hb hts hinX2 hown hK hP 3 rfl rfl 6 (by decide) hf61 (fun _ h9 => h9) rfl dX3_keep_22 ?_
    refine lv_iload_n hx hb dX3_keep_25 rfl (lv_at hl 1 rfl) ?_
    refine zk_ld hx hb hK hP 14 0 rfl rfl (k := k) (by omega) (by decide) (v := σ 11 k) rfl dX3_keep_26 ?_
    refine lv_istore_n (lv' := [(3, .int (σ 11 k)), (0, .ref x), (1, .int (nI k)), (2, .int (nI k9))]) hx hb dX3_keep_27 rfl hl (by decide) rfl (fun ls hl => ?_)
    refine lv_aload_n hx hb dX3_keep_28 rfl (lv_at hl 1 rfl) ?_
    refine va_get (D := D) (ci := 3) (v := .ref (a 0)) (C := RX3) (T := TX3) (N := 2) hx hb hts hinX3 hown hK hP 0 rfl rfl 0 (by decide) hf10 (fun _ h9 => h9) rfl dX3_keep_29 ?_
    refine va_get (D := D) (ci := 1) (v := .ref (a 2)) (C := RX1) (T := TX1) (N := 5) hx hb hts hinX1 hown hK hP 1 rfl rfl 4 (by decide) hf48 (fun _ h9 => h9) rfl dX3_keep_32 ?_
    refine va_get (D := D) (ci := 2) (v := .ref (a 13)) (C := RX2) (T := TX2) (N := 13) hx hb hts hinX2 hown hK hP 3 rfl rfl 6 (by decide) hf61 (fun _ h9 => h9) rfl dX3_keep_35 ?_
    refine lv_iload_n hx hb dX3_keep_38 rfl (lv_at hl 2 rfl) ?_
    refine lv_iload_n hx hb dX3_keep_39 rfl (lv_at hl 3 rfl) ?_
    refine zk_st hx hb hK hP hD hS 14 0 rfl rfl (k := k) (by omega) (by decide) (w1 := zw_X cI x a b (zs σ 11 k (nI k9)) (τ)) rfl dX3_keep_40 (fun H locs hP hD hS => ?_)
    have hP : va_P D vwCl (zw_X cI x a b (zs σ 11 k (nI k9)) (τ)) H := hP
    have hD : va_D A (zw_X cI x a b (zs σ 11 k (nI k9)) (τ)) := hD
    refine lv_iload_n hx hb dX3_keep_41 rfl (lv_at hl 0 rfl) ?_
    have hP9 := hP
    have hD9 := hD
    exact W.iret (v := σ 11 k) hx hb hr (fun t ht hW => ⟨⟨σ 11 k, (), rfl, rfl, by rw [ht]; exact hP9, va_K.moved hW.alike hK, hD9⟩, hS.F ht⟩) hS.2.2 dX3_keep_42

set_option maxHeartbeats 4000000 in
set_option maxRecDepth 100000 in
theorem c_X3_setBell (l : Launch) (D : va_G) (cI : ClassId) (x : Nat) (a b : Nat → Nat) (σ τ : zS) (v : Int32) (h1 : ¬ v < 0) (h2 : v ≤ 9) : zMI l yX3_setBell wsX3_setBell ({ frames := 0, cells := 0, slots := 0, locals := 0 }) [.ref x, .int v] D [(cI, .int)] (zw_X cI x a b σ (τ)) (zw_X cI x a b (zs σ 0 1 v) (τ)) (fun r => r = σ 0 1) := by
  intro sz
  refine Met.ofW (cc := cX3_setBell) (maxL := 3) (ret := (some .int)) (by decide) rfl ?_
  intro p e s m args below meth c s₁ B hml hv
  obtain ⟨rfl, hsz, hP, hK, hD⟩ := hv
  have hx := B.exec
  have hb := B.bytes
  have hr := B.returns
  have hts := atoms_spec (ws := wsX3_setBell) B.pre
  have hown : s.vm.findClass RX3 = some m.cls := findClass_of_methodNamed B.named
  have hlocks := B.notSynchronized
  subst hsz
  have hD := hD.self (sz := s.heap.size)
  generalize hAe : va_A (zw_X cI x a b σ (τ)) s.heap.size = A at hD ⊢
  have hA : ∀ q : Nat, s.heap.size ≤ q → A q := fun q h => by rw [← hAe]; exact Or.inr h
  have hS : va_S A s.heap s.heap [] := va_S.rf
  have hP : va_P D vwCl (zw_X cI x a b σ (τ)) s.heap := hP
  have hl := lv_entry ([.ref x, .int v]) (n := 3) (Nat.le_of_ble_eq_true rfl)
  rw [lg_entry_eq]
  generalize (lg_sl ([.ref x, .int v]) ++ List.replicate (3 - (lg_sl ([.ref x, .int v])).length) Slot.unset).toArray = ls at hl ⊢
  have hl : lv_has ls 3 [(0, .ref x), (1, .int v)] := hl
  have hf10 := hts (.fieldLink RX3 10 "HotBeds" "house" "LHotBeds$House;") (by decide +kernel)
  have hf67 := hts (.fieldLink RX3 67 "HotBeds$House" "bell" "I") (by decide +kernel)
  have hinX1 : ∀ w ∈ u_ws RX1 TX1 5, w ∈ wsX3_setBell := by decide +kernel
  have hinX3 : ∀ w ∈ u_ws RX3 TX3 2, w ∈ wsX3_setBell := by decide +kernel
  refine lv_iload_n hx hb dX3_setBell_0 rfl (lv_at hl 1 rfl) ?_
  refine lv_if_lt (tgt := 10) hx hb dX3_setBell_1 (by decide) (fun c => absurd c (h1)) (fun _ => ?_)
  refine lv_iload_n hx hb dX3_setBell_4 rfl (lv_at hl 1 rfl) ?_
  refine lv_bipush (v := 9) hx hb dX3_setBell_5 (by decide) ?_
  refine lv_icmp_le (tgt := 20) hx hb dX3_setBell_7 (by decide) (fun _ => ?_) (fun c => absurd (h2) c)
  refine lv_aload_n hx hb dX3_setBell_20 rfl (lv_at hl 0 rfl) ?_
  refine va_get (D := D) (ci := 3) (v := .ref (a 0)) (C := RX3) (T := TX3) (N := 2) hx hb hts hinX3 hown hK hP 0 rfl rfl 0 (by decide) hf10 (fun _ h9 => h9) rfl dX3_setBell_21 ?_
  refine va_get (D := D) (ci := 1) (v := .int (σ 0 1)) (C := RX1) (T := TX1) (N := 5) hx hb hts hinX1 hown hK hP 1 rfl rfl 1 (by decide) hf67 (fun _ h9 => h9) rfl dX3_setBell_24 ?_
  refine lv_istore_n (lv' := [(2, .int (σ 0 1)), (0, .ref x), (1, .int v)]) hx hb dX3_setBell_27 rfl hl (by decide) rfl (fun ls hl => ?_)
  refine lv_aload_n hx hb dX3_setBell_28 rfl (lv_at hl 1 rfl) ?_
  refine va_get (D := D) (ci := 3) (v := .ref (a 0)) (C := RX3) (T := TX3) (N := 2) hx hb hts hinX3 hown hK hP 0 rfl rfl 0 (by decide) hf10 (fun _ h9 => h9) rfl dX3_setBell_29 ?_
  refine lv_iload_n hx hb dX3_setBell_32 rfl (lv_at hl 2 rfl) ?_
  refine va_put (D := D) (ci := 1) (v := .int v) (ty := .int) (C := RX1) (T := TX1) (N := 5) hx hb hts hinX1 tyX1 tyX1_ok nmX1 hown hK hP hD hS 1 rfl rfl 1 (by decide) hf67 (fun _ h9 => h9)  rfl (by decide +kernel) rfl rfl (Nat.le_of_ble_eq_true rfl) dX3_setBell_33 (fun H locs hP hD hS => ?_)
  have hP : va_P D vwCl (zw_X cI x a b (zs σ 0 1 v) (τ)) H := hP
  have hD : va_D A (zw_X cI x a b (zs σ 0 1 v) (τ)) := hD
  refine lv_iload_n hx hb dX3_setBell_36 rfl (lv_at hl 0 rfl) ?_
  have hP9 := hP
  have hD9 := hD
  exact W.iret (v := σ 0 1) hx hb hr (fun t ht hW => ⟨⟨σ 0 1, (), rfl, rfl, by rw [ht]; exact hP9, va_K.moved hW.alike hK, hD9⟩, hS.F ht⟩) hS.2.2 dX3_setBell_37

set_option maxHeartbeats 4000000 in
set_option maxRecDepth 100000 in
theorem c_X3_setPawn (l : Launch) (D : va_G) (cI : ClassId) (x : Nat) (a b : Nat → Nat) (σ τ : zS) (v : Int32) (h1 : ¬ v < 1) (h2 : v ≤ 20) : zMI l yX3_setPawn wsX3_setPawn ({ frames := 0, cells := 0, slots := 0, locals := 0 }) [.ref x, .int v] D [(cI, .int)] (zw_X cI x a b σ (τ)) (zw_X cI x a b (zs σ 0 2 v) (τ)) (fun r => r = σ 0 2) := by
  intro sz
  refine Met.ofW (cc := cX3_setPawn) (maxL := 3) (ret := (some .int)) (by decide) rfl ?_
  intro p e s m args below meth c s₁ B hml hv
  obtain ⟨rfl, hsz, hP, hK, hD⟩ := hv
  have hx := B.exec
  have hb := B.bytes
  have hr := B.returns
  have hts := atoms_spec (ws := wsX3_setPawn) B.pre
  have hown : s.vm.findClass RX3 = some m.cls := findClass_of_methodNamed B.named
  have hlocks := B.notSynchronized
  subst hsz
  have hD := hD.self (sz := s.heap.size)
  generalize hAe : va_A (zw_X cI x a b σ (τ)) s.heap.size = A at hD ⊢
  have hA : ∀ q : Nat, s.heap.size ≤ q → A q := fun q h => by rw [← hAe]; exact Or.inr h
  have hS : va_S A s.heap s.heap [] := va_S.rf
  have hP : va_P D vwCl (zw_X cI x a b σ (τ)) s.heap := hP
  have hl := lv_entry ([.ref x, .int v]) (n := 3) (Nat.le_of_ble_eq_true rfl)
  rw [lg_entry_eq]
  generalize (lg_sl ([.ref x, .int v]) ++ List.replicate (3 - (lg_sl ([.ref x, .int v])).length) Slot.unset).toArray = ls at hl ⊢
  have hl : lv_has ls 3 [(0, .ref x), (1, .int v)] := hl
  have hf10 := hts (.fieldLink RX3 10 "HotBeds" "house" "LHotBeds$House;") (by decide +kernel)
  have hf73 := hts (.fieldLink RX3 73 "HotBeds$House" "pawn" "I") (by decide +kernel)
  have hinX1 : ∀ w ∈ u_ws RX1 TX1 5, w ∈ wsX3_setPawn := by decide +kernel
  have hinX3 : ∀ w ∈ u_ws RX3 TX3 2, w ∈ wsX3_setPawn := by decide +kernel
  refine lv_iload_n hx hb dX3_setPawn_0 rfl (lv_at hl 1 rfl) ?_
  refine lv_iconst (v := 1) hx hb dX3_setPawn_1 (by decide) ?_
  refine lv_icmp_lt (tgt := 11) hx hb dX3_setPawn_2 (by decide) (fun c => absurd c (h1)) (fun _ => ?_)
  refine lv_iload_n hx hb dX3_setPawn_5 rfl (lv_at hl 1 rfl) ?_
  refine lv_bipush (v := 20) hx hb dX3_setPawn_6 (by decide) ?_
  refine lv_icmp_le (tgt := 21) hx hb dX3_setPawn_8 (by decide) (fun _ => ?_) (fun c => absurd (h2) c)
  refine lv_aload_n hx hb dX3_setPawn_21 rfl (lv_at hl 0 rfl) ?_
  refine va_get (D := D) (ci := 3) (v := .ref (a 0)) (C := RX3) (T := TX3) (N := 2) hx hb hts hinX3 hown hK hP 0 rfl rfl 0 (by decide) hf10 (fun _ h9 => h9) rfl dX3_setPawn_22 ?_
  refine va_get (D := D) (ci := 1) (v := .int (σ 0 2)) (C := RX1) (T := TX1) (N := 5) hx hb hts hinX1 hown hK hP 1 rfl rfl 2 (by decide) hf73 (fun _ h9 => h9) rfl dX3_setPawn_25 ?_
  refine lv_istore_n (lv' := [(2, .int (σ 0 2)), (0, .ref x), (1, .int v)]) hx hb dX3_setPawn_28 rfl hl (by decide) rfl (fun ls hl => ?_)
  refine lv_aload_n hx hb dX3_setPawn_29 rfl (lv_at hl 1 rfl) ?_
  refine va_get (D := D) (ci := 3) (v := .ref (a 0)) (C := RX3) (T := TX3) (N := 2) hx hb hts hinX3 hown hK hP 0 rfl rfl 0 (by decide) hf10 (fun _ h9 => h9) rfl dX3_setPawn_30 ?_
  refine lv_iload_n hx hb dX3_setPawn_33 rfl (lv_at hl 2 rfl) ?_
  refine va_put (D := D) (ci := 1) (v := .int v) (ty := .int) (C := RX1) (T := TX1) (N := 5) hx hb hts hinX1 tyX1 tyX1_ok nmX1 hown hK hP hD hS 1 rfl rfl 2 (by decide) hf73 (fun _ h9 => h9)  rfl (by decide +kernel) rfl rfl (Nat.le_of_ble_eq_true rfl) dX3_setPawn_34 (fun H locs hP hD hS => ?_)
  have hP : va_P D vwCl (zw_X cI x a b (zs σ 0 2 v) (τ)) H := hP
  have hD : va_D A (zw_X cI x a b (zs σ 0 2 v) (τ)) := hD
  refine lv_iload_n hx hb dX3_setPawn_37 rfl (lv_at hl 0 rfl) ?_
  have hP9 := hP
  have hD9 := hD
  exact W.iret (v := σ 0 2) hx hb hr (fun t ht hW => ⟨⟨σ 0 2, (), rfl, rfl, by rw [ht]; exact hP9, va_K.moved hW.alike hK, hD9⟩, hS.F ht⟩) hS.2.2 dX3_setPawn_38

set_option maxHeartbeats 4000000 in
set_option maxRecDepth 100000 in
theorem c_X3_give (l : Launch) (D : va_G) (cI : ClassId) (x : Nat) (a b : Nat → Nat) (σ τ : zS) {k : Nat} {nb ns h : Nat} (hC : zC σ nb ns h) (hk : k < ns) (v : Int32) (h1 : ¬ v < 1) (h2 : v ≤ 99) : zMI l yX3_give wsX3_give ({ frames := 2, cells := 0, slots := 0, locals := 37 }) [.ref x, .int (nI k), .int v] D [(cI, .int)] (zw_X cI x a b σ (τ)) (zw_X cI x a b (f_earn σ k v) (τ)) (fun r => r = (f_earn σ k v) 9 k) := by
  intro sz
  refine Met.ofW (cc := cX3_give) (maxL := 3) (ret := (some .int)) (by decide) rfl ?_
  intro p e s m args below meth c s₁ B hml hv
  obtain ⟨rfl, hsz, hP, hK, hD⟩ := hv
  have hx := B.exec
  have hb := B.bytes
  have hr := B.returns
  have hts := atoms_spec (ws := wsX3_give) B.pre
  have hown : s.vm.findClass RX3 = some m.cls := findClass_of_methodNamed B.named
  have hlocks := B.notSynchronized
  subst hsz
  have hD := hD.self (sz := s.heap.size)
  generalize hAe : va_A (zw_X cI x a b σ (τ)) s.heap.size = A at hD ⊢
  have hA : ∀ q : Nat, s.heap.size ≤ q → A q := fun q h => by rw [← hAe]; exact Or.inr h
  have hS : va_S A s.heap s.heap [] := va_S.rf
  have hP : va_P D vwCl (zw_X cI x a b σ (τ)) s.heap := hP
  have hl := lv_entry ([.ref x, .int (nI k), .int v]) (n := 3) (Nat.le_of_ble_eq_true rfl)
  rw [lg_entry_eq]
  generalize (lg_sl ([.ref x, .int (nI k), .int v]) ++ List.replicate (3 - (lg_sl ([.ref x, .int (nI k), .int v])).length) Slot.unset).toArray = ls at hl ⊢
  have hl : lv_has ls 3 [(0, .ref x), (1, .int (nI k)), (2, .int v)] := hl
  have hf10 := hts (.fieldLink RX3 10 "HotBeds" "house" "LHotBeds$House;") (by decide +kernel)
  have hf48 := hts (.fieldLink RX3 48 "HotBeds$House" "sailors" "LHotBeds$Sailors;") (by decide +kernel)
  have hf82 := hts (.fieldLink RX3 82 "HotBeds$Sailors" "purse" "[I") (by decide +kernel)
  have hinX1 : ∀ w ∈ u_ws RX1 TX1 5, w ∈ wsX3_give := by decide +kernel
  have hinX2 : ∀ w ∈ u_ws RX2 TX2 13, w ∈ wsX3_give := by decide +kernel
  have hinX3 : ∀ w ∈ u_ws RX3 TX3 2, w ∈ wsX3_give := by decide +kernel
  have hnb := hC.2.1
  have hns := hC.2.2.2.1
  have hh := hC.2.2.2.2.2.1
  refine lv_aload_n hx hb dX3_give_0 rfl (lv_at hl 0 rfl) ?_
  refine lv_iload_n hx hb dX3_give_1 rfl (lv_at hl 1 rfl) ?_
  refine zk_Q (D := D) (va_runV (As := [.int (nI k)]) (rest := []) ⟨hx, hb, hml, hown, hts⟩ (c_X3_requireSailor l D cI x a b σ (τ) hC hk _) (cwV 1 hts gX3_give_X3_requireSailor rfl rfl rfl zdX3_requireSailor ⟨Nat.le_of_ble_eq_true rfl, Nat.le_of_ble_eq_true rfl⟩) ⟨zbl _, va_recv hK hP (ci := 3) (q0 := 0) rfl rfl, zpr hK hP hD⟩ rfl rfl hl.1 rfl (lv_room (Nat.le_of_ble_eq_true rfl)) dX3_give_2 ⟨Nat.zero_le _, Nat.zero_le _⟩) hS (fun H locs hkp hS => ?_)
  have hP := hkp _ hP
  refine lv_iload_n hx hb dX3_give_5 rfl (lv_at hl 2 rfl) ?_
  refine lv_iconst (v := 1) hx hb dX3_give_6 (by decide) ?_
  refine lv_icmp_lt (tgt := 16) hx hb dX3_give_7 (by decide) (fun c => absurd c (h1)) (fun _ => ?_)
  refine lv_iload_n hx hb dX3_give_10 rfl (lv_at hl 2 rfl) ?_
  refine lv_bipush (v := 99) hx hb dX3_give_11 (by decide) ?_
  refine lv_icmp_le (tgt := 26) hx hb dX3_give_13 (by decide) (fun _ => ?_) (fun c => absurd (h2) c)
  refine lv_aload_n hx hb dX3_give_26 rfl (lv_at hl 0 rfl) ?_
  refine va_get (D := D) (ci := 3) (v := .ref (a 0)) (C := RX3) (T := TX3) (N := 2) hx hb hts hinX3 hown hK hP 0 rfl rfl 0 (by decide) hf10 (fun _ h9 => h9) rfl dX3_give_27 ?_
  refine va_get (D := D) (ci := 1) (v := .ref (a 2)) (C := RX1) (T := TX1) (N := 5) hx hb hts hinX1 hown hK hP 1 rfl rfl 4 (by decide) hf48 (fun _ h9 => h9) rfl dX3_give_30 ?_
  refine lv_iload_n hx hb dX3_give_33 rfl (lv_at hl 1 rfl) ?_
  refine lv_iload_n hx hb dX3_give_34 rfl (lv_at hl 2 rfl) ?_
  have hF := zfree (zxa_D hD) hS hA
  refine zk_V (va_runV (As := [.int (nI k), .int v]) (rest := []) ⟨hx, hb, hml, hown, hts⟩ (c_X2_earn l D cI a σ (k := k) (by omega) v _) (cwV 2 hts gX3_give_X2_earn rfl rfl rfl zdX2_earn ⟨Nat.le_of_ble_eq_true rfl, Nat.le_of_ble_eq_true rfl⟩) ⟨zbl _, va_recv hK (zxa_P hP) (ci := 2) (q0 := 2) rfl rfl, zpr hK (zxa_P hP) (zxa_D hD)⟩ rfl rfl hl.1 rfl (lv_room (Nat.le_of_ble_eq_true rfl)) dX3_give_35 ⟨Nat.zero_le _, Nat.zero_le _⟩) hS hF (fun H locs hkp hP1 hD1 hS => ?_)
  obtain ⟨hP, hD⟩ := zxa_J hP hD hkp hF hP1 hD1
  have hP : va_P D vwCl (zw_X cI x a b (f_earn σ k v) (τ)) H := hP
  have hD : va_D A (zw_X cI x a b (f_earn σ k v) (τ)) := hD
  refine lv_aload_n hx hb dX3_give_38 rfl (lv_at hl 0 rfl) ?_
  refine va_get (D := D) (ci := 3) (v := .ref (a 0)) (C := RX3) (T := TX3) (N := 2) hx hb hts hinX3 hown hK hP 0 rfl rfl 0 (by decide) hf10 (fun _ h9 => h9) rfl dX3_give_39 ?_
  refine va_get (D := D) (ci := 1) (v := .ref (a 2)) (C := RX1) (T := TX1) (N := 5) hx hb hts hinX1 hown hK hP 1 rfl rfl 4 (by decide) hf48 (fun _ h9 => h9) rfl dX3_give_42 ?_
  refine va_get (D := D) (ci := 2) (v := .ref (a 11)) (C := RX2) (T := TX2) (N := 13) hx hb hts hinX2 hown hK hP 3 rfl rfl 4 (by decide) hf82 (fun _ h9 => h9) rfl dX3_give_45 ?_
  refine lv_iload_n hx hb dX3_give_48 rfl (lv_at hl 1 rfl) ?_
  refine zk_ld hx hb hK hP 12 0 rfl rfl (k := k) (by omega) (by decide) (v := (f_earn σ k v) 9 k) rfl dX3_give_49 ?_
  have hP9 := hP
  have hD9 := hD
  exact W.iret (v := (f_earn σ k v) 9 k) hx hb hr (fun t ht hW => ⟨⟨(f_earn σ k v) 9 k, (), rfl, rfl, by rw [ht]; exact hP9, va_K.moved hW.alike hK, hD9⟩, hS.F ht⟩) hS.2.2 dX3_give_50

set_option maxHeartbeats 4000000 in
set_option maxRecDepth 100000 in
theorem c_X3_pawn (l : Launch) (D : va_G) (cI : ClassId) (x : Nat) (a b : Nat → Nat) (σ τ : zS) {k : Nat} {nb ns h : Nat} (hC : zC σ nb ns h) (hk : k < ns) (hbo : σ 10 k = 1) : zMI l yX3_pawn wsX3_pawn ({ frames := 3, cells := 0, slots := 0, locals := 58 }) [.ref x, .int (nI k)] D [(cI, .int)] (zw_X cI x a b σ (τ)) (zw_X cI x a b (f_pawnB σ k) (τ)) (fun r => r = (f_pawnB σ k) 9 k) := by
  intro sz
  refine Met.ofW (cc := cX3_pawn) (maxL := 2) (ret := (some .int)) (by decide) rfl ?_
  intro p e s m args below meth c s₁ B hml hv
  obtain ⟨rfl, hsz, hP, hK, hD⟩ := hv
  have hx := B.exec
  have hb := B.bytes
  have hr := B.returns
  have hts := atoms_spec (ws := wsX3_pawn) B.pre
  have hown : s.vm.findClass RX3 = some m.cls := findClass_of_methodNamed B.named
  have hlocks := B.notSynchronized
  subst hsz
  have hD := hD.self (sz := s.heap.size)
  generalize hAe : va_A (zw_X cI x a b σ (τ)) s.heap.size = A at hD ⊢
  have hA : ∀ q : Nat, s.heap.size ≤ q → A q := fun q h => by rw [← hAe]; exact Or.inr h
  have hS : va_S A s.heap s.heap [] := va_S.rf
  have hP : va_P D vwCl (zw_X cI x a b σ (τ)) s.heap := hP
  have hl := lv_entry ([.ref x, .int (nI k)]) (n := 2) (Nat.le_of_ble_eq_true rfl)
  rw [lg_entry_eq]
  generalize (lg_sl ([.ref x, .int (nI k)]) ++ List.replicate (2 - (lg_sl ([.ref x, .int (nI k)])).length) Slot.unset).toArray = ls at hl ⊢
  have hl : lv_has ls 2 [(0, .ref x), (1, .int (nI k))] := hl
  have hf10 := hts (.fieldLink RX3 10 "HotBeds" "house" "LHotBeds$House;") (by decide +kernel)
  have hf48 := hts (.fieldLink RX3 48 "HotBeds$House" "sailors" "LHotBeds$Sailors;") (by decide +kernel)
  have hf82 := hts (.fieldLink RX3 82 "HotBeds$Sailors" "purse" "[I") (by decide +kernel)
  have hinX1 : ∀ w ∈ u_ws RX1 TX1 5, w ∈ wsX3_pawn := by decide +kernel
  have hinX2 : ∀ w ∈ u_ws RX2 TX2 13, w ∈ wsX3_pawn := by decide +kernel
  have hinX3 : ∀ w ∈ u_ws RX3 TX3 2, w ∈ wsX3_pawn := by decide +kernel
  have hnb := hC.2.1
  have hns := hC.2.2.2.1
  have hh := hC.2.2.2.2.2.1
  refine lv_aload_n hx hb dX3_pawn_0 rfl (lv_at hl 0 rfl) ?_
  refine lv_iload_n hx hb dX3_pawn_1 rfl (lv_at hl 1 rfl) ?_
  refine zk_Q (D := D) (va_runV (As := [.int (nI k)]) (rest := []) ⟨hx, hb, hml, hown, hts⟩ (c_X3_requireSailor l D cI x a b σ (τ) hC hk _) (cwV 1 hts gX3_pawn_X3_requireSailor rfl rfl rfl zdX3_requireSailor ⟨Nat.le_of_ble_eq_true rfl, Nat.le_of_ble_eq_true rfl⟩) ⟨zbl _, va_recv hK hP (ci := 3) (q0 := 0) rfl rfl, zpr hK hP hD⟩ rfl rfl hl.1 rfl (lv_room (Nat.le_of_ble_eq_true rfl)) dX3_pawn_2 ⟨Nat.zero_le _, Nat.zero_le _⟩) hS (fun H locs hkp hS => ?_)
  have hP := hkp _ hP
  refine lv_aload_n hx hb dX3_pawn_5 rfl (lv_at hl 0 rfl) ?_
  refine va_get (D := D) (ci := 3) (v := .ref (a 0)) (C := RX3) (T := TX3) (N := 2) hx hb hts hinX3 hown hK hP 0 rfl rfl 0 (by decide) hf10 (fun _ h9 => h9) rfl dX3_pawn_6 ?_
  refine va_get (D := D) (ci := 1) (v := .ref (a 2)) (C := RX1) (T := TX1) (N := 5) hx hb hts hinX1 hown hK hP 1 rfl rfl 4 (by decide) hf48 (fun _ h9 => h9) rfl dX3_pawn_9 ?_
  refine lv_iload_n hx hb dX3_pawn_12 rfl (lv_at hl 1 rfl) ?_
  refine zk_R (D := D) (va_runV (As := [.int (nI k)]) (rest := []) ⟨hx, hb, hml, hown, hts⟩ (c_X2_hasBoots l D cI a σ (k := k) (by omega) _) (cwV 1 hts gX3_pawn_X2_hasBoots rfl rfl rfl zdX2_hasBoots ⟨Nat.le_of_ble_eq_true rfl, Nat.le_of_ble_eq_true rfl⟩) ⟨zbl _, va_recv hK (zxa_P hP) (ci := 2) (q0 := 2) rfl rfl, zpr hK (zxa_P hP) (zxa_D hD)⟩ rfl rfl hl.1 rfl (lv_room (Nat.le_of_ble_eq_true rfl)) dX3_pawn_13 ⟨Nat.zero_le _, Nat.zero_le _⟩) hS (fun r_1 H locs hw hkp hS => ?_)
  have hP := hkp _ hP
  rcases hw with ⟨c_2, rfl⟩ | ⟨c_2, rfl⟩
  · refine lv_if_ne (tgt := 29) hx hb dX3_pawn_16 (by decide) (fun _ => ?_) (fun c => absurd c (by decide))
    refine lv_aload_n hx hb dX3_pawn_29 rfl (lv_at hl 0 rfl) ?_
    refine va_get (D := D) (ci := 3) (v := .ref (a 0)) (C := RX3) (T := TX3) (N := 2) hx hb hts hinX3 hown hK hP 0 rfl rfl 0 (by decide) hf10 (fun _ h9 => h9) rfl dX3_pawn_30 ?_
    refine lv_iload_n hx hb dX3_pawn_33 rfl (lv_at hl 1 rfl) ?_
    have hF := zfree (zxa_D hD) hS hA
    refine zk_V (va_runV (As := [.int (nI k)]) (rest := []) ⟨hx, hb, hml, hown, hts⟩ (c_X1_pawnBoots l D cI a σ (k := k) (by omega) _) (cwV 1 hts gX3_pawn_X1_pawnBoots rfl rfl rfl zdX1_pawnBoots ⟨Nat.le_of_ble_eq_true rfl, Nat.le_of_ble_eq_true rfl⟩) ⟨zbl _, va_recv hK (zxa_P hP) (ci := 1) (q0 := 0) rfl rfl, zpr hK (zxa_P hP) (zxa_D hD)⟩ rfl rfl hl.1 rfl (lv_room (Nat.le_of_ble_eq_true rfl)) dX3_pawn_34 ⟨Nat.zero_le _, Nat.zero_le _⟩) hS hF (fun H locs hkp hP1 hD1 hS => ?_)
    obtain ⟨hP, hD⟩ := zxa_J hP hD hkp hF hP1 hD1
    have hP : va_P D vwCl (zw_X cI x a b (f_pawnB σ k) (τ)) H := hP
    have hD : va_D A (zw_X cI x a b (f_pawnB σ k) (τ)) := hD
    refine lv_aload_n hx hb dX3_pawn_37 rfl (lv_at hl 0 rfl) ?_
    refine va_get (D := D) (ci := 3) (v := .ref (a 0)) (C := RX3) (T := TX3) (N := 2) hx hb hts hinX3 hown hK hP 0 rfl rfl 0 (by decide) hf10 (fun _ h9 => h9) rfl dX3_pawn_38 ?_
    refine va_get (D := D) (ci := 1) (v := .ref (a 2)) (C := RX1) (T := TX1) (N := 5) hx hb hts hinX1 hown hK hP 1 rfl rfl 4 (by decide) hf48 (fun _ h9 => h9) rfl dX3_pawn_41 ?_
    refine va_get (D := D) (ci := 2) (v := .ref (a 11)) (C := RX2) (T := TX2) (N := 13) hx hb hts hinX2 hown hK hP 3 rfl rfl 4 (by decide) hf82 (fun _ h9 => h9) rfl dX3_pawn_44 ?_
    refine lv_iload_n hx hb dX3_pawn_47 rfl (lv_at hl 1 rfl) ?_
    refine zk_ld hx hb hK hP 12 0 rfl rfl (k := k) (by omega) (by decide) (v := (f_pawnB σ k) 9 k) rfl dX3_pawn_48 ?_
    have hP9 := hP
    have hD9 := hD
    exact W.iret (v := (f_pawnB σ k) 9 k) hx hb hr (fun t ht hW => ⟨⟨(f_pawnB σ k) 9 k, (), rfl, rfl, by rw [ht]; exact hP9, va_K.moved hW.alike hK, hD9⟩, hS.F ht⟩) hS.2.2 dX3_pawn_49
  · exact absurd (hbo) c_2

set_option maxHeartbeats 4000000 in
set_option maxRecDepth 100000 in
theorem c_X3_redeem (l : Launch) (D : va_G) (cI : ClassId) (x : Nat) (a b : Nat → Nat) (σ τ : zS) {k : Nat} {nb ns h : Nat} (hC : zC σ nb ns h) (hk : k < ns) (hcan : f_can σ k) : zMI l yX3_redeem wsX3_redeem ({ frames := 2, cells := 0, slots := 0, locals := 42 }) [.ref x, .int (nI k)] D [(cI, .int)] (zw_X cI x a b σ (τ)) (zw_X cI x a b (f_red σ k) (τ)) (fun r => r = (f_red σ k) 9 k) := by
  intro sz
  refine Met.ofW (cc := cX3_redeem) (maxL := 2) (ret := (some .int)) (by decide) rfl ?_
  intro p e s m args below meth c s₁ B hml hv
  obtain ⟨rfl, hsz, hP, hK, hD⟩ := hv
  have hx := B.exec
  have hb := B.bytes
  have hr := B.returns
  have hts := atoms_spec (ws := wsX3_redeem) B.pre
  have hown : s.vm.findClass RX3 = some m.cls := findClass_of_methodNamed B.named
  have hlocks := B.notSynchronized
  subst hsz
  have hD := hD.self (sz := s.heap.size)
  generalize hAe : va_A (zw_X cI x a b σ (τ)) s.heap.size = A at hD ⊢
  have hA : ∀ q : Nat, s.heap.size ≤ q → A q := fun q h => by rw [← hAe]; exact Or.inr h
  have hS : va_S A s.heap s.heap [] := va_S.rf
  have hP : va_P D vwCl (zw_X cI x a b σ (τ)) s.heap := hP
  have hl := lv_entry ([.ref x, .int (nI k)]) (n := 2) (Nat.le_of_ble_eq_true rfl)
  rw [lg_entry_eq]
  generalize (lg_sl ([.ref x, .int (nI k)]) ++ List.replicate (2 - (lg_sl ([.ref x, .int (nI k)])).length) Slot.unset).toArray = ls at hl ⊢
  have hl : lv_has ls 2 [(0, .ref x), (1, .int (nI k))] := hl
  have hf10 := hts (.fieldLink RX3 10 "HotBeds" "house" "LHotBeds$House;") (by decide +kernel)
  have hf48 := hts (.fieldLink RX3 48 "HotBeds$House" "sailors" "LHotBeds$Sailors;") (by decide +kernel)
  have hf82 := hts (.fieldLink RX3 82 "HotBeds$Sailors" "purse" "[I") (by decide +kernel)
  have hinX1 : ∀ w ∈ u_ws RX1 TX1 5, w ∈ wsX3_redeem := by decide +kernel
  have hinX2 : ∀ w ∈ u_ws RX2 TX2 13, w ∈ wsX3_redeem := by decide +kernel
  have hinX3 : ∀ w ∈ u_ws RX3 TX3 2, w ∈ wsX3_redeem := by decide +kernel
  have hnb := hC.2.1
  have hns := hC.2.2.2.1
  have hh := hC.2.2.2.2.2.1
  refine lv_aload_n hx hb dX3_redeem_0 rfl (lv_at hl 0 rfl) ?_
  refine lv_iload_n hx hb dX3_redeem_1 rfl (lv_at hl 1 rfl) ?_
  refine zk_Q (D := D) (va_runV (As := [.int (nI k)]) (rest := []) ⟨hx, hb, hml, hown, hts⟩ (c_X3_requireSailor l D cI x a b σ (τ) hC hk _) (cwV 1 hts gX3_redeem_X3_requireSailor rfl rfl rfl zdX3_requireSailor ⟨Nat.le_of_ble_eq_true rfl, Nat.le_of_ble_eq_true rfl⟩) ⟨zbl _, va_recv hK hP (ci := 3) (q0 := 0) rfl rfl, zpr hK hP hD⟩ rfl rfl hl.1 rfl (lv_room (Nat.le_of_ble_eq_true rfl)) dX3_redeem_2 ⟨Nat.zero_le _, Nat.zero_le _⟩) hS (fun H locs hkp hS => ?_)
  have hP := hkp _ hP
  refine lv_aload_n hx hb dX3_redeem_5 rfl (lv_at hl 0 rfl) ?_
  refine va_get (D := D) (ci := 3) (v := .ref (a 0)) (C := RX3) (T := TX3) (N := 2) hx hb hts hinX3 hown hK hP 0 rfl rfl 0 (by decide) hf10 (fun _ h9 => h9) rfl dX3_redeem_6 ?_
  refine lv_iload_n hx hb dX3_redeem_9 rfl (lv_at hl 1 rfl) ?_
  refine zk_R (D := D) (va_runV (As := [.int (nI k)]) (rest := []) ⟨hx, hb, hml, hown, hts⟩ (c_X1_canRedeemBoots l D cI a σ (k := k) (by omega) _) (cwV 1 hts gX3_redeem_X1_canRedeemBoots rfl rfl rfl zdX1_canRedeemBoots ⟨Nat.le_of_ble_eq_true rfl, Nat.le_of_ble_eq_true rfl⟩) ⟨zbl _, va_recv hK (zxa_P hP) (ci := 1) (q0 := 0) rfl rfl, zpr hK (zxa_P hP) (zxa_D hD)⟩ rfl rfl hl.1 rfl (lv_room (Nat.le_of_ble_eq_true rfl)) dX3_redeem_10 ⟨Nat.zero_le _, Nat.zero_le _⟩) hS (fun r_1 H locs hw hkp hS => ?_)
  have hP := hkp _ hP
  rcases hw with ⟨c_2, rfl⟩ | ⟨c_2, rfl⟩
  · refine lv_if_ne (tgt := 26) hx hb dX3_redeem_13 (by decide) (fun _ => ?_) (fun c => absurd c (by decide))
    refine lv_aload_n hx hb dX3_redeem_26 rfl (lv_at hl 0 rfl) ?_
    refine va_get (D := D) (ci := 3) (v := .ref (a 0)) (C := RX3) (T := TX3) (N := 2) hx hb hts hinX3 hown hK hP 0 rfl rfl 0 (by decide) hf10 (fun _ h9 => h9) rfl dX3_redeem_27 ?_
    refine lv_iload_n hx hb dX3_redeem_30 rfl (lv_at hl 1 rfl) ?_
    have hF := zfree (zxa_D hD) hS hA
    refine zk_V (va_runV (As := [.int (nI k)]) (rest := []) ⟨hx, hb, hml, hown, hts⟩ (c_X1_redeemBoots l D cI a σ (k := k) (by omega) _) (cwV 1 hts gX3_redeem_X1_redeemBoots rfl rfl rfl zdX1_redeemBoots ⟨Nat.le_of_ble_eq_true rfl, Nat.le_of_ble_eq_true rfl⟩) ⟨zbl _, va_recv hK (zxa_P hP) (ci := 1) (q0 := 0) rfl rfl, zpr hK (zxa_P hP) (zxa_D hD)⟩ rfl rfl hl.1 rfl (lv_room (Nat.le_of_ble_eq_true rfl)) dX3_redeem_31 ⟨Nat.zero_le _, Nat.zero_le _⟩) hS hF (fun H locs hkp hP1 hD1 hS => ?_)
    obtain ⟨hP, hD⟩ := zxa_J hP hD hkp hF hP1 hD1
    have hP : va_P D vwCl (zw_X cI x a b (f_red σ k) (τ)) H := hP
    have hD : va_D A (zw_X cI x a b (f_red σ k) (τ)) := hD
    have hC := hC.to (f_red_0 σ k) (f_red_6 σ k)
    refine lv_aload_n hx hb dX3_redeem_34 rfl (lv_at hl 0 rfl) ?_
    refine va_get (D := D) (ci := 3) (v := .ref (a 0)) (C := RX3) (T := TX3) (N := 2) hx hb hts hinX3 hown hK hP 0 rfl rfl 0 (by decide) hf10 (fun _ h9 => h9) rfl dX3_redeem_35 ?_
    refine va_get (D := D) (ci := 1) (v := .ref (a 2)) (C := RX1) (T := TX1) (N := 5) hx hb hts hinX1 hown hK hP 1 rfl rfl 4 (by decide) hf48 (fun _ h9 => h9) rfl dX3_redeem_38 ?_
    refine va_get (D := D) (ci := 2) (v := .ref (a 11)) (C := RX2) (T := TX2) (N := 13) hx hb hts hinX2 hown hK hP 3 rfl rfl 4 (by decide) hf82 (fun _ h9 => h9) rfl dX3_redeem_41 ?_
    refine lv_iload_n hx hb dX3_redeem_44 rfl (lv_at hl 1 rfl) ?_
    refine zk_ld hx hb hK hP 12 0 rfl rfl (k := k) (by omega) (by decide) (v := (f_red σ k) 9 k) rfl dX3_redeem_45 ?_
    have hP9 := hP
    have hD9 := hD
    exact W.iret (v := (f_red σ k) 9 k) hx hb hr (fun t ht hW => ⟨⟨(f_red σ k) 9 k, (), rfl, rfl, by rw [ht]; exact hP9, va_K.moved hW.alike hK, hD9⟩, hS.F ht⟩) hS.2.2 dX3_redeem_46
  · exact absurd (hcan) c_2

set_option maxHeartbeats 4000000 in
set_option maxRecDepth 100000 in
theorem c_X3_call (l : Launch) (D : va_G) (cI : ClassId) (x : Nat) (a b : Nat → Nat) (σ τ : zS) {k : Nat} {nb ns h : Nat} (hC : zC σ nb ns h) (hk : k < ns) (hup : ¬ σ 12 k = 0) : zMI l yX3_call wsX3_call ({ frames := 2, cells := 0, slots := 0, locals := 43 }) [.ref x, .int (nI k)] D [(cI, .int)] (zw_X cI x a b σ (τ)) (zw_X cI x a b (f_getUp σ k) (τ)) (fun r => r = σ 13 k) := by
  intro sz
  refine Met.ofW (cc := cX3_call) (maxL := 3) (ret := (some .int)) (by decide) rfl ?_
  intro p e s m args below meth c s₁ B hml hv
  obtain ⟨rfl, hsz, hP, hK, hD⟩ := hv
  have hx := B.exec
  have hb := B.bytes
  have hr := B.returns
  have hts := atoms_spec (ws := wsX3_call) B.pre
  have hown : s.vm.findClass RX3 = some m.cls := findClass_of_methodNamed B.named
  have hlocks := B.notSynchronized
  subst hsz
  have hD := hD.self (sz := s.heap.size)
  generalize hAe : va_A (zw_X cI x a b σ (τ)) s.heap.size = A at hD ⊢
  have hA : ∀ q : Nat, s.heap.size ≤ q → A q := fun q h => by rw [← hAe]; exact Or.inr h
  have hS : va_S A s.heap s.heap [] := va_S.rf
  have hP : va_P D vwCl (zw_X cI x a b σ (τ)) s.heap := hP
  have hl := lv_entry ([.ref x, .int (nI k)]) (n := 3) (Nat.le_of_ble_eq_true rfl)
  rw [lg_entry_eq]
  generalize (lg_sl ([.ref x, .int (nI k)]) ++ List.replicate (3 - (lg_sl ([.ref x, .int (nI k)])).length) Slot.unset).toArray = ls at hl ⊢
  have hl : lv_has ls 3 [(0, .ref x), (1, .int (nI k))] := hl
  have hf10 := hts (.fieldLink RX3 10 "HotBeds" "house" "LHotBeds$House;") (by decide +kernel)
  have hf110 := hts (.fieldLink RX3 110 "HotBeds$Sailors" "bed" "[I") (by decide +kernel)
  have hf48 := hts (.fieldLink RX3 48 "HotBeds$House" "sailors" "LHotBeds$Sailors;") (by decide +kernel)
  have hinX1 : ∀ w ∈ u_ws RX1 TX1 5, w ∈ wsX3_call := by decide +kernel
  have hinX2 : ∀ w ∈ u_ws RX2 TX2 13, w ∈ wsX3_call := by decide +kernel
  have hinX3 : ∀ w ∈ u_ws RX3 TX3 2, w ∈ wsX3_call := by decide +kernel
  have hnb := hC.2.1
  have hns := hC.2.2.2.1
  have hh := hC.2.2.2.2.2.1
  refine lv_aload_n hx hb dX3_call_0 rfl (lv_at hl 0 rfl) ?_
  refine lv_iload_n hx hb dX3_call_1 rfl (lv_at hl 1 rfl) ?_
  refine zk_Q (D := D) (va_runV (As := [.int (nI k)]) (rest := []) ⟨hx, hb, hml, hown, hts⟩ (c_X3_requireSailor l D cI x a b σ (τ) hC hk _) (cwV 1 hts gX3_call_X3_requireSailor rfl rfl rfl zdX3_requireSailor ⟨Nat.le_of_ble_eq_true rfl, Nat.le_of_ble_eq_true rfl⟩) ⟨zbl _, va_recv hK hP (ci := 3) (q0 := 0) rfl rfl, zpr hK hP hD⟩ rfl rfl hl.1 rfl (lv_room (Nat.le_of_ble_eq_true rfl)) dX3_call_2 ⟨Nat.zero_le _, Nat.zero_le _⟩) hS (fun H locs hkp hS => ?_)
  have hP := hkp _ hP
  refine lv_aload_n hx hb dX3_call_5 rfl (lv_at hl 0 rfl) ?_
  refine va_get (D := D) (ci := 3) (v := .ref (a 0)) (C := RX3) (T := TX3) (N := 2) hx hb hts hinX3 hown hK hP 0 rfl rfl 0 (by decide) hf10 (fun _ h9 => h9) rfl dX3_call_6 ?_
  refine va_get (D := D) (ci := 1) (v := .ref (a 2)) (C := RX1) (T := TX1) (N := 5) hx hb hts hinX1 hown hK hP 1 rfl rfl 4 (by decide) hf48 (fun _ h9 => h9) rfl dX3_call_9 ?_
  refine lv_iload_n hx hb dX3_call_12 rfl (lv_at hl 1 rfl) ?_
  refine zk_R (D := D) (va_runV (As := [.int (nI k)]) (rest := []) ⟨hx, hb, hml, hown, hts⟩ (c_X2_isUp l D cI a σ (k := k) (by omega) _) (cwV 1 hts gX3_call_X2_isUp rfl rfl rfl zdX2_isUp ⟨Nat.le_of_ble_eq_true rfl, Nat.le_of_ble_eq_true rfl⟩) ⟨zbl _, va_recv hK (zxa_P hP) (ci := 2) (q0 := 2) rfl rfl, zpr hK (zxa_P hP) (zxa_D hD)⟩ rfl rfl hl.1 rfl (lv_room (Nat.le_of_ble_eq_true rfl)) dX3_call_13 ⟨Nat.zero_le _, Nat.zero_le _⟩) hS (fun r_1 H locs hw hkp hS => ?_)
  have hP := hkp _ hP
  rcases hw with ⟨c_2, rfl⟩ | ⟨c_2, rfl⟩
  · exact absurd c_2 (hup)
  · refine lv_if_eq (tgt := 29) hx hb dX3_call_16 (by decide) (fun _ => ?_) (fun c => absurd (by decide) c)
    refine lv_aload_n hx hb dX3_call_29 rfl (lv_at hl 0 rfl) ?_
    refine va_get (D := D) (ci := 3) (v := .ref (a 0)) (C := RX3) (T := TX3) (N := 2) hx hb hts hinX3 hown hK hP 0 rfl rfl 0 (by decide) hf10 (fun _ h9 => h9) rfl dX3_call_30 ?_
    refine va_get (D := D) (ci := 1) (v := .ref (a 2)) (C := RX1) (T := TX1) (N := 5) hx hb hts hinX1 hown hK hP 1 rfl rfl 4 (by decide) hf48 (fun _ h9 => h9) rfl dX3_call_33 ?_
    refine va_get (D := D) (ci := 2) (v := .ref (a 15)) (C := RX2) (T := TX2) (N := 13) hx hb hts hinX2 hown hK hP 3 rfl rfl 8 (by decide) hf110 (fun _ h9 => h9) rfl dX3_call_36 ?_
    refine lv_iload_n hx hb dX3_call_39 rfl (lv_at hl 1 rfl) ?_
    refine zk_ld hx hb hK hP 16 0 rfl rfl (k := k) (by omega) (by decide) (v := σ 13 k) rfl dX3_call_40 ?_
    refine lv_istore_n (lv' := [(2, .int (σ 13 k)), (0, .ref x), (1, .int (nI k))]) hx hb dX3_call_41 rfl hl (by decide) rfl (fun ls hl => ?_)
    refine lv_aload_n hx hb dX3_call_42 rfl (lv_at hl 1 rfl) ?_
    refine va_get (D := D) (ci := 3) (v := .ref (a 0)) (C := RX3) (T := TX3) (N := 2) hx hb hts hinX3 hown hK hP 0 rfl rfl 0 (by decide) hf10 (fun _ h9 => h9) rfl dX3_call_43 ?_
    refine lv_iload_n hx hb dX3_call_46 rfl (lv_at hl 2 rfl) ?_
    have hF := zfree (zxa_D hD) hS hA
    refine zk_V (va_runV (As := [.int (nI k)]) (rest := []) ⟨hx, hb, hml, hown, hts⟩ (c_X1_getUp l D cI a σ (k := k) (by omega) hC _) (cwV 1 hts gX3_call_X1_getUp rfl rfl rfl zdX1_getUp ⟨Nat.le_of_ble_eq_true rfl, Nat.le_of_ble_eq_true rfl⟩) ⟨zbl _, va_recv hK (zxa_P hP) (ci := 1) (q0 := 0) rfl rfl, zpr hK (zxa_P hP) (zxa_D hD)⟩ rfl rfl hl.1 rfl (lv_room (Nat.le_of_ble_eq_true rfl)) dX3_call_47 ⟨Nat.zero_le _, Nat.zero_le _⟩) hS hF (fun H locs hkp hP1 hD1 hS => ?_)
    obtain ⟨hP, hD⟩ := zxa_J hP hD hkp hF hP1 hD1
    have hP : va_P D vwCl (zw_X cI x a b (f_getUp σ k) (τ)) H := hP
    have hD : va_D A (zw_X cI x a b (f_getUp σ k) (τ)) := hD
    refine lv_iload_n hx hb dX3_call_50 rfl (lv_at hl 0 rfl) ?_
    have hP9 := hP
    have hD9 := hD
    exact W.iret (v := σ 13 k) hx hb hr (fun t ht hW => ⟨⟨σ 13 k, (), rfl, rfl, by rw [ht]; exact hP9, va_K.moved hW.alike hK, hD9⟩, hS.F ht⟩) hS.2.2 dX3_call_51

set_option maxHeartbeats 4000000 in
set_option maxRecDepth 100000 in
theorem c_X3_shift (l : Launch) (D : va_G) (cI : ClassId) (x : Nat) (a b : Nat → Nat) (σ τ : zS) {k : Nat} {nb ns h : Nat} (hC : zC σ nb ns h) (hk : k < ns) (v : Int32) (hw1 : ¬ v < 0) (hw2 : v < 3) (hup : σ 12 k = 0) : zMI l yX3_shift wsX3_shift ({ frames := 2, cells := 0, slots := 0, locals := 42 }) [.ref x, .int (nI k), .int v] D [(cI, .int)] (zw_X cI x a b σ (τ)) (zw_X cI x a b (zs σ 6 k v) (τ)) (fun r => r = σ 6 k) := by
  intro sz
  refine Met.ofW (cc := cX3_shift) (maxL := 4) (ret := (some .int)) (by decide) rfl ?_
  intro p e s m args below meth c s₁ B hml hv
  obtain ⟨rfl, hsz, hP, hK, hD⟩ := hv
  have hx := B.exec
  have hb := B.bytes
  have hr := B.returns
  have hts := atoms_spec (ws := wsX3_shift) B.pre
  have hown : s.vm.findClass RX3 = some m.cls := findClass_of_methodNamed B.named
  have hlocks := B.notSynchronized
  subst hsz
  have hD := hD.self (sz := s.heap.size)
  generalize hAe : va_A (zw_X cI x a b σ (τ)) s.heap.size = A at hD ⊢
  have hA : ∀ q : Nat, s.heap.size ≤ q → A q := fun q h => by rw [← hAe]; exact Or.inr h
  have hS : va_S A s.heap s.heap [] := va_S.rf
  have hP : va_P D vwCl (zw_X cI x a b σ (τ)) s.heap := hP
  have hl := lv_entry ([.ref x, .int (nI k), .int v]) (n := 4) (Nat.le_of_ble_eq_true rfl)
  rw [lg_entry_eq]
  generalize (lg_sl ([.ref x, .int (nI k), .int v]) ++ List.replicate (4 - (lg_sl ([.ref x, .int (nI k), .int v])).length) Slot.unset).toArray = ls at hl ⊢
  have hl : lv_has ls 4 [(0, .ref x), (1, .int (nI k)), (2, .int v)] := hl
  have hf10 := hts (.fieldLink RX3 10 "HotBeds" "house" "LHotBeds$House;") (by decide +kernel)
  have hf119 := hts (.fieldLink RX3 119 "HotBeds$Sailors" "watch" "[I") (by decide +kernel)
  have hf48 := hts (.fieldLink RX3 48 "HotBeds$House" "sailors" "LHotBeds$Sailors;") (by decide +kernel)
  have hinX1 : ∀ w ∈ u_ws RX1 TX1 5, w ∈ wsX3_shift := by decide +kernel
  have hinX2 : ∀ w ∈ u_ws RX2 TX2 13, w ∈ wsX3_shift := by decide +kernel
  have hinX3 : ∀ w ∈ u_ws RX3 TX3 2, w ∈ wsX3_shift := by decide +kernel
  have hnb := hC.2.1
  have hns := hC.2.2.2.1
  have hh := hC.2.2.2.2.2.1
  refine lv_aload_n hx hb dX3_shift_0 rfl (lv_at hl 0 rfl) ?_
  refine lv_iload_n hx hb dX3_shift_1 rfl (lv_at hl 1 rfl) ?_
  refine zk_Q (D := D) (va_runV (As := [.int (nI k)]) (rest := []) ⟨hx, hb, hml, hown, hts⟩ (c_X3_requireSailor l D cI x a b σ (τ) hC hk _) (cwV 1 hts gX3_shift_X3_requireSailor rfl rfl rfl zdX3_requireSailor ⟨Nat.le_of_ble_eq_true rfl, Nat.le_of_ble_eq_true rfl⟩) ⟨zbl _, va_recv hK hP (ci := 3) (q0 := 0) rfl rfl, zpr hK hP hD⟩ rfl rfl hl.1 rfl (lv_room (Nat.le_of_ble_eq_true rfl)) dX3_shift_2 ⟨Nat.zero_le _, Nat.zero_le _⟩) hS (fun H locs hkp hS => ?_)
  have hP := hkp _ hP
  refine lv_iload_n hx hb dX3_shift_5 rfl (lv_at hl 2 rfl) ?_
  refine zk_Q (D := D) (va_runS (As := [.int v]) (rest := []) ⟨hx, hb, hml, hown, hts⟩ (c_X3_requireWatch l D cI v hw1 hw2 _) (va_cwS 1 hts gX3_shift_X3_requireWatch rfl rfl rfl zdX3_requireWatch.2 ⟨Nat.le_of_ble_eq_true rfl, Nat.le_of_ble_eq_true rfl⟩) ⟨zbl _, zpr hK zP0 (zD0 (A := fun _ => True))⟩ rfl rfl hl.1 rfl (lv_room (Nat.le_of_ble_eq_true rfl)) dX3_shift_6 ⟨Nat.zero_le _, Nat.zero_le _⟩) hS (fun H locs hkp hS => ?_)
  have hP := hkp _ hP
  refine lv_aload_n hx hb dX3_shift_9 rfl (lv_at hl 0 rfl) ?_
  refine lv_iload_n hx hb dX3_shift_10 rfl (lv_at hl 1 rfl) ?_
  refine zk_Q (D := D) (va_runV (As := [.int (nI k)]) (rest := []) ⟨hx, hb, hml, hown, hts⟩ (c_X3_requireUp l D cI x a b σ (τ) hC hk hup _) (cwV 1 hts gX3_shift_X3_requireUp rfl rfl rfl zdX3_requireUp ⟨Nat.le_of_ble_eq_true rfl, Nat.le_of_ble_eq_true rfl⟩) ⟨zbl _, va_recv hK hP (ci := 3) (q0 := 0) rfl rfl, zpr hK hP hD⟩ rfl rfl hl.1 rfl (lv_room (Nat.le_of_ble_eq_true rfl)) dX3_shift_11 ⟨Nat.zero_le _, Nat.zero_le _⟩) hS (fun H locs hkp hS => ?_)
  have hP := hkp _ hP
  refine lv_aload_n hx hb dX3_shift_14 rfl (lv_at hl 0 rfl) ?_
  refine va_get (D := D) (ci := 3) (v := .ref (a 0)) (C := RX3) (T := TX3) (N := 2) hx hb hts hinX3 hown hK hP 0 rfl rfl 0 (by decide) hf10 (fun _ h9 => h9) rfl dX3_shift_15 ?_
  refine va_get (D := D) (ci := 1) (v := .ref (a 2)) (C := RX1) (T := TX1) (N := 5) hx hb hts hinX1 hown hK hP 1 rfl rfl 4 (by decide) hf48 (fun _ h9 => h9) rfl dX3_shift_18 ?_
  refine va_get (D := D) (ci := 2) (v := .ref (a 8)) (C := RX2) (T := TX2) (N := 13) hx hb hts hinX2 hown hK hP 3 rfl rfl 1 (by decide) hf119 (fun _ h9 => h9) rfl dX3_shift_21 ?_
  refine lv_iload_n hx hb dX3_shift_24 rfl (lv_at hl 1 rfl) ?_
  refine zk_ld hx hb hK hP 9 0 rfl rfl (k := k) (by omega) (by decide) (v := σ 6 k) rfl dX3_shift_25 ?_
  refine lv_istore_n (lv' := [(3, .int (σ 6 k)), (0, .ref x), (1, .int (nI k)), (2, .int v)]) hx hb dX3_shift_26 rfl hl (by decide) rfl (fun ls hl => ?_)
  refine lv_aload_n hx hb dX3_shift_27 rfl (lv_at hl 1 rfl) ?_
  refine va_get (D := D) (ci := 3) (v := .ref (a 0)) (C := RX3) (T := TX3) (N := 2) hx hb hts hinX3 hown hK hP 0 rfl rfl 0 (by decide) hf10 (fun _ h9 => h9) rfl dX3_shift_28 ?_
  refine va_get (D := D) (ci := 1) (v := .ref (a 2)) (C := RX1) (T := TX1) (N := 5) hx hb hts hinX1 hown hK hP 1 rfl rfl 4 (by decide) hf48 (fun _ h9 => h9) rfl dX3_shift_31 ?_
  refine va_get (D := D) (ci := 2) (v := .ref (a 8)) (C := RX2) (T := TX2) (N := 13) hx hb hts hinX2 hown hK hP 3 rfl rfl 1 (by decide) hf119 (fun _ h9 => h9) rfl dX3_shift_34 ?_
  refine lv_iload_n hx hb dX3_shift_37 rfl (lv_at hl 2 rfl) ?_
  refine lv_iload_n hx hb dX3_shift_38 rfl (lv_at hl 3 rfl) ?_
  refine zk_st hx hb hK hP hD hS 9 0 rfl rfl (k := k) (by omega) (by decide) (w1 := zw_X cI x a b (zs σ 6 k v) (τ)) rfl dX3_shift_39 (fun H locs hP hD hS => ?_)
  have hP : va_P D vwCl (zw_X cI x a b (zs σ 6 k v) (τ)) H := hP
  have hD : va_D A (zw_X cI x a b (zs σ 6 k v) (τ)) := hD
  refine lv_iload_n hx hb dX3_shift_40 rfl (lv_at hl 0 rfl) ?_
  have hP9 := hP
  have hD9 := hD
  exact W.iret (v := σ 6 k) hx hb hr (fun t ht hW => ⟨⟨σ 6 k, (), rfl, rfl, by rw [ht]; exact hP9, va_K.moved hW.alike hK, hD9⟩, hS.F ht⟩) hS.2.2 dX3_shift_41

set_option maxHeartbeats 4000000 in
set_option maxRecDepth 100000 in
theorem c_X3_pass (l : Launch) (D : va_G) (cI : ClassId) (x : Nat) (a b : Nat → Nat) (σ τ : zS) {n : Nat} {nb ns h : Nat} (hC : zC σ nb ns h) (hw1 : ¬ nI n < 1) (hw2 : nI n ≤ 72) (hn : h + n < 2 ^ 30) : zMI l yX3_pass wsX3_pass ({ frames := 7, cells := 0, slots := 0, locals := 149 }) [.ref x, .int (nI n)] D [(cI, .int)] (zw_X cI x a b σ (τ)) (zw_X cI x a b (f_hours σ nb ns h n) (τ)) (fun r => r = f_sum ((f_hours σ nb ns h n) 17) ns - f_sum (σ 17) ns) := by
  intro sz
  refine Met.ofW (cc := cX3_pass) (maxL := 3) (ret := (some .int)) (by decide) rfl ?_
  intro p e s m args below meth c s₁ B hml hv
  obtain ⟨rfl, hsz, hP, hK, hD⟩ := hv
  have hx := B.exec
  have hb := B.bytes
  have hr := B.returns
  have hts := atoms_spec (ws := wsX3_pass) B.pre
  have hown : s.vm.findClass RX3 = some m.cls := findClass_of_methodNamed B.named
  have hlocks := B.notSynchronized
  subst hsz
  have hD := hD.self (sz := s.heap.size)
  generalize hAe : va_A (zw_X cI x a b σ (τ)) s.heap.size = A at hD ⊢
  have hA : ∀ q : Nat, s.heap.size ≤ q → A q := fun q h => by rw [← hAe]; exact Or.inr h
  have hS : va_S A s.heap s.heap [] := va_S.rf
  have hP : va_P D vwCl (zw_X cI x a b σ (τ)) s.heap := hP
  have hl := lv_entry ([.ref x, .int (nI n)]) (n := 3) (Nat.le_of_ble_eq_true rfl)
  rw [lg_entry_eq]
  generalize (lg_sl ([.ref x, .int (nI n)]) ++ List.replicate (3 - (lg_sl ([.ref x, .int (nI n)])).length) Slot.unset).toArray = ls at hl ⊢
  have hl : lv_has ls 3 [(0, .ref x), (1, .int (nI n))] := hl
  have hf10 := hts (.fieldLink RX3 10 "HotBeds" "house" "LHotBeds$House;") (by decide +kernel)
  have hf48 := hts (.fieldLink RX3 48 "HotBeds$House" "sailors" "LHotBeds$Sailors;") (by decide +kernel)
  have hinX1 : ∀ w ∈ u_ws RX1 TX1 5, w ∈ wsX3_pass := by decide +kernel
  have hinX3 : ∀ w ∈ u_ws RX3 TX3 2, w ∈ wsX3_pass := by decide +kernel
  have hnb := hC.2.1
  have hns := hC.2.2.2.1
  have hh := hC.2.2.2.2.2.1
  refine lv_iload_n hx hb dX3_pass_0 rfl (lv_at hl 1 rfl) ?_
  refine zk_Q (D := D) (va_runS (As := [.int (nI n)]) (rest := []) ⟨hx, hb, hml, hown, hts⟩ (c_X3_requireHours l D cI (nI n) hw1 hw2 _) (va_cwS 1 hts gX3_pass_X3_requireHours rfl rfl rfl zdX3_requireHours.2 ⟨Nat.le_of_ble_eq_true rfl, Nat.le_of_ble_eq_true rfl⟩) ⟨zbl _, zpr hK zP0 (zD0 (A := fun _ => True))⟩ rfl rfl hl.1 rfl (lv_room (Nat.le_of_ble_eq_true rfl)) dX3_pass_1 ⟨Nat.zero_le _, Nat.zero_le _⟩) hS (fun H locs hkp hS => ?_)
  have hP := hkp _ hP
  refine lv_aload_n hx hb dX3_pass_4 rfl (lv_at hl 0 rfl) ?_
  refine va_get (D := D) (ci := 3) (v := .ref (a 0)) (C := RX3) (T := TX3) (N := 2) hx hb hts hinX3 hown hK hP 0 rfl rfl 0 (by decide) hf10 (fun _ h9 => h9) rfl dX3_pass_5 ?_
  refine va_get (D := D) (ci := 1) (v := .ref (a 2)) (C := RX1) (T := TX1) (N := 5) hx hb hts hinX1 hown hK hP 1 rfl rfl 4 (by decide) hf48 (fun _ h9 => h9) rfl dX3_pass_8 ?_
  refine zk_R (D := D) (va_runV (As := []) (rest := []) ⟨hx, hb, hml, hown, hts⟩ (c_X2_allFloors l D cI a σ hC _) (cwV 0 hts gX3_pass_X2_allFloors rfl rfl rfl zdX2_allFloors ⟨Nat.le_of_ble_eq_true rfl, Nat.le_of_ble_eq_true rfl⟩) ⟨zbl _, va_recv hK (zxa_P hP) (ci := 2) (q0 := 2) rfl rfl, zpr hK (zxa_P hP) (zxa_D hD)⟩ rfl rfl hl.1 rfl (lv_room (Nat.le_of_ble_eq_true rfl)) dX3_pass_11 ⟨Nat.zero_le _, Nat.zero_le _⟩) hS (fun r_1 H locs hw hkp hS => ?_)
  have hP := hkp _ hP
  subst hw
  refine lv_istore_n (lv' := [(2, .int (f_sum (σ 17) ns)), (0, .ref x), (1, .int (nI n))]) hx hb dX3_pass_14 rfl hl (by decide) rfl (fun ls hl => ?_)
  refine lv_aload_n hx hb dX3_pass_15 rfl (lv_at hl 1 rfl) ?_
  refine va_get (D := D) (ci := 3) (v := .ref (a 0)) (C := RX3) (T := TX3) (N := 2) hx hb hts hinX3 hown hK hP 0 rfl rfl 0 (by decide) hf10 (fun _ h9 => h9) rfl dX3_pass_16 ?_
  refine lv_iload_n hx hb dX3_pass_19 rfl (lv_at hl 2 rfl) ?_
  have hF := zfree (zxa_D hD) hS hA
  refine zk_V (va_runV (As := [.int (nI n)]) (rest := []) ⟨hx, hb, hml, hown, hts⟩ (c_X1_goOn l D cI a σ (n := n) hC hn _) (cwV 1 hts gX3_pass_X1_goOn rfl rfl rfl zdX1_goOn ⟨Nat.le_of_ble_eq_true rfl, Nat.le_of_ble_eq_true rfl⟩) ⟨zbl _, va_recv hK (zxa_P hP) (ci := 1) (q0 := 0) rfl rfl, zpr hK (zxa_P hP) (zxa_D hD)⟩ rfl rfl hl.1 rfl (lv_room (Nat.le_of_ble_eq_true rfl)) dX3_pass_20 ⟨Nat.zero_le _, Nat.zero_le _⟩) hS hF (fun H locs hkp hP1 hD1 hS => ?_)
  obtain ⟨hP, hD⟩ := zxa_J hP hD hkp hF hP1 hD1
  have hP : va_P D vwCl (zw_X cI x a b (f_hours σ nb ns h n) (τ)) H := hP
  have hD : va_D A (zw_X cI x a b (f_hours σ nb ns h n) (τ)) := hD
  have hC := hC.hours n hn
  refine lv_aload_n hx hb dX3_pass_23 rfl (lv_at hl 1 rfl) ?_
  refine va_get (D := D) (ci := 3) (v := .ref (a 0)) (C := RX3) (T := TX3) (N := 2) hx hb hts hinX3 hown hK hP 0 rfl rfl 0 (by decide) hf10 (fun _ h9 => h9) rfl dX3_pass_24 ?_
  refine va_get (D := D) (ci := 1) (v := .ref (a 2)) (C := RX1) (T := TX1) (N := 5) hx hb hts hinX1 hown hK hP 1 rfl rfl 4 (by decide) hf48 (fun _ h9 => h9) rfl dX3_pass_27 ?_
  refine zk_R (D := D) (va_runV (As := []) (rest := []) ⟨hx, hb, hml, hown, hts⟩ (c_X2_allFloors l D cI a (f_hours σ nb ns h n) hC _) (cwV 0 hts gX3_pass_X2_allFloors rfl rfl rfl zdX2_allFloors ⟨Nat.le_of_ble_eq_true rfl, Nat.le_of_ble_eq_true rfl⟩) ⟨zbl _, va_recv hK (zxa_P hP) (ci := 2) (q0 := 2) rfl rfl, zpr hK (zxa_P hP) (zxa_D hD)⟩ rfl rfl hl.1 rfl (lv_room (Nat.le_of_ble_eq_true rfl)) dX3_pass_30 ⟨Nat.zero_le _, Nat.zero_le _⟩) hS (fun r_2 H locs hw hkp hS => ?_)
  have hP := hkp _ hP
  subst hw
  refine lv_iload_n hx hb dX3_pass_33 rfl (lv_at hl 0 rfl) ?_
  refine lv_isub hx hb dX3_pass_34 ?_
  have hP9 := hP
  have hD9 := hD
  exact W.iret (v := (f_sum ((f_hours σ nb ns h n) 17) ns) - (f_sum (σ 17) ns)) hx hb hr (fun t ht hW => ⟨⟨(f_sum ((f_hours σ nb ns h n) 17) ns) - (f_sum (σ 17) ns), (), rfl, rfl, by rw [ht]; exact hP9, va_K.moved hW.alike hK, hD9⟩, hS.F ht⟩) hS.2.2 dX3_pass_35
