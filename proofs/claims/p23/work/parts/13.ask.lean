set_option maxHeartbeats 4000000 in
set_option maxRecDepth 100000 in
theorem c_X3_told (l : Launch) (D : va_G) (cI : ClassId) (x : Nat) (a b : Nat → Nat) (σ τ : zS) {k w : Nat} {nb ns h : Nat} (hC : zC σ nb ns h) (hk : k < ns) (hw10 : w ≤ 10) : zMR l yX3_told wsX3_told ({ frames := 1, cells := 0, slots := 0, locals := 21 }) [.ref x, .int (nI k), .int (nI w)] D [(cI, .int)] (zw_X cI x a b σ (τ)) (fun r => r = σ (q_row w) k) := by
  intro sz
  refine Met.ofW (cc := cX3_told) (maxL := 4) (ret := (some .int)) (by decide) rfl ?_
  intro p e s m args below meth c s₁ B hml hv
  obtain ⟨rfl, hsz, hP, hK, hD⟩ := hv
  have hx := B.exec
  have hb := B.bytes
  have hr := B.returns
  have hts := atoms_spec (ws := wsX3_told) B.pre
  have hown : s.vm.findClass RX3 = some m.cls := findClass_of_methodNamed B.named
  have hlocks := B.notSynchronized
  have hS : va_S (fun _ => False) s.heap s.heap [] := va_S.rf
  have hP : va_P D vwCl (zw_X cI x a b σ (τ)) s.heap := hP
  have hl := lv_entry ([.ref x, .int (nI k), .int (nI w)]) (n := 4) (Nat.le_of_ble_eq_true rfl)
  rw [lg_entry_eq]
  generalize (lg_sl ([.ref x, .int (nI k), .int (nI w)]) ++ List.replicate (4 - (lg_sl ([.ref x, .int (nI k), .int (nI w)])).length) Slot.unset).toArray = ls at hl ⊢
  have hl : lv_has ls 4 [(0, .ref x), (1, .int (nI k)), (2, .int (nI w))] := hl
  have hf10 := hts (.fieldLink RX3 10 "HotBeds" "house" "LHotBeds$House;") (by decide +kernel)
  have hf110 := hts (.fieldLink RX3 110 "HotBeds$Sailors" "bed" "[I") (by decide +kernel)
  have hf119 := hts (.fieldLink RX3 119 "HotBeds$Sailors" "watch" "[I") (by decide +kernel)
  have hf132 := hts (.fieldLink RX3 132 "HotBeds$Sailors" "heavy" "[I") (by decide +kernel)
  have hf135 := hts (.fieldLink RX3 135 "HotBeds$Sailors" "wage" "[I") (by decide +kernel)
  have hf138 := hts (.fieldLink RX3 138 "HotBeds$Sailors" "boots" "[I") (by decide +kernel)
  have hf141 := hts (.fieldLink RX3 141 "HotBeds$Sailors" "place" "[I") (by decide +kernel)
  have hf144 := hts (.fieldLink RX3 144 "HotBeds$Sailors" "rest" "[I") (by decide +kernel)
  have hf147 := hts (.fieldLink RX3 147 "HotBeds$Sailors" "late" "[I") (by decide +kernel)
  have hf150 := hts (.fieldLink RX3 150 "HotBeds$Sailors" "floors" "[I") (by decide +kernel)
  have hf48 := hts (.fieldLink RX3 48 "HotBeds$House" "sailors" "LHotBeds$Sailors;") (by decide +kernel)
  have hf61 := hts (.fieldLink RX3 61 "HotBeds$Sailors" "kept" "[I") (by decide +kernel)
  have hf82 := hts (.fieldLink RX3 82 "HotBeds$Sailors" "purse" "[I") (by decide +kernel)
  have hinX1 : ∀ w ∈ u_ws RX1 TX1 5, w ∈ wsX3_told := by decide +kernel
  have hinX2 : ∀ w ∈ u_ws RX2 TX2 13, w ∈ wsX3_told := by decide +kernel
  have hinX3 : ∀ w ∈ u_ws RX3 TX3 2, w ∈ wsX3_told := by decide +kernel
  have hnb := hC.2.1
  have hns := hC.2.2.2.1
  have hh := hC.2.2.2.2.2.1
  refine lv_aload_n hx hb dX3_told_0 rfl (lv_at hl 0 rfl) ?_
  refine lv_iload_n hx hb dX3_told_1 rfl (lv_at hl 1 rfl) ?_
  refine zk_Q (D := D) (va_runV (As := [.int (nI k)]) (rest := []) ⟨hx, hb, hml, hown, hts⟩ (c_X3_requireSailor l D cI x a b σ (τ) hC hk _) (cwV 1 hts gX3_told_X3_requireSailor rfl rfl rfl zdX3_requireSailor ⟨Nat.le_of_ble_eq_true rfl, Nat.le_of_ble_eq_true rfl⟩) ⟨zbl _, va_recv hK hP (ci := 3) (q0 := 0) rfl rfl, zpr hK hP hD⟩ rfl rfl hl.1 rfl (lv_room (Nat.le_of_ble_eq_true rfl)) dX3_told_2 ⟨Nat.zero_le _, Nat.zero_le _⟩) hS (fun H locs hkp hS => ?_)
  have hP := hkp _ hP
  refine lv_aload_n hx hb dX3_told_5 rfl (lv_at hl 0 rfl) ?_
  refine va_get (D := D) (ci := 3) (v := .ref (a 0)) (C := RX3) (T := TX3) (N := 2) hx hb hts hinX3 hown hK hP 0 rfl rfl 0 (by decide) hf10 (fun _ h9 => h9) rfl dX3_told_6 ?_
  refine va_get (D := D) (ci := 1) (v := .ref (a 2)) (C := RX1) (T := TX1) (N := 5) hx hb hts hinX1 hown hK hP 1 rfl rfl 4 (by decide) hf48 (fun _ h9 => h9) rfl dX3_told_9 ?_
  refine lv_astore_n (lv' := [(3, .ref (a 2)), (0, .ref x), (1, .int (nI k)), (2, .int (nI w))]) hx hb dX3_told_12 rfl hl (by decide) rfl (fun ls hl => ?_)
  refine lv_iload_n hx hb dX3_told_13 rfl (lv_at hl 3 rfl) ?_
  rcases (show w = 0 ∨ w = 1 ∨ w = 2 ∨ w = 3 ∨ w = 4 ∨ w = 5 ∨ w = 6 ∨ w = 7 ∨ w = 8 ∨ w = 9 ∨ w = 10 by omega) with rfl | rfl | rfl | rfl | rfl | rfl | rfl | rfl | rfl | rfl | rfl
  · refine lv_tableIn hx hb dX3_told_14 (by decide) (by decide) (off := 58) (by decide) (tgt := 72) (by decide) ?_
    refine lv_aload_n hx hb dX3_told_72 rfl (lv_at hl 0 rfl) ?_
    refine va_get (D := D) (ci := 2) (v := .ref (a 8)) (C := RX2) (T := TX2) (N := 13) hx hb hts hinX2 hown hK hP 3 rfl rfl 1 (by decide) hf119 (fun _ h9 => h9) rfl dX3_told_73 ?_
    refine lv_iload_n hx hb dX3_told_76 rfl (lv_at hl 2 rfl) ?_
    refine zk_ld hx hb hK hP 9 0 rfl rfl (k := k) (by omega) (by decide) (v := σ 6 k) rfl dX3_told_77 ?_
    exact W.iret (v := σ 6 k) hx hb hr (fun t ht hW => ⟨⟨σ 6 k, (), rfl, rfl, trivial⟩, hS.F ht⟩) hS.2.2 dX3_told_78
  · refine lv_tableIn hx hb dX3_told_14 (by decide) (by decide) (off := 65) (by decide) (tgt := 79) (by decide) ?_
    refine lv_aload_n hx hb dX3_told_79 rfl (lv_at hl 0 rfl) ?_
    refine va_get (D := D) (ci := 2) (v := .ref (a 9)) (C := RX2) (T := TX2) (N := 13) hx hb hts hinX2 hown hK hP 3 rfl rfl 2 (by decide) hf132 (fun _ h9 => h9) rfl dX3_told_80 ?_
    refine lv_iload_n hx hb dX3_told_83 rfl (lv_at hl 2 rfl) ?_
    refine zk_ld hx hb hK hP 10 0 rfl rfl (k := k) (by omega) (by decide) (v := σ 7 k) rfl dX3_told_84 ?_
    exact W.iret (v := σ 7 k) hx hb hr (fun t ht hW => ⟨⟨σ 7 k, (), rfl, rfl, trivial⟩, hS.F ht⟩) hS.2.2 dX3_told_85
  · refine lv_tableIn hx hb dX3_told_14 (by decide) (by decide) (off := 72) (by decide) (tgt := 86) (by decide) ?_
    refine lv_aload_n hx hb dX3_told_86 rfl (lv_at hl 0 rfl) ?_
    refine va_get (D := D) (ci := 2) (v := .ref (a 10)) (C := RX2) (T := TX2) (N := 13) hx hb hts hinX2 hown hK hP 3 rfl rfl 3 (by decide) hf135 (fun _ h9 => h9) rfl dX3_told_87 ?_
    refine lv_iload_n hx hb dX3_told_90 rfl (lv_at hl 2 rfl) ?_
    refine zk_ld hx hb hK hP 11 0 rfl rfl (k := k) (by omega) (by decide) (v := σ 8 k) rfl dX3_told_91 ?_
    exact W.iret (v := σ 8 k) hx hb hr (fun t ht hW => ⟨⟨σ 8 k, (), rfl, rfl, trivial⟩, hS.F ht⟩) hS.2.2 dX3_told_92
  · refine lv_tableIn hx hb dX3_told_14 (by decide) (by decide) (off := 79) (by decide) (tgt := 93) (by decide) ?_
    refine lv_aload_n hx hb dX3_told_93 rfl (lv_at hl 0 rfl) ?_
    refine va_get (D := D) (ci := 2) (v := .ref (a 11)) (C := RX2) (T := TX2) (N := 13) hx hb hts hinX2 hown hK hP 3 rfl rfl 4 (by decide) hf82 (fun _ h9 => h9) rfl dX3_told_94 ?_
    refine lv_iload_n hx hb dX3_told_97 rfl (lv_at hl 2 rfl) ?_
    refine zk_ld hx hb hK hP 12 0 rfl rfl (k := k) (by omega) (by decide) (v := σ 9 k) rfl dX3_told_98 ?_
    exact W.iret (v := σ 9 k) hx hb hr (fun t ht hW => ⟨⟨σ 9 k, (), rfl, rfl, trivial⟩, hS.F ht⟩) hS.2.2 dX3_told_99
  · refine lv_tableIn hx hb dX3_told_14 (by decide) (by decide) (off := 86) (by decide) (tgt := 100) (by decide) ?_
    refine lv_aload_n hx hb dX3_told_100 rfl (lv_at hl 0 rfl) ?_
    refine va_get (D := D) (ci := 2) (v := .ref (a 12)) (C := RX2) (T := TX2) (N := 13) hx hb hts hinX2 hown hK hP 3 rfl rfl 5 (by decide) hf138 (fun _ h9 => h9) rfl dX3_told_101 ?_
    refine lv_iload_n hx hb dX3_told_104 rfl (lv_at hl 2 rfl) ?_
    refine zk_ld hx hb hK hP 13 0 rfl rfl (k := k) (by omega) (by decide) (v := σ 10 k) rfl dX3_told_105 ?_
    exact W.iret (v := σ 10 k) hx hb hr (fun t ht hW => ⟨⟨σ 10 k, (), rfl, rfl, trivial⟩, hS.F ht⟩) hS.2.2 dX3_told_106
  · refine lv_tableIn hx hb dX3_told_14 (by decide) (by decide) (off := 93) (by decide) (tgt := 107) (by decide) ?_
    refine lv_aload_n hx hb dX3_told_107 rfl (lv_at hl 0 rfl) ?_
    refine va_get (D := D) (ci := 2) (v := .ref (a 13)) (C := RX2) (T := TX2) (N := 13) hx hb hts hinX2 hown hK hP 3 rfl rfl 6 (by decide) hf61 (fun _ h9 => h9) rfl dX3_told_108 ?_
    refine lv_iload_n hx hb dX3_told_111 rfl (lv_at hl 2 rfl) ?_
    refine zk_ld hx hb hK hP 14 0 rfl rfl (k := k) (by omega) (by decide) (v := σ 11 k) rfl dX3_told_112 ?_
    exact W.iret (v := σ 11 k) hx hb hr (fun t ht hW => ⟨⟨σ 11 k, (), rfl, rfl, trivial⟩, hS.F ht⟩) hS.2.2 dX3_told_113
  · refine lv_tableIn hx hb dX3_told_14 (by decide) (by decide) (off := 100) (by decide) (tgt := 114) (by decide) ?_
    refine lv_aload_n hx hb dX3_told_114 rfl (lv_at hl 0 rfl) ?_
    refine va_get (D := D) (ci := 2) (v := .ref (a 14)) (C := RX2) (T := TX2) (N := 13) hx hb hts hinX2 hown hK hP 3 rfl rfl 7 (by decide) hf141 (fun _ h9 => h9) rfl dX3_told_115 ?_
    refine lv_iload_n hx hb dX3_told_118 rfl (lv_at hl 2 rfl) ?_
    refine zk_ld hx hb hK hP 15 0 rfl rfl (k := k) (by omega) (by decide) (v := σ 12 k) rfl dX3_told_119 ?_
    exact W.iret (v := σ 12 k) hx hb hr (fun t ht hW => ⟨⟨σ 12 k, (), rfl, rfl, trivial⟩, hS.F ht⟩) hS.2.2 dX3_told_120
  · refine lv_tableIn hx hb dX3_told_14 (by decide) (by decide) (off := 107) (by decide) (tgt := 121) (by decide) ?_
    refine lv_aload_n hx hb dX3_told_121 rfl (lv_at hl 0 rfl) ?_
    refine va_get (D := D) (ci := 2) (v := .ref (a 15)) (C := RX2) (T := TX2) (N := 13) hx hb hts hinX2 hown hK hP 3 rfl rfl 8 (by decide) hf110 (fun _ h9 => h9) rfl dX3_told_122 ?_
    refine lv_iload_n hx hb dX3_told_125 rfl (lv_at hl 2 rfl) ?_
    refine zk_ld hx hb hK hP 16 0 rfl rfl (k := k) (by omega) (by decide) (v := σ 13 k) rfl dX3_told_126 ?_
    exact W.iret (v := σ 13 k) hx hb hr (fun t ht hW => ⟨⟨σ 13 k, (), rfl, rfl, trivial⟩, hS.F ht⟩) hS.2.2 dX3_told_127
  · refine lv_tableIn hx hb dX3_told_14 (by decide) (by decide) (off := 114) (by decide) (tgt := 128) (by decide) ?_
    refine lv_aload_n hx hb dX3_told_128 rfl (lv_at hl 0 rfl) ?_
    refine va_get (D := D) (ci := 2) (v := .ref (a 16)) (C := RX2) (T := TX2) (N := 13) hx hb hts hinX2 hown hK hP 3 rfl rfl 9 (by decide) hf144 (fun _ h9 => h9) rfl dX3_told_129 ?_
    refine lv_iload_n hx hb dX3_told_132 rfl (lv_at hl 2 rfl) ?_
    refine zk_ld hx hb hK hP 17 0 rfl rfl (k := k) (by omega) (by decide) (v := σ 14 k) rfl dX3_told_133 ?_
    exact W.iret (v := σ 14 k) hx hb hr (fun t ht hW => ⟨⟨σ 14 k, (), rfl, rfl, trivial⟩, hS.F ht⟩) hS.2.2 dX3_told_134
  · refine lv_tableIn hx hb dX3_told_14 (by decide) (by decide) (off := 121) (by decide) (tgt := 135) (by decide) ?_
    refine lv_aload_n hx hb dX3_told_135 rfl (lv_at hl 0 rfl) ?_
    refine va_get (D := D) (ci := 2) (v := .ref (a 17)) (C := RX2) (T := TX2) (N := 13) hx hb hts hinX2 hown hK hP 3 rfl rfl 10 (by decide) hf147 (fun _ h9 => h9) rfl dX3_told_136 ?_
    refine lv_iload_n hx hb dX3_told_139 rfl (lv_at hl 2 rfl) ?_
    refine zk_ld hx hb hK hP 18 0 rfl rfl (k := k) (by omega) (by decide) (v := σ 15 k) rfl dX3_told_140 ?_
    exact W.iret (v := σ 15 k) hx hb hr (fun t ht hW => ⟨⟨σ 15 k, (), rfl, rfl, trivial⟩, hS.F ht⟩) hS.2.2 dX3_told_141
  · refine lv_tableIn hx hb dX3_told_14 (by decide) (by decide) (off := 128) (by decide) (tgt := 142) (by decide) ?_
    refine lv_aload_n hx hb dX3_told_142 rfl (lv_at hl 0 rfl) ?_
    refine va_get (D := D) (ci := 2) (v := .ref (a 19)) (C := RX2) (T := TX2) (N := 13) hx hb hts hinX2 hown hK hP 3 rfl rfl 12 (by decide) hf150 (fun _ h9 => h9) rfl dX3_told_143 ?_
    refine lv_iload_n hx hb dX3_told_146 rfl (lv_at hl 2 rfl) ?_
    refine zk_ld hx hb hK hP 20 0 rfl rfl (k := k) (by omega) (by decide) (v := σ 17 k) rfl dX3_told_147 ?_
    exact W.iret (v := σ 17 k) hx hb hr (fun t ht hW => ⟨⟨σ 17 k, (), rfl, rfl, trivial⟩, hS.F ht⟩) hS.2.2 dX3_told_148

set_option maxHeartbeats 4000000 in
set_option maxRecDepth 100000 in
theorem c_X3_about (l : Launch) (D : va_G) (cI : ClassId) (x : Nat) (a b : Nat → Nat) (σ τ : zS) {k w : Nat} {nb ns h : Nat} (hC : zC σ nb ns h) (hkb : k < nb) (hw4 : w ≤ 4) : zMR l yX3_about wsX3_about ({ frames := 2, cells := 0, slots := 0, locals := 42 }) [.ref x, .int (nI k), .int (nI w)] D [(cI, .int)] (zw_X cI x a b σ (τ)) (fun r => r = σ (w + 1) k) := by
  intro sz
  refine Met.ofW (cc := cX3_about) (maxL := 4) (ret := (some .int)) (by decide) rfl ?_
  intro p e s m args below meth c s₁ B hml hv
  obtain ⟨rfl, hsz, hP, hK, hD⟩ := hv
  have hx := B.exec
  have hb := B.bytes
  have hr := B.returns
  have hts := atoms_spec (ws := wsX3_about) B.pre
  have hown : s.vm.findClass RX3 = some m.cls := findClass_of_methodNamed B.named
  have hlocks := B.notSynchronized
  have hS : va_S (fun _ => False) s.heap s.heap [] := va_S.rf
  have hP : va_P D vwCl (zw_X cI x a b σ (τ)) s.heap := hP
  have hl := lv_entry ([.ref x, .int (nI k), .int (nI w)]) (n := 4) (Nat.le_of_ble_eq_true rfl)
  rw [lg_entry_eq]
  generalize (lg_sl ([.ref x, .int (nI k), .int (nI w)]) ++ List.replicate (4 - (lg_sl ([.ref x, .int (nI k), .int (nI w)])).length) Slot.unset).toArray = ls at hl ⊢
  have hl : lv_has ls 4 [(0, .ref x), (1, .int (nI k)), (2, .int (nI w))] := hl
  have hf10 := hts (.fieldLink RX3 10 "HotBeds" "house" "LHotBeds$House;") (by decide +kernel)
  have hf158 := hts (.fieldLink RX3 158 "HotBeds$Beds" "price" "[I") (by decide +kernel)
  have hf161 := hts (.fieldLink RX3 161 "HotBeds$Beds" "warmth" "[I") (by decide +kernel)
  have hf164 := hts (.fieldLink RX3 164 "HotBeds$Beds" "entries" "[I") (by decide +kernel)
  have hf167 := hts (.fieldLink RX3 167 "HotBeds$Beds" "paid" "[I") (by decide +kernel)
  have hf170 := hts (.fieldLink RX3 170 "HotBeds$Beds" "sleeper" "[I") (by decide +kernel)
  have hf26 := hts (.fieldLink RX3 26 "HotBeds$House" "beds" "LHotBeds$Beds;") (by decide +kernel)
  have hinX0 : ∀ w ∈ u_ws RX0 TX0 6, w ∈ wsX3_about := by decide +kernel
  have hinX1 : ∀ w ∈ u_ws RX1 TX1 5, w ∈ wsX3_about := by decide +kernel
  have hinX3 : ∀ w ∈ u_ws RX3 TX3 2, w ∈ wsX3_about := by decide +kernel
  have hnb := hC.2.1
  have hns := hC.2.2.2.1
  have hh := hC.2.2.2.2.2.1
  refine lv_aload_n hx hb dX3_about_0 rfl (lv_at hl 0 rfl) ?_
  refine lv_iload_n hx hb dX3_about_1 rfl (lv_at hl 1 rfl) ?_
  refine zk_Q (D := D) (va_runV (As := [.int (nI k)]) (rest := []) ⟨hx, hb, hml, hown, hts⟩ (c_X3_requireBed l D cI x a b σ (τ) hC hkb _) (cwV 1 hts gX3_about_X3_requireBed rfl rfl rfl zdX3_requireBed ⟨Nat.le_of_ble_eq_true rfl, Nat.le_of_ble_eq_true rfl⟩) ⟨zbl _, va_recv hK hP (ci := 3) (q0 := 0) rfl rfl, zpr hK hP hD⟩ rfl rfl hl.1 rfl (lv_room (Nat.le_of_ble_eq_true rfl)) dX3_about_2 ⟨Nat.zero_le _, Nat.zero_le _⟩) hS (fun H locs hkp hS => ?_)
  have hP := hkp _ hP
  refine lv_aload_n hx hb dX3_about_5 rfl (lv_at hl 0 rfl) ?_
  refine va_get (D := D) (ci := 3) (v := .ref (a 0)) (C := RX3) (T := TX3) (N := 2) hx hb hts hinX3 hown hK hP 0 rfl rfl 0 (by decide) hf10 (fun _ h9 => h9) rfl dX3_about_6 ?_
  refine va_get (D := D) (ci := 1) (v := .ref (a 1)) (C := RX1) (T := TX1) (N := 5) hx hb hts hinX1 hown hK hP 1 rfl rfl 3 (by decide) hf26 (fun _ h9 => h9) rfl dX3_about_9 ?_
  refine lv_astore_n (lv' := [(3, .ref (a 1)), (0, .ref x), (1, .int (nI k)), (2, .int (nI w))]) hx hb dX3_about_12 rfl hl (by decide) rfl (fun ls hl => ?_)
  refine lv_iload_n hx hb dX3_about_13 rfl (lv_at hl 3 rfl) ?_
  rcases (show w = 0 ∨ w = 1 ∨ w = 2 ∨ w = 3 ∨ w = 4 by omega) with rfl | rfl | rfl | rfl | rfl
  · refine lv_tableIn hx hb dX3_about_14 (by decide) (by decide) (off := 34) (by decide) (tgt := 48) (by decide) ?_
    refine lv_aload_n hx hb dX3_about_48 rfl (lv_at hl 0 rfl) ?_
    refine va_get (D := D) (ci := 0) (v := .ref (a 3)) (C := RX0) (T := TX0) (N := 6) hx hb hts hinX0 hown hK hP 2 rfl rfl 1 (by decide) hf158 (fun _ h9 => h9) rfl dX3_about_49 ?_
    refine lv_iload_n hx hb dX3_about_52 rfl (lv_at hl 2 rfl) ?_
    refine zk_ld hx hb hK hP 4 0 rfl rfl (k := k) (by omega) (by decide) (v := σ 1 k) rfl dX3_about_53 ?_
    exact W.iret (v := σ 1 k) hx hb hr (fun t ht hW => ⟨⟨σ 1 k, (), rfl, rfl, trivial⟩, hS.F ht⟩) hS.2.2 dX3_about_54
  · refine lv_tableIn hx hb dX3_about_14 (by decide) (by decide) (off := 41) (by decide) (tgt := 55) (by decide) ?_
    refine lv_aload_n hx hb dX3_about_55 rfl (lv_at hl 0 rfl) ?_
    refine va_get (D := D) (ci := 0) (v := .ref (a 4)) (C := RX0) (T := TX0) (N := 6) hx hb hts hinX0 hown hK hP 2 rfl rfl 2 (by decide) hf161 (fun _ h9 => h9) rfl dX3_about_56 ?_
    refine lv_iload_n hx hb dX3_about_59 rfl (lv_at hl 2 rfl) ?_
    refine zk_ld hx hb hK hP 5 0 rfl rfl (k := k) (by omega) (by decide) (v := σ 2 k) rfl dX3_about_60 ?_
    exact W.iret (v := σ 2 k) hx hb hr (fun t ht hW => ⟨⟨σ 2 k, (), rfl, rfl, trivial⟩, hS.F ht⟩) hS.2.2 dX3_about_61
  · refine lv_tableIn hx hb dX3_about_14 (by decide) (by decide) (off := 48) (by decide) (tgt := 62) (by decide) ?_
    refine lv_aload_n hx hb dX3_about_62 rfl (lv_at hl 0 rfl) ?_
    refine va_get (D := D) (ci := 0) (v := .ref (a 5)) (C := RX0) (T := TX0) (N := 6) hx hb hts hinX0 hown hK hP 2 rfl rfl 3 (by decide) hf164 (fun _ h9 => h9) rfl dX3_about_63 ?_
    refine lv_iload_n hx hb dX3_about_66 rfl (lv_at hl 2 rfl) ?_
    refine zk_ld hx hb hK hP 6 0 rfl rfl (k := k) (by omega) (by decide) (v := σ 3 k) rfl dX3_about_67 ?_
    exact W.iret (v := σ 3 k) hx hb hr (fun t ht hW => ⟨⟨σ 3 k, (), rfl, rfl, trivial⟩, hS.F ht⟩) hS.2.2 dX3_about_68
  · refine lv_tableIn hx hb dX3_about_14 (by decide) (by decide) (off := 55) (by decide) (tgt := 69) (by decide) ?_
    refine lv_aload_n hx hb dX3_about_69 rfl (lv_at hl 0 rfl) ?_
    refine va_get (D := D) (ci := 0) (v := .ref (a 6)) (C := RX0) (T := TX0) (N := 6) hx hb hts hinX0 hown hK hP 2 rfl rfl 4 (by decide) hf167 (fun _ h9 => h9) rfl dX3_about_70 ?_
    refine lv_iload_n hx hb dX3_about_73 rfl (lv_at hl 2 rfl) ?_
    refine zk_ld hx hb hK hP 7 0 rfl rfl (k := k) (by omega) (by decide) (v := σ 4 k) rfl dX3_about_74 ?_
    exact W.iret (v := σ 4 k) hx hb hr (fun t ht hW => ⟨⟨σ 4 k, (), rfl, rfl, trivial⟩, hS.F ht⟩) hS.2.2 dX3_about_75
  · refine lv_tableIn hx hb dX3_about_14 (by decide) (by decide) (off := 62) (by decide) (tgt := 76) (by decide) ?_
    refine lv_aload_n hx hb dX3_about_76 rfl (lv_at hl 0 rfl) ?_
    refine va_get (D := D) (ci := 0) (v := .ref (a 7)) (C := RX0) (T := TX0) (N := 6) hx hb hts hinX0 hown hK hP 2 rfl rfl 5 (by decide) hf170 (fun _ h9 => h9) rfl dX3_about_77 ?_
    refine lv_iload_n hx hb dX3_about_80 rfl (lv_at hl 2 rfl) ?_
    refine zk_ld hx hb hK hP 8 0 rfl rfl (k := k) (by omega) (by decide) (v := σ 5 k) rfl dX3_about_81 ?_
    exact W.iret (v := σ 5 k) hx hb hr (fun t ht hW => ⟨⟨σ 5 k, (), rfl, rfl, trivial⟩, hS.F ht⟩) hS.2.2 dX3_about_82

set_option maxHeartbeats 4000000 in
set_option maxRecDepth 100000 in
theorem c_X3_count (l : Launch) (D : va_G) (cI : ClassId) (x : Nat) (a b : Nat → Nat) (σ τ : zS) {w : Nat} {nb ns h : Nat} (hC : zC σ nb ns h) (hw9 : w ≤ 9) : zMR l yX3_count wsX3_count ({ frames := 2, cells := 0, slots := 0, locals := 43 }) [.ref x, .int (nI w)] D [(cI, .int)] (zw_X cI x a b σ (τ)) (fun r => r = q_cnt σ nb ns h w) := by
  intro sz
  refine Met.ofW (cc := cX3_count) (maxL := 2) (ret := (some .int)) (by decide) rfl ?_
  intro p e s m args below meth c s₁ B hml hv
  obtain ⟨rfl, hsz, hP, hK, hD⟩ := hv
  have hx := B.exec
  have hb := B.bytes
  have hr := B.returns
  have hts := atoms_spec (ws := wsX3_count) B.pre
  have hown : s.vm.findClass RX3 = some m.cls := findClass_of_methodNamed B.named
  have hlocks := B.notSynchronized
  have hS : va_S (fun _ => False) s.heap s.heap [] := va_S.rf
  have hP : va_P D vwCl (zw_X cI x a b σ (τ)) s.heap := hP
  have hl := lv_entry ([.ref x, .int (nI w)]) (n := 2) (Nat.le_of_ble_eq_true rfl)
  rw [lg_entry_eq]
  generalize (lg_sl ([.ref x, .int (nI w)]) ++ List.replicate (2 - (lg_sl ([.ref x, .int (nI w)])).length) Slot.unset).toArray = ls at hl ⊢
  have hl : lv_has ls 2 [(0, .ref x), (1, .int (nI w))] := hl
  have hf10 := hts (.fieldLink RX3 10 "HotBeds" "house" "LHotBeds$House;") (by decide +kernel)
  have hf175 := hts (.fieldLink RX3 175 "HotBeds$House" "hour" "I") (by decide +kernel)
  have hf178 := hts (.fieldLink RX3 178 "HotBeds$Beds" "size" "I") (by decide +kernel)
  have hf181 := hts (.fieldLink RX3 181 "HotBeds$Sailors" "size" "I") (by decide +kernel)
  have hf26 := hts (.fieldLink RX3 26 "HotBeds$House" "beds" "LHotBeds$Beds;") (by decide +kernel)
  have hf48 := hts (.fieldLink RX3 48 "HotBeds$House" "sailors" "LHotBeds$Sailors;") (by decide +kernel)
  have hf67 := hts (.fieldLink RX3 67 "HotBeds$House" "bell" "I") (by decide +kernel)
  have hf73 := hts (.fieldLink RX3 73 "HotBeds$House" "pawn" "I") (by decide +kernel)
  have hinX0 : ∀ w ∈ u_ws RX0 TX0 6, w ∈ wsX3_count := by decide +kernel
  have hinX1 : ∀ w ∈ u_ws RX1 TX1 5, w ∈ wsX3_count := by decide +kernel
  have hinX2 : ∀ w ∈ u_ws RX2 TX2 13, w ∈ wsX3_count := by decide +kernel
  have hinX3 : ∀ w ∈ u_ws RX3 TX3 2, w ∈ wsX3_count := by decide +kernel
  have hnb := hC.2.1
  have hns := hC.2.2.2.1
  have hh := hC.2.2.2.2.2.1
  refine lv_iload_n hx hb dX3_count_0 rfl (lv_at hl 1 rfl) ?_
  rcases (show w = 0 ∨ w = 1 ∨ w = 2 ∨ w = 3 ∨ w = 4 ∨ w = 5 ∨ w = 6 ∨ w = 7 ∨ w = 8 ∨ w = 9 by omega) with rfl | rfl | rfl | rfl | rfl | rfl | rfl | rfl | rfl | rfl
  · refine lv_tableIn hx hb dX3_count_1 (by decide) (by decide) (off := 55) (by decide) (tgt := 56) (by decide) ?_
    refine lv_aload_n hx hb dX3_count_56 rfl (lv_at hl 0 rfl) ?_
    refine va_get (D := D) (ci := 3) (v := .ref (a 0)) (C := RX3) (T := TX3) (N := 2) hx hb hts hinX3 hown hK hP 0 rfl rfl 0 (by decide) hf10 (fun _ h9 => h9) rfl dX3_count_57 ?_
    refine va_get (D := D) (ci := 1) (v := .int (nI h)) (C := RX1) (T := TX1) (N := 5) hx hb hts hinX1 hown hK hP 1 rfl rfl 0 (by decide) hf175 (fun _ h9 => h9) (congrArg (fun z => some (Value.int z)) hC.2.2.2.2.1) dX3_count_60 ?_
    exact W.iret (v := nI h) hx hb hr (fun t ht hW => ⟨⟨nI h, (), rfl, rfl, trivial⟩, hS.F ht⟩) hS.2.2 dX3_count_63
  · refine lv_tableIn hx hb dX3_count_1 (by decide) (by decide) (off := 63) (by decide) (tgt := 64) (by decide) ?_
    refine lv_aload_n hx hb dX3_count_64 rfl (lv_at hl 0 rfl) ?_
    refine va_get (D := D) (ci := 3) (v := .ref (a 0)) (C := RX3) (T := TX3) (N := 2) hx hb hts hinX3 hown hK hP 0 rfl rfl 0 (by decide) hf10 (fun _ h9 => h9) rfl dX3_count_65 ?_
    refine va_get (D := D) (ci := 1) (v := .ref (a 1)) (C := RX1) (T := TX1) (N := 5) hx hb hts hinX1 hown hK hP 1 rfl rfl 3 (by decide) hf26 (fun _ h9 => h9) rfl dX3_count_68 ?_
    refine va_get (D := D) (ci := 0) (v := .int (nI nb)) (C := RX0) (T := TX0) (N := 6) hx hb hts hinX0 hown hK hP 2 rfl rfl 0 (by decide) hf178 (fun _ h9 => h9) (congrArg (fun z => some (Value.int z)) hC.1) dX3_count_71 ?_
    exact W.iret (v := nI nb) hx hb hr (fun t ht hW => ⟨⟨nI nb, (), rfl, rfl, trivial⟩, hS.F ht⟩) hS.2.2 dX3_count_74
  · refine lv_tableIn hx hb dX3_count_1 (by decide) (by decide) (off := 74) (by decide) (tgt := 75) (by decide) ?_
    refine lv_aload_n hx hb dX3_count_75 rfl (lv_at hl 0 rfl) ?_
    refine va_get (D := D) (ci := 3) (v := .ref (a 0)) (C := RX3) (T := TX3) (N := 2) hx hb hts hinX3 hown hK hP 0 rfl rfl 0 (by decide) hf10 (fun _ h9 => h9) rfl dX3_count_76 ?_
    refine va_get (D := D) (ci := 1) (v := .ref (a 2)) (C := RX1) (T := TX1) (N := 5) hx hb hts hinX1 hown hK hP 1 rfl rfl 4 (by decide) hf48 (fun _ h9 => h9) rfl dX3_count_79 ?_
    refine va_get (D := D) (ci := 2) (v := .int (nI ns)) (C := RX2) (T := TX2) (N := 13) hx hb hts hinX2 hown hK hP 3 rfl rfl 0 (by decide) hf181 (fun _ h9 => h9) (congrArg (fun z => some (Value.int z)) hC.2.2.1) dX3_count_82 ?_
    exact W.iret (v := nI ns) hx hb hr (fun t ht hW => ⟨⟨nI ns, (), rfl, rfl, trivial⟩, hS.F ht⟩) hS.2.2 dX3_count_85
  · refine lv_tableIn hx hb dX3_count_1 (by decide) (by decide) (off := 85) (by decide) (tgt := 86) (by decide) ?_
    refine lv_aload_n hx hb dX3_count_86 rfl (lv_at hl 0 rfl) ?_
    refine va_get (D := D) (ci := 3) (v := .ref (a 0)) (C := RX3) (T := TX3) (N := 2) hx hb hts hinX3 hown hK hP 0 rfl rfl 0 (by decide) hf10 (fun _ h9 => h9) rfl dX3_count_87 ?_
    refine zk_R (D := D) (va_runV (As := []) (rest := []) ⟨hx, hb, hml, hown, hts⟩ (c_X1_watchNow l D cI a σ hC _) (cwV 0 hts gX3_count_X1_watchNow rfl rfl rfl zdX1_watchNow ⟨Nat.le_of_ble_eq_true rfl, Nat.le_of_ble_eq_true rfl⟩) ⟨zbl _, va_recv hK (zxa_P hP) (ci := 1) (q0 := 0) rfl rfl, zpr hK (zxa_P hP) (zxa_D hD)⟩ rfl rfl hl.1 rfl (lv_room (Nat.le_of_ble_eq_true rfl)) dX3_count_90 ⟨Nat.zero_le _, Nat.zero_le _⟩) hS (fun r_1 H locs hw hkp hS => ?_)
    have hP := hkp _ hP
    subst hw
    exact W.iret (v := nI (h % 24 / 8)) hx hb hr (fun t ht hW => ⟨⟨nI (h % 24 / 8), (), rfl, rfl, trivial⟩, hS.F ht⟩) hS.2.2 dX3_count_93
  · refine lv_tableIn hx hb dX3_count_1 (by decide) (by decide) (off := 93) (by decide) (tgt := 94) (by decide) ?_
    refine lv_aload_n hx hb dX3_count_94 rfl (lv_at hl 0 rfl) ?_
    refine va_get (D := D) (ci := 3) (v := .ref (a 0)) (C := RX3) (T := TX3) (N := 2) hx hb hts hinX3 hown hK hP 0 rfl rfl 0 (by decide) hf10 (fun _ h9 => h9) rfl dX3_count_95 ?_
    refine va_get (D := D) (ci := 1) (v := .ref (a 2)) (C := RX1) (T := TX1) (N := 5) hx hb hts hinX1 hown hK hP 1 rfl rfl 4 (by decide) hf48 (fun _ h9 => h9) rfl dX3_count_98 ?_
    refine lv_iconst (v := 1) hx hb dX3_count_101 (by decide) ?_
    refine zk_R (D := D) (va_runV (As := [.int 1]) (rest := []) ⟨hx, hb, hml, hown, hts⟩ (c_X2_howManyAt l D cI a σ 1 hC _) (cwV 1 hts gX3_count_X2_howManyAt rfl rfl rfl zdX2_howManyAt ⟨Nat.le_of_ble_eq_true rfl, Nat.le_of_ble_eq_true rfl⟩) ⟨zbl _, va_recv hK (zxa_P hP) (ci := 2) (q0 := 2) rfl rfl, zpr hK (zxa_P hP) (zxa_D hD)⟩ rfl rfl hl.1 rfl (lv_room (Nat.le_of_ble_eq_true rfl)) dX3_count_102 ⟨Nat.zero_le _, Nat.zero_le _⟩) hS (fun r_2 H locs hw hkp hS => ?_)
    have hP := hkp _ hP
    subst hw
    exact W.iret (v := f_many (σ 12) 1 ns) hx hb hr (fun t ht hW => ⟨⟨f_many (σ 12) 1 ns, (), rfl, rfl, trivial⟩, hS.F ht⟩) hS.2.2 dX3_count_105
  · refine lv_tableIn hx hb dX3_count_1 (by decide) (by decide) (off := 105) (by decide) (tgt := 106) (by decide) ?_
    refine lv_aload_n hx hb dX3_count_106 rfl (lv_at hl 0 rfl) ?_
    refine va_get (D := D) (ci := 3) (v := .ref (a 0)) (C := RX3) (T := TX3) (N := 2) hx hb hts hinX3 hown hK hP 0 rfl rfl 0 (by decide) hf10 (fun _ h9 => h9) rfl dX3_count_107 ?_
    refine va_get (D := D) (ci := 1) (v := .ref (a 2)) (C := RX1) (T := TX1) (N := 5) hx hb hts hinX1 hown hK hP 1 rfl rfl 4 (by decide) hf48 (fun _ h9 => h9) rfl dX3_count_110 ?_
    refine lv_iconst (v := 2) hx hb dX3_count_113 (by decide) ?_
    refine zk_R (D := D) (va_runV (As := [.int 2]) (rest := []) ⟨hx, hb, hml, hown, hts⟩ (c_X2_howManyAt l D cI a σ 2 hC _) (cwV 1 hts gX3_count_X2_howManyAt rfl rfl rfl zdX2_howManyAt ⟨Nat.le_of_ble_eq_true rfl, Nat.le_of_ble_eq_true rfl⟩) ⟨zbl _, va_recv hK (zxa_P hP) (ci := 2) (q0 := 2) rfl rfl, zpr hK (zxa_P hP) (zxa_D hD)⟩ rfl rfl hl.1 rfl (lv_room (Nat.le_of_ble_eq_true rfl)) dX3_count_114 ⟨Nat.zero_le _, Nat.zero_le _⟩) hS (fun r_3 H locs hw hkp hS => ?_)
    have hP := hkp _ hP
    subst hw
    exact W.iret (v := f_many (σ 12) 2 ns) hx hb hr (fun t ht hW => ⟨⟨f_many (σ 12) 2 ns, (), rfl, rfl, trivial⟩, hS.F ht⟩) hS.2.2 dX3_count_117
  · refine lv_tableIn hx hb dX3_count_1 (by decide) (by decide) (off := 117) (by decide) (tgt := 118) (by decide) ?_
    refine lv_aload_n hx hb dX3_count_118 rfl (lv_at hl 0 rfl) ?_
    refine va_get (D := D) (ci := 3) (v := .ref (a 0)) (C := RX3) (T := TX3) (N := 2) hx hb hts hinX3 hown hK hP 0 rfl rfl 0 (by decide) hf10 (fun _ h9 => h9) rfl dX3_count_119 ?_
    refine va_get (D := D) (ci := 1) (v := .ref (a 2)) (C := RX1) (T := TX1) (N := 5) hx hb hts hinX1 hown hK hP 1 rfl rfl 4 (by decide) hf48 (fun _ h9 => h9) rfl dX3_count_122 ?_
    refine zk_R (D := D) (va_runV (As := []) (rest := []) ⟨hx, hb, hml, hown, hts⟩ (c_X2_allLate l D cI a σ hC _) (cwV 0 hts gX3_count_X2_allLate rfl rfl rfl zdX2_allLate ⟨Nat.le_of_ble_eq_true rfl, Nat.le_of_ble_eq_true rfl⟩) ⟨zbl _, va_recv hK (zxa_P hP) (ci := 2) (q0 := 2) rfl rfl, zpr hK (zxa_P hP) (zxa_D hD)⟩ rfl rfl hl.1 rfl (lv_room (Nat.le_of_ble_eq_true rfl)) dX3_count_125 ⟨Nat.zero_le _, Nat.zero_le _⟩) hS (fun r_4 H locs hw hkp hS => ?_)
    have hP := hkp _ hP
    subst hw
    exact W.iret (v := f_sum (σ 15) ns) hx hb hr (fun t ht hW => ⟨⟨f_sum (σ 15) ns, (), rfl, rfl, trivial⟩, hS.F ht⟩) hS.2.2 dX3_count_128
  · refine lv_tableIn hx hb dX3_count_1 (by decide) (by decide) (off := 128) (by decide) (tgt := 129) (by decide) ?_
    refine lv_aload_n hx hb dX3_count_129 rfl (lv_at hl 0 rfl) ?_
    refine va_get (D := D) (ci := 3) (v := .ref (a 0)) (C := RX3) (T := TX3) (N := 2) hx hb hts hinX3 hown hK hP 0 rfl rfl 0 (by decide) hf10 (fun _ h9 => h9) rfl dX3_count_130 ?_
    refine va_get (D := D) (ci := 1) (v := .ref (a 2)) (C := RX1) (T := TX1) (N := 5) hx hb hts hinX1 hown hK hP 1 rfl rfl 4 (by decide) hf48 (fun _ h9 => h9) rfl dX3_count_133 ?_
    refine zk_R (D := D) (va_runV (As := []) (rest := []) ⟨hx, hb, hml, hown, hts⟩ (c_X2_allFloors l D cI a σ hC _) (cwV 0 hts gX3_count_X2_allFloors rfl rfl rfl zdX2_allFloors ⟨Nat.le_of_ble_eq_true rfl, Nat.le_of_ble_eq_true rfl⟩) ⟨zbl _, va_recv hK (zxa_P hP) (ci := 2) (q0 := 2) rfl rfl, zpr hK (zxa_P hP) (zxa_D hD)⟩ rfl rfl hl.1 rfl (lv_room (Nat.le_of_ble_eq_true rfl)) dX3_count_136 ⟨Nat.zero_le _, Nat.zero_le _⟩) hS (fun r_5 H locs hw hkp hS => ?_)
    have hP := hkp _ hP
    subst hw
    exact W.iret (v := f_sum (σ 17) ns) hx hb hr (fun t ht hW => ⟨⟨f_sum (σ 17) ns, (), rfl, rfl, trivial⟩, hS.F ht⟩) hS.2.2 dX3_count_139
  · refine lv_tableIn hx hb dX3_count_1 (by decide) (by decide) (off := 139) (by decide) (tgt := 140) (by decide) ?_
    refine lv_aload_n hx hb dX3_count_140 rfl (lv_at hl 0 rfl) ?_
    refine va_get (D := D) (ci := 3) (v := .ref (a 0)) (C := RX3) (T := TX3) (N := 2) hx hb hts hinX3 hown hK hP 0 rfl rfl 0 (by decide) hf10 (fun _ h9 => h9) rfl dX3_count_141 ?_
    refine va_get (D := D) (ci := 1) (v := .int (σ 0 1)) (C := RX1) (T := TX1) (N := 5) hx hb hts hinX1 hown hK hP 1 rfl rfl 1 (by decide) hf67 (fun _ h9 => h9) rfl dX3_count_144 ?_
    exact W.iret (v := σ 0 1) hx hb hr (fun t ht hW => ⟨⟨σ 0 1, (), rfl, rfl, trivial⟩, hS.F ht⟩) hS.2.2 dX3_count_147
  · refine lv_tableIn hx hb dX3_count_1 (by decide) (by decide) (off := 147) (by decide) (tgt := 148) (by decide) ?_
    refine lv_aload_n hx hb dX3_count_148 rfl (lv_at hl 0 rfl) ?_
    refine va_get (D := D) (ci := 3) (v := .ref (a 0)) (C := RX3) (T := TX3) (N := 2) hx hb hts hinX3 hown hK hP 0 rfl rfl 0 (by decide) hf10 (fun _ h9 => h9) rfl dX3_count_149 ?_
    refine va_get (D := D) (ci := 1) (v := .int (σ 0 2)) (C := RX1) (T := TX1) (N := 5) hx hb hts hinX1 hown hK hP 1 rfl rfl 2 (by decide) hf73 (fun _ h9 => h9) rfl dX3_count_152 ?_
    exact W.iret (v := σ 0 2) hx hb hr (fun t ht hW => ⟨⟨σ 0 2, (), rfl, rfl, trivial⟩, hS.F ht⟩) hS.2.2 dX3_count_155
