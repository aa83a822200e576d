set_option maxHeartbeats 4000000 in
set_option maxRecDepth 100000 in
theorem c_X3_told (l : Launch) (D : va_G) (cI : ClassId) (x : Nat) (a b : Nat → Nat) (σ τ : zS) {k w : Nat} {nb ns h : Nat} (hC : zC σ nb ns h) (hk : k < ns) (hw10 : w ≤ 10) : zMR l yX3_told wsX3_told ({ frames := 1, cells := 0, slots := 0, locals := 21 }) [.ref x, .int (nI k), .int (nI w)] D [(cI, .int)] (zw_X cI x a b σ (τ)) (fun r => r = σ (q_row w) k) := by
  intro sz
  refine Met.ofW (cc := cX3_told) (maxL := 4) (ret := (some .int)) (by decide) rfl ?_
  intro p e s m args below meth c s₁ B hml hv
  obtain ⟨rfl, hsz, hP, hK, hD⟩ := hv
  have hx := B.exec
  have hb := B.bytes
  have hr := B.returns
  have hts := atoms_spec (ws := wsX3_told) B.pre
  have hown : s.vm.findClass RX3 = some m.cls := findClass_of_methodNamed B.named
  have hlocks := B.notSynchronized
  have hS : va_S (fun _ => False) s.heap s.heap [] := va_S.rf
  have hP : va_P D vwCl (zw_X cI x a b σ (τ)) s.heap := hP
  have hl := lv_entry ([.ref x, .int (nI k), .int (nI w)]) (n := 4) (Nat.le_of_ble_eq_true rfl)
  rw [lg_entry_eq]
  generalize (lg_sl ([.ref x, .int (nI k), .int (nI w)]) ++ List.replicate (4 - (lg_sl ([.ref x, .int (nI k), .int (nI w)])).length) Slot.unset).toArray = ls at hl ⊢
  have hl : lv_has ls 4 [(0, .ref x), (1, .int (nI k)), (2, .int (nI w))] := hl
  have hf10 := hts (.fieldLink RX3 10 "HotBeds" "house" "LHotBeds$House;") (by decide +kernel)
  have hf110 := hts (.fieldLink RX3 110 "HotBeds$Sailors" "bed" "[I") (by decide +kernel)
  have hf119 := hts (.fieldLink RX3 119 "HotBeds$Sailors" "watch" "[I") (by decide +kernel)
  have hf132 := hts (.fieldLink RX3 132 "HotBeds$Sailors" "heavy" "[I") (by decide +kernel)
  have hf135 := hts (.fieldLink RX3 135 "HotBeds$Sailors" "wage" "[I") (by decide +kernel)
  have hf138 := hts (.fieldLink RX3 138 "HotBeds$Sailors" "boots" "[I") (by decide +kernel)
  have hf141 := hts (.fieldLink RX3 141 "HotBeds$Sailors" "place" "[I") (by decide +kernel)
  have hf144 := hts (.fieldLink RX3 144 "HotBeds$Sailors" "rest" "[I") (by decide +kernel)
  have hf147 := hts (.fieldLink RX3 147 "HotBeds$Sailors" "late" "[I") (by decide +kernel)
  have hf150 := hts (.fieldLink RX3 150 "HotBeds$Sailors" "floors" "[I") (by decide +kernel)
  have hf48 := hts (.fieldLink RX3 48 "HotBeds$House" "sailors" "LHotBeds$Sailors;") (by decide +kernel)
  have hf61 := hts (.fieldLink RX3 61 "HotBeds$Sailors" "kept" "[I") (by decide +kernel)
  have hf82 := hts (.fieldLink RX3 82 "HotBeds$Sailors" "purse" "[I") (by decide +kernel)
  have hinX1 : ∀ w ∈ u_ws RX1 TX1 5, w ∈ wsX3_told := by decide +kernel
  have hinX2 : ∀ w ∈ u_ws RX2 TX2 13, w ∈ wsX3_told := by decide +kernel
  have hinX3 : ∀ w ∈ u_ws RX3 TX3 2, w ∈ wsX3_told := by decide +kernel
  have hnb := hC.2.1
  have hns := hC.2.2.2.1
  have hh := hC.2.2.2.2.2.1
  refine lv_aload_n hx hb dX3_told_0 rfl (lv_at hl 0 rfl) ?_
  refine lv_iload_n hx hb dX3_told_1 rfl (lv_at hl 1 rfl) ?_
  refine zk_Q (D := D) (va_runV (As := [.int (nI k)]) (rest := []) ⟨hx, hb, hml, hown, hts⟩ (c_X3_requireSailor l D cI x a b σ (τ) hC hk _) (cwV 1 hts gX3_told_X3_requireSailor rfl rfl rfl zdX3_requireSailor ⟨Nat.le_of_ble_eq_true rfl, Nat.le_of_ble_eq_true rfl⟩) ⟨zbl _, va_recv hK hP (ci := 3) (q0 := 0) rfl rfl, zpr hK hP hD⟩ rfl rfl hl.1 rfl (lv_room (Nat.le_of_ble_eq_true rfl)) dX3_told_2 ⟨Nat.zero_le _, Nat.zero_le _⟩) hS (fun H locs hkp hS => ?_)
  have hP := hkp _ hP
  refine lv_aload_n hx hb dX3_told_5 rfl (lv_at hl 0 rfl) ?_
  refine va_get (D := D) (ci := 3) (v := .ref (a 0)) (C := RX3) (T := TX3) (N := 2) hx hb hts hinX3 hown hK hP 0 rfl rfl 0 (by decide) hf10 (fun _ h9 => h9) rfl dX3_told_6 ?_
  refine va_get (D := D) (ci := 1) (v := .ref (a 2)) (C := RX1) (T := TX1) (N := 5) hx hb hts hinX1 hown hK hP 1 rfl rfl 4 (by decide) hf48 (fun _ h9 => h9) rfl dX3_told_9 ?_
  refine lv_astore_n (lv' := [(3, .ref (a 2)), (0, .ref x), (1, .int (nI k)), (2, .int (nI w))]) hx hb dX3_told_12 rfl hl (by decide) rfl (fun ls hl => ?_)
  refine lv_iload_n hx hb dX3_told_13 rfl (lv_at hl 3 rfl) ?_
  rcases (show w = 0 ∨ w = 1 ∨ w = 2 ∨ w = 3 ∨ w = 4 ∨ w = 5 ∨ w = 6 ∨ w = 7 ∨ w = 8 ∨ w = 9 ∨ w = 10 by omega) with rfl | rfl | rfl | rfl | rfl | rfl | rfl | rfl | rfl | rfl | rfl
  · refine lv_tableIn hx hb dX3_told_14 (by decide) (by decide) (off := 58) (by decide) (tgt := 72) (by decide) ?_
    refine lv_aload_n hx hb dX3_told_72 rfl (lv_at hl 0 rfl) ?_
    refine va_get (D := D) (ci := 2) (v := .ref (a 8)) (C := RX2) (T := TX2) (N := 13) hx hb hts hinX2 hown hK hP 3 rfl rfl 1 (by decide) hf119 (fun _ h9 => h9) rfl dX3_told_73 ?_
    refine lv_iload_n hx hb dX3_told_76 rfl (lv_at hl 2 rfl) ?_
    refine zk_ld hx hb hK hP 9 0 rfl rfl (k := k) (by omega) (by decide) (v := σ 6 k) rfl dX3_told_77 ?_
    exact W.iret (v := σ 6 k) hx hb hr (fun t ht hW => ⟨⟨σ 6 k, (), rfl, rfl, trivial⟩, hS.F ht⟩) hS.2.2 dX3_told_78
  · refine lv_tableIn hx hb dX3_told_14 (by decide) (by decide) (off := 65) (by decide) (tgt := 79) (by decide) ?_
    refine lv_aload_n hx hb dX3_told_79 rfl (lv_at hl 0 rfl) ?_
    refine va_get (D := D) (ci := 2) (v := .ref (a 9)) (C := RX2) (T := TX2) (N := 13) hx hb hts hinX2 hown hK hP 3 rfl rfl 2 (by decide) hf132 (fun _ h9 => h9) rfl dX3_told_80 ?_
    refine lv_iload_n hx hb dX3_told_83 rfl (lv_at hl 2 rfl) ?_
    refine zk_ld hx hb hK hP 10 0 rfl rfl (k := k) (by omega) (by decide) (v := σ 7 k) rfl dX3_told_84 ?_
    exact W.iret (v := σ 7 k) hx hb hr (fun t ht hW => ⟨⟨σ 7 k, (), rfl, rfl, trivial⟩, hS.F ht⟩) hS.2.2 dX3_told_85
  · refine lv_tableIn hx hb dX3_told_14 (by decide) (by decide) (off := 72) (by decide) (tgt := 86) (by decide) ?_
    refine lv_aload_n hx hb dX3_told_86 rfl (lv_at hl 0 rfl) ?_
    refine va_get (D := D) (ci := 2) (v := .ref (a 10)) (C := RX2) (T := TX2) (N := 13) hx hb hts hinX2 hown hK hP 3 rfl rfl 3 (by decide) hf135 (fun _ h9 => h9) rfl dX3_told_87 ?_
    refine lv_iload_n hx hb dX3_told_90 rfl (lv_at hl 2 rfl) ?_
    refine zk_ld hx hb hK hP 11 0 rfl rfl (k := k) (by omega) (by decide) (v := σ 8 k) rfl dX3_told_91 ?_
    exact W.iret (v := σ 8 k) hx hb hr (fun t ht hW => ⟨⟨σ 8 k, (), rfl, rfl, trivial⟩, hS.F ht⟩) hS.2.2 dX3_told_92
  · refine lv_tableIn hx hb dX3_told_14 (by decide) (by decide) (off := 79) (by decide) (tgt := 93) (by decide) ?_
    refine lv_aload_n hx hb dX3_told_93 rfl (lv_at hl 0 rfl) ?_
    refine va_get (D := D) (ci := 2) (v := .ref (a 11)) (C := RX2) (T := TX2) (N := 13) hx hb hts hinX2 hown hK hP 3 rfl rfl 4 (by decide) hf82 (fun _ h9 => h9) rfl dX3_told_94 ?_
    refine lv_iload_n hx hb dX3_told_97 rfl (lv_at hl 2 rfl) ?_
    refine zk_ld hx hb hK hP 12 0 rfl rfl (k := k) (by omega) (by decide) (v := σ 9 k) rfl dX3_told_98 ?_
    exact W.iret (v := σ 9 k) hx hb hr (fun t ht hW => ⟨⟨σ 9 k, (), rfl, rfl, trivial⟩, hS.F ht⟩) hS.2.2 dX3_told_99
  · refine lv_tableIn hx hb dX3_told_14 (by decide) (by decide) (off := 86) (by decide) (tgt := 100) (by decide) ?_
    refine lv_aload_n hx hb dX3_told_100 rfl (lv_at hl 0 rfl) ?_
    refine va_get (D := D) (ci := 2) (v := .ref (a 12)) (C := RX2) (T := TX2) (N := 13) hx hb hts hinX2 hown hK hP 3 rfl rfl 5 (by decide) hf138 (fun _ h9 => h9) rfl dX3_told_101 ?_
    refine lv_iload_n hx hb dX3_told_104 rfl (lv_at hl 2 rfl) ?_
    refine zk_ld hx hb hK hP 13 0 rfl rfl (k := k) (by omega) (by decide) (v := σ 10 k) rfl dX3_told_105 ?_
    exact W.iret (v := σ 10 k) hx hb hr (fun t ht hW => ⟨⟨σ 10 k, (), rfl, rfl, trivial⟩, hS.F ht⟩) hS.2.2 dX3_told_106
  · refine lv_tableIn hx hb dX3_told_14 (by decide) (by decide) (off := 93) (by decide) (tgt := 107) (by decide) ?_
    refine lv_aload_n hx hb dX3_told_107 rfl (lv_at hl 0 rfl) ?_
    refine va_get (D := D) (ci := 2) (v := .ref (a 13)) (C := RX2) (T := TX2) (N := 13) hx hb hts hinX2 hown hK hP 3 rfl rfl 6 (by decide) hf61 (fun _ h9 => h9) rfl dX3_told_108 ?_
    refine lv_iload_n hx hb dX3_told_111 rfl (lv_at hl 2 rfl) ?_
    refine zk_ld hx hb hK hP 14 0 rfl rfl (k := k) (by omega) (by decide) (v := σ 11 k) rfl dX3_told_112 ?_
    exact W.iret (v := σ 11 k) hx hb hr (fun t ht hW => ⟨⟨σ 11 k, (), rfl, rfl, trivial⟩, hS.F ht⟩) hS.2.2 dX3_told_113
  · refine lv_tableIn hx hb dX3_told_14 (by decide) (by decide) (off := 100) (by decide) (tgt := 114) (by decide) ?_
    refine lv_aload_n hx hb dX3_told_114 rfl (lv_at hl 0 rfl) ?_
    refine va_get (D := D) (ci := 2) (v := .ref (a 14)) (C := RX2) (T := TX2) (N := 13) hx hb hts hinX2 hown hK hP 3 rfl rfl 7 (by decide) hf141 (fun _ h9 => h9) rfl dX3_told_115 ?_
    refine lv_iload_n hx hb dX3_told_118 rfl (lv_at hl 2 rfl) ?_
    refine zk_ld hx hb hK hP 15 0 rfl rfl (k := k) (by omega) (by decide) (v := σ 12 k) rfl dX3_told_119 ?_
    exact W.iret (v := σ 12 k) hx hb hr (fun t ht hW => ⟨⟨σ 12 k, (), rfl, rfl, trivial⟩, hS.F ht⟩) hS.2.2 dX3_told_120
  · refine lv_tableIn hx hb dX3_told_14 (by decide) (by decide) (off := 107) (by decide) (tgt := 121) (by decide) ?_
    refine lv_aload_n hx hb dX3_told_121 rfl (lv_at hl 0 rfl) ?_
    refine va_get (D := D) (ci := 2) (v := .ref (a 15)) (C := RX2) (T := TX2) (N := 13) hx hb hts hinX2 hown hK hP 3 rfl rfl 8 (by decide) hf110 (fun _ h9 => h9) rfl dX3_told_122 ?_
    refine lv_iload_n hx hb dX3_told_125 rfl (lv_at hl 2 rfl) ?_
    refine zk_ld hx hb hK hP 16 0 rfl rfl (k := k) (by omega) (by decide) (v := σ 13 k) rfl dX3_told_126 ?_
    exact W.iret (v := σ 13 k) hx hb hr (fun t ht hW => ⟨⟨σ 13 k, (), rfl, rfl, trivial⟩, hS.F ht⟩) hS.2.2 dX3_told_127
  · refine lv_tableIn hx hb dX3_told_14 (by decide) (by decide) (off := 114) (by decide) (tgt := 128) (by decide) ?_
    refine lv_aload_n hx hb dX3_told_128 rfl (lv_at hl 0 rfl) ?_
    refine va_get (D := D) (ci := 2) (v := .ref (a 16)) (C := RX2) (T := TX2) (N := 13) hx hb hts hinX2 hown hK hP 3 rfl rfl 9 (by decide) hf144 (fun _ h9 => h9) rfl dX3_told_129 ?_
    refine lv_iload_n hx hb dX3_told_132 rfl (lv_at hl 2 rfl) ?_
    refine zk_ld hx hb hK hP 17 0 rfl rfl (k := k) (by omega) (by decide) (v := σ 14 k) rfl dX3_told_133 ?_
    exact W.iret (v := σ 14 k) hx hb hr (fun t ht hW => ⟨⟨σ 14 k, (), rfl, rfl, trivial⟩, hS.F ht⟩) hS.2.2 dX3_told_134
  · refine lv_tableIn hx hb dX3_told_14 (by decide) (by decide) (off := 121) (by decide) (tgt := 135) (by decide) ?_
    refine lv_aload_n hx hb dX3_told_135 rfl (lv_at hl 0 rfl) ?_
    refine va_get (D := D) (ci := 2) (v := .ref (a 17)) (C := RX2) (T := TX2) (N := 13) hx hb hts hinX2 hown hK hP 3 rfl rfl 10 (by decide) hf147 (fun _ h9 => h9) rfl dX3_told_136 ?_
    refine lv_iload_n hx hb dX3_told_139 rfl (lv_at hl 2 rfl) ?_
    refine zk_ld hx hb hK hP 18 0 rfl rfl (k := k) (by omega) (by decide) (v := σ 15 k) rfl dX3_told_140 ?_
    exact W.iret (v := σ 15 k) hx hb hr (fun t ht hW => ⟨⟨σ 15 k, (), rfl, rfl, trivial⟩, hS.F ht⟩) hS.2.2 dX3_told_141
  · refine lv_tableIn hx hb dX3_told_14 (by decide) (by decide) (off := 128) (by decide) (tgt := 142) (by decide) ?_
    refine lv_aload_n hx hb dX3_told_142 rfl (lv_at hl 0 rfl) ?_
    refine va_get (D := D) (ci := 2) (v := .ref (a 19)) (C := RX2) (T := TX2) (N := 13) hx hb hts hinX2 hown hK hP 3 rfl rfl 12 (by decide) hf150 (fun _ h9 => h9) rfl dX3_told_143 ?_
    refine lv_iload_n hx hb dX3_told_146 rfl (lv_at hl 2 rfl) ?_
    refine zk_ld hx hb hK hP 20 0 rfl rfl (k := k) (by omega) (by decide) (v := σ 17 k) rfl dX3_told_147 ?_
    exact W.iret (v := σ 17 k) hx hb hr (fun t ht hW => ⟨⟨σ 17 k, (), rfl, rfl, trivial⟩, hS.F ht⟩) hS.2.2 dX3_told_148

set_option maxHeartbeats 4000000 in
set_option maxRecDepth 100000 in
theorem c_X3_about (l : Launch) (D : va_G) (cI : ClassId) (x : Nat) (a b : Nat → Nat) (σ τ : zS) {k w : Nat} {nb ns h : Nat} (hC : zC σ nb ns h) (hkb : k < nb) (hw4 : w ≤ 4) : zMR l yX3_about wsX3_about ({ frames := 2, cells := 0, slots := 0, locals := 42 }) [.ref x, .int (nI k), .int (nI w)] D [(cI, .int)] (zw_X cI x a b σ (τ)) (fun r => r = σ (w + 1) k) := by
  intro sz
  refine Met.ofW (cc := cX3_about) (maxL := 4) (ret := (some .int)) (by decide) rfl ?_
  intro p e s m args below meth c s₁ B hml hv
  obtain ⟨rfl, hsz, hP, hK, hD⟩ := hv
  have hx := B.exec
  have hb := B.bytes
  have hr := B.returns
  have hts := atoms_spec (ws := wsX3_about) B.pre
  have hown : s.vm.findClass RX3 = some m.cls := findClass_of_methodNamed B.named
  have hlocks := B.notSynchronized
  have hS : va_S (fun _ => False) s.heap s.heap [] := va_S.rf
  have hP : va_P D vwCl (zw_X cI x a b σ (τ)) s.heap := hP
  have hl := lv_entry ([.ref x, .int (nI k), .int (nI w)]) (n := 4) (Nat.le_of_ble_eq_true rfl)
  rw [lg_entry_eq]
  generalize (lg_sl ([.ref x, .int (nI k), .int (nI w)]) ++ List.replicate (4 - (lg_sl ([.ref x, .int (nI k), .int (nI w)])).length) Slot.unset).toArray = ls at hl ⊢
  have hl : lv_has ls 4 [(0, .ref x), (1, .int (nI k)), (2, .int (nI w))] := hl
  have hf10 := hts (.fieldLink RX3 10 "HotBeds" "house" "LHotBeds$House;") (by decide +kernel)
  have hf158 := hts (.fieldLink RX3 158 "HotBeds$Beds" "price" "[I") (by decide +kernel)
  have hf161 := hts (.fieldLink RX3 161 "HotBeds$Beds" "warmth" "[I") (by decide +kernel)
  have hf164 := hts (.fieldLink RX3 164 "HotBeds$Beds" "entries" "[I") (by decide +kernel)
  have hf167 := hts (.fieldLink RX3 167 "HotBeds$Beds" "paid" "[I") (by decide +kernel)
  have hf170 := hts (.fieldLink RX3 170 "HotBeds$Beds" "sleeper" "[I") (by decide +kernel)
  have hf26 := hts (.fieldLink RX3 26 "HotBeds$House" "beds" "LHotBeds$Beds;") (by decide +kernel)
  have hinX0 : ∀ w ∈ u_ws RX0 TX0 6, w ∈ wsX3_about := by decide +kernel
  have hinX1 : ∀ w ∈ u_ws RX1 TX1 5, w ∈ wsX3_about := by decide +kernel
  have hinX3 : ∀ w ∈ u_ws RX3 TX3 2, w ∈ wsX3_about := by decide +kernel
  have hnb := hC.2.1
  have hns := hC.2.2.2.1
  have hh := hC.2.2.2.2.2.1
  refine lv_aload_n hx hb dX3_about_0 rfl (lv_at hl 0 rfl) ?_
  refine lv_iload_n hx hb dX3_about_1 rfl (lv_at hl 1 rfl) ?_
  refine zk_Q (D := D) (va_runV (As := [.int (nI k)]) (rest := []) ⟨hx, hb, hml, hown, hts⟩ (c_X3_requireBed l D cI x a b σ (τ) hC hkb _) (cwV 1 hts gX3_about_X3_requireBed rfl rfl rfl zdX3_requireBed ⟨Nat.le_of_ble_eq_true rfl, Nat.le_of_ble_eq_true rfl⟩) ⟨zbl _, va_recv hK hP (ci := 3) (q0 := 0) rfl rfl, zpr hK hP hD⟩ rfl rfl hl.1 rfl (lv_room (Nat.le_of_ble_eq_true rfl)) dX3_about_2 ⟨Nat.zero_le _, Nat.zero_le _⟩) hS (fun H locs hkp hS => ?_)
  have hP := hkp _ hP
  refine lv_aload_n hx hb dX3_about_5 rfl (lv_at hl 0 rfl) ?_
  refine va_get (D := D) (ci := 3) (v := .ref (a 0)) (C := RX3) (T := TX3) (N := 2) hx hb hts hinX3 hown hK hP 0 rfl rfl 0 (by decide) hf10 (fun _ h9 => h9) rfl dX3_about_6 ?_
  refine va_get (D := D) (ci := 1) (v := .ref (a 1)) (C := RX1) (T := TX1) (N := 5) hx hb hts hinX1 hown hK hP 1 rfl rfl 3 (by decide) hf26 (fun _ h9 => h9) rfl dX3_about_9 ?_
  refine lv_astore_n (lv' := [(3, .ref (a 1)), (0, .ref x), (1, .int (nI k)), (2, .int (nI w))]) hx hb dX3_about_12 rfl hl (by decide) rfl (fun ls hl => ?_)
  refine lv_iload_n hx hb dX3_about_13 rfl (lv_at hl 3 rfl) ?_
  rcases (show w = 0 ∨ w = 1 ∨ w = 2 ∨ w = 3 ∨ w = 4 by omega) with rfl | rfl | rfl | rfl | rfl
  · refine lv_tableIn hx hb dX3_about_14 (by decide) (by decide) (off := 34) (by decide) (tgt := 48) (by decide) ?_
    refine lv_aload_n hx hb dX3_about_48 rfl (lv_at hl 0 rfl) ?_
    refine va_get (D := D) (ci := 0) (v := .ref (a 3)) (C := RX0) (T := TX0) (N := 6) hx hb hts hinX0 hown hK hP 2 rfl rfl 1 (by decide) hf158 (fun _ h9 => h9) rfl dX3_about_49 ?_
    refine lv_iload_n hx hb dX3_about_52 rfl (lv_at hl 2 rfl) ?_
    refine zk_ld hx hb hK hP 4 0 rfl rfl (k := k) (by omega) (by decide) (v := σ 1 k) rfl dX3_about_53 ?_
    exact W.iret (v := σ 1 k) hx hb hr (fun t ht hW => ⟨⟨σ 1 k, (), rfl, rfl, trivial⟩, hS.F ht⟩) hS.2.2 dX3_about_54
  · refine lv_tableIn hx hb dX3_about_14 (by decide) (by decide) (off := 41) (by decide) (tgt := 55) (by decide) ?_
    refine lv_aload_n hx hb dX3_about_55 rfl (lv_at hl 0 rfl) ?_
    refine va_get (D := D) (ci := 0) (v := .ref (a 4)) (C := RX0) (T := TX0) (N := 6) hx hb hts hinX0 hown hK hP 2 rfl rfl 2 (by decide) hf161 (fun _ h9 => h9) rfl dX3_about_56 ?_
    refine lv_iload_n hx hb dX3_about_59 rfl (lv_at hl 2 rfl) ?_
    refine zk_ld hx hb hK hP 5 0 rfl rfl (k := k) (by omega) (by decide) (v := σ 2 k) rfl dX3_about_60 ?_
    exact W.iret (v := σ 2 k) hx hb hr (fun t ht hW => ⟨⟨σ 2 k, (), rfl, rfl, trivial⟩, hS.F ht⟩) hS.2.2 dX3_about_61
  · refine lv_tableIn hx hb dX3_about_14 (by decide) (by decide) (off := 48) (by decide) (tgt := 62) (by decide) ?_
    refine lv_aload_n hx hb dX3_about_62 rfl (lv_at hl 0 rfl) ?_
    refine va_get (D := D) (ci := 0) (v := .ref (a 5)) (C := RX0) (T := TX0) (N := 6) hx hb hts hinX0 hown hK hP 2 rfl rfl 3 (by decide) hf164 (fun _ h9 => h9) rfl dX3_about_63 ?_
    refine lv_iload_n hx hb dX3_about_66 rfl (lv_at hl 2 rfl) ?_
    refine zk_ld hx hb hK hP 6 0 rfl rfl (k := k) (by omega) (by decide) (v := σ 3 k) rfl dX3_about_67 ?_
    exact W.iret (v := σ 3 k) hx hb hr (fun t ht hW => ⟨⟨σ 3 k, (), rfl, rfl, trivial⟩, hS.F ht⟩) hS.2.2 dX3_about_68
  · refine lv_tableIn hx hb dX3_about_14 (by decide) (by decide) (off := 55) (by decide) (tgt := 69) (by decide) ?_
    refine lv_aload_n hx hb dX3_about_69 rfl (lv_at hl 0 rfl) ?_
    refine va_get (D := D) (ci := 0) (v := .ref (a 6)) (C := RX0) (T := TX0) (N := 6) hx hb hts hinX0 hown hK hP 2 rfl rfl 4 (by decide) hf167 (fun _ h9 => h9) rfl dX3_about_70 ?_
    refine lv_iload_n hx hb dX3_about_73 rfl (lv_at hl 2 rfl) ?_
    refine zk_ld hx hb hK hP 7 0 rfl rfl (k := k) (by omega) (by decide) (v := σ 4 k) rfl dX3_about_74 ?_
    exact W.iret (v := σ 4 k) hx hb hr (fun t ht hW => ⟨⟨σ 4 k, (), rfl, rfl, trivial⟩, hS.F ht⟩) hS.2.2 dX3_about_75
  · refine lv_tableIn hx hb dX3_about_14 (by decide) (by decide) (off := 62) (by decide) (tgt := 76) (by decide) ?_
    refine lv_aload_n hx hb dX3_about_76 rfl (lv_at hl 0 rfl) ?_
    refine va_get (D := D) (ci := 0) (v := .ref (a 7)) (C := RX0) (T := TX0) (N := 6) hx hb hts hinX0 hown hK hP 2 rfl rfl 5 (by decide) hf170 (fun _ h9 => h9) rfl dX3_about_77 ?_
    refine lv_iload_n hx hb dX3_about_80 rfl (lv_at hl 2 rfl) ?_
    refine zk_ld hx hb hK hP 8 0 rfl rfl (k := k) (by omega) (by decide) (v := σ 5 k) rfl dX3_about_81 ?_
    exact W.iret (v := σ 5 k) hx hb hr (fun t ht hW => ⟨⟨σ 5 k, (), rfl, rfl, trivial⟩, hS.F ht⟩) hS.2.2 dX3_about_82

set_option maxHeartbeats 4000000 in
set_option maxRecDepth 100000 in
theorem c_X3_count (l : Launch) (D : va_G) (cI : ClassId) (x : Nat) (a b : Nat → Nat) (σ τ : zS) {w : Nat} {nb ns h : Nat} (hC : zC σ nb ns h) (hw9 : w ≤ 9) : zMR l yX3_count wsX3_count ({ frames := 2, cells := 0, slots := 0, locals := 43 }) [.ref x, .int (nI w)] D [(cI, .int)] (zw_X cI x a b σ (τ)) (fun r => r = q_cnt σ nb ns h w) := by
  intro sz
  refine Met.ofW (cc := cX3_count) (maxL := 2) (ret := (some .int)) (by decide) rfl ?_
  intro p e s m args below meth c s₁ B hml hv
  obtain ⟨rfl, hsz, hP, hK, hD⟩ := hv
  have hx := B.exec
  have hb := B.bytes
  have hr := B.returns
  have hts := atoms_spec (ws := wsX3_count) B.pre
  have hown : s.vm.findClass RX3 = some m.cls := findClass_of_methodNamed B.named
  have hlocks := B.notSynchronized
  have hS : va_S (fun _ => False) s.heap s.heap [] := va_S.rf
  have hP : va_P D vwCl (zw_X cI x a b σ (τ)) s.heap := hP
  have hl := lv_entry ([.ref x, .int (nI w)]) (n := 2) (Nat.le_of_ble_eq_true rfl)
  rw [lg_entry_eq]
  generalize (lg_sl ([.ref x, .int (nI w)]) ++ List.replicate (2 - (lg_sl ([.ref x, .int (nI w)])).length) Slot.unset).toArray = ls at hl ⊢
  have hl : lv_has ls 2 [(0, .ref x), (1, .int (nI w))] := hl
  have hf10 := hts (.fieldLink RX3 10 "HotBeds" "house" "LHotBeds$House;") (by decide +kernel)
  have hf175 := hts (.fieldLink RX3 175 "HotBeds$House" "hour" "I") (by decide +kernel)
  have hf178 := hts (.fieldLink RX3 178 "HotBeds$Beds" "size" "I") (by decide +kernel)
  have hf181 := hts (.fieldLink RX3 181 "HotBeds$Sailors" "size" "I") (by decide +kernel)
  have hf26 := hts (.fieldLink RX3 26 "HotBeds$House" "beds" "LHotBeds$Beds;") (by decide +kernel)
  have hf48 := hts (.fieldLink RX3 48 "HotBeds$House" "sailors" "LHotBeds$Sailors;") (by decide +kernel)
  have hf67 := hts (.fieldLink RX3 67 "HotBeds$House" "bell" "I") (by decide +kernel)
  have hf73 := hts (.fieldLink RX3 73 "HotBeds$House" "pawn" "I") (by decide +kernel)
  have hinX0 : ∀ w ∈ u_ws RX0 TX0 6, w ∈ wsX3_count := by decide +kernel
  have hinX1 : ∀ w ∈ u_ws RX1 TX1 5, w ∈ wsX3_count := by decide +kernel
  have hinX2 : ∀ w ∈ u_ws RX2 TX2 13, w ∈ wsX3_count := by decide +kernel
  have hinX3 : ∀ w ∈ u_ws RX3 TX3 2, w ∈ wsX3_count := by decide +kernel
  have hnb := hC.2.1
  have hns := hC.2.2.2.1
  have hh := hC.2.2.2.2.2.1
  refine lv_iload_n hx hb dX3_count_0 rfl (lv_at hl 1 rfl) ?_
  rcases (show w = 0 ∨ w = 1 ∨ w = 2 ∨ w = 3 ∨ w = 4 ∨ w = 5 ∨ w = 6 ∨ w = 7 ∨ w = 8 ∨ w = 9 by omega) with rfl | rfl | rfl | rfl | rfl | rfl | rfl | rfl | rfl | rfl
  · refine lv_tableIn hx hb dX3_count_1 (by decide) (by decide) (off := 55) (by decide) (tgt := 56) (by decide) ?_
    refine lv_aload_n hx hb dX3_count_56 rfl (lv_at hl 0 rfl) ?_
    refine va_get (D := D) (ci := 3) (v := .ref (a 0)) (C := RX3) (T := TX3) (N := 2) hx hb hts hinX3 hown hK hP 0 rfl rfl 0 (by decide) hf10 (fun _ h9 => h9) rfl dX3_count_57 ?_
    refine va_get (D := D) (ci := 1) (v := .int (nI h)) (C := RX1) (T := TX1) (N := 5) hx hb hts hinX1 hown hK hP 1 rfl rfl 0 (by decide) hf175 (fun _ h9 => h9) (congrArg (fun z => some (Value.int z)) hC.2.2.2.2.1) dX3_count_60 ?_
    exact W.iret (v := nI h) hx hb hr (fun t ht hW => ⟨⟨nI h, (), rfl, rfl, trivial⟩, hS.F ht⟩) hS.2.2 dX3_count_63
  · refine lv_tableIn hx hb dX3_count_1 (by decide) (by decide) (off := 63) (by decide) (tgt := 64) (by decide) ?_
    refine lv_aload_n hx hb dX3_count_64 rfl (lv_at hl 0 rfl) ?_
    refine va_get (D := D) (ci := 3) (v := .ref (a 0)) (C := RX3) (T := TX3) (N := 2) hx hb hts hinX3 hown hK hP 0 rfl rfl 0 (by decide) hf10 (fun _ h9 => h9) rfl dX3_count_65 ?_
    refine va_get (D := D) (ci := 1) (v := .ref (a 1)) (C := RX1) (T := TX1) (N := 5) hx hb hts hinX1 hown hK hP 1 rfl rfl 3 (by decide) hf26 (fun _ h9 => h9) rfl dX3_count_68 ?_
    refine va_get (D := D) (ci := 0) (v := .int (nI nb)) (C := RX0) (T := TX0) (N := 6) hx hb hts hinX0 hown hK hP 2 rfl rfl 0 (by decide) hf178 (fun _ h9 => h9) (congrArg (fun z => some (Value.int z)) hC.1) dX3_count_71 ?_
    exact W.iret (v := nI nb) hx hb hr (fun t ht hW => ⟨⟨nI nb, (), rfl, rfl, trivial⟩, hS.F ht⟩) hS.2.2 dX3_count_74
  · refine lv_tableIn hx hb dX3_count_1 (by decide) (by decide) (off := 74) (by decide) (tgt := 75) (by decide) ?_
    refine lv_aload_n hx hb dX3_count_75 rfl (lv_at hl 0 rfl) ?_
    refine va_get (D := D) (ci := 3) (v := .ref (a 0)) (C := RX3) (T := TX3) (N := 2) hx hb hts hinX3 hown hK hP 0 rfl rfl 0 (by decide) hf10 (fun _ h9 => h9) rfl dX3_count_76 ?_
    refine va_get (D := D) (ci := 1) (v := .ref (a 2)) (C := RX1) (T := TX1) (N := 5) hx hb hts hinX1 hown hK hP 1 rfl rfl 4 (by decide) hf48 (fun _ h9 => h9) rfl dX3_count_79 ?_
    refine va_get (D := D) (ci := 2) (v := .int (nI ns)) (C := RX2) (T := TX2) (N := 13) hx hb hts hinX2 hown hK hP 3 rfl rfl 0 (by decide) hf181 (fun _ h9 => h9) (congrArg (fun z => some (Value.int z)) hC.2.2.1) dX3_count_82 ?_
    exact W.iret (v := nI ns) hx hb hr (fun t ht hW => ⟨⟨nI ns, (), rfl, rfl, trivial⟩, hS.F ht⟩) hS.2.2 dX3_count_85
  · refine lv_tableIn hx hb dX3_count_1 (by decide) (by decide) (off := 85) (by decide) (tgt := 86) (by decide) ?_
    refine lv_aload_n hx hb dX3_count_86 rfl (lv_at hl 0 rfl) ?_
    refine va_get (D := D) (ci := 3) (v := .ref (a 0)) (C := RX3) (T := TX3) (N := 2) hx hb hts hinX3 hown hK hP 0 rfl rfl 0 (by decide) hf10 (fun _ h9 => h9) rfl dX3_count_87 ?_
    refine zk_R (D := D) (va_runV (As := []) (rest := []) ⟨hx, hb, hml, hown, hts⟩ (c_X1_watchNow l D cI a σ hC _) (cwV 0 hts gX3_count_X1_watchNow rfl rfl rfl zdX1_watchNow ⟨Nat.le_of_ble_eq_true rfl, Nat.le_of_ble_eq_true rfl⟩) ⟨zbl _, va_recv hK (zxa_P hP) (ci := 1) (q0 := 0) rfl rfl, zpr hK (zxa_P hP) (zxa_D hD)⟩ rfl rfl hl.1 rfl (lv_room (Nat.le_of_ble_eq_true rfl)) dX3_count_90 ⟨Nat.zero_le _, Nat.zero_le _⟩) hS (fun r_1 H locs hw hkp hS => ?_)
    have hP := hkp _ hP
    subst hw
    exact W.iret (v := nI (h % 24 / 8)) hx hb hr (fun t ht hW => ⟨⟨nI (h % 24 / 8), (), rfl, rfl, trivial⟩, hS.F ht⟩) hS.2.2 dX3_count_93
  · refine lv_tableIn hx hb dX3_count_1 (by decide) (by decide) (off := 93) (by decide) (tgt := 94) (by decide) ?_
    refine lv_aload_n hx hb dX3_count_94 rfl (lv_at hl 0 rfl) ?_
    refine va_get (D := D) (ci := 3) (v := .ref (a 0)) (C := RX3) (T := TX3) (N := 2) hx hb hts hinX3 hown hK hP 0 rfl rfl 0 (by decide) hf10 (fun _ h9 => h9) rfl dX3_count_95 ?_
    refine va_get (D := D) (ci := 1) (v := .ref (a 2)) (C := RX1) (T := TX1) (N := 5) hx hb hts hinX1 hown hK hP 1 rfl rfl 4 (by decide) hf48 (fun _ h9 => h9) rfl dX3_count_98 ?_
    refine lv_iconst (v := 1) hx hb dX3_count_101 (by decide) ?_
    refine zk_R (D := D) (va_runV (As := [.int 1]) (rest := []) ⟨hx, hb, hml, hown, hts⟩ (c_X2_howManyAt l D cI a σ 1 hC _) (cwV 1 hts gX3_count_X2_howManyAt rfl rfl rfl zdX2_howManyAt ⟨Nat.le_of_ble_eq_true rfl, Nat.le_of_ble_eq_true rfl⟩) ⟨zbl _, va_recv hK (zxa_P hP) (ci := 2) (q0 := 2) rfl rfl, zpr hK (zxa_P hP) (zxa_D hD)⟩ rfl rfl hl.1 rfl (lv_room (Nat.le_of_ble_eq_true rfl)) dX3_count_102 ⟨Nat.zero_le _, Nat.zero_le _⟩) hS (fun r_2 H locs hw hkp hS => ?_)
    have hP := hkp _ hP
    subst hw
    exact W.iret (v := f_many (σ 12) 1 ns) hx hb hr (fun t ht hW => ⟨⟨f_many (σ 12) 1 ns, (), rfl, rfl, trivial⟩, hS.F ht⟩) hS.2.2 dX3_count_105
  · refine lv_tableIn hx hb dX3_count_1 (by decide) (by decide) (off := 105) (by decide) (tgt := 106) (by decide) ?_
    refine lv_aload_n hx hb dX3_count_106 rfl (lv_at hl 0 rfl) ?_
    refine va_get (D := D) (ci := 3) (v := .ref (a 0)) (C := RX3) (T := TX3) (N := 2) hx hb hts hinX3 hown hK hP 0 rfl rfl 0 (by decide) hf10 (fun _ h9 => h9) rfl dX3_count_107 ?_
    refine va_get (D := D) (ci := 1) (v := .ref (a 2)) (C := RX1) (T := TX1) (N := 5) hx hb hts hinX1 hown hK hP 1 rfl rfl 4 (by decide) hf48 (fun _ h9 => h9) rfl dX3_count_110 ?_
    refine lv_iconst (v := 2) hx hb dX3_count_113 (by decide) ?_
    refine zk_R (D := D) (va_runV (As := [.int 2]) (rest := []) ⟨hx, hb, hml, hown, hts⟩ (c_X2_howManyAt l D cI a σ 2 hC _) (cwV 1 hts gX3_count_X2_howManyAt rfl rfl rfl zdX2_howManyAt ⟨Nat.le_of_ble_eq_true rfl, Nat.le_of_ble_eq_true rfl⟩) ⟨zbl _, va_recv hK (zxa_P hP) (ci := 2) (q0 := 2) rfl rfl, zpr hK (zxa_P hP) (zxa_D hD)⟩ rfl rfl hl.1 rfl (lv_room (Nat.le_of_ble_eq_true rfl)) dX3_count_114 ⟨Nat.zero_le _, Nat.zero_le _⟩) hS (fun r_3 H locs hw hkp hS => ?_)
    have hP := hkp _ hP
    subst hw
    exact W.iret (v := f_many (σ 12) 2 ns) hx hb hr (fun t ht hW => ⟨⟨f_many (σ 12) 2 ns, (), rfl, rfl, trivial⟩, hS.F ht⟩) hS.2.2 dX3_count_117
  · refine lv_tableIn hx hb dX3_count_1 (by decide) (by decide) (off := 117) (by decide) (tgt := 118) (by decide) ?_
    refine lv_aload_n hx hb dX3_count_118 rfl (lv_at hl 0 rfl) ?_
    refine va_get (D := D) (ci := 3) (v := .ref (a 0)) (C := RX3) (T := TX3) (N := 2) hx hb hts hinX3 hown hK hP 0 rfl rfl 0 (by decide) hf10 (fun _ h9 => h9) rfl dX3_count_119 ?_
    refine va_get (D := D) (ci := 1) (v := .ref (a 2)) (C := RX1) (T := TX1) (N := 5) hx hb hts hinX1 hown hK hP 1 rfl rfl 4 (by decide) hf48 (fun _ h9 => h9) rfl dX3_count_122 ?_
    refine zk_R (D := D) (va_runV (As := []) (rest := []) ⟨hx, hb, hml, hown, hts⟩ (c_X2_allLate l D cI a σ hC _) (cwV 0 hts gX3_count_X2_allLate rfl rfl rfl zdX2_allLate ⟨Nat.le_of_ble_eq_true rfl, Nat.le_of_ble_eq_true rfl⟩) ⟨zbl _, va_recv hK (zxa_P hP) (ci := 2) (q0 := 2) rfl rfl, zpr hK (zxa_P hP) (zxa_D hD)⟩ rfl rfl hl.1 rfl (lv_room (Nat.le_of_ble_eq_true rfl)) dX3_count_125 ⟨Nat.zero_le _, Nat.zero_le _⟩) hS (fun r_4 H locs hw hkp hS => ?_)
    have hP := hkp _ hP
    subst hw
    exact W.iret (v := f_sum (σ 15) ns) hx hb hr (fun t ht hW => ⟨⟨f_sum (σ 15) ns, (), rfl, rfl, trivial⟩, hS.F ht⟩) hS.2.2 dX3_count_128
  · refine lv_tableIn hx hb dX3_count_1 (by decide) (by decide) (off := 128) (by decide) (tgt := 129) (by decide) ?_
    refine lv_aload_n hx hb dX3_count_129 rfl (lv_at hl 0 rfl) ?_
    refine va_get (D := D) (ci := 3) (v := .ref (a 0)) (C := RX3) (T := TX3) (N := 2) hx hb hts hinX3 hown hK hP 0 rfl rfl 0 (by decide) hf10 (fun _ h9 => h9) rfl dX3_count_130 ?_
    refine va_get (D := D) (ci := 1) (v := .ref (a 2)) (C := RX1) (T := TX1) (N := 5) hx hb hts hinX1 hown hK hP 1 rfl rfl 4 (by decide) hf48 (fun _ h9 => h9) rfl dX3_count_133 ?_
    refine zk_R (D := D) (va_runV (As := []) (rest := []) ⟨hx, hb, hml, hown, hts⟩ (c_X2_allFloors l D cI a σ hC _) (cwV 0 hts gX3_count_X2_allFloors rfl rfl rfl zdX2_allFloors ⟨Nat.le_of_ble_eq_true rfl, Nat.le_of_ble_eq_true rfl⟩) ⟨zbl _, va_recv hK (zxa_P hP) (ci := 2) (q0 := 2) rfl rfl, zpr hK (zxa_P hP) (zxa_D hD)⟩ rfl rfl hl.1 rfl (lv_room (Nat.le_of_ble_eq_true rfl)) dX3_count_136 ⟨Nat.zero_le _, Nat.zero_le _⟩) hS (fun r_5 H locs hw hkp hS => ?_)
    have hP := hkp _ hP
    subst hw
    exact W.iret (v := f_sum (σ 17) ns) hx hb hr (fun t ht hW => ⟨⟨f_sum (σ 17) ns, (), rfl, rfl, trivial⟩, hS.F ht⟩) hS.2.2 dX3_count_139
  · refine lv_tableIn hx hb dX3_count_1 (by decide) (by decide) (off := 139) (by decide) (tgt := 140) (by decide) ?_
    refine lv_aload_n hx hb dX3_count_140 rfl (lv_at hl 0 rfl) ?_
    refine va_get (D := D) (ci := 3) (v := .ref (a 0)) (C := RX3) (T := TX3) (N := 2) hx hb hts hinX3 hown hK hP 0 rfl rfl 0 (by decide) hf10 (fun _ h9 => h9) rfl dX3_count_141 ?_
    refine va_get (D := D) (ci := 1) (v := .int (σ 0 1)) (C := RX1) (T := TX1) (N := 5) hx hb hts hinX1 hown hK hP 1 rfl rfl 1 (by decide) hf67 (fun _ h9 => h9) rfl dX3_count_144 ?_
    exact W.iret (v := σ 0 1) hx hb hr (fun t ht hW => ⟨⟨σ 0 1, (), rfl, rfl, trivial⟩, hS.F ht⟩) hS.2.2 dX3_count_147
  · refine lv_tableIn hx hb dX3_count_1 (by decide) (by decide) (off := 147) (by decide) (tgt := 148) (by decide) ?_
    refine lv_aload_n hx hb dX3_count_148 rfl (lv_at hl 0 rfl) ?_
    refine va_get (D := D) (ci := 3) (v := .ref (a 0)) (C := RX3) (T := TX3) (N := 2) hx hb hts hinX3 hown hK hP 0 rfl rfl 0 (by decide) hf10 (fun _ h9 => h9) rfl dX3_count_149 ?_
    refine va_get (D := D) (ci := 1) (v := .int (σ 0 2)) (C := RX1) (T := TX1) (N := 5) hx hb hts hinX1 hown hK hP 1 rfl rfl 2 (by decide) hf73 (fun _ h9 => h9) rfl dX3_count_152 ?_
    exact W.iret (v := σ 0 2) hx hb hr (fun t ht hW => ⟨⟨σ 0 2, (), rfl, rfl, trivial⟩, hS.F ht⟩) hS.2.2 dX3_count_155

set_option maxHeartbeats 4000000 in
set_option maxRecDepth 100000 in
theorem c_X3_would (l : Launch) (D : va_G) (cI : ClassId) (x : Nat) (a b : Nat → Nat) (σ τ : zS) {k n : Nat} {nb ns h : Nat} (hC : zC σ nb ns h) (hk : k < ns) (hw1 : ¬ nI n < 1) (hw2 : nI n ≤ 72) (hn : h + n < 2 ^ 30) : zME l yX3_would wsX3_would ({ frames := 7, cells := 0, slots := 0, locals := 149 }) [.ref x, .int (nI k), .int (nI n)] D [(cI, .int)] (zw_X cI x a b σ (τ)) (fun τ => zw_X cI x a b σ τ) (fun r => r = f_hours σ nb ns h n 14 k - σ 14 k) := by
  intro sz
  refine Met.ofW (cc := cX3_would) (maxL := 3) (ret := (some .int)) (by decide) rfl ?_
  intro p e s m args below meth c s₁ B hml hv
  obtain ⟨rfl, ⟨hsz, hP, hK, hD⟩, hL⟩ := hv
  have hx := B.exec
  have hb := B.bytes
  have hr := B.returns
  have hts := atoms_spec (ws := wsX3_would) B.pre
  have hown : s.vm.findClass RX3 = some m.cls := findClass_of_methodNamed B.named
  have hlocks := B.notSynchronized
  subst hsz
  have hD := hD.self (sz := s.heap.size)
  generalize hAe : va_A (zw_X cI x a b σ (τ)) s.heap.size = A at hD ⊢
  have hA : ∀ q : Nat, s.heap.size ≤ q → A q := fun q h => by rw [← hAe]; exact Or.inr h
  have hS : va_S A s.heap s.heap [] := va_S.rf
  have hP : va_P D vwCl (zw_X cI x a b σ (τ)) s.heap := hP
  have hl := lv_entry ([.ref x, .int (nI k), .int (nI n)]) (n := 3) (Nat.le_of_ble_eq_true rfl)
  rw [lg_entry_eq]
  generalize (lg_sl ([.ref x, .int (nI k), .int (nI n)]) ++ List.replicate (3 - (lg_sl ([.ref x, .int (nI k), .int (nI n)])).length) Slot.unset).toArray = ls at hl ⊢
  have hl : lv_has ls 3 [(0, .ref x), (1, .int (nI k)), (2, .int (nI n))] := hl
  have hf10 := hts (.fieldLink RX3 10 "HotBeds" "house" "LHotBeds$House;") (by decide +kernel)
  have hf144 := hts (.fieldLink RX3 144 "HotBeds$Sailors" "rest" "[I") (by decide +kernel)
  have hf16 := hts (.fieldLink RX3 16 "HotBeds" "trial" "LHotBeds$House;") (by decide +kernel)
  have hf48 := hts (.fieldLink RX3 48 "HotBeds$House" "sailors" "LHotBeds$Sailors;") (by decide +kernel)
  have hinX1 : ∀ w ∈ u_ws RX1 TX1 5, w ∈ wsX3_would := by decide +kernel
  have hinX2 : ∀ w ∈ u_ws RX2 TX2 13, w ∈ wsX3_would := by decide +kernel
  have hinX3 : ∀ w ∈ u_ws RX3 TX3 2, w ∈ wsX3_would := by decide +kernel
  have hnb := hC.2.1
  have hns := hC.2.2.2.1
  have hh := hC.2.2.2.2.2.1
  refine lv_aload_n hx hb dX3_would_0 rfl (lv_at hl 0 rfl) ?_
  refine lv_iload_n hx hb dX3_would_1 rfl (lv_at hl 1 rfl) ?_
  refine zk_Q (D := D) (va_runV (As := [.int (nI k)]) (rest := []) ⟨hx, hb, hml, hown, hts⟩ (c_X3_requireSailor l D cI x a b σ (τ) hC hk _) (cwV 1 hts gX3_would_X3_requireSailor rfl rfl rfl zdX3_requireSailor ⟨Nat.le_of_ble_eq_true rfl, Nat.le_of_ble_eq_true rfl⟩) ⟨zbl _, va_recv hK hP (ci := 3) (q0 := 0) rfl rfl, zpr hK hP hD⟩ rfl rfl hl.1 rfl (lv_room (Nat.le_of_ble_eq_true rfl)) dX3_would_2 ⟨Nat.zero_le _, Nat.zero_le _⟩) hS (fun H locs hkp hS => ?_)
  have hP := hkp _ hP
  refine lv_iload_n hx hb dX3_would_5 rfl (lv_at hl 2 rfl) ?_
  refine zk_Q (D := D) (va_runS (As := [.int (nI n)]) (rest := []) ⟨hx, hb, hml, hown, hts⟩ (c_X3_requireHours l D cI (nI n) hw1 hw2 _) (va_cwS 1 hts gX3_would_X3_requireHours rfl rfl rfl zdX3_requireHours.2 ⟨Nat.le_of_ble_eq_true rfl, Nat.le_of_ble_eq_true rfl⟩) ⟨zbl _, zpr hK zP0 (zD0 (A := fun _ => True))⟩ rfl rfl hl.1 rfl (lv_room (Nat.le_of_ble_eq_true rfl)) dX3_would_6 ⟨Nat.zero_le _, Nat.zero_le _⟩) hS (fun H locs hkp hS => ?_)
  have hP := hkp _ hP
  refine lv_aload_n hx hb dX3_would_9 rfl (lv_at hl 0 rfl) ?_
  refine va_get (D := D) (ci := 3) (v := .ref (b 0)) (C := RX3) (T := TX3) (N := 2) hx hb hts hinX3 hown hK hP 0 rfl rfl 1 (by decide) hf16 (fun _ h9 => h9) rfl dX3_would_10 ?_
  refine lv_aload_n hx hb dX3_would_13 rfl (lv_at hl 0 rfl) ?_
  refine va_get (D := D) (ci := 3) (v := .ref (a 0)) (C := RX3) (T := TX3) (N := 2) hx hb hts hinX3 hown hK hP 0 rfl rfl 0 (by decide) hf10 (fun _ h9 => h9) rfl dX3_would_14 ?_
  have hF := zfree (zx2_D hD) hS hA
  refine zk_V (va_runV (As := [.ref (a 0)]) (rest := []) ⟨hx, hb, hml, hown, hts⟩ (c_X1_copyFrom l D cI a b σ (τ) _) (cwV 1 hts gX3_would_X1_copyFrom rfl rfl rfl zdX1_copyFrom ⟨Nat.le_of_ble_eq_true rfl, Nat.le_of_ble_eq_true rfl⟩) ⟨zblL _, va_recv hK (zx2_P hP) (ci := 1) (q0 := 20) rfl rfl, zprL hK (zx2_P hP) (zx2_D hD) hL⟩ rfl rfl hl.1 rfl (lv_room (Nat.le_of_ble_eq_true rfl)) dX3_would_17 ⟨Nat.zero_le _, Nat.zero_le _⟩) hS hF (fun H locs hkp hP1 hD1 hS => ?_)
  obtain ⟨hP, hD⟩ := zx2_J hP hD hkp hF hP1 hD1
  have hP : va_P D vwCl (zw_X cI x a b σ σ) H := hP
  have hD : va_D A (zw_X cI x a b σ σ) := hD
  refine lv_aload_n hx hb dX3_would_20 rfl (lv_at hl 0 rfl) ?_
  refine va_get (D := D) (ci := 3) (v := .ref (b 0)) (C := RX3) (T := TX3) (N := 2) hx hb hts hinX3 hown hK hP 0 rfl rfl 1 (by decide) hf16 (fun _ h9 => h9) rfl dX3_would_21 ?_
  refine lv_iload_n hx hb dX3_would_24 rfl (lv_at hl 2 rfl) ?_
  have hF := zfree (zxb_D hD) hS hA
  refine zk_V (va_runV (As := [.int (nI n)]) (rest := []) ⟨hx, hb, hml, hown, hts⟩ (c_X1_goOn l D cI b σ (n := n) hC hn _) (cwV 1 hts gX3_would_X1_goOn rfl rfl rfl zdX1_goOn ⟨Nat.le_of_ble_eq_true rfl, Nat.le_of_ble_eq_true rfl⟩) ⟨zbl _, va_recv hK (zxb_P hP) (ci := 1) (q0 := 0) rfl rfl, zpr hK (zxb_P hP) (zxb_D hD)⟩ rfl rfl hl.1 rfl (lv_room (Nat.le_of_ble_eq_true rfl)) dX3_would_25 ⟨Nat.zero_le _, Nat.zero_le _⟩) hS hF (fun H locs hkp hP1 hD1 hS => ?_)
  obtain ⟨hP, hD⟩ := zxb_J hP hD hkp hF hP1 hD1
  have hP : va_P D vwCl (zw_X cI x a b σ (f_hours σ nb ns h n)) H := hP
  have hD : va_D A (zw_X cI x a b σ (f_hours σ nb ns h n)) := hD
  refine lv_aload_n hx hb dX3_would_28 rfl (lv_at hl 0 rfl) ?_
  refine va_get (D := D) (ci := 3) (v := .ref (b 0)) (C := RX3) (T := TX3) (N := 2) hx hb hts hinX3 hown hK hP 0 rfl rfl 1 (by decide) hf16 (fun _ h9 => h9) rfl dX3_would_29 ?_
  refine va_get (D := D) (ci := 1) (v := .ref (b 2)) (C := RX1) (T := TX1) (N := 5) hx hb hts hinX1 hown hK hP 21 rfl rfl 4 (by decide) hf48 (fun _ h9 => h9) rfl dX3_would_32 ?_
  refine va_get (D := D) (ci := 2) (v := .ref (b 16)) (C := RX2) (T := TX2) (N := 13) hx hb hts hinX2 hown hK hP 23 rfl rfl 9 (by decide) hf144 (fun _ h9 => h9) rfl dX3_would_35 ?_
  refine lv_iload_n hx hb dX3_would_38 rfl (lv_at hl 1 rfl) ?_
  refine zk_ld hx hb hK hP 37 0 rfl rfl (k := k) (by omega) (by decide) (v := (f_hours σ nb ns h n) 14 k) rfl dX3_would_39 ?_
  refine lv_aload_n hx hb dX3_would_40 rfl (lv_at hl 0 rfl) ?_
  refine va_get (D := D) (ci := 3) (v := .ref (a 0)) (C := RX3) (T := TX3) (N := 2) hx hb hts hinX3 hown hK hP 0 rfl rfl 0 (by decide) hf10 (fun _ h9 => h9) rfl dX3_would_41 ?_
  refine va_get (D := D) (ci := 1) (v := .ref (a 2)) (C := RX1) (T := TX1) (N := 5) hx hb hts hinX1 hown hK hP 1 rfl rfl 4 (by decide) hf48 (fun _ h9 => h9) rfl dX3_would_44 ?_
  refine va_get (D := D) (ci := 2) (v := .ref (a 16)) (C := RX2) (T := TX2) (N := 13) hx hb hts hinX2 hown hK hP 3 rfl rfl 9 (by decide) hf144 (fun _ h9 => h9) rfl dX3_would_47 ?_
  refine lv_iload_n hx hb dX3_would_50 rfl (lv_at hl 1 rfl) ?_
  refine zk_ld hx hb hK hP 17 0 rfl rfl (k := k) (by omega) (by decide) (v := σ 14 k) rfl dX3_would_51 ?_
  refine lv_isub hx hb dX3_would_52 ?_
  exact W.iret (v := ((f_hours σ nb ns h n) 14 k) - (σ 14 k)) hx hb hr (fun t ht hW => ⟨⟨((f_hours σ nb ns h n) 14 k) - (σ 14 k), (f_hours σ nb ns h n), rfl, rfl, by rw [ht]; exact hP, va_K.moved hW.alike hK, hD⟩, hS.F ht⟩) hS.2.2 dX3_would_53

set_option maxHeartbeats 4000000 in
set_option maxRecDepth 100000 in
theorem c_X3_until (l : Launch) (D : va_G) (cI : ClassId) (x : Nat) (a b : Nat → Nat) (σ τ : zS) {k : Nat} {nb ns h : Nat} (hC : zC σ nb ns h) (hk : k < ns) (hn : h + 49 < 2 ^ 30) : zME l yX3_until wsX3_until ({ frames := 7, cells := 0, slots := 0, locals := 149 }) [.ref x, .int (nI k)] D [(cI, .int)] (zw_X cI x a b σ (τ)) (fun τ => zw_X cI x a b σ τ) (fun r => r = q_find (q_unt σ nb ns h k) 1 0 49) := by
  intro sz
  refine Met.ofW (cc := cX3_until) (maxL := 3) (ret := (some .int)) (by decide) rfl ?_
  intro p e s m args below meth c s₁ B hml hv
  obtain ⟨rfl, ⟨hsz, hP, hK, hD⟩, hL⟩ := hv
  have hx := B.exec
  have hb := B.bytes
  have hr := B.returns
  have hts := atoms_spec (ws := wsX3_until) B.pre
  have hown : s.vm.findClass RX3 = some m.cls := findClass_of_methodNamed B.named
  have hlocks := B.notSynchronized
  subst hsz
  have hD := hD.self (sz := s.heap.size)
  generalize hAe : va_A (zw_X cI x a b σ (τ)) s.heap.size = A at hD ⊢
  have hA : ∀ q : Nat, s.heap.size ≤ q → A q := fun q h => by rw [← hAe]; exact Or.inr h
  have hS : va_S A s.heap s.heap [] := va_S.rf
  have hP : va_P D vwCl (zw_X cI x a b σ (τ)) s.heap := hP
  have hl := lv_entry ([.ref x, .int (nI k)]) (n := 3) (Nat.le_of_ble_eq_true rfl)
  rw [lg_entry_eq]
  generalize (lg_sl ([.ref x, .int (nI k)]) ++ List.replicate (3 - (lg_sl ([.ref x, .int (nI k)])).length) Slot.unset).toArray = ls at hl ⊢
  have hl : lv_has ls 3 [(0, .ref x), (1, .int (nI k))] := hl
  have hf10 := hts (.fieldLink RX3 10 "HotBeds" "house" "LHotBeds$House;") (by decide +kernel)
  have hf141 := hts (.fieldLink RX3 141 "HotBeds$Sailors" "place" "[I") (by decide +kernel)
  have hf16 := hts (.fieldLink RX3 16 "HotBeds" "trial" "LHotBeds$House;") (by decide +kernel)
  have hf48 := hts (.fieldLink RX3 48 "HotBeds$House" "sailors" "LHotBeds$Sailors;") (by decide +kernel)
  have hinX1 : ∀ w ∈ u_ws RX1 TX1 5, w ∈ wsX3_until := by decide +kernel
  have hinX2 : ∀ w ∈ u_ws RX2 TX2 13, w ∈ wsX3_until := by decide +kernel
  have hinX3 : ∀ w ∈ u_ws RX3 TX3 2, w ∈ wsX3_until := by decide +kernel
  have hnb := hC.2.1
  have hns := hC.2.2.2.1
  have hh := hC.2.2.2.2.2.1
  refine lv_aload_n hx hb dX3_until_0 rfl (lv_at hl 0 rfl) ?_
  refine lv_iload_n hx hb dX3_until_1 rfl (lv_at hl 1 rfl) ?_
  refine zk_Q (D := D) (va_runV (As := [.int (nI k)]) (rest := []) ⟨hx, hb, hml, hown, hts⟩ (c_X3_requireSailor l D cI x a b σ (τ) hC hk _) (cwV 1 hts gX3_until_X3_requireSailor rfl rfl rfl zdX3_requireSailor ⟨Nat.le_of_ble_eq_true rfl, Nat.le_of_ble_eq_true rfl⟩) ⟨zbl _, va_recv hK hP (ci := 3) (q0 := 0) rfl rfl, zpr hK hP hD⟩ rfl rfl hl.1 rfl (lv_room (Nat.le_of_ble_eq_true rfl)) dX3_until_2 ⟨Nat.zero_le _, Nat.zero_le _⟩) hS (fun H locs hkp hS => ?_)
  have hP := hkp _ hP
  refine lv_aload_n hx hb dX3_until_5 rfl (lv_at hl 0 rfl) ?_
  refine va_get (D := D) (ci := 3) (v := .ref (b 0)) (C := RX3) (T := TX3) (N := 2) hx hb hts hinX3 hown hK hP 0 rfl rfl 1 (by decide) hf16 (fun _ h9 => h9) rfl dX3_until_6 ?_
  refine lv_aload_n hx hb dX3_until_9 rfl (lv_at hl 0 rfl) ?_
  refine va_get (D := D) (ci := 3) (v := .ref (a 0)) (C := RX3) (T := TX3) (N := 2) hx hb hts hinX3 hown hK hP 0 rfl rfl 0 (by decide) hf10 (fun _ h9 => h9) rfl dX3_until_10 ?_
  have hF := zfree (zx2_D hD) hS hA
  refine zk_V (va_runV (As := [.ref (a 0)]) (rest := []) ⟨hx, hb, hml, hown, hts⟩ (c_X1_copyFrom l D cI a b σ (τ) _) (cwV 1 hts gX3_until_X1_copyFrom rfl rfl rfl zdX1_copyFrom ⟨Nat.le_of_ble_eq_true rfl, Nat.le_of_ble_eq_true rfl⟩) ⟨zblL _, va_recv hK (zx2_P hP) (ci := 1) (q0 := 20) rfl rfl, zprL hK (zx2_P hP) (zx2_D hD) hL⟩ rfl rfl hl.1 rfl (lv_room (Nat.le_of_ble_eq_true rfl)) dX3_until_13 ⟨Nat.zero_le _, Nat.zero_le _⟩) hS hF (fun H locs hkp hP1 hD1 hS => ?_)
  obtain ⟨hP, hD⟩ := zx2_J hP hD hkp hF hP1 hD1
  have hP : va_P D vwCl (zw_X cI x a b σ σ) H := hP
  have hD : va_D A (zw_X cI x a b σ σ) := hD
  refine lv_iconst (v := 0) hx hb dX3_until_16 (by decide) ?_
  refine lv_istore_n (lv' := [(2, .int 0), (0, .ref x), (1, .int (nI k))]) hx hb dX3_until_17 rfl hl (by decide) rfl (fun ls hl => ?_)
  refine zk_loop (pc := 18) (fun i H locs ls => va_P D vwCl (zw_X cI x a b σ (f_hours σ nb ns h i)) H ∧ va_D A (zw_X cI x a b σ (f_hours σ nb ns h i)) ∧ va_S A s.heap H locs ∧ lv_has ls 3 [(0, .ref x), (1, .int (nI k)), (2, .int (nI i))] ∧ q_find (q_unt σ nb ns h k) 1 0 49 = q_find (q_unt σ nb ns h k) 1 i (49 - i)) 49 (fun i hki ih H locs ls hI => ?_) (fun H locs ls hI => ?_) _ _ _ ⟨hP, hD, hS, lv_sub hl [1, 2, 0] rfl, rfl⟩
  · obtain ⟨hP, hD, hS, hl, he⟩ := hI
    refine lv_iload_n hx hb dX3_until_18 rfl (lv_at hl 2 rfl) ?_
    refine lv_bipush (v := 48) hx hb dX3_until_19 (by decide) ?_
    refine lv_icmp_gt (tgt := 56) hx hb dX3_until_21 (by decide) (fun c => absurd c (nI_nlt (a := 48) (b := i) (by omega) (by decide))) (fun _ => ?_)
    refine lv_aload_n hx hb dX3_until_24 rfl (lv_at hl 0 rfl) ?_
    refine va_get (D := D) (ci := 3) (v := .ref (b 0)) (C := RX3) (T := TX3) (N := 2) hx hb hts hinX3 hown hK hP 0 rfl rfl 1 (by decide) hf16 (fun _ h9 => h9) rfl dX3_until_25 ?_
    refine va_get (D := D) (ci := 1) (v := .ref (b 2)) (C := RX1) (T := TX1) (N := 5) hx hb hts hinX1 hown hK hP 21 rfl rfl 4 (by decide) hf48 (fun _ h9 => h9) rfl dX3_until_28 ?_
    refine va_get (D := D) (ci := 2) (v := .ref (b 14)) (C := RX2) (T := TX2) (N := 13) hx hb hts hinX2 hown hK hP 23 rfl rfl 7 (by decide) hf141 (fun _ h9 => h9) rfl dX3_until_31 ?_
    refine lv_iload_n hx hb dX3_until_34 rfl (lv_at hl 1 rfl) ?_
    refine zk_ld hx hb hK hP 35 0 rfl rfl (k := k) (by omega) (by decide) (v := (f_hours σ nb ns h i) 12 k) rfl dX3_until_35 ?_
    refine lv_iconst (v := 1) hx hb dX3_until_36 (by decide) ?_
    refine lv_icmp_ne (tgt := 42) hx hb dX3_until_37 (by decide) (fun c_2 => ?_) (fun c_2 => ?_)
    · refine lv_aload_n hx hb dX3_until_42 rfl (lv_at hl 0 rfl) ?_
      refine va_get (D := D) (ci := 3) (v := .ref (b 0)) (C := RX3) (T := TX3) (N := 2) hx hb hts hinX3 hown hK hP 0 rfl rfl 1 (by decide) hf16 (fun _ h9 => h9) rfl dX3_until_43 ?_
      refine lv_iconst (v := 1) hx hb dX3_until_46 (by decide) ?_
      have hF := zfree (zxb_D hD) hS hA
      refine zk_V (va_runV (As := [.int (nI 1)]) (rest := []) ⟨hx, hb, hml, hown, hts⟩ (c_X1_goOn l D cI b (f_hours σ nb ns h i) (n := 1) (hC.hours i (by omega)) (by omega) _) (cwV 1 hts gX3_until_X1_goOn rfl rfl rfl zdX1_goOn ⟨Nat.le_of_ble_eq_true rfl, Nat.le_of_ble_eq_true rfl⟩) ⟨zbl _, va_recv hK (zxb_P hP) (ci := 1) (q0 := 0) rfl rfl, zpr hK (zxb_P hP) (zxb_D hD)⟩ rfl rfl hl.1 rfl (lv_room (Nat.le_of_ble_eq_true rfl)) dX3_until_47 ⟨Nat.zero_le _, Nat.zero_le _⟩) hS hF (fun H locs hkp hP1 hD1 hS => ?_)
      obtain ⟨hP, hD⟩ := zxb_J hP hD hkp hF hP1 hD1
      have hP : va_P D vwCl (zw_X cI x a b σ (f_hours (f_hours σ nb ns h i) nb ns (h + i) 1)) H := hP
      have hD : va_D A (zw_X cI x a b σ (f_hours (f_hours σ nb ns h i) nb ns (h + i) 1)) := hD
      refine lv_iinc (v := nI (i + 1)) (lv' := [(2, .int (nI (i + 1))), (0, .ref x), (1, .int (nI k))]) hx hb dX3_until_50 hl (k := 2) rfl (nI_1 i) (by decide) rfl (fun ls hl => ?_)
      refine lv_goto (tgt := 18) hx hb dX3_until_53 (by decide) ?_
      have e1 : f_hours σ nb ns h (i + 1) = f_hours (f_hours σ nb ns h i) nb ns (h + i) 1 := rfl
      have he2 := he.trans (show q_find (q_unt σ nb ns h k) 1 i (49 - i) = q_find (q_unt σ nb ns h k) 1 (i + 1) (49 - (i + 1)) from by rw [show 49 - i = (49 - (i + 1)) + 1 by omega, q_find, if_neg (show ¬ q_unt σ nb ns h k i = 1 from c_2)])
      exact ih _ _ _ ⟨by rw [e1]; exact hP, by rw [e1]; exact hD, hS, lv_sub hl [1, 2, 0] rfl, he2⟩
    · refine lv_iload_n hx hb dX3_until_40 rfl (lv_at hl 2 rfl) ?_
      exact W.iret (v := nI i) hx hb hr (fun t ht hW => ⟨⟨nI i, (f_hours σ nb ns h i), rfl, (by rw [he, show 49 - i = (49 - (i + 1)) + 1 by omega, q_find, if_pos (show q_unt σ nb ns h k i = 1 from c_2)]), by rw [ht]; exact hP, va_K.moved hW.alike hK, hD⟩, hS.F ht⟩) hS.2.2 dX3_until_41
  · obtain ⟨hP, hD, hS, hl, he⟩ := hI
    refine lv_iload_n hx hb dX3_until_18 rfl (lv_at hl 2 rfl) ?_
    refine lv_bipush (v := 48) hx hb dX3_until_19 (by decide) ?_
    refine lv_icmp_gt (tgt := 56) hx hb dX3_until_21 (by decide) (fun _ => ?_) (fun c => absurd (by decide) c)
    refine lv_iconst (v := (-1)) hx hb dX3_until_56 (by decide) ?_
    exact W.iret (v := (-1)) hx hb hr (fun t ht hW => ⟨⟨(-1), (f_hours σ nb ns h 49), rfl, (by rw [he]; rfl), by rw [ht]; exact hP, va_K.moved hW.alike hK, hD⟩, hS.F ht⟩) hS.2.2 dX3_until_57

set_option maxHeartbeats 4000000 in
set_option maxRecDepth 100000 in
theorem c_X3_quiet (l : Launch) (D : va_G) (cI : ClassId) (x : Nat) (a b : Nat → Nat) (σ τ : zS) {nb ns h : Nat} (hC : zC σ nb ns h) (hn : h + 48 < 2 ^ 30) : zME l yX3_quiet wsX3_quiet ({ frames := 7, cells := 0, slots := 0, locals := 149 }) [.ref x] D [(cI, .int)] (zw_X cI x a b σ (τ)) (fun τ => zw_X cI x a b σ τ) (fun r => r = q_find (q_qui σ nb ns h) (f_sum (σ 15) ns) 0 10) := by
  intro sz
  refine Met.ofW (cc := cX3_quiet) (maxL := 3) (ret := (some .int)) (by decide) rfl ?_
  intro p e s m args below meth c s₁ B hml hv
  obtain ⟨rfl, ⟨hsz, hP, hK, hD⟩, hL⟩ := hv
  have hx := B.exec
  have hb := B.bytes
  have hr := B.returns
  have hts := atoms_spec (ws := wsX3_quiet) B.pre
  have hown : s.vm.findClass RX3 = some m.cls := findClass_of_methodNamed B.named
  have hlocks := B.notSynchronized
  subst hsz
  have hD := hD.self (sz := s.heap.size)
  generalize hAe : va_A (zw_X cI x a b σ (τ)) s.heap.size = A at hD ⊢
  have hA : ∀ q : Nat, s.heap.size ≤ q → A q := fun q h => by rw [← hAe]; exact Or.inr h
  have hS : va_S A s.heap s.heap [] := va_S.rf
  have hP : va_P D vwCl (zw_X cI x a b σ (τ)) s.heap := hP
  have hl := lv_entry ([.ref x]) (n := 3) (Nat.le_of_ble_eq_true rfl)
  rw [lg_entry_eq]
  generalize (lg_sl ([.ref x]) ++ List.replicate (3 - (lg_sl ([.ref x])).length) Slot.unset).toArray = ls at hl ⊢
  have hl : lv_has ls 3 [(0, .ref x)] := hl
  have hf10 := hts (.fieldLink RX3 10 "HotBeds" "house" "LHotBeds$House;") (by decide +kernel)
  have hf16 := hts (.fieldLink RX3 16 "HotBeds" "trial" "LHotBeds$House;") (by decide +kernel)
  have hf48 := hts (.fieldLink RX3 48 "HotBeds$House" "sailors" "LHotBeds$Sailors;") (by decide +kernel)
  have hf67 := hts (.fieldLink RX3 67 "HotBeds$House" "bell" "I") (by decide +kernel)
  have hinX1 : ∀ w ∈ u_ws RX1 TX1 5, w ∈ wsX3_quiet := by decide +kernel
  have hinX3 : ∀ w ∈ u_ws RX3 TX3 2, w ∈ wsX3_quiet := by decide +kernel
  have hnb := hC.2.1
  have hns := hC.2.2.2.1
  have hh := hC.2.2.2.2.2.1
  refine lv_aload_n hx hb dX3_quiet_0 rfl (lv_at hl 0 rfl) ?_
  refine va_get (D := D) (ci := 3) (v := .ref (a 0)) (C := RX3) (T := TX3) (N := 2) hx hb hts hinX3 hown hK hP 0 rfl rfl 0 (by decide) hf10 (fun _ h9 => h9) rfl dX3_quiet_1 ?_
  refine va_get (D := D) (ci := 1) (v := .ref (a 2)) (C := RX1) (T := TX1) (N := 5) hx hb hts hinX1 hown hK hP 1 rfl rfl 4 (by decide) hf48 (fun _ h9 => h9) rfl dX3_quiet_4 ?_
  refine zk_R (D := D) (va_runV (As := []) (rest := []) ⟨hx, hb, hml, hown, hts⟩ (c_X2_allLate l D cI a σ hC _) (cwV 0 hts gX3_quiet_X2_allLate rfl rfl rfl zdX2_allLate ⟨Nat.le_of_ble_eq_true rfl, Nat.le_of_ble_eq_true rfl⟩) ⟨zbl _, va_recv hK (zxa_P hP) (ci := 2) (q0 := 2) rfl rfl, zpr hK (zxa_P hP) (zxa_D hD)⟩ rfl rfl hl.1 rfl (lv_room (Nat.le_of_ble_eq_true rfl)) dX3_quiet_7 ⟨Nat.zero_le _, Nat.zero_le _⟩) hS (fun r_1 H locs hw hkp hS => ?_)
  have hP := hkp _ hP
  subst hw
  refine lv_istore_n (lv' := [(1, .int (f_sum (σ 15) ns)), (0, .ref x)]) hx hb dX3_quiet_10 rfl hl (by decide) rfl (fun ls hl => ?_)
  refine lv_iconst (v := 0) hx hb dX3_quiet_11 (by decide) ?_
  refine lv_istore_n (lv' := [(2, .int 0), (1, .int (f_sum (σ 15) ns)), (0, .ref x)]) hx hb dX3_quiet_12 rfl hl (by decide) rfl (fun ls hl => ?_)
  refine zk_loop (pc := 13) (fun i H locs ls => ∃ τ9 : zS, va_P D vwCl (zw_X cI x a b σ (τ9)) H ∧ va_D A (zw_X cI x a b σ (τ9)) ∧ va_S A s.heap H locs ∧ lv_has ls 3 [(0, .ref x), (1, .int (f_sum (σ 15) ns)), (2, .int (nI i))] ∧ q_find (q_qui σ nb ns h) (f_sum (σ 15) ns) 0 10 = q_find (q_qui σ nb ns h) (f_sum (σ 15) ns) i (10 - i)) 10 (fun i hki ih H locs ls hI => ?_) (fun H locs ls hI => ?_) _ _ _ ⟨_, hP, hD, hS, lv_sub hl [2, 1, 0] rfl, rfl⟩
  · obtain ⟨τ9, hP, hD, hS, hl, he⟩ := hI
    refine lv_iload_n hx hb dX3_quiet_13 rfl (lv_at hl 2 rfl) ?_
    refine lv_bipush (v := 9) hx hb dX3_quiet_14 (by decide) ?_
    refine lv_icmp_gt (tgt := 69) hx hb dX3_quiet_16 (by decide) (fun c => absurd c (nI_nlt (a := 9) (b := i) (by omega) (by decide))) (fun _ => ?_)
    refine lv_aload_n hx hb dX3_quiet_19 rfl (lv_at hl 0 rfl) ?_
    refine va_get (D := D) (ci := 3) (v := .ref (b 0)) (C := RX3) (T := TX3) (N := 2) hx hb hts hinX3 hown hK hP 0 rfl rfl 1 (by decide) hf16 (fun _ h9 => h9) rfl dX3_quiet_20 ?_
    refine lv_aload_n hx hb dX3_quiet_23 rfl (lv_at hl 0 rfl) ?_
    refine va_get (D := D) (ci := 3) (v := .ref (a 0)) (C := RX3) (T := TX3) (N := 2) hx hb hts hinX3 hown hK hP 0 rfl rfl 0 (by decide) hf10 (fun _ h9 => h9) rfl dX3_quiet_24 ?_
    have hF := zfree (zx2_D hD) hS hA
    refine zk_V (va_runV (As := [.ref (a 0)]) (rest := []) ⟨hx, hb, hml, hown, hts⟩ (c_X1_copyFrom l D cI a b σ (τ9) _) (cwV 1 hts gX3_quiet_X1_copyFrom rfl rfl rfl zdX1_copyFrom ⟨Nat.le_of_ble_eq_true rfl, Nat.le_of_ble_eq_true rfl⟩) ⟨zblL _, va_recv hK (zx2_P hP) (ci := 1) (q0 := 20) rfl rfl, zprL hK (zx2_P hP) (zx2_D hD) hL⟩ rfl rfl hl.1 rfl (lv_room (Nat.le_of_ble_eq_true rfl)) dX3_quiet_27 ⟨Nat.zero_le _, Nat.zero_le _⟩) hS hF (fun H locs hkp hP1 hD1 hS => ?_)
    obtain ⟨hP, hD⟩ := zx2_J hP hD hkp hF hP1 hD1
    have hP : va_P D vwCl (zw_X cI x a b σ σ) H := hP
    have hD : va_D A (zw_X cI x a b σ σ) := hD
    refine lv_aload_n hx hb dX3_quiet_30 rfl (lv_at hl 0 rfl) ?_
    refine va_get (D := D) (ci := 3) (v := .ref (b 0)) (C := RX3) (T := TX3) (N := 2) hx hb hts hinX3 hown hK hP 0 rfl rfl 1 (by decide) hf16 (fun _ h9 => h9) rfl dX3_quiet_31 ?_
    refine lv_iload_n hx hb dX3_quiet_34 rfl (lv_at hl 2 rfl) ?_
    refine va_put (D := D) (ci := 1) (v := .int (nI i)) (ty := .int) (C := RX1) (T := TX1) (N := 5) hx hb hts hinX1 tyX1 tyX1_ok nmX1 hown hK hP hD hS 21 rfl rfl 1 (by decide) hf67 (fun _ h9 => h9)  rfl (by decide +kernel) rfl rfl (Nat.le_of_ble_eq_true rfl) dX3_quiet_35 (fun H locs hP hD hS => ?_)
    have hP : va_P D vwCl (zw_X cI x a b σ (zs σ 0 1 (nI i))) H := hP
    have hD : va_D A (zw_X cI x a b σ (zs σ 0 1 (nI i))) := hD
    refine lv_aload_n hx hb dX3_quiet_38 rfl (lv_at hl 0 rfl) ?_
    refine va_get (D := D) (ci := 3) (v := .ref (b 0)) (C := RX3) (T := TX3) (N := 2) hx hb hts hinX3 hown hK hP 0 rfl rfl 1 (by decide) hf16 (fun _ h9 => h9) rfl dX3_quiet_39 ?_
    refine lv_bipush (v := 48) hx hb dX3_quiet_42 (by decide) ?_
    have hF := zfree (zxb_D hD) hS hA
    refine zk_V (va_runV (As := [.int (nI 48)]) (rest := []) ⟨hx, hb, hml, hown, hts⟩ (c_X1_goOn l D cI b (zs σ 0 1 (nI i)) (n := 48) (hC.bell (nI i)) (by omega) _) (cwV 1 hts gX3_quiet_X1_goOn rfl rfl rfl zdX1_goOn ⟨Nat.le_of_ble_eq_true rfl, Nat.le_of_ble_eq_true rfl⟩) ⟨zbl _, va_recv hK (zxb_P hP) (ci := 1) (q0 := 0) rfl rfl, zpr hK (zxb_P hP) (zxb_D hD)⟩ rfl rfl hl.1 rfl (lv_room (Nat.le_of_ble_eq_true rfl)) dX3_quiet_44 ⟨Nat.zero_le _, Nat.zero_le _⟩) hS hF (fun H locs hkp hP1 hD1 hS => ?_)
    obtain ⟨hP, hD⟩ := zxb_J hP hD hkp hF hP1 hD1
    have hP : va_P D vwCl (zw_X cI x a b σ (f_hours (zs σ 0 1 (nI i)) nb ns h 48)) H := hP
    have hD : va_D A (zw_X cI x a b σ (f_hours (zs σ 0 1 (nI i)) nb ns h 48)) := hD
    refine lv_aload_n hx hb dX3_quiet_47 rfl (lv_at hl 0 rfl) ?_
    refine va_get (D := D) (ci := 3) (v := .ref (b 0)) (C := RX3) (T := TX3) (N := 2) hx hb hts hinX3 hown hK hP 0 rfl rfl 1 (by decide) hf16 (fun _ h9 => h9) rfl dX3_quiet_48 ?_
    refine va_get (D := D) (ci := 1) (v := .ref (b 2)) (C := RX1) (T := TX1) (N := 5) hx hb hts hinX1 hown hK hP 21 rfl rfl 4 (by decide) hf48 (fun _ h9 => h9) rfl dX3_quiet_51 ?_
    refine zk_R (D := D) (va_runV (As := []) (rest := []) ⟨hx, hb, hml, hown, hts⟩ (c_X2_allLate l D cI b (f_hours (zs σ 0 1 (nI i)) nb ns h 48) ((hC.bell (nI i)).hours 48 (by omega)) _) (cwV 0 hts gX3_quiet_X2_allLate rfl rfl rfl zdX2_allLate ⟨Nat.le_of_ble_eq_true rfl, Nat.le_of_ble_eq_true rfl⟩) ⟨zbl _, va_recv hK (zxb_P hP) (ci := 2) (q0 := 2) rfl rfl, zpr hK (zxb_P hP) (zxb_D hD)⟩ rfl rfl hl.1 rfl (lv_room (Nat.le_of_ble_eq_true rfl)) dX3_quiet_54 ⟨Nat.zero_le _, Nat.zero_le _⟩) hS (fun r_3 H locs hw hkp hS => ?_)
    have hP := hkp _ hP
    subst hw
    refine lv_iload_n hx hb dX3_quiet_57 rfl (lv_at hl 1 rfl) ?_
    refine lv_icmp_ne (tgt := 63) hx hb dX3_quiet_58 (by decide) (fun c_4 => ?_) (fun c_4 => ?_)
    · refine lv_iinc (v := nI (i + 1)) (lv' := [(2, .int (nI (i + 1))), (0, .ref x), (1, .int (f_sum (σ 15) ns))]) hx hb dX3_quiet_63 hl (k := 2) rfl (nI_1 i) (by decide) rfl (fun ls hl => ?_)
      refine lv_goto (tgt := 13) hx hb dX3_quiet_66 (by decide) ?_
      have he2 := he.trans (show q_find (q_qui σ nb ns h) (f_sum (σ 15) ns) i (10 - i) = q_find (q_qui σ nb ns h) (f_sum (σ 15) ns) (i + 1) (10 - (i + 1)) from by rw [show 10 - i = (10 - (i + 1)) + 1 by omega, q_find, if_neg (show ¬ q_qui σ nb ns h i = f_sum (σ 15) ns from c_4)])
      exact ih _ _ _ ⟨_, hP, hD, hS, lv_sub hl [1, 2, 0] rfl, he2⟩
    · refine lv_iload_n hx hb dX3_quiet_61 rfl (lv_at hl 2 rfl) ?_
      exact W.iret (v := nI i) hx hb hr (fun t ht hW => ⟨⟨nI i, (f_hours (zs σ 0 1 (nI i)) nb ns h 48), rfl, (by rw [he, show 10 - i = (10 - (i + 1)) + 1 by omega, q_find, if_pos (show q_qui σ nb ns h i = f_sum (σ 15) ns from c_4)]), by rw [ht]; exact hP, va_K.moved hW.alike hK, hD⟩, hS.F ht⟩) hS.2.2 dX3_quiet_62
  · obtain ⟨τ9, hP, hD, hS, hl, he⟩ := hI
    refine lv_iload_n hx hb dX3_quiet_13 rfl (lv_at hl 2 rfl) ?_
    refine lv_bipush (v := 9) hx hb dX3_quiet_14 (by decide) ?_
    refine lv_icmp_gt (tgt := 69) hx hb dX3_quiet_16 (by decide) (fun _ => ?_) (fun c => absurd (by decide) c)
    refine lv_iconst (v := (-1)) hx hb dX3_quiet_69 (by decide) ?_
    exact W.iret (v := (-1)) hx hb hr (fun t ht hW => ⟨⟨(-1), (τ9), rfl, (by rw [he]; rfl), by rw [ht]; exact hP, va_K.moved hW.alike hK, hD⟩, hS.F ht⟩) hS.2.2 dX3_quiet_70

set_option maxHeartbeats 4000000 in
set_option maxRecDepth 100000 in
theorem c_X3_advise (l : Launch) (D : va_G) (cI : ClassId) (x : Nat) (a b : Nat → Nat) (σ τ : zS) {k : Nat} {nb ns h : Nat} (hC : zC σ nb ns h) (hk : k < ns) (hup : σ 12 k = 0) (hn : h + 48 < 2 ^ 30) : zME l yX3_advise wsX3_advise ({ frames := 7, cells := 0, slots := 0, locals := 149 }) [.ref x, .int (nI k)] D [(cI, .int)] (zw_X cI x a b σ (τ)) (fun τ => zw_X cI x a b σ τ) (fun r => r = (q_adv (q_wat σ nb ns h k) 3).1) := by
  intro sz
  refine Met.ofW (cc := cX3_advise) (maxL := 6) (ret := (some .int)) (by decide) rfl ?_
  intro p e s m args below meth c s₁ B hml hv
  obtain ⟨rfl, ⟨hsz, hP, hK, hD⟩, hL⟩ := hv
  have hx := B.exec
  have hb := B.bytes
  have hr := B.returns
  have hts := atoms_spec (ws := wsX3_advise) B.pre
  have hown : s.vm.findClass RX3 = some m.cls := findClass_of_methodNamed B.named
  have hlocks := B.notSynchronized
  subst hsz
  have hD := hD.self (sz := s.heap.size)
  generalize hAe : va_A (zw_X cI x a b σ (τ)) s.heap.size = A at hD ⊢
  have hA : ∀ q : Nat, s.heap.size ≤ q → A q := fun q h => by rw [← hAe]; exact Or.inr h
  have hS : va_S A s.heap s.heap [] := va_S.rf
  have hP : va_P D vwCl (zw_X cI x a b σ (τ)) s.heap := hP
  have hl := lv_entry ([.ref x, .int (nI k)]) (n := 6) (Nat.le_of_ble_eq_true rfl)
  rw [lg_entry_eq]
  generalize (lg_sl ([.ref x, .int (nI k)]) ++ List.replicate (6 - (lg_sl ([.ref x, .int (nI k)])).length) Slot.unset).toArray = ls at hl ⊢
  have hl : lv_has ls 6 [(0, .ref x), (1, .int (nI k))] := hl
  have hf10 := hts (.fieldLink RX3 10 "HotBeds" "house" "LHotBeds$House;") (by decide +kernel)
  have hf119 := hts (.fieldLink RX3 119 "HotBeds$Sailors" "watch" "[I") (by decide +kernel)
  have hf144 := hts (.fieldLink RX3 144 "HotBeds$Sailors" "rest" "[I") (by decide +kernel)
  have hf16 := hts (.fieldLink RX3 16 "HotBeds" "trial" "LHotBeds$House;") (by decide +kernel)
  have hf48 := hts (.fieldLink RX3 48 "HotBeds$House" "sailors" "LHotBeds$Sailors;") (by decide +kernel)
  have hinX1 : ∀ w ∈ u_ws RX1 TX1 5, w ∈ wsX3_advise := by decide +kernel
  have hinX2 : ∀ w ∈ u_ws RX2 TX2 13, w ∈ wsX3_advise := by decide +kernel
  have hinX3 : ∀ w ∈ u_ws RX3 TX3 2, w ∈ wsX3_advise := by decide +kernel
  have hnb := hC.2.1
  have hns := hC.2.2.2.1
  have hh := hC.2.2.2.2.2.1
  refine lv_aload_n hx hb dX3_advise_0 rfl (lv_at hl 0 rfl) ?_
  refine lv_iload_n hx hb dX3_advise_1 rfl (lv_at hl 1 rfl) ?_
  refine zk_Q (D := D) (va_runV (As := [.int (nI k)]) (rest := []) ⟨hx, hb, hml, hown, hts⟩ (c_X3_requireSailor l D cI x a b σ (τ) hC hk _) (cwV 1 hts gX3_advise_X3_requireSailor rfl rfl rfl zdX3_requireSailor ⟨Nat.le_of_ble_eq_true rfl, Nat.le_of_ble_eq_true rfl⟩) ⟨zbl _, va_recv hK hP (ci := 3) (q0 := 0) rfl rfl, zpr hK hP hD⟩ rfl rfl hl.1 rfl (lv_room (Nat.le_of_ble_eq_true rfl)) dX3_advise_2 ⟨Nat.zero_le _, Nat.zero_le _⟩) hS (fun H locs hkp hS => ?_)
  have hP := hkp _ hP
  refine lv_aload_n hx hb dX3_advise_5 rfl (lv_at hl 0 rfl) ?_
  refine lv_iload_n hx hb dX3_advise_6 rfl (lv_at hl 1 rfl) ?_
  refine zk_Q (D := D) (va_runV (As := [.int (nI k)]) (rest := []) ⟨hx, hb, hml, hown, hts⟩ (c_X3_requireUp l D cI x a b σ (τ) hC hk hup _) (cwV 1 hts gX3_advise_X3_requireUp rfl rfl rfl zdX3_requireUp ⟨Nat.le_of_ble_eq_true rfl, Nat.le_of_ble_eq_true rfl⟩) ⟨zbl _, va_recv hK hP (ci := 3) (q0 := 0) rfl rfl, zpr hK hP hD⟩ rfl rfl hl.1 rfl (lv_room (Nat.le_of_ble_eq_true rfl)) dX3_advise_7 ⟨Nat.zero_le _, Nat.zero_le _⟩) hS (fun H locs hkp hS => ?_)
  have hP := hkp _ hP
  refine lv_iconst (v := 0) hx hb dX3_advise_10 (by decide) ?_
  refine lv_istore_n (lv' := [(2, .int 0), (0, .ref x), (1, .int (nI k))]) hx hb dX3_advise_11 rfl hl (by decide) rfl (fun ls hl => ?_)
  refine lv_iconst (v := (-1)) hx hb dX3_advise_12 (by decide) ?_
  refine lv_istore_n (lv' := [(3, .int (-1)), (2, .int 0), (0, .ref x), (1, .int (nI k))]) hx hb dX3_advise_13 rfl hl (by decide) rfl (fun ls hl => ?_)
  refine lv_iconst (v := 0) hx hb dX3_advise_14 (by decide) ?_
  refine lv_istore (lv' := [(4, .int 0), (3, .int (-1)), (2, .int 0), (0, .ref x), (1, .int (nI k))]) hx hb dX3_advise_15 hl (by decide) rfl (fun ls hl => ?_)
  refine zk_loop (pc := 17) (fun i H locs ls => ∃ τ9 : zS, va_P D vwCl (zw_X cI x a b σ (τ9)) H ∧ va_D A (zw_X cI x a b σ (τ9)) ∧ va_S A s.heap H locs ∧ lv_has ls 6 [(0, .ref x), (1, .int (nI k)), (2, .int ((q_adv (q_wat σ nb ns h k) i).1)), (3, .int ((q_adv (q_wat σ nb ns h k) i).2)), (4, .int (nI i))]) 3 (fun i hki ih H locs ls hI => ?_) (fun H locs ls hI => ?_) _ _ _ ⟨_, hP, hD, hS, lv_sub hl [3, 4, 2, 1, 0] rfl⟩
  · obtain ⟨τ9, hP, hD, hS, hl⟩ := hI
    refine lv_iload hx hb dX3_advise_17 (lv_at hl 4 rfl) ?_
    refine lv_iconst (v := 3) hx hb dX3_advise_19 (by decide) ?_
    refine lv_icmp_ge (tgt := 89) hx hb dX3_advise_20 (by decide) (fun c => absurd c (nI_ge (a := i) (b := 3) hki (by decide))) (fun _ => ?_)
    refine lv_aload_n hx hb dX3_advise_23 rfl (lv_at hl 0 rfl) ?_
    refine va_get (D := D) (ci := 3) (v := .ref (b 0)) (C := RX3) (T := TX3) (N := 2) hx hb hts hinX3 hown hK hP 0 rfl rfl 1 (by decide) hf16 (fun _ h9 => h9) rfl dX3_advise_24 ?_
    refine lv_aload_n hx hb dX3_advise_27 rfl (lv_at hl 0 rfl) ?_
    refine va_get (D := D) (ci := 3) (v := .ref (a 0)) (C := RX3) (T := TX3) (N := 2) hx hb hts hinX3 hown hK hP 0 rfl rfl 0 (by decide) hf10 (fun _ h9 => h9) rfl dX3_advise_28 ?_
    have hF := zfree (zx2_D hD) hS hA
    refine zk_V (va_runV (As := [.ref (a 0)]) (rest := []) ⟨hx, hb, hml, hown, hts⟩ (c_X1_copyFrom l D cI a b σ (τ9) _) (cwV 1 hts gX3_advise_X1_copyFrom rfl rfl rfl zdX1_copyFrom ⟨Nat.le_of_ble_eq_true rfl, Nat.le_of_ble_eq_true rfl⟩) ⟨zblL _, va_recv hK (zx2_P hP) (ci := 1) (q0 := 20) rfl rfl, zprL hK (zx2_P hP) (zx2_D hD) hL⟩ rfl rfl hl.1 rfl (lv_room (Nat.le_of_ble_eq_true rfl)) dX3_advise_31 ⟨Nat.zero_le _, Nat.zero_le _⟩) hS hF (fun H locs hkp hP1 hD1 hS => ?_)
    obtain ⟨hP, hD⟩ := zx2_J hP hD hkp hF hP1 hD1
    have hP : va_P D vwCl (zw_X cI x a b σ σ) H := hP
    have hD : va_D A (zw_X cI x a b σ σ) := hD
    refine lv_aload_n hx hb dX3_advise_34 rfl (lv_at hl 0 rfl) ?_
    refine va_get (D := D) (ci := 3) (v := .ref (b 0)) (C := RX3) (T := TX3) (N := 2) hx hb hts hinX3 hown hK hP 0 rfl rfl 1 (by decide) hf16 (fun _ h9 => h9) rfl dX3_advise_35 ?_
    refine va_get (D := D) (ci := 1) (v := .ref (b 2)) (C := RX1) (T := TX1) (N := 5) hx hb hts hinX1 hown hK hP 21 rfl rfl 4 (by decide) hf48 (fun _ h9 => h9) rfl dX3_advise_38 ?_
    refine va_get (D := D) (ci := 2) (v := .ref (b 8)) (C := RX2) (T := TX2) (N := 13) hx hb hts hinX2 hown hK hP 23 rfl rfl 1 (by decide) hf119 (fun _ h9 => h9) rfl dX3_advise_41 ?_
    refine lv_iload_n hx hb dX3_advise_44 rfl (lv_at hl 1 rfl) ?_
    refine lv_iload hx hb dX3_advise_45 (lv_at hl 4 rfl) ?_
    refine zk_st hx hb hK hP hD hS 29 0 rfl rfl (k := k) (by omega) (by decide) (w1 := zw_X cI x a b σ (zs σ 6 k (nI i))) rfl dX3_advise_47 (fun H locs hP hD hS => ?_)
    have hP : va_P D vwCl (zw_X cI x a b σ (zs σ 6 k (nI i))) H := hP
    have hD : va_D A (zw_X cI x a b σ (zs σ 6 k (nI i))) := hD
    refine lv_aload_n hx hb dX3_advise_48 rfl (lv_at hl 0 rfl) ?_
    refine va_get (D := D) (ci := 3) (v := .ref (b 0)) (C := RX3) (T := TX3) (N := 2) hx hb hts hinX3 hown hK hP 0 rfl rfl 1 (by decide) hf16 (fun _ h9 => h9) rfl dX3_advise_49 ?_
    refine lv_bipush (v := 48) hx hb dX3_advise_52 (by decide) ?_
    have hF := zfree (zxb_D hD) hS hA
    refine zk_V (va_runV (As := [.int (nI 48)]) (rest := []) ⟨hx, hb, hml, hown, hts⟩ (c_X1_goOn l D cI b (zs σ 6 k (nI i)) (n := 48) (hC.wat k hki) (by omega) _) (cwV 1 hts gX3_advise_X1_goOn rfl rfl rfl zdX1_goOn ⟨Nat.le_of_ble_eq_true rfl, Nat.le_of_ble_eq_true rfl⟩) ⟨zbl _, va_recv hK (zxb_P hP) (ci := 1) (q0 := 0) rfl rfl, zpr hK (zxb_P hP) (zxb_D hD)⟩ rfl rfl hl.1 rfl (lv_room (Nat.le_of_ble_eq_true rfl)) dX3_advise_54 ⟨Nat.zero_le _, Nat.zero_le _⟩) hS hF (fun H locs hkp hP1 hD1 hS => ?_)
    obtain ⟨hP, hD⟩ := zxb_J hP hD hkp hF hP1 hD1
    have hP : va_P D vwCl (zw_X cI x a b σ (f_hours (zs σ 6 k (nI i)) nb ns h 48)) H := hP
    have hD : va_D A (zw_X cI x a b σ (f_hours (zs σ 6 k (nI i)) nb ns h 48)) := hD
    refine lv_aload_n hx hb dX3_advise_57 rfl (lv_at hl 0 rfl) ?_
    refine va_get (D := D) (ci := 3) (v := .ref (b 0)) (C := RX3) (T := TX3) (N := 2) hx hb hts hinX3 hown hK hP 0 rfl rfl 1 (by decide) hf16 (fun _ h9 => h9) rfl dX3_advise_58 ?_
    refine va_get (D := D) (ci := 1) (v := .ref (b 2)) (C := RX1) (T := TX1) (N := 5) hx hb hts hinX1 hown hK hP 21 rfl rfl 4 (by decide) hf48 (fun _ h9 => h9) rfl dX3_advise_61 ?_
    refine va_get (D := D) (ci := 2) (v := .ref (b 16)) (C := RX2) (T := TX2) (N := 13) hx hb hts hinX2 hown hK hP 23 rfl rfl 9 (by decide) hf144 (fun _ h9 => h9) rfl dX3_advise_64 ?_
    refine lv_iload_n hx hb dX3_advise_67 rfl (lv_at hl 1 rfl) ?_
    refine zk_ld hx hb hK hP 37 0 rfl rfl (k := k) (by omega) (by decide) (v := (f_hours (zs σ 6 k (nI i)) nb ns h 48) 14 k) rfl dX3_advise_68 ?_
    refine lv_istore (lv' := [(5, .int ((f_hours (zs σ 6 k (nI i)) nb ns h 48) 14 k)), (0, .ref x), (1, .int (nI k)), (2, .int ((q_adv (q_wat σ nb ns h k) i).1)), (3, .int ((q_adv (q_wat σ nb ns h k) i).2)), (4, .int (nI i))]) hx hb dX3_advise_69 hl (by decide) rfl (fun ls hl => ?_)
    refine lv_iload hx hb dX3_advise_71 (lv_at hl 0 rfl) ?_
    refine lv_iload_n hx hb dX3_advise_73 rfl (lv_at hl 4 rfl) ?_
    refine lv_icmp_le (tgt := 83) hx hb dX3_advise_74 (by decide) (fun c_2 => ?_) (fun c_2 => ?_)
    · refine lv_iinc (v := nI (i + 1)) (lv' := [(4, .int (nI (i + 1))), (5, .int ((f_hours (zs σ 6 k (nI i)) nb ns h 48) 14 k)), (0, .ref x), (1, .int (nI k)), (2, .int ((q_adv (q_wat σ nb ns h k) i).1)), (3, .int ((q_adv (q_wat σ nb ns h k) i).2))]) hx hb dX3_advise_83 hl (k := 5) rfl (nI_1 i) (by decide) rfl (fun ls hl => ?_)
      refine lv_goto (tgt := 17) hx hb dX3_advise_86 (by decide) ?_
      have e1 : q_adv (q_wat σ nb ns h k) (i + 1) = q_adv (q_wat σ nb ns h k) i := if_pos c_2
      exact ih _ _ _ ⟨_, hP, hD, hS, by rw [e1]; exact lv_sub hl [2, 3, 4, 5, 0] rfl⟩
    · refine lv_iload hx hb dX3_advise_77 (lv_at hl 5 rfl) ?_
      refine lv_istore_n (lv' := [(2, .int (nI i)), (5, .int ((f_hours (zs σ 6 k (nI i)) nb ns h 48) 14 k)), (0, .ref x), (1, .int (nI k)), (3, .int ((q_adv (q_wat σ nb ns h k) i).2)), (4, .int (nI i))]) hx hb dX3_advise_79 rfl hl (by decide) rfl (fun ls hl => ?_)
      refine lv_iload hx hb dX3_advise_80 (lv_at hl 1 rfl) ?_
      refine lv_istore_n (lv' := [(3, .int ((f_hours (zs σ 6 k (nI i)) nb ns h 48) 14 k)), (2, .int (nI i)), (5, .int ((f_hours (zs σ 6 k (nI i)) nb ns h 48) 14 k)), (0, .ref x), (1, .int (nI k)), (4, .int (nI i))]) hx hb dX3_advise_82 rfl hl (by decide) rfl (fun ls hl => ?_)
      refine lv_iinc (v := nI (i + 1)) (lv' := [(4, .int (nI (i + 1))), (3, .int ((f_hours (zs σ 6 k (nI i)) nb ns h 48) 14 k)), (2, .int (nI i)), (5, .int ((f_hours (zs σ 6 k (nI i)) nb ns h 48) 14 k)), (0, .ref x), (1, .int (nI k))]) hx hb dX3_advise_83 hl (k := 5) rfl (nI_1 i) (by decide) rfl (fun ls hl => ?_)
      refine lv_goto (tgt := 17) hx hb dX3_advise_86 (by decide) ?_
      have e1 : q_adv (q_wat σ nb ns h k) (i + 1) = (nI i, q_wat σ nb ns h k i) := if_neg c_2
      exact ih _ _ _ ⟨_, hP, hD, hS, by rw [e1]; exact lv_sub hl [4, 5, 2, 1, 0] rfl⟩
  · obtain ⟨τ9, hP, hD, hS, hl⟩ := hI
    refine lv_iload hx hb dX3_advise_17 (lv_at hl 4 rfl) ?_
    refine lv_iconst (v := 3) hx hb dX3_advise_19 (by decide) ?_
    refine lv_icmp_ge (tgt := 89) hx hb dX3_advise_20 (by decide) (fun _ => ?_) (fun c => absurd (by decide) c)
    refine lv_iload_n hx hb dX3_advise_89 rfl (lv_at hl 2 rfl) ?_
    exact W.iret (v := (q_adv (q_wat σ nb ns h k) 3).1) hx hb hr (fun t ht hW => ⟨⟨(q_adv (q_wat σ nb ns h k) 3).1, (τ9), rfl, rfl, by rw [ht]; exact hP, va_K.moved hW.alike hK, hD⟩, hS.F ht⟩) hS.2.2 dX3_advise_90

set_option maxHeartbeats 4000000 in
set_option maxRecDepth 100000 in
theorem c_X3_digest (l : Launch) (D : va_G) (cI : ClassId) (x : Nat) (a b : Nat → Nat) (σ τ : zS) {nb ns h : Nat} (hC : zC σ nb ns h) : zMRl l yX3_digest wsX3_digest ({ frames := 3, cells := 0, slots := 0, locals := 65 }) [.ref x] D [(cI, .int)] (zw_X cI x a b σ (τ)) (fun r => r = q_dig σ nb ns h) := by
  intro sz
  refine Met.ofW (cc := cX3_digest) (maxL := 5) (ret := (some .long)) (by decide) rfl ?_
  intro p e s m args below meth c s₁ B hml hv
  obtain ⟨rfl, hsz, hP, hK, hD⟩ := hv
  have hx := B.exec
  have hb := B.bytes
  have hr := B.returns
  have hts := atoms_spec (ws := wsX3_digest) B.pre
  have hown : s.vm.findClass RX3 = some m.cls := findClass_of_methodNamed B.named
  have hlocks := B.notSynchronized
  have hS : va_S (fun _ => False) s.heap s.heap [] := va_S.rf
  have hP : va_P D vwCl (zw_X cI x a b σ (τ)) s.heap := hP
  have hl := lv_entry ([.ref x]) (n := 5) (Nat.le_of_ble_eq_true rfl)
  rw [lg_entry_eq]
  generalize (lg_sl ([.ref x]) ++ List.replicate (5 - (lg_sl ([.ref x])).length) Slot.unset).toArray = ls at hl ⊢
  have hl : lv_has ls 5 [(0, .ref x)] := hl
  have hf10 := hts (.fieldLink RX3 10 "HotBeds" "house" "LHotBeds$House;") (by decide +kernel)
  have hf178 := hts (.fieldLink RX3 178 "HotBeds$Beds" "size" "I") (by decide +kernel)
  have hf181 := hts (.fieldLink RX3 181 "HotBeds$Sailors" "size" "I") (by decide +kernel)
  have hf26 := hts (.fieldLink RX3 26 "HotBeds$House" "beds" "LHotBeds$Beds;") (by decide +kernel)
  have hf48 := hts (.fieldLink RX3 48 "HotBeds$House" "sailors" "LHotBeds$Sailors;") (by decide +kernel)
  have hinX0 : ∀ w ∈ u_ws RX0 TX0 6, w ∈ wsX3_digest := by decide +kernel
  have hinX1 : ∀ w ∈ u_ws RX1 TX1 5, w ∈ wsX3_digest := by decide +kernel
  have hinX2 : ∀ w ∈ u_ws RX2 TX2 13, w ∈ wsX3_digest := by decide +kernel
  have hinX3 : ∀ w ∈ u_ws RX3 TX3 2, w ∈ wsX3_digest := by decide +kernel
  have hcl200 := hts (.constantLong RX3 200 1783) (by decide +kernel)
  have hcl202 := hts (.constantLong RX3 202 31) (by decide +kernel)
  have hnb := hC.2.1
  have hns := hC.2.2.2.1
  have hh := hC.2.2.2.2.2.1
  refine lv_ldc2 hx hb hown hcl200 dX3_digest_0 ?_
  refine lv_lstore_n (lv' := [(1, .long 1783), (0, .ref x)]) hx hb dX3_digest_3 rfl hl (by decide) rfl (fun ls hl => ?_)
  refine lv_iconst (v := 0) hx hb dX3_digest_4 (by decide) ?_
  refine lv_istore_n (lv' := [(3, .int 0), (1, .long 1783), (0, .ref x)]) hx hb dX3_digest_5 rfl hl (by decide) rfl (fun ls hl => ?_)
  refine zk_loop (pc := 6) (fun w H locs ls => va_P D vwCl (zw_X cI x a b σ (τ)) H ∧ va_S (fun _ => False) s.heap H locs ∧ lv_has ls 5 [(0, .ref x), (1, .long (q_fold (fun w => q_cnt σ nb ns h w) w 1783)), (3, .int (nI w))]) 10 (fun w hkw ih H locs ls hI => ?_) (fun H locs ls hI => ?_) _ _ _ ⟨hP, hS, lv_sub hl [2, 1, 0] rfl⟩
  · obtain ⟨hP, hS, hl⟩ := hI
    refine lv_iload_n hx hb dX3_digest_6 rfl (lv_at hl 2 rfl) ?_
    refine lv_bipush (v := 10) hx hb dX3_digest_7 (by decide) ?_
    refine lv_icmp_ge (tgt := 31) hx hb dX3_digest_9 (by decide) (fun c => absurd c (nI_ge (a := w) (b := 10) hkw (by decide))) (fun _ => ?_)
    refine lv_lload_n hx hb dX3_digest_12 rfl (lv_at hl 1 rfl) ?_
    refine lv_ldc2 hx hb hown hcl202 dX3_digest_13 ?_
    refine lv_lmul hx hb dX3_digest_16 ?_
    refine lv_aload_n hx hb dX3_digest_17 rfl (lv_at hl 0 rfl) ?_
    refine lv_iload_n hx hb dX3_digest_18 rfl (lv_at hl 2 rfl) ?_
    refine zk_R (D := D) (va_runV (As := [.int (nI w)]) (rest := [.long ((q_fold (fun w => q_cnt σ nb ns h w) w 1783) * 31)]) ⟨hx, hb, hml, hown, hts⟩ (c_X3_count l D cI x a b σ τ (w := w) hC (by omega) _) (cwV 1 hts gX3_digest_X3_count rfl rfl rfl zdX3_count ⟨Nat.le_of_ble_eq_true rfl, Nat.le_of_ble_eq_true rfl⟩) ⟨zbl _, va_recv hK hP (ci := 3) (q0 := 0) rfl rfl, zpr hK hP hD⟩ rfl rfl hl.1 rfl (lv_room (Nat.le_of_ble_eq_true rfl)) dX3_digest_19 ⟨Nat.zero_le _, Nat.zero_le _⟩) hS (fun r_2 H locs hw hkp hS => ?_)
    have hP := hkp _ hP
    subst hw
    refine lv_i2l hx hb dX3_digest_22 rfl ?_
    refine lv_ladd hx hb dX3_digest_23 ?_
    refine lv_lstore_n (lv' := [(1, .long (((q_fold (fun w => q_cnt σ nb ns h w) w 1783) * 31) + ((q_cnt σ nb ns h w).toInt64))), (0, .ref x), (3, .int (nI w))]) hx hb dX3_digest_24 rfl hl (by decide) rfl (fun ls hl => ?_)
    refine lv_iinc (v := nI (w + 1)) (lv' := [(3, .int (nI (w + 1))), (1, .long (((q_fold (fun w => q_cnt σ nb ns h w) w 1783) * 31) + ((q_cnt σ nb ns h w).toInt64))), (0, .ref x)]) hx hb dX3_digest_25 hl (k := 2) rfl (nI_1 w) (by decide) rfl (fun ls hl => ?_)
    refine lv_goto (tgt := 6) hx hb dX3_digest_28 (by decide) ?_
    exact ih _ _ _ ⟨hP, hS, lv_sub hl [2, 1, 0] rfl⟩
  · obtain ⟨hP, hS, hl⟩ := hI
    refine lv_iload_n hx hb dX3_digest_6 rfl (lv_at hl 2 rfl) ?_
    refine lv_bipush (v := 10) hx hb dX3_digest_7 (by decide) ?_
    refine lv_icmp_ge (tgt := 31) hx hb dX3_digest_9 (by decide) (fun _ => ?_) (fun c => absurd (by decide) c)
    refine lv_iconst (v := 0) hx hb dX3_digest_31 (by decide) ?_
    refine lv_istore_n (lv' := [(3, .int 0), (0, .ref x), (1, .long (q_fold (fun w => q_cnt σ nb ns h w) 10 1783))]) hx hb dX3_digest_32 rfl hl (by decide) rfl (fun ls hl => ?_)
    refine zk_loop (pc := 33) (fun k H locs ls => va_P D vwCl (zw_X cI x a b σ (τ)) H ∧ va_S (fun _ => False) s.heap H locs ∧ lv_has ls 5 [(0, .ref x), (1, .long (q_folds (fun b w => σ (w + 1) b) 5 k (q_fold (fun w => q_cnt σ nb ns h w) 10 1783))), (3, .int (nI k))]) nb (fun k hkk ih H locs ls hI => ?_) (fun H locs ls hI => ?_) _ _ _ ⟨hP, hS, lv_sub hl [1, 2, 0] rfl⟩
    · obtain ⟨hP, hS, hl⟩ := hI
      refine lv_iload_n hx hb dX3_digest_33 rfl (lv_at hl 2 rfl) ?_
      refine lv_aload_n hx hb dX3_digest_34 rfl (lv_at hl 0 rfl) ?_
      refine va_get (D := D) (ci := 3) (v := .ref (a 0)) (C := RX3) (T := TX3) (N := 2) hx hb hts hinX3 hown hK hP 0 rfl rfl 0 (by decide) hf10 (fun _ h9 => h9) rfl dX3_digest_35 ?_
      refine va_get (D := D) (ci := 1) (v := .ref (a 1)) (C := RX1) (T := TX1) (N := 5) hx hb hts hinX1 hown hK hP 1 rfl rfl 3 (by decide) hf26 (fun _ h9 => h9) rfl dX3_digest_38 ?_
      refine va_get (D := D) (ci := 0) (v := .int (nI nb)) (C := RX0) (T := TX0) (N := 6) hx hb hts hinX0 hown hK hP 2 rfl rfl 0 (by decide) hf178 (fun _ h9 => h9) (congrArg (fun z => some (Value.int z)) hC.1) dX3_digest_41 ?_
      refine lv_icmp_ge (tgt := 83) hx hb dX3_digest_44 (by decide) (fun c => absurd c (nI_ge hkk (by omega))) (fun _ => ?_)
      refine lv_iconst (v := 0) hx hb dX3_digest_47 (by decide) ?_
      refine lv_istore (lv' := [(4, .int 0), (0, .ref x), (1, .long (q_folds (fun b w => σ (w + 1) b) 5 k (q_fold (fun w => q_cnt σ nb ns h w) 10 1783))), (3, .int (nI k))]) hx hb dX3_digest_48 hl (by decide) rfl (fun ls hl => ?_)
      refine zk_loop (pc := 50) (fun w H locs ls => va_P D vwCl (zw_X cI x a b σ (τ)) H ∧ va_S (fun _ => False) s.heap H locs ∧ lv_has ls 5 [(0, .ref x), (1, .long (q_fold (fun w => σ (w + 1) k) w (q_folds (fun b w => σ (w + 1) b) 5 k (q_fold (fun w => q_cnt σ nb ns h w) 10 1783)))), (3, .int (nI k)), (4, .int (nI w))]) 5 (fun w hkw ih H locs ls hI => ?_) (fun H locs ls hI => ?_) _ _ _ ⟨hP, hS, lv_sub hl [1, 2, 3, 0] rfl⟩
      · obtain ⟨hP, hS, hl⟩ := hI
        refine lv_iload hx hb dX3_digest_50 (lv_at hl 3 rfl) ?_
        refine lv_iconst (v := 5) hx hb dX3_digest_52 (by decide) ?_
        refine lv_icmp_ge (tgt := 77) hx hb dX3_digest_53 (by decide) (fun c => absurd c (nI_ge (a := w) (b := 5) hkw (by decide))) (fun _ => ?_)
        refine lv_lload_n hx hb dX3_digest_56 rfl (lv_at hl 1 rfl) ?_
        refine lv_ldc2 hx hb hown hcl202 dX3_digest_57 ?_
        refine lv_lmul hx hb dX3_digest_60 ?_
        refine lv_aload_n hx hb dX3_digest_61 rfl (lv_at hl 0 rfl) ?_
        refine lv_iload_n hx hb dX3_digest_62 rfl (lv_at hl 2 rfl) ?_
        refine lv_iload hx hb dX3_digest_63 (lv_at hl 3 rfl) ?_
        refine zk_R (D := D) (va_runV (As := [.int (nI k), .int (nI w)]) (rest := [.long ((q_fold (fun w => σ (w + 1) k) w (q_folds (fun b w => σ (w + 1) b) 5 k (q_fold (fun w => q_cnt σ nb ns h w) 10 1783))) * 31)]) ⟨hx, hb, hml, hown, hts⟩ (c_X3_about l D cI x a b σ τ (k := k) (w := w) hC hkk (by omega) _) (cwV 2 hts gX3_digest_X3_about rfl rfl rfl zdX3_about ⟨Nat.le_of_ble_eq_true rfl, Nat.le_of_ble_eq_true rfl⟩) ⟨zbl _, va_recv hK hP (ci := 3) (q0 := 0) rfl rfl, zpr hK hP hD⟩ rfl rfl hl.1 rfl (lv_room (Nat.le_of_ble_eq_true rfl)) dX3_digest_65 ⟨Nat.zero_le _, Nat.zero_le _⟩) hS (fun r_6 H locs hw hkp hS => ?_)
        have hP := hkp _ hP
        subst hw
        refine lv_i2l hx hb dX3_digest_68 rfl ?_
        refine lv_ladd hx hb dX3_digest_69 ?_
        refine lv_lstore_n (lv' := [(1, .long (((q_fold (fun w => σ (w + 1) k) w (q_folds (fun b w => σ (w + 1) b) 5 k (q_fold (fun w => q_cnt σ nb ns h w) 10 1783))) * 31) + ((σ (w + 1) k).toInt64))), (0, .ref x), (3, .int (nI k)), (4, .int (nI w))]) hx hb dX3_digest_70 rfl hl (by decide) rfl (fun ls hl => ?_)
        refine lv_iinc (v := nI (w + 1)) (lv' := [(4, .int (nI (w + 1))), (1, .long (((q_fold (fun w => σ (w + 1) k) w (q_folds (fun b w => σ (w + 1) b) 5 k (q_fold (fun w => q_cnt σ nb ns h w) 10 1783))) * 31) + ((σ (w + 1) k).toInt64))), (0, .ref x), (3, .int (nI k))]) hx hb dX3_digest_71 hl (k := 3) rfl (nI_1 w) (by decide) rfl (fun ls hl => ?_)
        refine lv_goto (tgt := 50) hx hb dX3_digest_74 (by decide) ?_
        exact ih _ _ _ ⟨hP, hS, lv_sub hl [2, 1, 3, 0] rfl⟩
      · obtain ⟨hP, hS, hl⟩ := hI
        refine lv_iload hx hb dX3_digest_50 (lv_at hl 3 rfl) ?_
        refine lv_iconst (v := 5) hx hb dX3_digest_52 (by decide) ?_
        refine lv_icmp_ge (tgt := 77) hx hb dX3_digest_53 (by decide) (fun _ => ?_) (fun c => absurd (by decide) c)
        refine lv_iinc (v := nI (k + 1)) (lv' := [(3, .int (nI (k + 1))), (0, .ref x), (1, .long (q_fold (fun w => σ (w + 1) k) 5 (q_folds (fun b w => σ (w + 1) b) 5 k (q_fold (fun w => q_cnt σ nb ns h w) 10 1783)))), (4, .int (nI 5))]) hx hb dX3_digest_77 hl (k := 2) rfl (nI_1 k) (by decide) rfl (fun ls hl => ?_)
        refine lv_goto (tgt := 33) hx hb dX3_digest_80 (by decide) ?_
        exact ih _ _ _ ⟨hP, hS, lv_sub hl [1, 2, 0] rfl⟩
    · obtain ⟨hP, hS, hl⟩ := hI
      refine lv_iload_n hx hb dX3_digest_33 rfl (lv_at hl 2 rfl) ?_
      refine lv_aload_n hx hb dX3_digest_34 rfl (lv_at hl 0 rfl) ?_
      refine va_get (D := D) (ci := 3) (v := .ref (a 0)) (C := RX3) (T := TX3) (N := 2) hx hb hts hinX3 hown hK hP 0 rfl rfl 0 (by decide) hf10 (fun _ h9 => h9) rfl dX3_digest_35 ?_
      refine va_get (D := D) (ci := 1) (v := .ref (a 1)) (C := RX1) (T := TX1) (N := 5) hx hb hts hinX1 hown hK hP 1 rfl rfl 3 (by decide) hf26 (fun _ h9 => h9) rfl dX3_digest_38 ?_
      refine va_get (D := D) (ci := 0) (v := .int (nI nb)) (C := RX0) (T := TX0) (N := 6) hx hb hts hinX0 hown hK hP 2 rfl rfl 0 (by decide) hf178 (fun _ h9 => h9) (congrArg (fun z => some (Value.int z)) hC.1) dX3_digest_41 ?_
      refine lv_icmp_ge (tgt := 83) hx hb dX3_digest_44 (by decide) (fun _ => ?_) (fun c => absurd (Int32.le_refl _) c)
      refine lv_iconst (v := 0) hx hb dX3_digest_83 (by decide) ?_
      refine lv_istore_n (lv' := [(3, .int 0), (0, .ref x), (1, .long (q_folds (fun b w => σ (w + 1) b) 5 nb (q_fold (fun w => q_cnt σ nb ns h w) 10 1783)))]) hx hb dX3_digest_84 rfl hl (by decide) rfl (fun ls hl => ?_)
      refine zk_loop (pc := 85) (fun k H locs ls => va_P D vwCl (zw_X cI x a b σ (τ)) H ∧ va_S (fun _ => False) s.heap H locs ∧ lv_has ls 5 [(0, .ref x), (1, .long (q_folds (fun k w => σ (q_row w) k) 11 k (q_folds (fun b w => σ (w + 1) b) 5 nb (q_fold (fun w => q_cnt σ nb ns h w) 10 1783)))), (3, .int (nI k))]) ns (fun k hkk ih H locs ls hI => ?_) (fun H locs ls hI => ?_) _ _ _ ⟨hP, hS, lv_sub hl [1, 2, 0] rfl⟩
      · obtain ⟨hP, hS, hl⟩ := hI
        refine lv_iload_n hx hb dX3_digest_85 rfl (lv_at hl 2 rfl) ?_
        refine lv_aload_n hx hb dX3_digest_86 rfl (lv_at hl 0 rfl) ?_
        refine va_get (D := D) (ci := 3) (v := .ref (a 0)) (C := RX3) (T := TX3) (N := 2) hx hb hts hinX3 hown hK hP 0 rfl rfl 0 (by decide) hf10 (fun _ h9 => h9) rfl dX3_digest_87 ?_
        refine va_get (D := D) (ci := 1) (v := .ref (a 2)) (C := RX1) (T := TX1) (N := 5) hx hb hts hinX1 hown hK hP 1 rfl rfl 4 (by decide) hf48 (fun _ h9 => h9) rfl dX3_digest_90 ?_
        refine va_get (D := D) (ci := 2) (v := .int (nI ns)) (C := RX2) (T := TX2) (N := 13) hx hb hts hinX2 hown hK hP 3 rfl rfl 0 (by decide) hf181 (fun _ h9 => h9) (congrArg (fun z => some (Value.int z)) hC.2.2.1) dX3_digest_93 ?_
        refine lv_icmp_ge (tgt := 136) hx hb dX3_digest_96 (by decide) (fun c => absurd c (nI_ge hkk (by omega))) (fun _ => ?_)
        refine lv_iconst (v := 0) hx hb dX3_digest_99 (by decide) ?_
        refine lv_istore (lv' := [(4, .int 0), (0, .ref x), (1, .long (q_folds (fun k w => σ (q_row w) k) 11 k (q_folds (fun b w => σ (w + 1) b) 5 nb (q_fold (fun w => q_cnt σ nb ns h w) 10 1783)))), (3, .int (nI k))]) hx hb dX3_digest_100 hl (by decide) rfl (fun ls hl => ?_)
        refine zk_loop (pc := 102) (fun w H locs ls => va_P D vwCl (zw_X cI x a b σ (τ)) H ∧ va_S (fun _ => False) s.heap H locs ∧ lv_has ls 5 [(0, .ref x), (1, .long (q_fold (fun w => σ (q_row w) k) w (q_folds (fun k w => σ (q_row w) k) 11 k (q_folds (fun b w => σ (w + 1) b) 5 nb (q_fold (fun w => q_cnt σ nb ns h w) 10 1783))))), (3, .int (nI k)), (4, .int (nI w))]) 11 (fun w hkw ih H locs ls hI => ?_) (fun H locs ls hI => ?_) _ _ _ ⟨hP, hS, lv_sub hl [1, 2, 3, 0] rfl⟩
        · obtain ⟨hP, hS, hl⟩ := hI
          refine lv_iload hx hb dX3_digest_102 (lv_at hl 3 rfl) ?_
          refine lv_bipush (v := 11) hx hb dX3_digest_104 (by decide) ?_
          refine lv_icmp_ge (tgt := 130) hx hb dX3_digest_106 (by decide) (fun c => absurd c (nI_ge (a := w) (b := 11) hkw (by decide))) (fun _ => ?_)
          refine lv_lload_n hx hb dX3_digest_109 rfl (lv_at hl 1 rfl) ?_
          refine lv_ldc2 hx hb hown hcl202 dX3_digest_110 ?_
          refine lv_lmul hx hb dX3_digest_113 ?_
          refine lv_aload_n hx hb dX3_digest_114 rfl (lv_at hl 0 rfl) ?_
          refine lv_iload_n hx hb dX3_digest_115 rfl (lv_at hl 2 rfl) ?_
          refine lv_iload hx hb dX3_digest_116 (lv_at hl 3 rfl) ?_
          refine zk_R (D := D) (va_runV (As := [.int (nI k), .int (nI w)]) (rest := [.long ((q_fold (fun w => σ (q_row w) k) w (q_folds (fun k w => σ (q_row w) k) 11 k (q_folds (fun b w => σ (w + 1) b) 5 nb (q_fold (fun w => q_cnt σ nb ns h w) 10 1783)))) * 31)]) ⟨hx, hb, hml, hown, hts⟩ (c_X3_told l D cI x a b σ τ (k := k) (w := w) hC hkk (by omega) _) (cwV 2 hts gX3_digest_X3_told rfl rfl rfl zdX3_told ⟨Nat.le_of_ble_eq_true rfl, Nat.le_of_ble_eq_true rfl⟩) ⟨zbl _, va_recv hK hP (ci := 3) (q0 := 0) rfl rfl, zpr hK hP hD⟩ rfl rfl hl.1 rfl (lv_room (Nat.le_of_ble_eq_true rfl)) dX3_digest_118 ⟨Nat.zero_le _, Nat.zero_le _⟩) hS (fun r_11 H locs hw hkp hS => ?_)
          have hP := hkp _ hP
          subst hw
          refine lv_i2l hx hb dX3_digest_121 rfl ?_
          refine lv_ladd hx hb dX3_digest_122 ?_
          refine lv_lstore_n (lv' := [(1, .long (((q_fold (fun w => σ (q_row w) k) w (q_folds (fun k w => σ (q_row w) k) 11 k (q_folds (fun b w => σ (w + 1) b) 5 nb (q_fold (fun w => q_cnt σ nb ns h w) 10 1783)))) * 31) + ((σ (q_row w) k).toInt64))), (0, .ref x), (3, .int (nI k)), (4, .int (nI w))]) hx hb dX3_digest_123 rfl hl (by decide) rfl (fun ls hl => ?_)
          refine lv_iinc (v := nI (w + 1)) (lv' := [(4, .int (nI (w + 1))), (1, .long (((q_fold (fun w => σ (q_row w) k) w (q_folds (fun k w => σ (q_row w) k) 11 k (q_folds (fun b w => σ (w + 1) b) 5 nb (q_fold (fun w => q_cnt σ nb ns h w) 10 1783)))) * 31) + ((σ (q_row w) k).toInt64))), (0, .ref x), (3, .int (nI k))]) hx hb dX3_digest_124 hl (k := 3) rfl (nI_1 w) (by decide) rfl (fun ls hl => ?_)
          refine lv_goto (tgt := 102) hx hb dX3_digest_127 (by decide) ?_
          exact ih _ _ _ ⟨hP, hS, lv_sub hl [2, 1, 3, 0] rfl⟩
        · obtain ⟨hP, hS, hl⟩ := hI
          refine lv_iload hx hb dX3_digest_102 (lv_at hl 3 rfl) ?_
          refine lv_bipush (v := 11) hx hb dX3_digest_104 (by decide) ?_
          refine lv_icmp_ge (tgt := 130) hx hb dX3_digest_106 (by decide) (fun _ => ?_) (fun c => absurd (by decide) c)
          refine lv_iinc (v := nI (k + 1)) (lv' := [(3, .int (nI (k + 1))), (0, .ref x), (1, .long (q_fold (fun w => σ (q_row w) k) 11 (q_folds (fun k w => σ (q_row w) k) 11 k (q_folds (fun b w => σ (w + 1) b) 5 nb (q_fold (fun w => q_cnt σ nb ns h w) 10 1783))))), (4, .int (nI 11))]) hx hb dX3_digest_130 hl (k := 2) rfl (nI_1 k) (by decide) rfl (fun ls hl => ?_)
          refine lv_goto (tgt := 85) hx hb dX3_digest_133 (by decide) ?_
          exact ih _ _ _ ⟨hP, hS, lv_sub hl [1, 2, 0] rfl⟩
      · obtain ⟨hP, hS, hl⟩ := hI
        refine lv_iload_n hx hb dX3_digest_85 rfl (lv_at hl 2 rfl) ?_
        refine lv_aload_n hx hb dX3_digest_86 rfl (lv_at hl 0 rfl) ?_
        refine va_get (D := D) (ci := 3) (v := .ref (a 0)) (C := RX3) (T := TX3) (N := 2) hx hb hts hinX3 hown hK hP 0 rfl rfl 0 (by decide) hf10 (fun _ h9 => h9) rfl dX3_digest_87 ?_
        refine va_get (D := D) (ci := 1) (v := .ref (a 2)) (C := RX1) (T := TX1) (N := 5) hx hb hts hinX1 hown hK hP 1 rfl rfl 4 (by decide) hf48 (fun _ h9 => h9) rfl dX3_digest_90 ?_
        refine va_get (D := D) (ci := 2) (v := .int (nI ns)) (C := RX2) (T := TX2) (N := 13) hx hb hts hinX2 hown hK hP 3 rfl rfl 0 (by decide) hf181 (fun _ h9 => h9) (congrArg (fun z => some (Value.int z)) hC.2.2.1) dX3_digest_93 ?_
        refine lv_icmp_ge (tgt := 136) hx hb dX3_digest_96 (by decide) (fun _ => ?_) (fun c => absurd (Int32.le_refl _) c)
        refine lv_lload_n hx hb dX3_digest_136 rfl (lv_at hl 1 rfl) ?_
        exact W.lret (v := q_folds (fun k w => σ (q_row w) k) 11 ns (q_folds (fun b w => σ (w + 1) b) 5 nb (q_fold (fun w => q_cnt σ nb ns h w) 10 1783))) hx hb hr (fun t ht hW => ⟨⟨q_folds (fun k w => σ (q_row w) k) 11 ns (q_folds (fun b w => σ (w + 1) b) 5 nb (q_fold (fun w => q_cnt σ nb ns h w) 10 1783)), (), rfl, rfl, trivial⟩, hS.F ht⟩) hS.2.2 dX3_digest_137
