set_option maxHeartbeats 4000000 in
set_option maxRecDepth 100000 in
theorem c_X0_has (l : Launch) (D : va_G) (cI : ClassId) (a : Nat → Nat) (σ : zS) (x : Int32) : zMR l yX0_has wsX0_has ({ frames := 0, cells := 0, slots := 0, locals := 0 }) [.ref (a 1), .int x] D [(cI, .int)] (zw_H cI a σ) (zb (f_has σ x)) := by
  intro sz
  refine Met.ofW (cc := cX0_has) (maxL := 2) (ret := (some .boolean)) (by decide) rfl ?_
  intro p e s m args below meth c s₁ B hml hv
  obtain ⟨rfl, hsz, hP, hK, hD⟩ := hv
  have hx := B.exec
  have hb := B.bytes
  have hr := B.returns
  have hts := atoms_spec (ws := wsX0_has) B.pre
  have hown : s.vm.findClass RX0 = some m.cls := findClass_of_methodNamed B.named
  have hlocks := B.notSynchronized
  have hS : va_S (fun _ => False) s.heap s.heap [] := va_S.rf
  have hP : va_P D vwCl (zw_H cI a σ) s.heap := hP
  have hl := lv_entry ([.ref (a 1), .int x]) (n := 2) (Nat.le_of_ble_eq_true rfl)
  rw [lg_entry_eq]
  generalize (lg_sl ([.ref (a 1), .int x]) ++ List.replicate (2 - (lg_sl ([.ref (a 1), .int x])).length) Slot.unset).toArray = ls at hl ⊢
  have hl : lv_has ls 2 [(0, .ref (a 1)), (1, .int x)] := hl
  have hf7 := hts (.fieldLink RX0 7 "HotBeds$Beds" "size" "I") (by decide +kernel)
  have hinX0 : ∀ w ∈ u_ws RX0 TX0 6, w ∈ wsX0_has := by decide +kernel
  refine lv_iload_n hx hb dX0_has_0 rfl (lv_at hl 1 rfl) ?_
  refine lv_if_lt (tgt := 16) hx hb dX0_has_1 (by decide) (fun c_1 => ?_) (fun c_1 => ?_)
  · refine lv_iconst (v := 0) hx hb dX0_has_16 (by decide) ?_
    exact W.zret (v := 0) hx hb hr rfl (fun t ht hW => ⟨⟨0, (), rfl, Or.inr ⟨(fun z => z.1 c_1), rfl⟩, trivial⟩, hS.F ht⟩) hS.2.2 dX0_has_17
  · refine lv_iload_n hx hb dX0_has_4 rfl (lv_at hl 1 rfl) ?_
    refine lv_aload_n hx hb dX0_has_5 rfl (lv_at hl 0 rfl) ?_
    refine va_get (D := D) (ci := 0) (v := .int (σ 0 3)) (C := RX0) (T := TX0) (N := 6) hx hb hts hinX0 hown hK hP 1 rfl rfl 0 (by decide) hf7 (fun _ h9 => h9) rfl dX0_has_6 ?_
    refine lv_icmp_ge (tgt := 16) hx hb dX0_has_9 (by decide) (fun c_2 => ?_) (fun c_2 => ?_)
    · refine lv_iconst (v := 0) hx hb dX0_has_16 (by decide) ?_
      exact W.zret (v := 0) hx hb hr rfl (fun t ht hW => ⟨⟨0, (), rfl, Or.inr ⟨(fun z => z.2 c_2), rfl⟩, trivial⟩, hS.F ht⟩) hS.2.2 dX0_has_17
    · refine lv_iconst (v := 1) hx hb dX0_has_12 (by decide) ?_
      refine lv_goto (tgt := 17) hx hb dX0_has_13 (by decide) ?_
      exact W.zret (v := 1) hx hb hr rfl (fun t ht hW => ⟨⟨1, (), rfl, Or.inl ⟨⟨c_1, c_2⟩, rfl⟩, trivial⟩, hS.F ht⟩) hS.2.2 dX0_has_17

theorem zin {σ : zS} {nb ns h : Nat} {x : Int32} (hC : zC σ nb ns h) (hx : f_has σ x) : vp_in x 6 := by
  have h3 := hx.2
  rw [hC.1] at h3
  have h1 := hx.1
  obtain ⟨j, hj, rfl⟩ := nI_of h1
  have hb := hC.2.1
  exact vp_in_nI (by have := mt (nI_leI (a := nb) (b := j) (by omega) hj).mpr h3; omega) (by decide)

set_option maxHeartbeats 4000000 in
set_option maxRecDepth 100000 in
theorem c_X0_isFree (l : Launch) (D : va_G) (cI : ClassId) (a : Nat → Nat) (σ : zS) (x : Int32) {nb ns h : Nat} (hC : zC σ nb ns h) : zMR l yX0_isFree wsX0_isFree ({ frames := 1, cells := 0, slots := 0, locals := 21 }) [.ref (a 1), .int x] D [(cI, .int)] (zw_H cI a σ) (zb (f_free σ x)) := by
  intro sz
  refine Met.ofW (cc := cX0_isFree) (maxL := 2) (ret := (some .boolean)) (by decide) rfl ?_
  intro p e s m args below meth c s₁ B hml hv
  obtain ⟨rfl, hsz, hP, hK, hD⟩ := hv
  have hx := B.exec
  have hb := B.bytes
  have hr := B.returns
  have hts := atoms_spec (ws := wsX0_isFree) B.pre
  have hown : s.vm.findClass RX0 = some m.cls := findClass_of_methodNamed B.named
  have hlocks := B.notSynchronized
  have hS : va_S (fun _ => False) s.heap s.heap [] := va_S.rf
  have hP : va_P D vwCl (zw_H cI a σ) s.heap := hP
  have hl := lv_entry ([.ref (a 1), .int x]) (n := 2) (Nat.le_of_ble_eq_true rfl)
  rw [lg_entry_eq]
  generalize (lg_sl ([.ref (a 1), .int x]) ++ List.replicate (2 - (lg_sl ([.ref (a 1), .int x])).length) Slot.unset).toArray = ls at hl ⊢
  have hl : lv_has ls 2 [(0, .ref (a 1)), (1, .int x)] := hl
  have hf26 := hts (.fieldLink RX0 26 "HotBeds$Beds" "sleeper" "[I") (by decide +kernel)
  have hinX0 : ∀ w ∈ u_ws RX0 TX0 6, w ∈ wsX0_isFree := by decide +kernel
  refine lv_aload_n hx hb dX0_isFree_0 rfl (lv_at hl 0 rfl) ?_
  refine lv_iload_n hx hb dX0_isFree_1 rfl (lv_at hl 1 rfl) ?_
  refine zk_R (D := D) (va_runV (As := [.int x]) (rest := []) ⟨hx, hb, hml, hown, hts⟩ (c_X0_has l D cI a σ x _) (cwV 1 hts gX0_isFree_X0_has rfl rfl rfl zdX0_has ⟨Nat.le_of_ble_eq_true rfl, Nat.le_of_ble_eq_true rfl⟩) ⟨zbl _, va_recv hK hP (ci := 0) (q0 := 1) rfl rfl, zpr hK hP hD⟩ rfl rfl hl.1 rfl (lv_room (Nat.le_of_ble_eq_true rfl)) dX0_isFree_2 ⟨Nat.zero_le _, Nat.zero_le _⟩) hS (fun r_1 H locs hw hkp hS => ?_)
  have hP := hkp _ hP
  rcases hw with ⟨c_2, rfl⟩ | ⟨c_2, rfl⟩
  · refine lv_if_eq (tgt := 22) hx hb dX0_isFree_5 (by decide) (fun c => absurd c (by decide)) (fun _ => ?_)
    refine lv_aload_n hx hb dX0_isFree_8 rfl (lv_at hl 0 rfl) ?_
    refine va_get (D := D) (ci := 0) (v := .ref (a 7)) (C := RX0) (T := TX0) (N := 6) hx hb hts hinX0 hown hK hP 1 rfl rfl 5 (by decide) hf26 (fun _ h9 => h9) rfl dX0_isFree_9 ?_
    refine lv_iload_n hx hb dX0_isFree_12 rfl (lv_at hl 1 rfl) ?_
    refine va_iald hx hb hK hP 7 0 (zwq5 cI a _) rfl (zin hC c_2) dX0_isFree_13 ?_
    refine lv_iconst (v := (-1)) hx hb dX0_isFree_14 (by decide) ?_
    refine lv_icmp_ne (tgt := 22) hx hb dX0_isFree_15 (by decide) (fun c_4 => ?_) (fun c_4 => ?_)
    · refine lv_iconst (v := 0) hx hb dX0_isFree_22 (by decide) ?_
      exact W.zret (v := 0) hx hb hr rfl (fun t ht hW => ⟨⟨0, (), rfl, Or.inr ⟨(fun z => c_4 z.2), rfl⟩, trivial⟩, hS.F ht⟩) hS.2.2 dX0_isFree_23
    · refine lv_iconst (v := 1) hx hb dX0_isFree_18 (by decide) ?_
      refine lv_goto (tgt := 23) hx hb dX0_isFree_19 (by decide) ?_
      exact W.zret (v := 1) hx hb hr rfl (fun t ht hW => ⟨⟨1, (), rfl, Or.inl ⟨⟨c_2, c_4⟩, rfl⟩, trivial⟩, hS.F ht⟩) hS.2.2 dX0_isFree_23
  · refine lv_if_eq (tgt := 22) hx hb dX0_isFree_5 (by decide) (fun _ => ?_) (fun c => absurd (by decide) c)
    refine lv_iconst (v := 0) hx hb dX0_isFree_22 (by decide) ?_
    exact W.zret (v := 0) hx hb hr rfl (fun t ht hW => ⟨⟨0, (), rfl, Or.inr ⟨(fun z => c_2 z.1), rfl⟩, trivial⟩, hS.F ht⟩) hS.2.2 dX0_isFree_23

set_option maxHeartbeats 4000000 in
set_option maxRecDepth 100000 in
theorem c_X0_isWarm (l : Launch) (D : va_G) (cI : ClassId) (a : Nat → Nat) (σ : zS) (x : Int32) {nb ns h : Nat} (hC : zC σ nb ns h) : zMR l yX0_isWarm wsX0_isWarm ({ frames := 1, cells := 0, slots := 0, locals := 21 }) [.ref (a 1), .int x] D [(cI, .int)] (zw_H cI a σ) (zb (f_warm σ x)) := by
  intro sz
  refine Met.ofW (cc := cX0_isWarm) (maxL := 2) (ret := (some .boolean)) (by decide) rfl ?_
  intro p e s m args below meth c s₁ B hml hv
  obtain ⟨rfl, hsz, hP, hK, hD⟩ := hv
  have hx := B.exec
  have hb := B.bytes
  have hr := B.returns
  have hts := atoms_spec (ws := wsX0_isWarm) B.pre
  have hown : s.vm.findClass RX0 = some m.cls := findClass_of_methodNamed B.named
  have hlocks := B.notSynchronized
  have hS : va_S (fun _ => False) s.heap s.heap [] := va_S.rf
  have hP : va_P D vwCl (zw_H cI a σ) s.heap := hP
  have hl := lv_entry ([.ref (a 1), .int x]) (n := 2) (Nat.le_of_ble_eq_true rfl)
  rw [lg_entry_eq]
  generalize (lg_sl ([.ref (a 1), .int x]) ++ List.replicate (2 - (lg_sl ([.ref (a 1), .int x])).length) Slot.unset).toArray = ls at hl ⊢
  have hl : lv_has ls 2 [(0, .ref (a 1)), (1, .int x)] := hl
  have hf17 := hts (.fieldLink RX0 17 "HotBeds$Beds" "warmth" "[I") (by decide +kernel)
  have hinX0 : ∀ w ∈ u_ws RX0 TX0 6, w ∈ wsX0_isWarm := by decide +kernel
  refine lv_aload_n hx hb dX0_isWarm_0 rfl (lv_at hl 0 rfl) ?_
  refine lv_iload_n hx hb dX0_isWarm_1 rfl (lv_at hl 1 rfl) ?_
  refine zk_R (D := D) (va_runV (As := [.int x]) (rest := []) ⟨hx, hb, hml, hown, hts⟩ (c_X0_has l D cI a σ x _) (cwV 1 hts gX0_isWarm_X0_has rfl rfl rfl zdX0_has ⟨Nat.le_of_ble_eq_true rfl, Nat.le_of_ble_eq_true rfl⟩) ⟨zbl _, va_recv hK hP (ci := 0) (q0 := 1) rfl rfl, zpr hK hP hD⟩ rfl rfl hl.1 rfl (lv_room (Nat.le_of_ble_eq_true rfl)) dX0_isWarm_2 ⟨Nat.zero_le _, Nat.zero_le _⟩) hS (fun r_1 H locs hw hkp hS => ?_)
  have hP := hkp _ hP
  rcases hw with ⟨c_2, rfl⟩ | ⟨c_2, rfl⟩
  · refine lv_if_eq (tgt := 22) hx hb dX0_isWarm_5 (by decide) (fun c => absurd c (by decide)) (fun _ => ?_)
    refine lv_aload_n hx hb dX0_isWarm_8 rfl (lv_at hl 0 rfl) ?_
    refine va_get (D := D) (ci := 0) (v := .ref (a 4)) (C := RX0) (T := TX0) (N := 6) hx hb hts hinX0 hown hK hP 1 rfl rfl 2 (by decide) hf17 (fun _ h9 => h9) rfl dX0_isWarm_9 ?_
    refine lv_iload_n hx hb dX0_isWarm_12 rfl (lv_at hl 1 rfl) ?_
    refine va_iald hx hb hK hP 4 0 (zwq2 cI a _) rfl (zin hC c_2) dX0_isWarm_13 ?_
    refine lv_iconst (v := 4) hx hb dX0_isWarm_14 (by decide) ?_
    refine lv_icmp_lt (tgt := 22) hx hb dX0_isWarm_15 (by decide) (fun c_4 => ?_) (fun c_4 => ?_)
    · refine lv_iconst (v := 0) hx hb dX0_isWarm_22 (by decide) ?_
      exact W.zret (v := 0) hx hb hr rfl (fun t ht hW => ⟨⟨0, (), rfl, Or.inr ⟨(fun z => z.2 c_4), rfl⟩, trivial⟩, hS.F ht⟩) hS.2.2 dX0_isWarm_23
    · refine lv_iconst (v := 1) hx hb dX0_isWarm_18 (by decide) ?_
      refine lv_goto (tgt := 23) hx hb dX0_isWarm_19 (by decide) ?_
      exact W.zret (v := 1) hx hb hr rfl (fun t ht hW => ⟨⟨1, (), rfl, Or.inl ⟨⟨c_2, c_4⟩, rfl⟩, trivial⟩, hS.F ht⟩) hS.2.2 dX0_isWarm_23
  · refine lv_if_eq (tgt := 22) hx hb dX0_isWarm_5 (by decide) (fun _ => ?_) (fun c => absurd (by decide) c)
    refine lv_iconst (v := 0) hx hb dX0_isWarm_22 (by decide) ?_
    exact W.zret (v := 0) hx hb hr rfl (fun t ht hW => ⟨⟨0, (), rfl, Or.inr ⟨(fun z => c_2 z.1), rfl⟩, trivial⟩, hS.F ht⟩) hS.2.2 dX0_isWarm_23

theorem zfree_k {σ : zS} {nb ns h k : Nat} (hC : zC σ nb ns h) (hk : k < nb) : f_free σ (nI k) ↔ σ 5 k = -1 := by
  have hnb := hC.2.1
  constructor
  · intro z
    have h2 := z.2
    rw [nI_clamp (by omega)] at h2
    exact h2
  · intro z
    refine ⟨⟨nI_pos (by omega), ?_⟩, ?_⟩
    · rw [hC.1]
      exact nI_ge hk (by omega)
    · rw [nI_clamp (by omega)]
      exact z
theorem zch (σ : zS) : ∀ k : Nat, f_ch σ k = -1 ∨ ∃ j, j < k ∧ f_ch σ k = nI j
  | 0 => Or.inl rfl
  | k + 1 => by
    by_cases hc : σ 5 k = -1 ∧ (f_ch σ k = -1 ∨ ¬ σ 1 (f_ch σ k).toNatClampNeg ≤ σ 1 k)
    · exact Or.inr ⟨k, Nat.lt_succ_self k, if_pos hc⟩
    · have e : f_ch σ (k + 1) = f_ch σ k := if_neg hc
      rcases zch σ k with h | ⟨j, hj, h⟩
      · exact Or.inl (e.trans h)
      · exact Or.inr ⟨j, Nat.lt_succ_of_lt hj, e.trans h⟩
theorem zch_in {σ : zS} {k : Nat} (hk : k ≤ 6) (h : ¬ f_ch σ k = -1) : vp_in (f_ch σ k) 6 := by
  rcases zch σ k with z | ⟨j, hj, z⟩
  · exact absurd z h
  · rw [z]
    exact vp_in_nI (by omega) (by decide)
theorem f_cool_0 (σ : zS) : ∀ k : Nat, f_cool σ k 0 = σ 0
  | 0 => rfl
  | k + 1 => (zs_row (f_cool σ k) (r := 2) (r' := 0) (by decide) k _).trans (f_cool_0 σ k)
theorem f_cool_6 (σ : zS) : ∀ k : Nat, f_cool σ k 6 = σ 6
  | 0 => rfl
  | k + 1 => (zs_row (f_cool σ k) (r := 2) (r' := 6) (by decide) k _).trans (f_cool_6 σ k)

set_option maxHeartbeats 4000000 in
set_option maxRecDepth 100000 in
theorem c_X0_cheapestFree (l : Launch) (D : va_G) (cI : ClassId) (a : Nat → Nat) (σ : zS) {nb ns h : Nat} (hC : zC σ nb ns h) : zMR l yX0_cheapestFree wsX0_cheapestFree ({ frames := 2, cells := 0, slots := 0, locals := 42 }) [.ref (a 1)] D [(cI, .int)] (zw_H cI a σ) (fun r => r = f_ch σ nb) := by
  intro sz
  refine Met.ofW (cc := cX0_cheapestFree) (maxL := 3) (ret := (some .int)) (by decide) rfl ?_
  intro p e s m args below meth c s₁ B hml hv
  obtain ⟨rfl, hsz, hP, hK, hD⟩ := hv
  have hx := B.exec
  have hb := B.bytes
  have hr := B.returns
  have hts := atoms_spec (ws := wsX0_cheapestFree) B.pre
  have hown : s.vm.findClass RX0 = some m.cls := findClass_of_methodNamed B.named
  have hlocks := B.notSynchronized
  have hS : va_S (fun _ => False) s.heap s.heap [] := va_S.rf
  have hP : va_P D vwCl (zw_H cI a σ) s.heap := hP
  have hl := lv_entry ([.ref (a 1)]) (n := 3) (Nat.le_of_ble_eq_true rfl)
  rw [lg_entry_eq]
  generalize (lg_sl ([.ref (a 1)]) ++ List.replicate (3 - (lg_sl ([.ref (a 1)])).length) Slot.unset).toArray = ls at hl ⊢
  have hl : lv_has ls 3 [(0, .ref (a 1))] := hl
  have hf13 := hts (.fieldLink RX0 13 "HotBeds$Beds" "price" "[I") (by decide +kernel)
  have hf7 := hts (.fieldLink RX0 7 "HotBeds$Beds" "size" "I") (by decide +kernel)
  have hinX0 : ∀ w ∈ u_ws RX0 TX0 6, w ∈ wsX0_cheapestFree := by decide +kernel
  have hnb := hC.2.1
  refine lv_iconst (v := (-1)) hx hb dX0_cheapestFree_0 (by decide) ?_
  refine lv_istore_n (lv' := [(1, .int (-1)), (0, .ref (a 1))]) hx hb dX0_cheapestFree_1 rfl hl (by decide) rfl (fun ls hl => ?_)
  refine lv_iconst (v := 0) hx hb dX0_cheapestFree_2 (by decide) ?_
  refine lv_istore_n (lv' := [(2, .int 0), (1, .int (-1)), (0, .ref (a 1))]) hx hb dX0_cheapestFree_3 rfl hl (by decide) rfl (fun ls hl => ?_)
  refine zk_loop (pc := 4) (fun k H locs ls => va_P D vwCl (zw_H cI a σ) H ∧ va_S (fun _ => False) s.heap H locs ∧ lv_has ls 3 [(0, .ref (a 1)), (1, .int (f_ch σ k)), (2, .int (nI k))]) nb (fun k hkk ih H locs ls hI => ?_) (fun H locs ls hI => ?_) _ _ _ ⟨hP, hS, lv_sub hl [2, 1, 0] rfl⟩
  · obtain ⟨hP, hS, hl⟩ := hI
    refine lv_iload_n hx hb dX0_cheapestFree_4 rfl (lv_at hl 2 rfl) ?_
    refine lv_aload_n hx hb dX0_cheapestFree_5 rfl (lv_at hl 0 rfl) ?_
    refine va_get (D := D) (ci := 0) (v := .int (nI nb)) (C := RX0) (T := TX0) (N := 6) hx hb hts hinX0 hown hK hP 1 rfl rfl 0 (by decide) hf7 (fun _ h9 => h9) (congrArg (fun z => some (Value.int z)) hC.1) dX0_cheapestFree_6 ?_
    refine lv_icmp_ge (tgt := 48) hx hb dX0_cheapestFree_9 (by decide) (fun c => absurd c (nI_ge hkk (by omega))) (fun _ => ?_)
    refine lv_aload_n hx hb dX0_cheapestFree_12 rfl (lv_at hl 0 rfl) ?_
    refine lv_iload_n hx hb dX0_cheapestFree_13 rfl (lv_at hl 2 rfl) ?_
    refine zk_R (D := D) (va_runV (As := [.int (nI k)]) (rest := []) ⟨hx, hb, hml, hown, hts⟩ (c_X0_isFree l D cI a σ (nI k) hC _) (cwV 1 hts gX0_cheapestFree_X0_isFree rfl rfl rfl zdX0_isFree ⟨Nat.le_of_ble_eq_true rfl, Nat.le_of_ble_eq_true rfl⟩) ⟨zbl _, va_recv hK hP (ci := 0) (q0 := 1) rfl rfl, zpr hK hP hD⟩ rfl rfl hl.1 rfl (lv_room (Nat.le_of_ble_eq_true rfl)) dX0_cheapestFree_14 ⟨Nat.zero_le _, Nat.zero_le _⟩) hS (fun r_2 H locs hw hkp hS => ?_)
    have hP := hkp _ hP
    rcases hw with ⟨c_3, rfl⟩ | ⟨c_3, rfl⟩
    · refine lv_if_eq (tgt := 42) hx hb dX0_cheapestFree_17 (by decide) (fun c => absurd c (by decide)) (fun _ => ?_)
      refine lv_iload_n hx hb dX0_cheapestFree_20 rfl (lv_at hl 1 rfl) ?_
      refine lv_iconst (v := (-1)) hx hb dX0_cheapestFree_21 (by decide) ?_
      refine lv_icmp_eq (tgt := 40) hx hb dX0_cheapestFree_22 (by decide) (fun c_5 => ?_) (fun c_5 => ?_)
      · refine lv_iload_n hx hb dX0_cheapestFree_40 rfl (lv_at hl 2 rfl) ?_
        refine lv_istore_n (lv' := [(1, .int (nI k)), (0, .ref (a 1)), (2, .int (nI k))]) hx hb dX0_cheapestFree_41 rfl hl (by decide) rfl (fun ls hl => ?_)
        refine lv_iinc (v := nI (k + 1)) (lv' := [(2, .int (nI (k + 1))), (1, .int (nI k)), (0, .ref (a 1))]) hx hb dX0_cheapestFree_42 hl (k := 2) rfl (nI_1 k) (by decide) rfl (fun ls hl => ?_)
        refine lv_goto (tgt := 4) hx hb dX0_cheapestFree_45 (by decide) ?_
        have e1 : f_ch σ (k + 1) = nI k := if_pos ⟨(zfree_k hC hkk).mp c_3, Or.inl c_5⟩
        exact ih _ _ _ ⟨hP, hS, by rw [e1]; exact lv_sub hl [2, 1, 0] rfl⟩
      · refine lv_aload_n hx hb dX0_cheapestFree_25 rfl (lv_at hl 0 rfl) ?_
        refine va_get (D := D) (ci := 0) (v := .ref (a 3)) (C := RX0) (T := TX0) (N := 6) hx hb hts hinX0 hown hK hP 1 rfl rfl 1 (by decide) hf13 (fun _ h9 => h9) rfl dX0_cheapestFree_26 ?_
        refine lv_iload_n hx hb dX0_cheapestFree_29 rfl (lv_at hl 2 rfl) ?_
        refine zk_ld hx hb hK hP 3 0 (zwq1 cI a _) rfl (k := k) (by omega) (by decide) (v := σ 1 k) rfl dX0_cheapestFree_30 ?_
        refine lv_aload_n hx hb dX0_cheapestFree_31 rfl (lv_at hl 0 rfl) ?_
        refine va_get (D := D) (ci := 0) (v := .ref (a 3)) (C := RX0) (T := TX0) (N := 6) hx hb hts hinX0 hown hK hP 1 rfl rfl 1 (by decide) hf13 (fun _ h9 => h9) rfl dX0_cheapestFree_32 ?_
        refine lv_iload_n hx hb dX0_cheapestFree_35 rfl (lv_at hl 1 rfl) ?_
        refine va_iald hx hb hK hP 3 0 (zwq1 cI a _) rfl (zch_in (by omega) c_5) dX0_cheapestFree_36 ?_
        refine lv_icmp_ge (tgt := 42) hx hb dX0_cheapestFree_37 (by decide) (fun c_6 => ?_) (fun c_6 => ?_)
        · refine lv_iinc (v := nI (k + 1)) (lv' := [(2, .int (nI (k + 1))), (0, .ref (a 1)), (1, .int (f_ch σ k))]) hx hb dX0_cheapestFree_42 hl (k := 2) rfl (nI_1 k) (by decide) rfl (fun ls hl => ?_)
          refine lv_goto (tgt := 4) hx hb dX0_cheapestFree_45 (by decide) ?_
          have e1 : f_ch σ (k + 1) = f_ch σ k := if_neg (fun z => z.2.elim c_5 (fun y => y c_6))
          exact ih _ _ _ ⟨hP, hS, by rw [e1]; exact lv_sub hl [1, 2, 0] rfl⟩
        · refine lv_iload_n hx hb dX0_cheapestFree_40 rfl (lv_at hl 2 rfl) ?_
          refine lv_istore_n (lv' := [(1, .int (nI k)), (0, .ref (a 1)), (2, .int (nI k))]) hx hb dX0_cheapestFree_41 rfl hl (by decide) rfl (fun ls hl => ?_)
          refine lv_iinc (v := nI (k + 1)) (lv' := [(2, .int (nI (k + 1))), (1, .int (nI k)), (0, .ref (a 1))]) hx hb dX0_cheapestFree_42 hl (k := 2) rfl (nI_1 k) (by decide) rfl (fun ls hl => ?_)
          refine lv_goto (tgt := 4) hx hb dX0_cheapestFree_45 (by decide) ?_
          have e1 : f_ch σ (k + 1) = nI k := if_pos ⟨(zfree_k hC hkk).mp c_3, Or.inr c_6⟩
          exact ih _ _ _ ⟨hP, hS, by rw [e1]; exact lv_sub hl [2, 1, 0] rfl⟩
    · refine lv_if_eq (tgt := 42) hx hb dX0_cheapestFree_17 (by decide) (fun _ => ?_) (fun c => absurd (by decide) c)
      refine lv_iinc (v := nI (k + 1)) (lv' := [(2, .int (nI (k + 1))), (0, .ref (a 1)), (1, .int (f_ch σ k))]) hx hb dX0_cheapestFree_42 hl (k := 2) rfl (nI_1 k) (by decide) rfl (fun ls hl => ?_)
      refine lv_goto (tgt := 4) hx hb dX0_cheapestFree_45 (by decide) ?_
      have e1 : f_ch σ (k + 1) = f_ch σ k := if_neg (fun z => c_3 ((zfree_k hC hkk).mpr z.1))
      exact ih _ _ _ ⟨hP, hS, by rw [e1]; exact lv_sub hl [1, 2, 0] rfl⟩
  · obtain ⟨hP, hS, hl⟩ := hI
    refine lv_iload_n hx hb dX0_cheapestFree_4 rfl (lv_at hl 2 rfl) ?_
    refine lv_aload_n hx hb dX0_cheapestFree_5 rfl (lv_at hl 0 rfl) ?_
    refine va_get (D := D) (ci := 0) (v := .int (nI nb)) (C := RX0) (T := TX0) (N := 6) hx hb hts hinX0 hown hK hP 1 rfl rfl 0 (by decide) hf7 (fun _ h9 => h9) (congrArg (fun z => some (Value.int z)) hC.1) dX0_cheapestFree_6 ?_
    refine lv_icmp_ge (tgt := 48) hx hb dX0_cheapestFree_9 (by decide) (fun _ => ?_) (fun c => absurd (Int32.le_refl _) c)
    refine lv_iload_n hx hb dX0_cheapestFree_48 rfl (lv_at hl 1 rfl) ?_
    exact W.iret (v := f_ch σ nb) hx hb hr (fun t ht hW => ⟨⟨f_ch σ nb, (), rfl, rfl, trivial⟩, hS.F ht⟩) hS.2.2 dX0_cheapestFree_49

set_option maxHeartbeats 4000000 in
set_option maxRecDepth 100000 in
theorem c_X0_changeWarmth (l : Launch) (D : va_G) (cI : ClassId) (a : Nat → Nat) (σ : zS) {nb ns h : Nat} (hC : zC σ nb ns h) : zMV l yX0_changeWarmth wsX0_changeWarmth ({ frames := 1, cells := 0, slots := 0, locals := 15 }) [.ref (a 1)] D [(cI, .int)] (zw_H cI a σ) (zw_H cI a (f_cool σ nb)) := by
  intro sz
  refine Met.ofW (cc := cX0_changeWarmth) (maxL := 2) (ret := none) (by decide) rfl ?_
  intro p e s m args below meth c s₁ B hml hv
  obtain ⟨rfl, hsz, hP, hK, hD⟩ := hv
  have hx := B.exec
  have hb := B.bytes
  have hr := B.returns
  have hts := atoms_spec (ws := wsX0_changeWarmth) B.pre
  have hown : s.vm.findClass RX0 = some m.cls := findClass_of_methodNamed B.named
  have hlocks := B.notSynchronized
  subst hsz
  have hD := hD.self (sz := s.heap.size)
  generalize hAe : va_A (zw_H cI a σ) s.heap.size = A at hD ⊢
  have hA : ∀ q : Nat, s.heap.size ≤ q → A q := fun q h => by rw [← hAe]; exact Or.inr h
  have hS : va_S A s.heap s.heap [] := va_S.rf
  have hP : va_P D vwCl (zw_H cI a σ) s.heap := hP
  have hl := lv_entry ([.ref (a 1)]) (n := 2) (Nat.le_of_ble_eq_true rfl)
  rw [lg_entry_eq]
  generalize (lg_sl ([.ref (a 1)]) ++ List.replicate (2 - (lg_sl ([.ref (a 1)])).length) Slot.unset).toArray = ls at hl ⊢
  have hl : lv_has ls 2 [(0, .ref (a 1))] := hl
  have hf17 := hts (.fieldLink RX0 17 "HotBeds$Beds" "warmth" "[I") (by decide +kernel)
  have hf26 := hts (.fieldLink RX0 26 "HotBeds$Beds" "sleeper" "[I") (by decide +kernel)
  have hf7 := hts (.fieldLink RX0 7 "HotBeds$Beds" "size" "I") (by decide +kernel)
  have hinX0 : ∀ w ∈ u_ws RX0 TX0 6, w ∈ wsX0_changeWarmth := by decide +kernel
  have hcomax := hts (.code Lib.Math.max.name Lib.Math.max.code 2 (some .int)) (by decide +kernel)
  have hcomin := hts (.code Lib.Math.min.name Lib.Math.min.code 2 (some .int)) (by decide +kernel)
  have hinM := hts (.initialized "java/lang/Math") (by decide +kernel)
  have hml49 := hts (.methodLink RX0 49 Lib.Math.max.name) (by decide +kernel)
  have hml55 := hts (.methodLink RX0 55 Lib.Math.min.name) (by decide +kernel)
  have hstmax := hts (.static Lib.Math.max.name) (by decide +kernel)
  have hstmin := hts (.static Lib.Math.min.name) (by decide +kernel)
  have hnb := hC.2.1
  refine lv_iconst (v := 0) hx hb dX0_changeWarmth_0 (by decide) ?_
  refine lv_istore_n (lv' := [(1, .int 0), (0, .ref (a 1))]) hx hb dX0_changeWarmth_1 rfl hl (by decide) rfl (fun ls hl => ?_)
  refine zk_loop (pc := 2) (fun k H locs ls => va_P D vwCl (zw_H cI a (f_cool σ k)) H ∧ va_D A (zw_H cI a (f_cool σ k)) ∧ va_S A s.heap H locs ∧ lv_has ls 2 [(0, .ref (a 1)), (1, .int (nI k))]) nb (fun k hkk ih H locs ls hI => ?_) (fun H locs ls hI => ?_) _ _ _ ⟨hP, hD, hS, lv_sub hl [1, 0] rfl⟩
  · obtain ⟨hP, hD, hS, hl⟩ := hI
    refine lv_iload_n hx hb dX0_changeWarmth_2 rfl (lv_at hl 1 rfl) ?_
    refine lv_aload_n hx hb dX0_changeWarmth_3 rfl (lv_at hl 0 rfl) ?_
    refine va_get (D := D) (ci := 0) (v := .int (nI nb)) (C := RX0) (T := TX0) (N := 6) hx hb hts hinX0 hown hK hP 1 rfl rfl 0 (by decide) hf7 (fun _ h9 => h9) (congrArg (fun z => some (Value.int z)) ((congrFun (f_cool_0 σ k) 3).trans hC.1)) dX0_changeWarmth_4 ?_
    refine lv_icmp_ge (tgt := 66) hx hb dX0_changeWarmth_7 (by decide) (fun c => absurd c (nI_ge hkk (by omega))) (fun _ => ?_)
    refine lv_aload_n hx hb dX0_changeWarmth_10 rfl (lv_at hl 0 rfl) ?_
    refine va_get (D := D) (ci := 0) (v := .ref (a 7)) (C := RX0) (T := TX0) (N := 6) hx hb hts hinX0 hown hK hP 1 rfl rfl 5 (by decide) hf26 (fun _ h9 => h9) rfl dX0_changeWarmth_11 ?_
    refine lv_iload_n hx hb dX0_changeWarmth_14 rfl (lv_at hl 1 rfl) ?_
    refine zk_ld hx hb hK hP 7 0 (zwq5 cI a _) rfl (k := k) (by omega) (by decide) (v := (f_cool σ k) 5 k) rfl dX0_changeWarmth_15 ?_
    refine lv_iconst (v := (-1)) hx hb dX0_changeWarmth_16 (by decide) ?_
    refine lv_icmp_ne (tgt := 41) hx hb dX0_changeWarmth_17 (by decide) (fun c_2 => ?_) (fun c_2 => ?_)
    · refine lv_aload_n hx hb dX0_changeWarmth_41 rfl (lv_at hl 0 rfl) ?_
      refine va_get (D := D) (ci := 0) (v := .ref (a 4)) (C := RX0) (T := TX0) (N := 6) hx hb hts hinX0 hown hK hP 1 rfl rfl 2 (by decide) hf17 (fun _ h9 => h9) rfl dX0_changeWarmth_42 ?_
      refine lv_iload_n hx hb dX0_changeWarmth_45 rfl (lv_at hl 1 rfl) ?_
      refine lv_bipush (v := 8) hx hb dX0_changeWarmth_46 (by decide) ?_
      refine lv_aload_n hx hb dX0_changeWarmth_48 rfl (lv_at hl 0 rfl) ?_
      refine va_get (D := D) (ci := 0) (v := .ref (a 4)) (C := RX0) (T := TX0) (N := 6) hx hb hts hinX0 hown hK hP 1 rfl rfl 2 (by decide) hf17 (fun _ h9 => h9) rfl dX0_changeWarmth_49 ?_
      refine lv_iload_n hx hb dX0_changeWarmth_52 rfl (lv_at hl 1 rfl) ?_
      refine zk_ld hx hb hK hP 4 0 (zwq2 cI a _) rfl (k := k) (by omega) (by decide) (v := (f_cool σ k) 2 k) rfl dX0_changeWarmth_53 ?_
      refine lv_iconst (v := 2) hx hb dX0_changeWarmth_54 (by decide) ?_
      refine lv_iadd hx hb dX0_changeWarmth_55 ?_
      refine va_mmin hx hb (hml.trans hl.1.symm) hown hml55 hstmin hinM hcomin (Nat.le_of_ble_eq_true rfl) (Nat.le_of_ble_eq_true rfl) (Nat.zero_le _) (Nat.zero_le _) dX0_changeWarmth_56 ?_
      refine zk_st hx hb hK hP hD hS 4 0 (zwq2 cI a _) rfl (k := k) (by omega) (by decide) (zws2 cI a _ _ _) dX0_changeWarmth_59 (fun H locs hP hD hS => ?_)
      have hP : va_P D vwCl (zw_H cI a (zs (f_cool σ k) 2 k (f_min8 (((f_cool σ k) 2 k) + 2)))) H := hP
      have hD : va_D A (zw_H cI a (zs (f_cool σ k) 2 k (f_min8 (((f_cool σ k) 2 k) + 2)))) := hD
      refine lv_iinc (v := nI (k + 1)) (lv' := [(1, .int (nI (k + 1))), (0, .ref (a 1))]) hx hb dX0_changeWarmth_60 hl (k := 1) rfl (nI_1 k) (by decide) rfl (fun ls hl => ?_)
      refine lv_goto (tgt := 2) hx hb dX0_changeWarmth_63 (by decide) ?_
      have e1 : f_cool σ (k + 1) = zs (f_cool σ k) 2 k (f_min8 (((f_cool σ k) 2 k) + 2)) := by rw [f_cool, f_cw, if_neg c_2]
      exact ih _ _ _ ⟨by rw [e1]; exact hP, by rw [e1]; exact hD, hS, lv_sub hl [1, 0] rfl⟩
    · refine lv_aload_n hx hb dX0_changeWarmth_20 rfl (lv_at hl 0 rfl) ?_
      refine va_get (D := D) (ci := 0) (v := .ref (a 4)) (C := RX0) (T := TX0) (N := 6) hx hb hts hinX0 hown hK hP 1 rfl rfl 2 (by decide) hf17 (fun _ h9 => h9) rfl dX0_changeWarmth_21 ?_
      refine lv_iload_n hx hb dX0_changeWarmth_24 rfl (lv_at hl 1 rfl) ?_
      refine lv_iconst (v := 0) hx hb dX0_changeWarmth_25 (by decide) ?_
      refine lv_aload_n hx hb dX0_changeWarmth_26 rfl (lv_at hl 0 rfl) ?_
      refine va_get (D := D) (ci := 0) (v := .ref (a 4)) (C := RX0) (T := TX0) (N := 6) hx hb hts hinX0 hown hK hP 1 rfl rfl 2 (by decide) hf17 (fun _ h9 => h9) rfl dX0_changeWarmth_27 ?_
      refine lv_iload_n hx hb dX0_changeWarmth_30 rfl (lv_at hl 1 rfl) ?_
      refine zk_ld hx hb hK hP 4 0 (zwq2 cI a _) rfl (k := k) (by omega) (by decide) (v := (f_cool σ k) 2 k) rfl dX0_changeWarmth_31 ?_
      refine lv_iconst (v := 1) hx hb dX0_changeWarmth_32 (by decide) ?_
      refine lv_isub hx hb dX0_changeWarmth_33 ?_
      refine va_mmax hx hb (hml.trans hl.1.symm) hown hml49 hstmax hinM hcomax (Nat.le_of_ble_eq_true rfl) (Nat.le_of_ble_eq_true rfl) (Nat.zero_le _) (Nat.zero_le _) dX0_changeWarmth_34 ?_
      refine zk_st hx hb hK hP hD hS 4 0 (zwq2 cI a _) rfl (k := k) (by omega) (by decide) (zws2 cI a _ _ _) dX0_changeWarmth_37 (fun H locs hP hD hS => ?_)
      have hP : va_P D vwCl (zw_H cI a (zs (f_cool σ k) 2 k (f_max0 (((f_cool σ k) 2 k) - 1)))) H := hP
      have hD : va_D A (zw_H cI a (zs (f_cool σ k) 2 k (f_max0 (((f_cool σ k) 2 k) - 1)))) := hD
      refine lv_goto (tgt := 60) hx hb dX0_changeWarmth_38 (by decide) ?_
      refine lv_iinc (v := nI (k + 1)) (lv' := [(1, .int (nI (k + 1))), (0, .ref (a 1))]) hx hb dX0_changeWarmth_60 hl (k := 1) rfl (nI_1 k) (by decide) rfl (fun ls hl => ?_)
      refine lv_goto (tgt := 2) hx hb dX0_changeWarmth_63 (by decide) ?_
      have e1 : f_cool σ (k + 1) = zs (f_cool σ k) 2 k (f_max0 (((f_cool σ k) 2 k) - 1)) := by rw [f_cool, f_cw, if_pos c_2]
      exact ih _ _ _ ⟨by rw [e1]; exact hP, by rw [e1]; exact hD, hS, lv_sub hl [1, 0] rfl⟩
  · obtain ⟨hP, hD, hS, hl⟩ := hI
    refine lv_iload_n hx hb dX0_changeWarmth_2 rfl (lv_at hl 1 rfl) ?_
    refine lv_aload_n hx hb dX0_changeWarmth_3 rfl (lv_at hl 0 rfl) ?_
    refine va_get (D := D) (ci := 0) (v := .int (nI nb)) (C := RX0) (T := TX0) (N := 6) hx hb hts hinX0 hown hK hP 1 rfl rfl 0 (by decide) hf7 (fun _ h9 => h9) (congrArg (fun z => some (Value.int z)) ((congrFun (f_cool_0 σ nb) 3).trans hC.1)) dX0_changeWarmth_4 ?_
    refine lv_icmp_ge (tgt := 66) hx hb dX0_changeWarmth_7 (by decide) (fun _ => ?_) (fun c => absurd (Int32.le_refl _) c)
    have hP9 := hP
    have hD9 := hD
    exact W.vret hx hb hr (fun t ht hW => ⟨⟨(), rfl, trivial, by rw [ht]; exact hP9, va_K.moved hW.alike hK, hD9⟩, hS.F ht⟩) hS.2.2 dX0_changeWarmth_66
