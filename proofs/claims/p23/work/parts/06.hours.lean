theorem zlk {x : Int32} {o1 o2 d : Int} (h1 : ¬ x = 1) (h2 : ¬ x = 2) : Op.lookupswitch.offset [((1 : Int), o1), ((2 : Int), o2)] d x.toInt = d := by
  have n1 : ¬ (1 : Int) = x.toInt := fun z => h1 (Int32.toInt_inj.mp z.symm)
  have n2 : ¬ (2 : Int) = x.toInt := fun z => h2 (Int32.toInt_inj.mp z.symm)
  rw [Op.lookupswitch.offset_cons, if_neg n1, Op.lookupswitch.offset_cons, if_neg n2, Op.lookupswitch.offset_nil]
theorem f_getUp_0 (σ : zS) (k : Nat) : f_getUp σ k 0 = σ 0 := by unfold f_getUp f_leave; split <;> rfl
theorem f_getUp_6 (σ : zS) (k : Nat) : f_getUp σ k 6 = σ 6 := by unfold f_getUp f_leave; split <;> rfl
theorem f_try1_0 (σ : zS) (k b : Nat) : f_try1 σ k b 0 = σ 0 := by unfold f_try1; split <;> rfl
theorem f_try1_6 (σ : zS) (k b : Nat) : f_try1 σ k b 6 = σ 6 := by unfold f_try1; split <;> rfl
theorem f_try_0 (σ : zS) (k b : Nat) : f_try σ k b 0 = σ 0 := by unfold f_try; split <;> exact f_try1_0 σ k b
theorem f_try_6 (σ : zS) (k b : Nat) : f_try σ k b 6 = σ 6 := by unfold f_try; split <;> exact f_try1_6 σ k b
theorem f_look_0 (σ : zS) (nb h k : Nat) : f_look σ nb h k 0 = σ 0 := by
  unfold f_look
  split
  · exact f_try_0 _ _ _
  · split <;> rfl
theorem f_look_6 (σ : zS) (nb h k : Nat) : f_look σ nb h k 6 = σ 6 := by
  unfold f_look
  split
  · exact f_try_6 _ _ _
  · split <;> rfl
theorem f_payR_0 (σ : zS) (h k : Nat) : f_payR σ h k 0 = σ 0 := by
  unfold f_payR
  split
  · split <;> rfl
  · rfl
theorem f_payR_6 (σ : zS) (h k : Nat) : f_payR σ h k 6 = σ 6 := by
  unfold f_payR
  split
  · split <;> rfl
  · rfl
theorem f_serve_0 (σ : zS) (nb h k : Nat) : f_serve σ nb h k 0 = σ 0 := by
  unfold f_serve
  split
  · split
    · exact (f_look_0 _ _ _ _).trans (f_payR_0 _ _ _)
    · exact f_payR_0 _ _ _
  · rfl
theorem f_serve_6 (σ : zS) (nb h k : Nat) : f_serve σ nb h k 6 = σ 6 := by
  unfold f_serve
  split
  · split
    · exact (f_look_6 _ _ _ _).trans (f_payR_6 _ _ _)
    · exact f_payR_6 _ _ _
  · rfl
theorem f_ring_0 (σ : zS) (h k : Nat) : f_ring σ h k 0 = σ 0 := by
  unfold f_ring
  split
  · rfl
  · split
    · rfl
    · split
      · rfl
      · exact f_getUp_0 _ _
theorem f_ring_6 (σ : zS) (h k : Nat) : f_ring σ h k 6 = σ 6 := by
  unfold f_ring
  split
  · rfl
  · split
    · rfl
    · split
      · rfl
      · exact f_getUp_6 _ _
theorem f_itr_row {F : zS → Nat → zS} {r : Nat} (hF : ∀ τ k, F τ k r = τ r) (σ : zS) : ∀ j : Nat, f_itr F j σ r = σ r
  | 0 => rfl
  | j + 1 => (hF (f_itr F j σ) j).trans (f_itr_row hF σ j)
theorem zC.itr {F : zS → Nat → zS} {σ : zS} {nb ns h : Nat} (hC : zC σ nb ns h) (h0 : ∀ τ k, F τ k 0 = τ 0) (h6 : ∀ τ k, F τ k 6 = τ 6) (j : Nat) : zC (f_itr F j σ) nb ns h := hC.to (f_itr_row h0 σ j) (f_itr_row h6 σ j)
theorem zC.ring {σ : zS} {nb ns h : Nat} (hC : zC σ nb ns h) (j : Nat) : zC (f_itr (fun τ k => f_ring τ h k) j σ) nb ns h := hC.itr (fun τ k => f_ring_0 τ h k) (fun τ k => f_ring_6 τ h k) j
theorem zC.serve {σ : zS} {nb ns h : Nat} (hC : zC σ nb ns h) (j : Nat) : zC (f_itr (fun τ k => f_serve τ nb h k) j σ) nb ns h := hC.itr (fun τ k => f_serve_0 τ nb h k) (fun τ k => f_serve_6 τ nb h k) j
theorem zC.rest {σ : zS} {nb ns h : Nat} (hC : zC σ nb ns h) (j : Nat) : zC (f_itr (fun τ k => f_rest τ h k) j σ) nb ns h := hC.itr (F := fun τ k => f_rest τ h k) (fun _ _ => rfl) (fun _ _ => rfl) j
theorem zC.cool {σ : zS} {nb ns h : Nat} (hC : zC σ nb ns h) (j : Nat) : zC (f_cool σ j) nb ns h := hC.to (f_cool_0 σ j) (f_cool_6 σ j)
theorem zC.hour {σ : zS} {nb ns h : Nat} (hC : zC σ nb ns h) (hh : h + 1 < 2 ^ 30) : zC (f_hour σ nb ns h) nb ns (h + 1) := by
  have h1 := ((hC.ring ns).serve ns)
  have h2 := (h1.rest ns).cool nb
  exact ⟨h2.1, h2.2.1, h2.2.2.1, h2.2.2.2.1, rfl, hh, h2.2.2.2.2.2.2⟩
theorem zC.hours {σ : zS} {nb ns h : Nat} (hC : zC σ nb ns h) : ∀ n : Nat, h + n < 2 ^ 30 → zC (f_hours σ nb ns h n) nb ns (h + n)
  | 0, _ => hC
  | n + 1, hn => (hC.hours n (by omega)).hour hn

set_option maxHeartbeats 4000000 in
set_option maxRecDepth 100000 in
theorem c_X1_restOfHour (l : Launch) (D : va_G) (cI : ClassId) (a : Nat → Nat) (σ : zS) {k : Nat} (hk : k < 10) {nb ns h : Nat} (hC : zC σ nb ns h) : zMR l yX1_restOfHour wsX1_restOfHour ({ frames := 2, cells := 0, slots := 0, locals := 42 }) [.ref (a 0), .int (nI k)] D [(cI, .int)] (zw_H cI a σ) (fun r => r = f_roh σ h k) := by
  intro sz
  refine Met.ofW (cc := cX1_restOfHour) (maxL := 2) (ret := (some .int)) (by decide) rfl ?_
  intro p e s m args below meth c s₁ B hml hv
  obtain ⟨rfl, hsz, hP, hK, hD⟩ := hv
  have hx := B.exec
  have hb := B.bytes
  have hr := B.returns
  have hts := atoms_spec (ws := wsX1_restOfHour) B.pre
  have hown : s.vm.findClass RX1 = some m.cls := findClass_of_methodNamed B.named
  have hlocks := B.notSynchronized
  have hS : va_S (fun _ => False) s.heap s.heap [] := va_S.rf
  have hP : va_P D vwCl (zw_H cI a σ) s.heap := hP
  have hl := lv_entry ([.ref (a 0), .int (nI k)]) (n := 2) (Nat.le_of_ble_eq_true rfl)
  rw [lg_entry_eq]
  generalize (lg_sl ([.ref (a 0), .int (nI k)]) ++ List.replicate (2 - (lg_sl ([.ref (a 0), .int (nI k)])).length) Slot.unset).toArray = ls at hl ⊢
  have hl : lv_has ls 2 [(0, .ref (a 0)), (1, .int (nI k))] := hl
  have hf22 := hts (.fieldLink RX1 22 "HotBeds$House" "beds" "LHotBeds$Beds;") (by decide +kernel)
  have hf29 := hts (.fieldLink RX1 29 "HotBeds$House" "sailors" "LHotBeds$Sailors;") (by decide +kernel)
  have hf61 := hts (.fieldLink RX1 61 "HotBeds$Sailors" "bed" "[I") (by decide +kernel)
  have hf7 := hts (.fieldLink RX1 7 "HotBeds$House" "hour" "I") (by decide +kernel)
  have hf71 := hts (.fieldLink RX1 71 "HotBeds$Sailors" "place" "[I") (by decide +kernel)
  have hinX1 : ∀ w ∈ u_ws RX1 TX1 5, w ∈ wsX1_restOfHour := by decide +kernel
  have hinX2 : ∀ w ∈ u_ws RX2 TX2 13, w ∈ wsX1_restOfHour := by decide +kernel
  have hnb := hC.2.1
  have hns := hC.2.2.2.1
  have hh := hC.2.2.2.2.2.1
  refine lv_aload_n hx hb dX1_restOfHour_0 rfl (lv_at hl 0 rfl) ?_
  refine va_get (D := D) (ci := 1) (v := .ref (a 2)) (C := RX1) (T := TX1) (N := 5) hx hb hts hinX1 hown hK hP 0 rfl rfl 4 (by decide) hf29 (fun _ h9 => h9) rfl dX1_restOfHour_1 ?_
  refine va_get (D := D) (ci := 2) (v := .ref (a 14)) (C := RX2) (T := TX2) (N := 13) hx hb hts hinX2 hown hK hP 2 rfl rfl 7 (by decide) hf71 (fun _ h9 => h9) rfl dX1_restOfHour_4 ?_
  refine lv_iload_n hx hb dX1_restOfHour_7 rfl (lv_at hl 1 rfl) ?_
  refine zk_ld hx hb hK hP 14 0 (zwq12 cI a _) rfl (k := k) hk (by decide) (v := σ 12 k) rfl dX1_restOfHour_8 ?_
  by_cases c_1 : σ 12 k = 1
  · refine lv_lookup hx hb dX1_restOfHour_9 (by decide) (off := 27) (by rw [c_1]; decide) (tgt := 36) (by decide) ?_
    refine lv_aload_n hx hb dX1_restOfHour_36 rfl (lv_at hl 0 rfl) ?_
    refine va_get (D := D) (ci := 1) (v := .ref (a 1)) (C := RX1) (T := TX1) (N := 5) hx hb hts hinX1 hown hK hP 0 rfl rfl 3 (by decide) hf22 (fun _ h9 => h9) rfl dX1_restOfHour_37 ?_
    refine lv_aload_n hx hb dX1_restOfHour_40 rfl (lv_at hl 0 rfl) ?_
    refine va_get (D := D) (ci := 1) (v := .ref (a 2)) (C := RX1) (T := TX1) (N := 5) hx hb hts hinX1 hown hK hP 0 rfl rfl 4 (by decide) hf29 (fun _ h9 => h9) rfl dX1_restOfHour_41 ?_
    refine va_get (D := D) (ci := 2) (v := .ref (a 15)) (C := RX2) (T := TX2) (N := 13) hx hb hts hinX2 hown hK hP 2 rfl rfl 8 (by decide) hf61 (fun _ h9 => h9) rfl dX1_restOfHour_44 ?_
    refine lv_iload_n hx hb dX1_restOfHour_47 rfl (lv_at hl 1 rfl) ?_
    refine zk_ld hx hb hK hP 15 0 (zwq13 cI a _) rfl (k := k) hk (by decide) (v := σ 13 k) rfl dX1_restOfHour_48 ?_
    refine zk_R (D := D) (va_runV (As := [.int (σ 13 k)]) (rest := []) ⟨hx, hb, hml, hown, hts⟩ (c_X0_isWarm l D cI a σ (σ 13 k) hC _) (cwV 1 hts gX1_restOfHour_X0_isWarm rfl rfl rfl zdX0_isWarm ⟨Nat.le_of_ble_eq_true rfl, Nat.le_of_ble_eq_true rfl⟩) ⟨zbl _, va_recv hK hP (ci := 0) (q0 := 1) rfl rfl, zpr hK hP hD⟩ rfl rfl hl.1 rfl (lv_room (Nat.le_of_ble_eq_true rfl)) dX1_restOfHour_49 ⟨Nat.zero_le _, Nat.zero_le _⟩) hS (fun r_3 H locs hw hkp hS => ?_)
    have hP := hkp _ hP
    rcases hw with ⟨c_4, rfl⟩ | ⟨c_4, rfl⟩
    · refine lv_if_eq (tgt := 59) hx hb dX1_restOfHour_52 (by decide) (fun c => absurd c (by decide)) (fun _ => ?_)
      refine lv_iconst (v := 2) hx hb dX1_restOfHour_55 (by decide) ?_
      refine lv_goto (tgt := 60) hx hb dX1_restOfHour_56 (by decide) ?_
      exact W.iret (v := 2) hx hb hr (fun t ht hW => ⟨⟨2, (), rfl, (by simp only [f_roh, if_pos c_1, if_pos c_4]), trivial⟩, hS.F ht⟩) hS.2.2 dX1_restOfHour_60
    · refine lv_if_eq (tgt := 59) hx hb dX1_restOfHour_52 (by decide) (fun _ => ?_) (fun c => absurd (by decide) c)
      refine lv_iconst (v := 1) hx hb dX1_restOfHour_59 (by decide) ?_
      exact W.iret (v := 1) hx hb hr (fun t ht hW => ⟨⟨1, (), rfl, (by simp only [f_roh, if_pos c_1, if_neg c_4]), trivial⟩, hS.F ht⟩) hS.2.2 dX1_restOfHour_60
  · by_cases c_2 : σ 12 k = 2
    · refine lv_lookup hx hb dX1_restOfHour_9 (by decide) (off := 52) (by rw [c_2]; decide) (tgt := 61) (by decide) ?_
      refine lv_aload_n hx hb dX1_restOfHour_61 rfl (lv_at hl 0 rfl) ?_
      refine va_get (D := D) (ci := 1) (v := .int (nI h)) (C := RX1) (T := TX1) (N := 5) hx hb hts hinX1 hown hK hP 0 rfl rfl 0 (by decide) hf7 (fun _ h9 => h9) (congrArg (fun z => some (Value.int z)) hC.2.2.2.2.1) dX1_restOfHour_62 ?_
      refine lv_iconst (v := 2) hx hb dX1_restOfHour_65 (by decide) ?_
      refine zk_rem (x := h) (y := 2) hx hb dX1_restOfHour_66 (by omega) (by decide) (by decide) ?_
      refine lv_if_ne (tgt := 74) hx hb dX1_restOfHour_67 (by decide) (fun c_7 => ?_) (fun c_7 => ?_)
      · refine lv_iconst (v := 1) hx hb dX1_restOfHour_74 (by decide) ?_
        exact W.iret (v := 1) hx hb hr (fun t ht hW => ⟨⟨1, (), rfl, (by simp only [f_roh, if_neg c_1, if_pos c_2, if_neg c_7]), trivial⟩, hS.F ht⟩) hS.2.2 dX1_restOfHour_75
      · refine lv_iconst (v := 0) hx hb dX1_restOfHour_70 (by decide) ?_
        refine lv_goto (tgt := 75) hx hb dX1_restOfHour_71 (by decide) ?_
        exact W.iret (v := 0) hx hb hr (fun t ht hW => ⟨⟨0, (), rfl, (by simp only [f_roh, if_neg c_1, if_pos c_2, if_pos c_7]), trivial⟩, hS.F ht⟩) hS.2.2 dX1_restOfHour_75
    · refine lv_lookup hx hb dX1_restOfHour_9 (by decide) (off := 67) (zlk c_1 c_2) (tgt := 76) (by decide) ?_
      refine lv_iconst (v := 0) hx hb dX1_restOfHour_76 (by decide) ?_
      exact W.iret (v := 0) hx hb hr (fun t ht hW => ⟨⟨0, (), rfl, (by simp only [f_roh, if_neg c_1, if_neg c_2]), trivial⟩, hS.F ht⟩) hS.2.2 dX1_restOfHour_77

set_option maxHeartbeats 4000000 in
set_option maxRecDepth 100000 in
theorem c_X1_goOn (l : Launch) (D : va_G) (cI : ClassId) (a : Nat → Nat) (σ : zS) {n : Nat} {nb ns h : Nat} (hC : zC σ nb ns h) (hn : h + n < 2 ^ 30) : zMV l yX1_goOn wsX1_goOn ({ frames := 6, cells := 0, slots := 0, locals := 126 }) [.ref (a 0), .int (nI n)] D [(cI, .int)] (zw_H cI a σ) (zw_H cI a (f_hours σ nb ns h n)) := by
  intro sz
  refine Met.ofW (cc := cX1_goOn) (maxL := 4) (ret := none) (by decide) rfl ?_
  intro p e s m args below meth c s₁ B hml hv
  obtain ⟨rfl, hsz, hP, hK, hD⟩ := hv
  have hx := B.exec
  have hb := B.bytes
  have hr := B.returns
  have hts := atoms_spec (ws := wsX1_goOn) B.pre
  have hown : s.vm.findClass RX1 = some m.cls := findClass_of_methodNamed B.named
  have hlocks := B.notSynchronized
  subst hsz
  have hD := hD.self (sz := s.heap.size)
  generalize hAe : va_A (zw_H cI a σ) s.heap.size = A at hD ⊢
  have hA : ∀ q : Nat, s.heap.size ≤ q → A q := fun q h => by rw [← hAe]; exact Or.inr h
  have hS : va_S A s.heap s.heap [] := va_S.rf
  have hP : va_P D vwCl (zw_H cI a σ) s.heap := hP
  have hl := lv_entry ([.ref (a 0), .int (nI n)]) (n := 4) (Nat.le_of_ble_eq_true rfl)
  rw [lg_entry_eq]
  generalize (lg_sl ([.ref (a 0), .int (nI n)]) ++ List.replicate (4 - (lg_sl ([.ref (a 0), .int (nI n)])).length) Slot.unset).toArray = ls at hl ⊢
  have hl : lv_has ls 4 [(0, .ref (a 0)), (1, .int (nI n))] := hl
  have hf22 := hts (.fieldLink RX1 22 "HotBeds$House" "beds" "LHotBeds$Beds;") (by decide +kernel)
  have hf29 := hts (.fieldLink RX1 29 "HotBeds$House" "sailors" "LHotBeds$Sailors;") (by decide +kernel)
  have hf40 := hts (.fieldLink RX1 40 "HotBeds$Sailors" "size" "I") (by decide +kernel)
  have hf50 := hts (.fieldLink RX1 50 "HotBeds$Sailors" "rest" "[I") (by decide +kernel)
  have hf7 := hts (.fieldLink RX1 7 "HotBeds$House" "hour" "I") (by decide +kernel)
  have hinX1 : ∀ w ∈ u_ws RX1 TX1 5, w ∈ wsX1_goOn := by decide +kernel
  have hinX2 : ∀ w ∈ u_ws RX2 TX2 13, w ∈ wsX1_goOn := by decide +kernel
  have hC0 := hC
  have hnb := hC.2.1
  have hns := hC.2.2.2.1
  have hh := hC.2.2.2.2.2.1
  refine lv_iconst (v := 0) hx hb dX1_goOn_0 (by decide) ?_
  refine lv_istore_n (lv' := [(2, .int 0), (0, .ref (a 0)), (1, .int (nI n))]) hx hb dX1_goOn_1 rfl hl (by decide) rfl (fun ls hl => ?_)
  refine zk_loop (pc := 2) (fun i H locs ls => va_P D vwCl (zw_H cI a (f_hours σ nb ns h i)) H ∧ va_D A (zw_H cI a (f_hours σ nb ns h i)) ∧ va_S A s.heap H locs ∧ lv_has ls 4 [(0, .ref (a 0)), (1, .int (nI n)), (2, .int (nI i))]) n (fun i hki ih H locs ls hI => ?_) (fun H locs ls hI => ?_) _ _ _ ⟨hP, hD, hS, lv_sub hl [1, 2, 0] rfl⟩
  · obtain ⟨hP, hD, hS, hl⟩ := hI
    have hC := hC0.hours i (by omega)
    refine lv_iload_n hx hb dX1_goOn_2 rfl (lv_at hl 2 rfl) ?_
    refine lv_iload_n hx hb dX1_goOn_3 rfl (lv_at hl 1 rfl) ?_
    refine lv_icmp_ge (tgt := 114) hx hb dX1_goOn_4 (by decide) (fun c => absurd c (nI_ge hki (by omega))) (fun _ => ?_)
    refine lv_iconst (v := 0) hx hb dX1_goOn_7 (by decide) ?_
    refine lv_istore_n (lv' := [(3, .int 0), (0, .ref (a 0)), (1, .int (nI n)), (2, .int (nI i))]) hx hb dX1_goOn_8 rfl hl (by decide) rfl (fun ls hl => ?_)
    refine zk_loop (pc := 9) (fun j H locs ls => va_P D vwCl (zw_H cI a (f_itr (fun τ k => f_ring τ (h + i) k) j (f_hours σ nb ns h i))) H ∧ va_D A (zw_H cI a (f_itr (fun τ k => f_ring τ (h + i) k) j (f_hours σ nb ns h i))) ∧ va_S A s.heap H locs ∧ lv_has ls 4 [(0, .ref (a 0)), (1, .int (nI n)), (2, .int (nI i)), (3, .int (nI j))]) ns (fun j hkj ih H locs ls hI => ?_) (fun H locs ls hI => ?_) _ _ _ ⟨hP, hD, hS, lv_sub hl [1, 2, 3, 0] rfl⟩
    · obtain ⟨hP, hD, hS, hl⟩ := hI
      have hC := hC.ring j
      refine lv_iload_n hx hb dX1_goOn_9 rfl (lv_at hl 3 rfl) ?_
      refine lv_aload_n hx hb dX1_goOn_10 rfl (lv_at hl 0 rfl) ?_
      refine va_get (D := D) (ci := 1) (v := .ref (a 2)) (C := RX1) (T := TX1) (N := 5) hx hb hts hinX1 hown hK hP 0 rfl rfl 4 (by decide) hf29 (fun _ h9 => h9) rfl dX1_goOn_11 ?_
      refine va_get (D := D) (ci := 2) (v := .int (nI ns)) (C := RX2) (T := TX2) (N := 13) hx hb hts hinX2 hown hK hP 2 rfl rfl 0 (by decide) hf40 (fun _ h9 => h9) (congrArg (fun z => some (Value.int z)) hC.2.2.1) dX1_goOn_14 ?_
      refine lv_icmp_ge (tgt := 31) hx hb dX1_goOn_17 (by decide) (fun c => absurd c (nI_ge hkj (by omega))) (fun _ => ?_)
      refine lv_aload_n hx hb dX1_goOn_20 rfl (lv_at hl 0 rfl) ?_
      refine lv_iload_n hx hb dX1_goOn_21 rfl (lv_at hl 3 rfl) ?_
      have hF := zfree hD hS hA
      refine zk_V (va_runV (As := [.int (nI j)]) (rest := []) ⟨hx, hb, hml, hown, hts⟩ (c_X1_ringBell l D cI a (f_itr (fun τ k => f_ring τ (h + i) k) j (f_hours σ nb ns h i)) (k := j) (by omega) hC _) (cwV 1 hts gX1_goOn_X1_ringBell rfl rfl rfl zdX1_ringBell ⟨Nat.le_of_ble_eq_true rfl, Nat.le_of_ble_eq_true rfl⟩) ⟨zbl _, va_recv hK hP (ci := 1) (q0 := 0) rfl rfl, zpr hK hP hD⟩ rfl rfl hl.1 rfl (lv_room (Nat.le_of_ble_eq_true rfl)) dX1_goOn_22 ⟨Nat.zero_le _, Nat.zero_le _⟩) hS hF (fun H locs hkp hP1 hD1 hS => ?_)
      have hP := hP1
      have hD := hD1.weaken (fun _ _ _ z => hF _ z)
      have hP : va_P D vwCl (zw_H cI a (f_ring (f_itr (fun τ k => f_ring τ (h + i) k) j (f_hours σ nb ns h i)) (h + i) j)) H := hP
      have hD : va_D A (zw_H cI a (f_ring (f_itr (fun τ k => f_ring τ (h + i) k) j (f_hours σ nb ns h i)) (h + i) j)) := hD
      refine lv_iinc (v := nI (j + 1)) (lv' := [(3, .int (nI (j + 1))), (0, .ref (a 0)), (1, .int (nI n)), (2, .int (nI i))]) hx hb dX1_goOn_25 hl (k := 3) rfl (nI_1 j) (by decide) rfl (fun ls hl => ?_)
      refine lv_goto (tgt := 9) hx hb dX1_goOn_28 (by decide) ?_
      exact ih _ _ _ ⟨hP, hD, hS, lv_sub hl [1, 2, 3, 0] rfl⟩
    · obtain ⟨hP, hD, hS, hl⟩ := hI
      have hC := hC.ring ns
      refine lv_iload_n hx hb dX1_goOn_9 rfl (lv_at hl 3 rfl) ?_
      refine lv_aload_n hx hb dX1_goOn_10 rfl (lv_at hl 0 rfl) ?_
      refine va_get (D := D) (ci := 1) (v := .ref (a 2)) (C := RX1) (T := TX1) (N := 5) hx hb hts hinX1 hown hK hP 0 rfl rfl 4 (by decide) hf29 (fun _ h9 => h9) rfl dX1_goOn_11 ?_
      refine va_get (D := D) (ci := 2) (v := .int (nI ns)) (C := RX2) (T := TX2) (N := 13) hx hb hts hinX2 hown hK hP 2 rfl rfl 0 (by decide) hf40 (fun _ h9 => h9) (congrArg (fun z => some (Value.int z)) hC.2.2.1) dX1_goOn_14 ?_
      refine lv_icmp_ge (tgt := 31) hx hb dX1_goOn_17 (by decide) (fun _ => ?_) (fun c => absurd (Int32.le_refl _) c)
      refine lv_iconst (v := 0) hx hb dX1_goOn_31 (by decide) ?_
      refine lv_istore_n (lv' := [(3, .int 0), (0, .ref (a 0)), (1, .int (nI n)), (2, .int (nI i))]) hx hb dX1_goOn_32 rfl hl (by decide) rfl (fun ls hl => ?_)
      refine zk_loop (pc := 33) (fun j H locs ls => va_P D vwCl (zw_H cI a (f_itr (fun τ k => f_serve τ nb (h + i) k) j (f_itr (fun τ k => f_ring τ (h + i) k) ns (f_hours σ nb ns h i)))) H ∧ va_D A (zw_H cI a (f_itr (fun τ k => f_serve τ nb (h + i) k) j (f_itr (fun τ k => f_ring τ (h + i) k) ns (f_hours σ nb ns h i)))) ∧ va_S A s.heap H locs ∧ lv_has ls 4 [(0, .ref (a 0)), (1, .int (nI n)), (2, .int (nI i)), (3, .int (nI j))]) ns (fun j hkj ih H locs ls hI => ?_) (fun H locs ls hI => ?_) _ _ _ ⟨hP, hD, hS, lv_sub hl [1, 2, 3, 0] rfl⟩
      · obtain ⟨hP, hD, hS, hl⟩ := hI
        have hC := hC.serve j
        refine lv_iload_n hx hb dX1_goOn_33 rfl (lv_at hl 3 rfl) ?_
        refine lv_aload_n hx hb dX1_goOn_34 rfl (lv_at hl 0 rfl) ?_
        refine va_get (D := D) (ci := 1) (v := .ref (a 2)) (C := RX1) (T := TX1) (N := 5) hx hb hts hinX1 hown hK hP 0 rfl rfl 4 (by decide) hf29 (fun _ h9 => h9) rfl dX1_goOn_35 ?_
        refine va_get (D := D) (ci := 2) (v := .int (nI ns)) (C := RX2) (T := TX2) (N := 13) hx hb hts hinX2 hown hK hP 2 rfl rfl 0 (by decide) hf40 (fun _ h9 => h9) (congrArg (fun z => some (Value.int z)) hC.2.2.1) dX1_goOn_38 ?_
        refine lv_icmp_ge (tgt := 55) hx hb dX1_goOn_41 (by decide) (fun c => absurd c (nI_ge hkj (by omega))) (fun _ => ?_)
        refine lv_aload_n hx hb dX1_goOn_44 rfl (lv_at hl 0 rfl) ?_
        refine lv_iload_n hx hb dX1_goOn_45 rfl (lv_at hl 3 rfl) ?_
        have hF := zfree hD hS hA
        refine zk_V (va_runV (As := [.int (nI j)]) (rest := []) ⟨hx, hb, hml, hown, hts⟩ (c_X1_serve l D cI a (f_itr (fun τ k => f_serve τ nb (h + i) k) j (f_itr (fun τ k => f_ring τ (h + i) k) ns (f_hours σ nb ns h i))) (k := j) (by omega) hC _) (cwV 1 hts gX1_goOn_X1_serve rfl rfl rfl zdX1_serve ⟨Nat.le_of_ble_eq_true rfl, Nat.le_of_ble_eq_true rfl⟩) ⟨zbl _, va_recv hK hP (ci := 1) (q0 := 0) rfl rfl, zpr hK hP hD⟩ rfl rfl hl.1 rfl (lv_room (Nat.le_of_ble_eq_true rfl)) dX1_goOn_46 ⟨Nat.zero_le _, Nat.zero_le _⟩) hS hF (fun H locs hkp hP1 hD1 hS => ?_)
        have hP := hP1
        have hD := hD1.weaken (fun _ _ _ z => hF _ z)
        have hP : va_P D vwCl (zw_H cI a (f_serve (f_itr (fun τ k => f_serve τ nb (h + i) k) j (f_itr (fun τ k => f_ring τ (h + i) k) ns (f_hours σ nb ns h i))) nb (h + i) j)) H := hP
        have hD : va_D A (zw_H cI a (f_serve (f_itr (fun τ k => f_serve τ nb (h + i) k) j (f_itr (fun τ k => f_ring τ (h + i) k) ns (f_hours σ nb ns h i))) nb (h + i) j)) := hD
        refine lv_iinc (v := nI (j + 1)) (lv' := [(3, .int (nI (j + 1))), (0, .ref (a 0)), (1, .int (nI n)), (2, .int (nI i))]) hx hb dX1_goOn_49 hl (k := 3) rfl (nI_1 j) (by decide) rfl (fun ls hl => ?_)
        refine lv_goto (tgt := 33) hx hb dX1_goOn_52 (by decide) ?_
        exact ih _ _ _ ⟨hP, hD, hS, lv_sub hl [1, 2, 3, 0] rfl⟩
      · obtain ⟨hP, hD, hS, hl⟩ := hI
        have hC := hC.serve ns
        refine lv_iload_n hx hb dX1_goOn_33 rfl (lv_at hl 3 rfl) ?_
        refine lv_aload_n hx hb dX1_goOn_34 rfl (lv_at hl 0 rfl) ?_
        refine va_get (D := D) (ci := 1) (v := .ref (a 2)) (C := RX1) (T := TX1) (N := 5) hx hb hts hinX1 hown hK hP 0 rfl rfl 4 (by decide) hf29 (fun _ h9 => h9) rfl dX1_goOn_35 ?_
        refine va_get (D := D) (ci := 2) (v := .int (nI ns)) (C := RX2) (T := TX2) (N := 13) hx hb hts hinX2 hown hK hP 2 rfl rfl 0 (by decide) hf40 (fun _ h9 => h9) (congrArg (fun z => some (Value.int z)) hC.2.2.1) dX1_goOn_38 ?_
        refine lv_icmp_ge (tgt := 55) hx hb dX1_goOn_41 (by decide) (fun _ => ?_) (fun c => absurd (Int32.le_refl _) c)
        refine lv_iconst (v := 0) hx hb dX1_goOn_55 (by decide) ?_
        refine lv_istore_n (lv' := [(3, .int 0), (0, .ref (a 0)), (1, .int (nI n)), (2, .int (nI i))]) hx hb dX1_goOn_56 rfl hl (by decide) rfl (fun ls hl => ?_)
        refine zk_loop (pc := 57) (fun j H locs ls => va_P D vwCl (zw_H cI a (f_itr (fun τ k => f_rest τ (h + i) k) j (f_itr (fun τ k => f_serve τ nb (h + i) k) ns (f_itr (fun τ k => f_ring τ (h + i) k) ns (f_hours σ nb ns h i))))) H ∧ va_D A (zw_H cI a (f_itr (fun τ k => f_rest τ (h + i) k) j (f_itr (fun τ k => f_serve τ nb (h + i) k) ns (f_itr (fun τ k => f_ring τ (h + i) k) ns (f_hours σ nb ns h i))))) ∧ va_S A s.heap H locs ∧ lv_has ls 4 [(0, .ref (a 0)), (1, .int (nI n)), (2, .int (nI i)), (3, .int (nI j))]) ns (fun j hkj ih H locs ls hI => ?_) (fun H locs ls hI => ?_) _ _ _ ⟨hP, hD, hS, lv_sub hl [1, 2, 3, 0] rfl⟩
        · obtain ⟨hP, hD, hS, hl⟩ := hI
          have hC := hC.rest j
          refine lv_iload_n hx hb dX1_goOn_57 rfl (lv_at hl 3 rfl) ?_
          refine lv_aload_n hx hb dX1_goOn_58 rfl (lv_at hl 0 rfl) ?_
          refine va_get (D := D) (ci := 1) (v := .ref (a 2)) (C := RX1) (T := TX1) (N := 5) hx hb hts hinX1 hown hK hP 0 rfl rfl 4 (by decide) hf29 (fun _ h9 => h9) rfl dX1_goOn_59 ?_
          refine va_get (D := D) (ci := 2) (v := .int (nI ns)) (C := RX2) (T := TX2) (N := 13) hx hb hts hinX2 hown hK hP 2 rfl rfl 0 (by decide) hf40 (fun _ h9 => h9) (congrArg (fun z => some (Value.int z)) hC.2.2.1) dX1_goOn_62 ?_
          refine lv_icmp_ge (tgt := 91) hx hb dX1_goOn_65 (by decide) (fun c => absurd c (nI_ge hkj (by omega))) (fun _ => ?_)
          refine lv_aload_n hx hb dX1_goOn_68 rfl (lv_at hl 0 rfl) ?_
          refine va_get (D := D) (ci := 1) (v := .ref (a 2)) (C := RX1) (T := TX1) (N := 5) hx hb hts hinX1 hown hK hP 0 rfl rfl 4 (by decide) hf29 (fun _ h9 => h9) rfl dX1_goOn_69 ?_
          refine va_get (D := D) (ci := 2) (v := .ref (a 16)) (C := RX2) (T := TX2) (N := 13) hx hb hts hinX2 hown hK hP 2 rfl rfl 9 (by decide) hf50 (fun _ h9 => h9) rfl dX1_goOn_72 ?_
          refine lv_iload_n hx hb dX1_goOn_75 rfl (lv_at hl 3 rfl) ?_
          refine lv_dup2_11 hx hb dX1_goOn_76 rfl rfl ?_
          refine zk_ld hx hb hK hP 16 0 (zwq14 cI a _) rfl (k := j) (by omega) (by decide) (v := (f_itr (fun τ k => f_rest τ (h + i) k) j (f_itr (fun τ k => f_serve τ nb (h + i) k) ns (f_itr (fun τ k => f_ring τ (h + i) k) ns (f_hours σ nb ns h i)))) 14 j) rfl dX1_goOn_77 ?_
          refine lv_aload_n hx hb dX1_goOn_78 rfl (lv_at hl 0 rfl) ?_
          refine lv_iload_n hx hb dX1_goOn_79 rfl (lv_at hl 3 rfl) ?_
          refine zk_R (D := D) (va_runV (As := [.int (nI j)]) (rest := [.int ((f_itr (fun τ k => f_rest τ (h + i) k) j (f_itr (fun τ k => f_serve τ nb (h + i) k) ns (f_itr (fun τ k => f_ring τ (h + i) k) ns (f_hours σ nb ns h i)))) 14 j), .int (nI j), .ref (a 16)]) ⟨hx, hb, hml, hown, hts⟩ (c_X1_restOfHour l D cI a (f_itr (fun τ k => f_rest τ (h + i) k) j (f_itr (fun τ k => f_serve τ nb (h + i) k) ns (f_itr (fun τ k => f_ring τ (h + i) k) ns (f_hours σ nb ns h i)))) (k := j) (by omega) hC _) (cwV 1 hts gX1_goOn_X1_restOfHour rfl rfl rfl zdX1_restOfHour ⟨Nat.le_of_ble_eq_true rfl, Nat.le_of_ble_eq_true rfl⟩) ⟨zbl _, va_recv hK hP (ci := 1) (q0 := 0) rfl rfl, zpr hK hP hD⟩ rfl rfl hl.1 rfl (lv_room (Nat.le_of_ble_eq_true rfl)) dX1_goOn_80 ⟨Nat.zero_le _, Nat.zero_le _⟩) hS (fun r_7 H locs hw hkp hS => ?_)
          have hP := hkp _ hP
          subst hw
          refine lv_iadd hx hb dX1_goOn_83 ?_
          refine zk_st hx hb hK hP hD hS 16 0 (zwq14 cI a _) rfl (k := j) (by omega) (by decide) (zws14 cI a _ _ _) dX1_goOn_84 (fun H locs hP hD hS => ?_)
          have hP : va_P D vwCl (zw_H cI a (zs (f_itr (fun τ k => f_rest τ (h + i) k) j (f_itr (fun τ k => f_serve τ nb (h + i) k) ns (f_itr (fun τ k => f_ring τ (h + i) k) ns (f_hours σ nb ns h i)))) 14 j (((f_itr (fun τ k => f_rest τ (h + i) k) j (f_itr (fun τ k => f_serve τ nb (h + i) k) ns (f_itr (fun τ k => f_ring τ (h + i) k) ns (f_hours σ nb ns h i)))) 14 j) + (f_roh (f_itr (fun τ k => f_rest τ (h + i) k) j (f_itr (fun τ k => f_serve τ nb (h + i) k) ns (f_itr (fun τ k => f_ring τ (h + i) k) ns (f_hours σ nb ns h i)))) (h + i) j)))) H := hP
          have hD : va_D A (zw_H cI a (zs (f_itr (fun τ k => f_rest τ (h + i) k) j (f_itr (fun τ k => f_serve τ nb (h + i) k) ns (f_itr (fun τ k => f_ring τ (h + i) k) ns (f_hours σ nb ns h i)))) 14 j (((f_itr (fun τ k => f_rest τ (h + i) k) j (f_itr (fun τ k => f_serve τ nb (h + i) k) ns (f_itr (fun τ k => f_ring τ (h + i) k) ns (f_hours σ nb ns h i)))) 14 j) + (f_roh (f_itr (fun τ k => f_rest τ (h + i) k) j (f_itr (fun τ k => f_serve τ nb (h + i) k) ns (f_itr (fun τ k => f_ring τ (h + i) k) ns (f_hours σ nb ns h i)))) (h + i) j)))) := hD
          refine lv_iinc (v := nI (j + 1)) (lv' := [(3, .int (nI (j + 1))), (0, .ref (a 0)), (1, .int (nI n)), (2, .int (nI i))]) hx hb dX1_goOn_85 hl (k := 3) rfl (nI_1 j) (by decide) rfl (fun ls hl => ?_)
          refine lv_goto (tgt := 57) hx hb dX1_goOn_88 (by decide) ?_
          exact ih _ _ _ ⟨hP, hD, hS, lv_sub hl [1, 2, 3, 0] rfl⟩
        · obtain ⟨hP, hD, hS, hl⟩ := hI
          have hC := hC.rest ns
          refine lv_iload_n hx hb dX1_goOn_57 rfl (lv_at hl 3 rfl) ?_
          refine lv_aload_n hx hb dX1_goOn_58 rfl (lv_at hl 0 rfl) ?_
          refine va_get (D := D) (ci := 1) (v := .ref (a 2)) (C := RX1) (T := TX1) (N := 5) hx hb hts hinX1 hown hK hP 0 rfl rfl 4 (by decide) hf29 (fun _ h9 => h9) rfl dX1_goOn_59 ?_
          refine va_get (D := D) (ci := 2) (v := .int (nI ns)) (C := RX2) (T := TX2) (N := 13) hx hb hts hinX2 hown hK hP 2 rfl rfl 0 (by decide) hf40 (fun _ h9 => h9) (congrArg (fun z => some (Value.int z)) hC.2.2.1) dX1_goOn_62 ?_
          refine lv_icmp_ge (tgt := 91) hx hb dX1_goOn_65 (by decide) (fun _ => ?_) (fun c => absurd (Int32.le_refl _) c)
          refine lv_aload_n hx hb dX1_goOn_91 rfl (lv_at hl 0 rfl) ?_
          refine va_get (D := D) (ci := 1) (v := .ref (a 1)) (C := RX1) (T := TX1) (N := 5) hx hb hts hinX1 hown hK hP 0 rfl rfl 3 (by decide) hf22 (fun _ h9 => h9) rfl dX1_goOn_92 ?_
          have hF := zfree hD hS hA
          refine zk_V (va_runV (As := []) (rest := []) ⟨hx, hb, hml, hown, hts⟩ (c_X0_changeWarmth l D cI a (f_itr (fun τ k => f_rest τ (h + i) k) ns (f_itr (fun τ k => f_serve τ nb (h + i) k) ns (f_itr (fun τ k => f_ring τ (h + i) k) ns (f_hours σ nb ns h i)))) hC _) (cwV 0 hts gX1_goOn_X0_changeWarmth rfl rfl rfl zdX0_changeWarmth ⟨Nat.le_of_ble_eq_true rfl, Nat.le_of_ble_eq_true rfl⟩) ⟨zbl _, va_recv hK hP (ci := 0) (q0 := 1) rfl rfl, zpr hK hP hD⟩ rfl rfl hl.1 rfl (lv_room (Nat.le_of_ble_eq_true rfl)) dX1_goOn_95 ⟨Nat.zero_le _, Nat.zero_le _⟩) hS hF (fun H locs hkp hP1 hD1 hS => ?_)
          have hP := hP1
          have hD := hD1.weaken (fun _ _ _ z => hF _ z)
          have hP : va_P D vwCl (zw_H cI a (f_cool (f_itr (fun τ k => f_rest τ (h + i) k) ns (f_itr (fun τ k => f_serve τ nb (h + i) k) ns (f_itr (fun τ k => f_ring τ (h + i) k) ns (f_hours σ nb ns h i)))) nb)) H := hP
          have hD : va_D A (zw_H cI a (f_cool (f_itr (fun τ k => f_rest τ (h + i) k) ns (f_itr (fun τ k => f_serve τ nb (h + i) k) ns (f_itr (fun τ k => f_ring τ (h + i) k) ns (f_hours σ nb ns h i)))) nb)) := hD
          have hC := hC.cool nb
          refine lv_aload_n hx hb dX1_goOn_98 rfl (lv_at hl 0 rfl) ?_
          refine lv_dup hx hb dX1_goOn_99 rfl ?_
          refine va_get (D := D) (ci := 1) (v := .int (nI (h + i))) (C := RX1) (T := TX1) (N := 5) hx hb hts hinX1 hown hK hP 0 rfl rfl 0 (by decide) hf7 (fun _ h9 => h9) (congrArg (fun z => some (Value.int z)) hC.2.2.2.2.1) dX1_goOn_100 ?_
          refine lv_iconst (v := 1) hx hb dX1_goOn_103 (by decide) ?_
          refine zk_add (x := (h + i)) (y := 1) hx hb dX1_goOn_104 ?_
          refine va_put (D := D) (ci := 1) (v := .int (nI ((h + i) + 1))) (ty := .int) (C := RX1) (T := TX1) (N := 5) hx hb hts hinX1 tyX1 tyX1_ok nmX1 hown hK hP hD hS 0 rfl rfl 0 (by decide) hf7 (fun _ h9 => h9)  rfl (by decide +kernel) rfl rfl (Nat.le_of_ble_eq_true rfl) dX1_goOn_105 (fun H locs hP hD hS => ?_)
          have hP : va_P D vwCl (zw_H cI a (zs (f_cool (f_itr (fun τ k => f_rest τ (h + i) k) ns (f_itr (fun τ k => f_serve τ nb (h + i) k) ns (f_itr (fun τ k => f_ring τ (h + i) k) ns (f_hours σ nb ns h i)))) nb) 0 0 (nI ((h + i) + 1)))) H := hP
          have hD : va_D A (zw_H cI a (zs (f_cool (f_itr (fun τ k => f_rest τ (h + i) k) ns (f_itr (fun τ k => f_serve τ nb (h + i) k) ns (f_itr (fun τ k => f_ring τ (h + i) k) ns (f_hours σ nb ns h i)))) nb) 0 0 (nI ((h + i) + 1)))) := hD
          refine lv_iinc (v := nI (i + 1)) (lv' := [(2, .int (nI (i + 1))), (0, .ref (a 0)), (1, .int (nI n)), (3, .int (nI ns))]) hx hb dX1_goOn_108 hl (k := 2) rfl (nI_1 i) (by decide) rfl (fun ls hl => ?_)
          refine lv_goto (tgt := 2) hx hb dX1_goOn_111 (by decide) ?_
          have e1 : f_hours σ nb ns h (i + 1) = zs (f_cool (f_itr (fun τ k => f_rest τ (h + i) k) ns (f_itr (fun τ k => f_serve τ nb (h + i) k) ns (f_itr (fun τ k => f_ring τ (h + i) k) ns (f_hours σ nb ns h i)))) nb) 0 0 (nI ((h + i) + 1)) := rfl
          exact ih _ _ _ ⟨by rw [e1]; exact hP, by rw [e1]; exact hD, hS, lv_sub hl [1, 2, 0] rfl⟩
  · obtain ⟨hP, hD, hS, hl⟩ := hI
    refine lv_iload_n hx hb dX1_goOn_2 rfl (lv_at hl 2 rfl) ?_
    refine lv_iload_n hx hb dX1_goOn_3 rfl (lv_at hl 1 rfl) ?_
    refine lv_icmp_ge (tgt := 114) hx hb dX1_goOn_4 (by decide) (fun _ => ?_) (fun c => absurd (Int32.le_refl _) c)
    have hP9 := hP
    have hD9 := hD
    exact W.vret hx hb hr (fun t ht hW => ⟨⟨(), rfl, trivial, by rw [ht]; exact hP9, va_K.moved hW.alike hK, hD9⟩, hS.F ht⟩) hS.2.2 dX1_goOn_114
